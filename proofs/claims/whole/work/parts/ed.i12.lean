/-! the reference's constructor: its arrays -/
def zT : List (Nat × Nat) := [(0, 0), (0, 8), (0, 64), (0, 8), (0, 64), (1, 32), (1, 64), (1, 32), (2, 8), (0, 8), (0, 9), (0, 9), (0, 9), (0, 9), (0, 9), (1, 256), (3, 6), (1, 73728), (0, 6), (0, 6), (0, 6), (0, 6), (0, 6), (0, 6), (0, 768), (0, 768), (0, 768), (0, 768), (0, 768), (0, 768), (1, 24576), (0, 6912), (0, 768), (2, 6144), (1, 200), (1, 4000), (0, 9), (1, 512), (0, 16), (0, 16), (0, 16), (0, 16), (0, 11), (2, 5000), (0, 5000), (2, 5000), (2, 5000), (0, 5000), (3, 5000), (0, 128), (1, 4000), (1, 73728), (1, 400), (1, 32), (1, 34560), (0, 96), (2, 96), (2, 96), (0, 6), (1, 5760), (0, 16), (0, 128), (1, 4000), (1, 192000), (0, 48), (0, 48), (1, 1536), (0, 6), (1, 4000), (0, 36), (0, 200), (0, 200), (0, 200), (0, 200), (0, 200), (0, 200), (1, 40000), (1, 512), (1, 4000), (1, 1280), (1, 4000), (2, 4), (0, 4), (2, 4), (2, 4), (2, 4), (3, 16), (0, 7)]
def zC (i : Nat) : va_E := if (zT.getD i (0, 0)).1 = 2 then .inl (2, (zT.getD i (0, 0)).2, .inr (.inl (fun _ => 0))) else .inl ((zT.getD i (0, 0)).1, (zT.getD i (0, 0)).2, .inl (fun _ => 0))
/-- behind j arrays: the object's fields, iv those that hold ints -/
def x12I (B j : Nat) (iv : Nat → Int32) (M0 M : hz_M) : Prop := (∃ fs, M B = .inr (12, fs) ∧ fs.length = 106 ∧ (∀ k, k < 106 → ¬ md_off k = 0 → md_off k ≤ j → fs[k]? = some (.ref (B + md_off k))) ∧ ∀ k, k < 106 → md_off k = 0 → ¬ k = 59 → fs[k]? = some (.int (iv k))) ∧ (∀ i, 1 ≤ i → i ≤ j → M (B + i) = zC i) ∧ ∀ q, q < B → M q = M0 q
theorem md_inj : ∀ a, a < 106 → ∀ b, b < 106 → md_off a = md_off b → md_off a = 0 ∨ a = b := by decide +kernel
theorem x12I.st {B j k : Nat} {iv : Nat → Int32} {M0 M : hz_M} {e : va_E} {fs : List Value} (h : x12I B j iv M0 M) (hk : k < 106) (ho : md_off k = j + 1) (he : zC (j + 1) = e) (hf : M B = .inr (12, fs)) : x12I B (j + 1) iv M0 (va_up (va_up M (B + 1 + j) e) B (.inr (12, fs.set k (.ref (B + 1 + j))))) := by
  obtain ⟨⟨fs2, h1, h2, h3, h4⟩, h5, h6⟩ := h
  have e1 : fs2 = fs := by
    have q := h1.symm.trans hf
    injection q with q
    injection q
  subst e1
  have eB : B + 1 + j = B + (j + 1) := by omega
  refine ⟨⟨_, va_up_self _ _ _, by rw [List.length_set]; exact h2, fun k2 hk2 hn hle => ?_, fun k2 hk2 hn h59 => ?_⟩, fun i h1i hi => ?_, fun q hq => ?_⟩
  · by_cases c : k2 = k
    · rw [c, List.getElem?_set_self (by omega), ho, eB]
    · rw [List.getElem?_set_ne (fun x => c x.symm)]
      refine h3 k2 hk2 hn ?_
      rcases (show md_off k2 ≤ j ∨ md_off k2 = j + 1 by omega) with d | d
      · exact d
      · rcases md_inj k2 hk2 k hk (d.trans ho.symm) with x | x
        · exact absurd x hn
        · exact absurd x c
  · have c : ¬ k2 = k := fun x => by rw [x, ho] at hn; omega
    rw [List.getElem?_set_ne (fun x => c x.symm)]
    exact h4 k2 hk2 hn h59
  · rw [va_up_ne _ _ (show B + i ≠ B by omega)]
    by_cases c : i = j + 1
    · rw [c, ← eB, va_up_self]; exact he.symm
    · rw [va_up_ne _ _ (show B + i ≠ B + 1 + j by omega)]
      exact h5 i h1i (by omega)
  · rw [va_up_ne _ _ (show q ≠ B by omega), va_up_ne _ _ (show q ≠ B + 1 + j by omega)]
    exact h6 q hq
theorem x12I.si {B j k : Nat} {iv : Nat → Int32} {M0 M : hz_M} {fs : List Value} (h : x12I B j iv M0 M) (hk : k < 106) (ho : md_off k = 0) (hf : M B = .inr (12, fs)) (v : Int32) : x12I B j (fun q => if q = k then v else iv q) M0 (va_up M B (.inr (12, fs.set k (.int v)))) := by
  obtain ⟨⟨fs2, h1, h2, h3, h4⟩, h5, h6⟩ := h
  have e1 : fs2 = fs := by
    have q := h1.symm.trans hf
    injection q with q
    injection q
  subst e1
  refine ⟨⟨_, va_up_self _ _ _, by rw [List.length_set]; exact h2, fun k2 hk2 hn hle => ?_, fun k2 hk2 hn h59 => ?_⟩, fun i h1i hi => ?_, fun q hq => ?_⟩
  · rw [List.getElem?_set_ne (fun x => hn (by rw [← x]; exact ho))]
    exact h3 k2 hk2 hn hle
  · by_cases c : k2 = k
    · show _ = some (Value.int (if k2 = k then v else iv k2))
      rw [c, List.getElem?_set_self (by omega), if_pos rfl]
    · show _ = some (Value.int (if k2 = k then v else iv k2))
      rw [List.getElem?_set_ne (fun x => c x.symm), if_neg c]
      exact h4 k2 hk2 hn h59
  · rw [va_up_ne _ _ (show B + i ≠ B by omega)]
    exact h5 i h1i hi
  · rw [va_up_ne _ _ (show q ≠ B by omega)]
    exact h6 q hq
section XI
variable {κ : hz_C} {d mc ms : Nat} {P : hz_P} {cn sn pc : Nat} {lo : List (Nat × Value)} {M0 M : hz_M}
theorem x12_I {B j k n idx cn2 sn2 : Nat} {iv : Nat → Int32} (hI : x12I B j iv M0 M) (hB : 8 ≤ B) (hd : decode xX12_init.2.1 pc = .ok (.newarray .int, 2)) (hd2 : decode xX12_init.2.1 (pc + 2) = .ok (.putfield idx, 3)) (hf : hz_fo RX12 idx 12 k) (hf1 : hz_fo1 12 k (.array .int) true) (hk : k < 106) (ho : md_off k = j + 1) (he : zC (j + 1) = .inl (0, n, .inl (fun _ => 0))) (hn : n < 67108864) (hc : cn + 1 ≤ cn2) (hs : sn + n ≤ sn2) (hc2 : cn2 ≤ mc) (hs2 : sn2 ≤ ms)
    (kk : ∀ M2, x12I B (j + 1) iv M0 M2 → hq_W κ xX12_init d mc ms P cn2 sn2 (pc + 5) lo [] (B + 1 + (j + 1)) M2) : hq_W κ xX12_init d mc ms P cn sn pc lo (.int (nI n) :: .ref B :: []) (B + 1 + j) M := by
  obtain ⟨⟨fs, h1, h2, h3, h4⟩, h5, h6⟩ := id hI
  refine hq_nI (pc := pc) hd hn (by omega) (by omega) ?_
  refine hq_putF (pc := pc + 2) hd2 hf hf1 rfl rfl (hz_mne h1 (by omega)) hB (by omega) rfl rfl (by omega) ?_
  exact hq_W.widen hc hs (kk _ (hI.st hk ho he h1))
theorem x12_B {B j k n idx cn2 sn2 : Nat} {iv : Nat → Int32} (hI : x12I B j iv M0 M) (hB : 8 ≤ B) (hd : decode xX12_init.2.1 pc = .ok (.newarray .byte, 2)) (hd2 : decode xX12_init.2.1 (pc + 2) = .ok (.putfield idx, 3)) (hf : hz_fo RX12 idx 12 k) (hf1 : hz_fo1 12 k (.array .byte) true) (hk : k < 106) (ho : md_off k = j + 1) (he : zC (j + 1) = .inl (1, n, .inl (fun _ => 0))) (hn : n < 67108864) (hc : cn + 1 ≤ cn2) (hs : sn + n ≤ sn2) (hc2 : cn2 ≤ mc) (hs2 : sn2 ≤ ms)
    (kk : ∀ M2, x12I B (j + 1) iv M0 M2 → hq_W κ xX12_init d mc ms P cn2 sn2 (pc + 5) lo [] (B + 1 + (j + 1)) M2) : hq_W κ xX12_init d mc ms P cn sn pc lo (.int (nI n) :: .ref B :: []) (B + 1 + j) M := by
  obtain ⟨⟨fs, h1, h2, h3, h4⟩, h5, h6⟩ := id hI
  refine hq_nB (pc := pc) hd hn (by omega) (by omega) ?_
  refine hq_putF (pc := pc + 2) hd2 hf hf1 rfl rfl (hz_mne h1 (by omega)) hB (by omega) rfl rfl (by omega) ?_
  exact hq_W.widen hc hs (kk _ (hI.st hk ho he h1))
theorem x12_J {B j k n idx cn2 sn2 : Nat} {iv : Nat → Int32} (hI : x12I B j iv M0 M) (hB : 8 ≤ B) (hd : decode xX12_init.2.1 pc = .ok (.newarray .long, 2)) (hd2 : decode xX12_init.2.1 (pc + 2) = .ok (.putfield idx, 3)) (hf : hz_fo RX12 idx 12 k) (hf1 : hz_fo1 12 k (.array .long) true) (hk : k < 106) (ho : md_off k = j + 1) (he : zC (j + 1) = .inl (2, n, .inr (.inl (fun _ => 0)))) (hn : n < 67108864) (hc : cn + 1 ≤ cn2) (hs : sn + n ≤ sn2) (hc2 : cn2 ≤ mc) (hs2 : sn2 ≤ ms)
    (kk : ∀ M2, x12I B (j + 1) iv M0 M2 → hq_W κ xX12_init d mc ms P cn2 sn2 (pc + 5) lo [] (B + 1 + (j + 1)) M2) : hq_W κ xX12_init d mc ms P cn sn pc lo (.int (nI n) :: .ref B :: []) (B + 1 + j) M := by
  obtain ⟨⟨fs, h1, h2, h3, h4⟩, h5, h6⟩ := id hI
  refine hq_nJ (pc := pc) hd hn (by omega) (by omega) ?_
  refine hq_putF (pc := pc + 2) hd2 hf hf1 rfl rfl (hz_mne h1 (by omega)) hB (by omega) rfl rfl (by omega) ?_
  exact hq_W.widen hc hs (kk _ (hI.st hk ho he h1))
theorem x12_Z {B j k n idx cn2 sn2 : Nat} {iv : Nat → Int32} (hI : x12I B j iv M0 M) (hB : 8 ≤ B) (hd : decode xX12_init.2.1 pc = .ok (.newarray .boolean, 2)) (hd2 : decode xX12_init.2.1 (pc + 2) = .ok (.putfield idx, 3)) (hf : hz_fo RX12 idx 12 k) (hf1 : hz_fo1 12 k (.array .boolean) true) (hk : k < 106) (ho : md_off k = j + 1) (he : zC (j + 1) = .inl (3, n, .inl (fun _ => 0))) (hn : n < 67108864) (hc : cn + 1 ≤ cn2) (hs : sn + n ≤ sn2) (hc2 : cn2 ≤ mc) (hs2 : sn2 ≤ ms)
    (kk : ∀ M2, x12I B (j + 1) iv M0 M2 → hq_W κ xX12_init d mc ms P cn2 sn2 (pc + 5) lo [] (B + 1 + (j + 1)) M2) : hq_W κ xX12_init d mc ms P cn sn pc lo (.int (nI n) :: .ref B :: []) (B + 1 + j) M := by
  obtain ⟨⟨fs, h1, h2, h3, h4⟩, h5, h6⟩ := id hI
  refine hq_nZ (pc := pc) hd hn (by omega) (by omega) ?_
  refine hq_putF (pc := pc + 2) hd2 hf hf1 rfl rfl (hz_mne h1 (by omega)) hB (by omega) rfl rfl (by omega) ?_
  exact hq_W.widen hc hs (kk _ (hI.st hk ho he h1))
theorem x12_i {B j k idx : Nat} {iv : Nat → Int32} {v : Int32} (hI : x12I B j iv M0 M) (hB : 8 ≤ B) (hd : decode xX12_init.2.1 pc = .ok (.putfield idx, 3)) (hf : hz_fo RX12 idx 12 k) (hf1 : hz_fo1 12 k .int false) (hk : k < 106) (ho : md_off k = 0)
    (kk : ∀ M2, x12I B j (fun q => if q = k then v else iv q) M0 M2 → hq_W κ xX12_init d mc ms P cn sn (pc + 3) lo [] (B + 1 + j) M2) : hq_W κ xX12_init d mc ms P cn sn pc lo (.int v :: .ref B :: []) (B + 1 + j) M := by
  obtain ⟨⟨fs, h1, h2, h3, h4⟩, h5, h6⟩ := id hI
  exact hq_puti (pc := pc) hd hf hf1 h1 hB (by omega) (by omega) (kk _ (hI.si hk ho h1 v))
theorem x12_f {B j k idx : Nat} {iv : Nat → Int32} {v : Int32} (hI : x12I B j iv M0 M) (hB : 8 ≤ B) (hd : decode xX12_init.2.1 pc = .ok (.putfield idx, 3)) (hf : hz_fo RX12 idx 12 k) (hf1 : hz_fo1 12 k .int true) (hk : k < 106) (ho : md_off k = 0)
    (kk : ∀ M2, x12I B j (fun q => if q = k then v else iv q) M0 M2 → hq_W κ xX12_init d mc ms P cn sn (pc + 3) lo [] (B + 1 + j) M2) : hq_W κ xX12_init d mc ms P cn sn pc lo (.int v :: .ref B :: []) (B + 1 + j) M := by
  obtain ⟨⟨fs, h1, h2, h3, h4⟩, h5, h6⟩ := id hI
  exact hq_putF (pc := pc) hd hf hf1 rfl rfl h1 hB (by omega) rfl rfl (by omega) (kk _ (hI.si hk ho h1 v))
end XI
set_option maxHeartbeats 4000000 in
set_option maxRecDepth 100000 in
theorem x12_s2 {κ : hz_C} {d : Nat} {P : hz_P} {M0 : hz_M} {B : Nat} {n : Int32} (hB : 8 ≤ B) (K : ∀ M, x12I B 87 (fun q => if q = 103 then (nI 200000) else (fun q => if q = 55 then (-1) else (fun q => if q = 54 then (-1) else (fun _ => 0) q) q) q) M0 M → hq_W κ xX12_init d 87 523918 P 87 523918 750 [(0, .ref B), (1, .int n)] [] (B + 88) M) : ∀ M, x12I B 58 (fun q => if q = 55 then (-1) else (fun q => if q = 54 then (-1) else (fun _ => 0) q) q) M0 M → hq_W κ xX12_init d 87 523918 P 58 265305 501 [(0, .ref B), (1, .int n)] [] (B + 1 + 58) M := by
  intro M hI
  refine hq_aloadn (pc := 501) 0 (hz_dec kX12_init 240 rfl) rfl ?_
  refine hq_sipush (pc := 502) (v := nI 5760) (hz_dec kX12_init 241 rfl) (by decide) ?_
  refine x12_B (pc := 505) (cn2 := 59) (sn2 := 271065) hI hB (hz_dec kX12_init 242 rfl) (hz_dec kX12_init 243 rfl) fo_X12_196 ft_X12_68 (by decide) rfl rfl (by decide) (by decide) (by decide) (by decide) (by decide) (fun M hI => ?_)
  refine hq_aloadn (pc := 510) 0 (hz_dec kX12_init 244 rfl) rfl ?_
  refine hq_bipush (pc := 511) (v := nI 16) (hz_dec kX12_init 245 rfl) (by decide) ?_
  refine x12_I (pc := 513) (cn2 := 60) (sn2 := 271081) hI hB (hz_dec kX12_init 246 rfl) (hz_dec kX12_init 247 rfl) fo_X12_199 ft_X12_69 (by decide) rfl rfl (by decide) (by decide) (by decide) (by decide) (by decide) (fun M hI => ?_)
  refine hq_aloadn (pc := 518) 0 (hz_dec kX12_init 248 rfl) rfl ?_
  refine hq_sipush (pc := 519) (v := nI 128) (hz_dec kX12_init 249 rfl) (by decide) ?_
  refine x12_I (pc := 522) (cn2 := 61) (sn2 := 271209) hI hB (hz_dec kX12_init 250 rfl) (hz_dec kX12_init 251 rfl) fo_X12_202 ft_X12_70 (by decide) rfl rfl (by decide) (by decide) (by decide) (by decide) (by decide) (fun M hI => ?_)
  refine hq_aloadn (pc := 527) 0 (hz_dec kX12_init 252 rfl) rfl ?_
  refine hq_sipush (pc := 528) (v := nI 4000) (hz_dec kX12_init 253 rfl) (by decide) ?_
  refine x12_B (pc := 531) (cn2 := 62) (sn2 := 275209) hI hB (hz_dec kX12_init 254 rfl) (hz_dec kX12_init 255 rfl) fo_X12_205 ft_X12_71 (by decide) rfl rfl (by decide) (by decide) (by decide) (by decide) (by decide) (fun M hI => ?_)
  refine hq_aloadn (pc := 536) 0 (hz_dec kX12_init 256 rfl) rfl ?_
  refine hq_ldc (pc := 537) (v := nI 192000) (hz_dec kX12_init 257 rfl) ks_X12_208 ?_
  refine x12_B (pc := 539) (cn2 := 63) (sn2 := 467209) hI hB (hz_dec kX12_init 258 rfl) (hz_dec kX12_init 259 rfl) fo_X12_209 ft_X12_72 (by decide) rfl rfl (by decide) (by decide) (by decide) (by decide) (by decide) (fun M hI => ?_)
  refine hq_aloadn (pc := 544) 0 (hz_dec kX12_init 260 rfl) rfl ?_
  refine hq_bipush (pc := 545) (v := nI 48) (hz_dec kX12_init 261 rfl) (by decide) ?_
  refine x12_I (pc := 547) (cn2 := 64) (sn2 := 467257) hI hB (hz_dec kX12_init 262 rfl) (hz_dec kX12_init 263 rfl) fo_X12_212 ft_X12_73 (by decide) rfl rfl (by decide) (by decide) (by decide) (by decide) (by decide) (fun M hI => ?_)
  refine hq_aloadn (pc := 552) 0 (hz_dec kX12_init 264 rfl) rfl ?_
  refine hq_bipush (pc := 553) (v := nI 48) (hz_dec kX12_init 265 rfl) (by decide) ?_
  refine x12_I (pc := 555) (cn2 := 65) (sn2 := 467305) hI hB (hz_dec kX12_init 266 rfl) (hz_dec kX12_init 267 rfl) fo_X12_215 ft_X12_74 (by decide) rfl rfl (by decide) (by decide) (by decide) (by decide) (by decide) (fun M hI => ?_)
  refine hq_aloadn (pc := 560) 0 (hz_dec kX12_init 268 rfl) rfl ?_
  refine hq_sipush (pc := 561) (v := nI 1536) (hz_dec kX12_init 269 rfl) (by decide) ?_
  refine x12_B (pc := 564) (cn2 := 66) (sn2 := 468841) hI hB (hz_dec kX12_init 270 rfl) (hz_dec kX12_init 271 rfl) fo_X12_218 ft_X12_75 (by decide) rfl rfl (by decide) (by decide) (by decide) (by decide) (by decide) (fun M hI => ?_)
  refine hq_aloadn (pc := 569) 0 (hz_dec kX12_init 272 rfl) rfl ?_
  refine hq_bipush (pc := 570) (v := nI 6) (hz_dec kX12_init 273 rfl) (by decide) ?_
  refine x12_I (pc := 572) (cn2 := 67) (sn2 := 468847) hI hB (hz_dec kX12_init 274 rfl) (hz_dec kX12_init 275 rfl) fo_X12_221 ft_X12_76 (by decide) rfl rfl (by decide) (by decide) (by decide) (by decide) (by decide) (fun M hI => ?_)
  refine hq_aloadn (pc := 577) 0 (hz_dec kX12_init 276 rfl) rfl ?_
  refine hq_sipush (pc := 578) (v := nI 4000) (hz_dec kX12_init 277 rfl) (by decide) ?_
  refine x12_B (pc := 581) (cn2 := 68) (sn2 := 472847) hI hB (hz_dec kX12_init 278 rfl) (hz_dec kX12_init 279 rfl) fo_X12_224 ft_X12_77 (by decide) rfl rfl (by decide) (by decide) (by decide) (by decide) (by decide) (fun M hI => ?_)
  refine hq_aloadn (pc := 586) 0 (hz_dec kX12_init 280 rfl) rfl ?_
  refine hq_bipush (pc := 587) (v := nI 36) (hz_dec kX12_init 281 rfl) (by decide) ?_
  refine x12_I (pc := 589) (cn2 := 69) (sn2 := 472883) hI hB (hz_dec kX12_init 282 rfl) (hz_dec kX12_init 283 rfl) fo_X12_227 ft_X12_78 (by decide) rfl rfl (by decide) (by decide) (by decide) (by decide) (by decide) (fun M hI => ?_)
  refine hq_aloadn (pc := 594) 0 (hz_dec kX12_init 284 rfl) rfl ?_
  refine hq_sipush (pc := 595) (v := nI 200) (hz_dec kX12_init 285 rfl) (by decide) ?_
  refine x12_I (pc := 598) (cn2 := 70) (sn2 := 473083) hI hB (hz_dec kX12_init 286 rfl) (hz_dec kX12_init 287 rfl) fo_X12_230 ft_X12_79 (by decide) rfl rfl (by decide) (by decide) (by decide) (by decide) (by decide) (fun M hI => ?_)
  refine hq_aloadn (pc := 603) 0 (hz_dec kX12_init 288 rfl) rfl ?_
  refine hq_sipush (pc := 604) (v := nI 200) (hz_dec kX12_init 289 rfl) (by decide) ?_
  refine x12_I (pc := 607) (cn2 := 71) (sn2 := 473283) hI hB (hz_dec kX12_init 290 rfl) (hz_dec kX12_init 291 rfl) fo_X12_233 ft_X12_80 (by decide) rfl rfl (by decide) (by decide) (by decide) (by decide) (by decide) (fun M hI => ?_)
  refine hq_aloadn (pc := 612) 0 (hz_dec kX12_init 292 rfl) rfl ?_
  refine hq_sipush (pc := 613) (v := nI 200) (hz_dec kX12_init 293 rfl) (by decide) ?_
  refine x12_I (pc := 616) (cn2 := 72) (sn2 := 473483) hI hB (hz_dec kX12_init 294 rfl) (hz_dec kX12_init 295 rfl) fo_X12_236 ft_X12_81 (by decide) rfl rfl (by decide) (by decide) (by decide) (by decide) (by decide) (fun M hI => ?_)
  refine hq_aloadn (pc := 621) 0 (hz_dec kX12_init 296 rfl) rfl ?_
  refine hq_sipush (pc := 622) (v := nI 200) (hz_dec kX12_init 297 rfl) (by decide) ?_
  refine x12_I (pc := 625) (cn2 := 73) (sn2 := 473683) hI hB (hz_dec kX12_init 298 rfl) (hz_dec kX12_init 299 rfl) fo_X12_239 ft_X12_82 (by decide) rfl rfl (by decide) (by decide) (by decide) (by decide) (by decide) (fun M hI => ?_)
  refine hq_aloadn (pc := 630) 0 (hz_dec kX12_init 300 rfl) rfl ?_
  refine hq_sipush (pc := 631) (v := nI 200) (hz_dec kX12_init 301 rfl) (by decide) ?_
  refine x12_I (pc := 634) (cn2 := 74) (sn2 := 473883) hI hB (hz_dec kX12_init 302 rfl) (hz_dec kX12_init 303 rfl) fo_X12_242 ft_X12_83 (by decide) rfl rfl (by decide) (by decide) (by decide) (by decide) (by decide) (fun M hI => ?_)
  refine hq_aloadn (pc := 639) 0 (hz_dec kX12_init 304 rfl) rfl ?_
  refine hq_sipush (pc := 640) (v := nI 200) (hz_dec kX12_init 305 rfl) (by decide) ?_
  refine x12_I (pc := 643) (cn2 := 75) (sn2 := 474083) hI hB (hz_dec kX12_init 306 rfl) (hz_dec kX12_init 307 rfl) fo_X12_245 ft_X12_84 (by decide) rfl rfl (by decide) (by decide) (by decide) (by decide) (by decide) (fun M hI => ?_)
  refine hq_aloadn (pc := 648) 0 (hz_dec kX12_init 308 rfl) rfl ?_
  refine hq_ldc (pc := 649) (v := nI 40000) (hz_dec kX12_init 309 rfl) ks_X12_248 ?_
  refine x12_B (pc := 651) (cn2 := 76) (sn2 := 514083) hI hB (hz_dec kX12_init 310 rfl) (hz_dec kX12_init 311 rfl) fo_X12_249 ft_X12_85 (by decide) rfl rfl (by decide) (by decide) (by decide) (by decide) (by decide) (fun M hI => ?_)
  refine hq_aloadn (pc := 656) 0 (hz_dec kX12_init 312 rfl) rfl ?_
  refine hq_sipush (pc := 657) (v := nI 512) (hz_dec kX12_init 313 rfl) (by decide) ?_
  refine x12_B (pc := 660) (cn2 := 77) (sn2 := 514595) hI hB (hz_dec kX12_init 314 rfl) (hz_dec kX12_init 315 rfl) fo_X12_252 ft_X12_90 (by decide) rfl rfl (by decide) (by decide) (by decide) (by decide) (by decide) (fun M hI => ?_)
  refine hq_aloadn (pc := 665) 0 (hz_dec kX12_init 316 rfl) rfl ?_
  refine hq_sipush (pc := 666) (v := nI 4000) (hz_dec kX12_init 317 rfl) (by decide) ?_
  refine x12_B (pc := 669) (cn2 := 78) (sn2 := 518595) hI hB (hz_dec kX12_init 318 rfl) (hz_dec kX12_init 319 rfl) fo_X12_255 ft_X12_91 (by decide) rfl rfl (by decide) (by decide) (by decide) (by decide) (by decide) (fun M hI => ?_)
  refine hq_aloadn (pc := 674) 0 (hz_dec kX12_init 320 rfl) rfl ?_
  refine hq_sipush (pc := 675) (v := nI 1280) (hz_dec kX12_init 321 rfl) (by decide) ?_
  refine x12_B (pc := 678) (cn2 := 79) (sn2 := 519875) hI hB (hz_dec kX12_init 322 rfl) (hz_dec kX12_init 323 rfl) fo_X12_258 ft_X12_93 (by decide) rfl rfl (by decide) (by decide) (by decide) (by decide) (by decide) (fun M hI => ?_)
  refine hq_aloadn (pc := 683) 0 (hz_dec kX12_init 324 rfl) rfl ?_
  refine hq_sipush (pc := 684) (v := nI 4000) (hz_dec kX12_init 325 rfl) (by decide) ?_
  refine x12_B (pc := 687) (cn2 := 80) (sn2 := 523875) hI hB (hz_dec kX12_init 326 rfl) (hz_dec kX12_init 327 rfl) fo_X12_261 ft_X12_94 (by decide) rfl rfl (by decide) (by decide) (by decide) (by decide) (by decide) (fun M hI => ?_)
  refine hq_aloadn (pc := 692) 0 (hz_dec kX12_init 328 rfl) rfl ?_
  refine hq_iconst (pc := 693) (v := nI 4) (hz_dec kX12_init 329 rfl) (by decide) ?_
  refine x12_J (pc := 694) (cn2 := 81) (sn2 := 523879) hI hB (hz_dec kX12_init 330 rfl) (hz_dec kX12_init 331 rfl) fo_X12_264 ft_X12_97 (by decide) rfl rfl (by decide) (by decide) (by decide) (by decide) (by decide) (fun M hI => ?_)
  refine hq_aloadn (pc := 699) 0 (hz_dec kX12_init 332 rfl) rfl ?_
  refine hq_iconst (pc := 700) (v := nI 4) (hz_dec kX12_init 333 rfl) (by decide) ?_
  refine x12_I (pc := 701) (cn2 := 82) (sn2 := 523883) hI hB (hz_dec kX12_init 334 rfl) (hz_dec kX12_init 335 rfl) fo_X12_267 ft_X12_98 (by decide) rfl rfl (by decide) (by decide) (by decide) (by decide) (by decide) (fun M hI => ?_)
  refine hq_aloadn (pc := 706) 0 (hz_dec kX12_init 336 rfl) rfl ?_
  refine hq_iconst (pc := 707) (v := nI 4) (hz_dec kX12_init 337 rfl) (by decide) ?_
  refine x12_J (pc := 708) (cn2 := 83) (sn2 := 523887) hI hB (hz_dec kX12_init 338 rfl) (hz_dec kX12_init 339 rfl) fo_X12_270 ft_X12_99 (by decide) rfl rfl (by decide) (by decide) (by decide) (by decide) (by decide) (fun M hI => ?_)
  refine hq_aloadn (pc := 713) 0 (hz_dec kX12_init 340 rfl) rfl ?_
  refine hq_iconst (pc := 714) (v := nI 4) (hz_dec kX12_init 341 rfl) (by decide) ?_
  refine x12_J (pc := 715) (cn2 := 84) (sn2 := 523891) hI hB (hz_dec kX12_init 342 rfl) (hz_dec kX12_init 343 rfl) fo_X12_273 ft_X12_101 (by decide) rfl rfl (by decide) (by decide) (by decide) (by decide) (by decide) (fun M hI => ?_)
  refine hq_aloadn (pc := 720) 0 (hz_dec kX12_init 344 rfl) rfl ?_
  refine hq_iconst (pc := 721) (v := nI 4) (hz_dec kX12_init 345 rfl) (by decide) ?_
  refine x12_J (pc := 722) (cn2 := 85) (sn2 := 523895) hI hB (hz_dec kX12_init 346 rfl) (hz_dec kX12_init 347 rfl) fo_X12_276 ft_X12_102 (by decide) rfl rfl (by decide) (by decide) (by decide) (by decide) (by decide) (fun M hI => ?_)
  refine hq_aloadn (pc := 727) 0 (hz_dec kX12_init 348 rfl) rfl ?_
  refine hq_ldcw (pc := 728) (v := nI 200000) (hz_dec kX12_init 349 rfl) ks_X12_279 ?_
  refine x12_i (pc := 731) hI hB (hz_dec kX12_init 350 rfl) fo_X12_280 ft_X12_103 (by decide) rfl (fun M hI => ?_)
  refine hq_aloadn (pc := 734) 0 (hz_dec kX12_init 351 rfl) rfl ?_
  refine hq_bipush (pc := 735) (v := nI 16) (hz_dec kX12_init 352 rfl) (by decide) ?_
  refine x12_Z (pc := 737) (cn2 := 86) (sn2 := 523911) hI hB (hz_dec kX12_init 353 rfl) (hz_dec kX12_init 354 rfl) fo_X12_283 ft_X12_104 (by decide) rfl rfl (by decide) (by decide) (by decide) (by decide) (by decide) (fun M hI => ?_)
  refine hq_aloadn (pc := 742) 0 (hz_dec kX12_init 355 rfl) rfl ?_
  refine hq_bipush (pc := 743) (v := nI 7) (hz_dec kX12_init 356 rfl) (by decide) ?_
  refine x12_I (pc := 745) (cn2 := 87) (sn2 := 523918) hI hB (hz_dec kX12_init 357 rfl) (hz_dec kX12_init 358 rfl) fo_X12_286 ft_X12_105 (by decide) rfl rfl (by decide) (by decide) (by decide) (by decide) (by decide) (fun M hI => ?_)
  exact K M hI
set_option maxHeartbeats 4000000 in
set_option maxRecDepth 100000 in
theorem x12_s1 {κ : hz_C} {d : Nat} {P : hz_P} {M0 : hz_M} {B : Nat} {n : Int32} (hB : 8 ≤ B) (K : ∀ M, x12I B 87 (fun q => if q = 103 then (nI 200000) else (fun q => if q = 55 then (-1) else (fun q => if q = 54 then (-1) else (fun _ => 0) q) q) q) M0 M → hq_W κ xX12_init d 87 523918 P 87 523918 750 [(0, .ref B), (1, .int n)] [] (B + 88) M) : ∀ M, x12I B 30 (fun _ => 0) M0 M → hq_W κ xX12_init d 87 523918 P 30 103543 252 [(0, .ref B), (1, .int n)] [] (B + 1 + 30) M := by
  intro M hI
  refine hq_aloadn (pc := 252) 0 (hz_dec kX12_init 122 rfl) rfl ?_
  refine hq_sipush (pc := 253) (v := nI 6912) (hz_dec kX12_init 123 rfl) (by decide) ?_
  refine x12_I (pc := 256) (cn2 := 31) (sn2 := 110455) hI hB (hz_dec kX12_init 124 rfl) (hz_dec kX12_init 125 rfl) fo_X12_104 ft_X12_33 (by decide) rfl rfl (by decide) (by decide) (by decide) (by decide) (by decide) (fun M hI => ?_)
  refine hq_aloadn (pc := 261) 0 (hz_dec kX12_init 126 rfl) rfl ?_
  refine hq_sipush (pc := 262) (v := nI 768) (hz_dec kX12_init 127 rfl) (by decide) ?_
  refine x12_I (pc := 265) (cn2 := 32) (sn2 := 111223) hI hB (hz_dec kX12_init 128 rfl) (hz_dec kX12_init 129 rfl) fo_X12_107 ft_X12_34 (by decide) rfl rfl (by decide) (by decide) (by decide) (by decide) (by decide) (fun M hI => ?_)
  refine hq_aloadn (pc := 270) 0 (hz_dec kX12_init 130 rfl) rfl ?_
  refine hq_sipush (pc := 271) (v := nI 6144) (hz_dec kX12_init 131 rfl) (by decide) ?_
  refine x12_J (pc := 274) (cn2 := 33) (sn2 := 117367) hI hB (hz_dec kX12_init 132 rfl) (hz_dec kX12_init 133 rfl) fo_X12_110 ft_X12_35 (by decide) rfl rfl (by decide) (by decide) (by decide) (by decide) (by decide) (fun M hI => ?_)
  refine hq_aloadn (pc := 279) 0 (hz_dec kX12_init 134 rfl) rfl ?_
  refine hq_sipush (pc := 280) (v := nI 200) (hz_dec kX12_init 135 rfl) (by decide) ?_
  refine x12_B (pc := 283) (cn2 := 34) (sn2 := 117567) hI hB (hz_dec kX12_init 136 rfl) (hz_dec kX12_init 137 rfl) fo_X12_113 ft_X12_36 (by decide) rfl rfl (by decide) (by decide) (by decide) (by decide) (by decide) (fun M hI => ?_)
  refine hq_aloadn (pc := 288) 0 (hz_dec kX12_init 138 rfl) rfl ?_
  refine hq_sipush (pc := 289) (v := nI 4000) (hz_dec kX12_init 139 rfl) (by decide) ?_
  refine x12_B (pc := 292) (cn2 := 35) (sn2 := 121567) hI hB (hz_dec kX12_init 140 rfl) (hz_dec kX12_init 141 rfl) fo_X12_116 ft_X12_38 (by decide) rfl rfl (by decide) (by decide) (by decide) (by decide) (by decide) (fun M hI => ?_)
  refine hq_aloadn (pc := 297) 0 (hz_dec kX12_init 142 rfl) rfl ?_
  refine hq_bipush (pc := 298) (v := nI 9) (hz_dec kX12_init 143 rfl) (by decide) ?_
  refine x12_I (pc := 300) (cn2 := 36) (sn2 := 121576) hI hB (hz_dec kX12_init 144 rfl) (hz_dec kX12_init 145 rfl) fo_X12_119 ft_X12_40 (by decide) rfl rfl (by decide) (by decide) (by decide) (by decide) (by decide) (fun M hI => ?_)
  refine hq_aloadn (pc := 305) 0 (hz_dec kX12_init 146 rfl) rfl ?_
  refine hq_sipush (pc := 306) (v := nI 512) (hz_dec kX12_init 147 rfl) (by decide) ?_
  refine x12_B (pc := 309) (cn2 := 37) (sn2 := 122088) hI hB (hz_dec kX12_init 148 rfl) (hz_dec kX12_init 149 rfl) fo_X12_122 ft_X12_41 (by decide) rfl rfl (by decide) (by decide) (by decide) (by decide) (by decide) (fun M hI => ?_)
  refine hq_aloadn (pc := 314) 0 (hz_dec kX12_init 150 rfl) rfl ?_
  refine hq_bipush (pc := 315) (v := nI 16) (hz_dec kX12_init 151 rfl) (by decide) ?_
  refine x12_I (pc := 317) (cn2 := 38) (sn2 := 122104) hI hB (hz_dec kX12_init 152 rfl) (hz_dec kX12_init 153 rfl) fo_X12_125 ft_X12_42 (by decide) rfl rfl (by decide) (by decide) (by decide) (by decide) (by decide) (fun M hI => ?_)
  refine hq_aloadn (pc := 322) 0 (hz_dec kX12_init 154 rfl) rfl ?_
  refine hq_bipush (pc := 323) (v := nI 16) (hz_dec kX12_init 155 rfl) (by decide) ?_
  refine x12_I (pc := 325) (cn2 := 39) (sn2 := 122120) hI hB (hz_dec kX12_init 156 rfl) (hz_dec kX12_init 157 rfl) fo_X12_128 ft_X12_43 (by decide) rfl rfl (by decide) (by decide) (by decide) (by decide) (by decide) (fun M hI => ?_)
  refine hq_aloadn (pc := 330) 0 (hz_dec kX12_init 158 rfl) rfl ?_
  refine hq_bipush (pc := 331) (v := nI 16) (hz_dec kX12_init 159 rfl) (by decide) ?_
  refine x12_I (pc := 333) (cn2 := 40) (sn2 := 122136) hI hB (hz_dec kX12_init 160 rfl) (hz_dec kX12_init 161 rfl) fo_X12_131 ft_X12_44 (by decide) rfl rfl (by decide) (by decide) (by decide) (by decide) (by decide) (fun M hI => ?_)
  refine hq_aloadn (pc := 338) 0 (hz_dec kX12_init 162 rfl) rfl ?_
  refine hq_bipush (pc := 339) (v := nI 16) (hz_dec kX12_init 163 rfl) (by decide) ?_
  refine x12_I (pc := 341) (cn2 := 41) (sn2 := 122152) hI hB (hz_dec kX12_init 164 rfl) (hz_dec kX12_init 165 rfl) fo_X12_134 ft_X12_45 (by decide) rfl rfl (by decide) (by decide) (by decide) (by decide) (by decide) (fun M hI => ?_)
  refine hq_aloadn (pc := 346) 0 (hz_dec kX12_init 166 rfl) rfl ?_
  refine hq_bipush (pc := 347) (v := nI 11) (hz_dec kX12_init 167 rfl) (by decide) ?_
  refine x12_I (pc := 349) (cn2 := 42) (sn2 := 122163) hI hB (hz_dec kX12_init 168 rfl) (hz_dec kX12_init 169 rfl) fo_X12_137 ft_X12_46 (by decide) rfl rfl (by decide) (by decide) (by decide) (by decide) (by decide) (fun M hI => ?_)
  refine hq_aloadn (pc := 354) 0 (hz_dec kX12_init 170 rfl) rfl ?_
  refine hq_sipush (pc := 355) (v := nI 5000) (hz_dec kX12_init 171 rfl) (by decide) ?_
  refine x12_J (pc := 358) (cn2 := 43) (sn2 := 127163) hI hB (hz_dec kX12_init 172 rfl) (hz_dec kX12_init 173 rfl) fo_X12_140 ft_X12_47 (by decide) rfl rfl (by decide) (by decide) (by decide) (by decide) (by decide) (fun M hI => ?_)
  refine hq_aloadn (pc := 363) 0 (hz_dec kX12_init 174 rfl) rfl ?_
  refine hq_sipush (pc := 364) (v := nI 5000) (hz_dec kX12_init 175 rfl) (by decide) ?_
  refine x12_I (pc := 367) (cn2 := 44) (sn2 := 132163) hI hB (hz_dec kX12_init 176 rfl) (hz_dec kX12_init 177 rfl) fo_X12_143 ft_X12_48 (by decide) rfl rfl (by decide) (by decide) (by decide) (by decide) (by decide) (fun M hI => ?_)
  refine hq_aloadn (pc := 372) 0 (hz_dec kX12_init 178 rfl) rfl ?_
  refine hq_sipush (pc := 373) (v := nI 5000) (hz_dec kX12_init 179 rfl) (by decide) ?_
  refine x12_J (pc := 376) (cn2 := 45) (sn2 := 137163) hI hB (hz_dec kX12_init 180 rfl) (hz_dec kX12_init 181 rfl) fo_X12_146 ft_X12_49 (by decide) rfl rfl (by decide) (by decide) (by decide) (by decide) (by decide) (fun M hI => ?_)
  refine hq_aloadn (pc := 381) 0 (hz_dec kX12_init 182 rfl) rfl ?_
  refine hq_sipush (pc := 382) (v := nI 5000) (hz_dec kX12_init 183 rfl) (by decide) ?_
  refine x12_J (pc := 385) (cn2 := 46) (sn2 := 142163) hI hB (hz_dec kX12_init 184 rfl) (hz_dec kX12_init 185 rfl) fo_X12_149 ft_X12_50 (by decide) rfl rfl (by decide) (by decide) (by decide) (by decide) (by decide) (fun M hI => ?_)
  refine hq_aloadn (pc := 390) 0 (hz_dec kX12_init 186 rfl) rfl ?_
  refine hq_sipush (pc := 391) (v := nI 5000) (hz_dec kX12_init 187 rfl) (by decide) ?_
  refine x12_I (pc := 394) (cn2 := 47) (sn2 := 147163) hI hB (hz_dec kX12_init 188 rfl) (hz_dec kX12_init 189 rfl) fo_X12_152 ft_X12_51 (by decide) rfl rfl (by decide) (by decide) (by decide) (by decide) (by decide) (fun M hI => ?_)
  refine hq_aloadn (pc := 399) 0 (hz_dec kX12_init 190 rfl) rfl ?_
  refine hq_sipush (pc := 400) (v := nI 5000) (hz_dec kX12_init 191 rfl) (by decide) ?_
  refine x12_Z (pc := 403) (cn2 := 48) (sn2 := 152163) hI hB (hz_dec kX12_init 192 rfl) (hz_dec kX12_init 193 rfl) fo_X12_155 ft_X12_52 (by decide) rfl rfl (by decide) (by decide) (by decide) (by decide) (by decide) (fun M hI => ?_)
  refine hq_aloadn (pc := 408) 0 (hz_dec kX12_init 194 rfl) rfl ?_
  refine hq_iconst (pc := 409) (v := (-1)) (hz_dec kX12_init 195 rfl) (by decide) ?_
  refine x12_i (pc := 410) hI hB (hz_dec kX12_init 196 rfl) fo_X12_158 ft_X12_54 (by decide) rfl (fun M hI => ?_)
  refine hq_aloadn (pc := 413) 0 (hz_dec kX12_init 197 rfl) rfl ?_
  refine hq_iconst (pc := 414) (v := (-1)) (hz_dec kX12_init 198 rfl) (by decide) ?_
  refine x12_i (pc := 415) hI hB (hz_dec kX12_init 199 rfl) fo_X12_162 ft_X12_55 (by decide) rfl (fun M hI => ?_)
  refine hq_aloadn (pc := 418) 0 (hz_dec kX12_init 200 rfl) rfl ?_
  refine hq_sipush (pc := 419) (v := nI 128) (hz_dec kX12_init 201 rfl) (by decide) ?_
  refine x12_I (pc := 422) (cn2 := 49) (sn2 := 152291) hI hB (hz_dec kX12_init 202 rfl) (hz_dec kX12_init 203 rfl) fo_X12_165 ft_X12_56 (by decide) rfl rfl (by decide) (by decide) (by decide) (by decide) (by decide) (fun M hI => ?_)
  refine hq_aloadn (pc := 427) 0 (hz_dec kX12_init 204 rfl) rfl ?_
  refine hq_sipush (pc := 428) (v := nI 4000) (hz_dec kX12_init 205 rfl) (by decide) ?_
  refine x12_B (pc := 431) (cn2 := 50) (sn2 := 156291) hI hB (hz_dec kX12_init 206 rfl) (hz_dec kX12_init 207 rfl) fo_X12_168 ft_X12_57 (by decide) rfl rfl (by decide) (by decide) (by decide) (by decide) (by decide) (fun M hI => ?_)
  refine hq_aloadn (pc := 436) 0 (hz_dec kX12_init 208 rfl) rfl ?_
  refine hq_ldc (pc := 437) (v := nI 73728) (hz_dec kX12_init 209 rfl) ks_X12_61 ?_
  refine x12_B (pc := 439) (cn2 := 51) (sn2 := 230019) hI hB (hz_dec kX12_init 210 rfl) (hz_dec kX12_init 211 rfl) fo_X12_171 ft_X12_58 (by decide) rfl rfl (by decide) (by decide) (by decide) (by decide) (by decide) (fun M hI => ?_)
  refine hq_aloadn (pc := 444) 0 (hz_dec kX12_init 212 rfl) rfl ?_
  refine hq_sipush (pc := 445) (v := nI 400) (hz_dec kX12_init 213 rfl) (by decide) ?_
  refine x12_B (pc := 448) (cn2 := 52) (sn2 := 230419) hI hB (hz_dec kX12_init 214 rfl) (hz_dec kX12_init 215 rfl) fo_X12_174 ft_X12_60 (by decide) rfl rfl (by decide) (by decide) (by decide) (by decide) (by decide) (fun M hI => ?_)
  refine hq_aloadn (pc := 453) 0 (hz_dec kX12_init 216 rfl) rfl ?_
  refine hq_bipush (pc := 454) (v := nI 32) (hz_dec kX12_init 217 rfl) (by decide) ?_
  refine x12_B (pc := 456) (cn2 := 53) (sn2 := 230451) hI hB (hz_dec kX12_init 218 rfl) (hz_dec kX12_init 219 rfl) fo_X12_177 ft_X12_62 (by decide) rfl rfl (by decide) (by decide) (by decide) (by decide) (by decide) (fun M hI => ?_)
  refine hq_aloadn (pc := 461) 0 (hz_dec kX12_init 220 rfl) rfl ?_
  refine hq_ldc (pc := 462) (v := nI 34560) (hz_dec kX12_init 221 rfl) ks_X12_180 ?_
  refine x12_B (pc := 464) (cn2 := 54) (sn2 := 265011) hI hB (hz_dec kX12_init 222 rfl) (hz_dec kX12_init 223 rfl) fo_X12_181 ft_X12_63 (by decide) rfl rfl (by decide) (by decide) (by decide) (by decide) (by decide) (fun M hI => ?_)
  refine hq_aloadn (pc := 469) 0 (hz_dec kX12_init 224 rfl) rfl ?_
  refine hq_bipush (pc := 470) (v := nI 96) (hz_dec kX12_init 225 rfl) (by decide) ?_
  refine x12_I (pc := 472) (cn2 := 55) (sn2 := 265107) hI hB (hz_dec kX12_init 226 rfl) (hz_dec kX12_init 227 rfl) fo_X12_184 ft_X12_64 (by decide) rfl rfl (by decide) (by decide) (by decide) (by decide) (by decide) (fun M hI => ?_)
  refine hq_aloadn (pc := 477) 0 (hz_dec kX12_init 228 rfl) rfl ?_
  refine hq_bipush (pc := 478) (v := nI 96) (hz_dec kX12_init 229 rfl) (by decide) ?_
  refine x12_J (pc := 480) (cn2 := 56) (sn2 := 265203) hI hB (hz_dec kX12_init 230 rfl) (hz_dec kX12_init 231 rfl) fo_X12_187 ft_X12_65 (by decide) rfl rfl (by decide) (by decide) (by decide) (by decide) (by decide) (fun M hI => ?_)
  refine hq_aloadn (pc := 485) 0 (hz_dec kX12_init 232 rfl) rfl ?_
  refine hq_bipush (pc := 486) (v := nI 96) (hz_dec kX12_init 233 rfl) (by decide) ?_
  refine x12_J (pc := 488) (cn2 := 57) (sn2 := 265299) hI hB (hz_dec kX12_init 234 rfl) (hz_dec kX12_init 235 rfl) fo_X12_190 ft_X12_66 (by decide) rfl rfl (by decide) (by decide) (by decide) (by decide) (by decide) (fun M hI => ?_)
  refine hq_aloadn (pc := 493) 0 (hz_dec kX12_init 236 rfl) rfl ?_
  refine hq_bipush (pc := 494) (v := nI 6) (hz_dec kX12_init 237 rfl) (by decide) ?_
  refine x12_I (pc := 496) (cn2 := 58) (sn2 := 265305) hI hB (hz_dec kX12_init 238 rfl) (hz_dec kX12_init 239 rfl) fo_X12_193 ft_X12_67 (by decide) rfl rfl (by decide) (by decide) (by decide) (by decide) (by decide) (fun M hI => ?_)
  exact x12_s2 hB K M hI
set_option maxHeartbeats 4000000 in
set_option maxRecDepth 100000 in
theorem x12_s0 {κ : hz_C} {d : Nat} {P : hz_P} {M0 : hz_M} {B : Nat} {n : Int32} (hB : 8 ≤ B) (K : ∀ M, x12I B 87 (fun q => if q = 103 then (nI 200000) else (fun q => if q = 55 then (-1) else (fun q => if q = 54 then (-1) else (fun _ => 0) q) q) q) M0 M → hq_W κ xX12_init d 87 523918 P 87 523918 750 [(0, .ref B), (1, .int n)] [] (B + 88) M) : ∀ M, x12I B 0 (fun _ => 0) M0 M → hq_W κ xX12_init d 87 523918 P 0 0 4 [(0, .ref B), (1, .int n)] [] (B + 1 + 0) M := by
  intro M hI
  refine hq_aloadn (pc := 4) 0 (hz_dec kX12_init 2 rfl) rfl ?_
  refine hq_bipush (pc := 5) (v := nI 8) (hz_dec kX12_init 3 rfl) (by decide) ?_
  refine x12_I (pc := 7) (cn2 := 1) (sn2 := 8) hI hB (hz_dec kX12_init 4 rfl) (hz_dec kX12_init 5 rfl) fo_X12_7 ft_X12_2 (by decide) rfl rfl (by decide) (by decide) (by decide) (by decide) (by decide) (fun M hI => ?_)
  refine hq_aloadn (pc := 12) 0 (hz_dec kX12_init 6 rfl) rfl ?_
  refine hq_bipush (pc := 13) (v := nI 64) (hz_dec kX12_init 7 rfl) (by decide) ?_
  refine x12_I (pc := 15) (cn2 := 2) (sn2 := 72) hI hB (hz_dec kX12_init 8 rfl) (hz_dec kX12_init 9 rfl) fo_X12_13 ft_X12_3 (by decide) rfl rfl (by decide) (by decide) (by decide) (by decide) (by decide) (fun M hI => ?_)
  refine hq_aloadn (pc := 20) 0 (hz_dec kX12_init 10 rfl) rfl ?_
  refine hq_bipush (pc := 21) (v := nI 8) (hz_dec kX12_init 11 rfl) (by decide) ?_
  refine x12_I (pc := 23) (cn2 := 3) (sn2 := 80) hI hB (hz_dec kX12_init 12 rfl) (hz_dec kX12_init 13 rfl) fo_X12_16 ft_X12_4 (by decide) rfl rfl (by decide) (by decide) (by decide) (by decide) (by decide) (fun M hI => ?_)
  refine hq_aloadn (pc := 28) 0 (hz_dec kX12_init 14 rfl) rfl ?_
  refine hq_bipush (pc := 29) (v := nI 64) (hz_dec kX12_init 15 rfl) (by decide) ?_
  refine x12_I (pc := 31) (cn2 := 4) (sn2 := 144) hI hB (hz_dec kX12_init 16 rfl) (hz_dec kX12_init 17 rfl) fo_X12_19 ft_X12_5 (by decide) rfl rfl (by decide) (by decide) (by decide) (by decide) (by decide) (fun M hI => ?_)
  refine hq_aloadn (pc := 36) 0 (hz_dec kX12_init 18 rfl) rfl ?_
  refine hq_bipush (pc := 37) (v := nI 32) (hz_dec kX12_init 19 rfl) (by decide) ?_
  refine x12_B (pc := 39) (cn2 := 5) (sn2 := 176) hI hB (hz_dec kX12_init 20 rfl) (hz_dec kX12_init 21 rfl) fo_X12_22 ft_X12_6 (by decide) rfl rfl (by decide) (by decide) (by decide) (by decide) (by decide) (fun M hI => ?_)
  refine hq_aloadn (pc := 44) 0 (hz_dec kX12_init 22 rfl) rfl ?_
  refine hq_bipush (pc := 45) (v := nI 64) (hz_dec kX12_init 23 rfl) (by decide) ?_
  refine x12_B (pc := 47) (cn2 := 6) (sn2 := 240) hI hB (hz_dec kX12_init 24 rfl) (hz_dec kX12_init 25 rfl) fo_X12_26 ft_X12_7 (by decide) rfl rfl (by decide) (by decide) (by decide) (by decide) (by decide) (fun M hI => ?_)
  refine hq_aloadn (pc := 52) 0 (hz_dec kX12_init 26 rfl) rfl ?_
  refine hq_bipush (pc := 53) (v := nI 32) (hz_dec kX12_init 27 rfl) (by decide) ?_
  refine x12_B (pc := 55) (cn2 := 7) (sn2 := 272) hI hB (hz_dec kX12_init 28 rfl) (hz_dec kX12_init 29 rfl) fo_X12_29 ft_X12_8 (by decide) rfl rfl (by decide) (by decide) (by decide) (by decide) (by decide) (fun M hI => ?_)
  refine hq_aloadn (pc := 60) 0 (hz_dec kX12_init 30 rfl) rfl ?_
  refine hq_bipush (pc := 61) (v := nI 8) (hz_dec kX12_init 31 rfl) (by decide) ?_
  refine x12_J (pc := 63) (cn2 := 8) (sn2 := 280) hI hB (hz_dec kX12_init 32 rfl) (hz_dec kX12_init 33 rfl) fo_X12_32 ft_X12_9 (by decide) rfl rfl (by decide) (by decide) (by decide) (by decide) (by decide) (fun M hI => ?_)
  refine hq_aloadn (pc := 68) 0 (hz_dec kX12_init 34 rfl) rfl ?_
  refine hq_bipush (pc := 69) (v := nI 8) (hz_dec kX12_init 35 rfl) (by decide) ?_
  refine x12_I (pc := 71) (cn2 := 9) (sn2 := 288) hI hB (hz_dec kX12_init 36 rfl) (hz_dec kX12_init 37 rfl) fo_X12_36 ft_X12_10 (by decide) rfl rfl (by decide) (by decide) (by decide) (by decide) (by decide) (fun M hI => ?_)
  refine hq_aloadn (pc := 76) 0 (hz_dec kX12_init 38 rfl) rfl ?_
  refine hq_bipush (pc := 77) (v := nI 9) (hz_dec kX12_init 39 rfl) (by decide) ?_
  refine x12_I (pc := 79) (cn2 := 10) (sn2 := 297) hI hB (hz_dec kX12_init 40 rfl) (hz_dec kX12_init 41 rfl) fo_X12_39 ft_X12_11 (by decide) rfl rfl (by decide) (by decide) (by decide) (by decide) (by decide) (fun M hI => ?_)
  refine hq_aloadn (pc := 84) 0 (hz_dec kX12_init 42 rfl) rfl ?_
  refine hq_bipush (pc := 85) (v := nI 9) (hz_dec kX12_init 43 rfl) (by decide) ?_
  refine x12_I (pc := 87) (cn2 := 11) (sn2 := 306) hI hB (hz_dec kX12_init 44 rfl) (hz_dec kX12_init 45 rfl) fo_X12_42 ft_X12_12 (by decide) rfl rfl (by decide) (by decide) (by decide) (by decide) (by decide) (fun M hI => ?_)
  refine hq_aloadn (pc := 92) 0 (hz_dec kX12_init 46 rfl) rfl ?_
  refine hq_bipush (pc := 93) (v := nI 9) (hz_dec kX12_init 47 rfl) (by decide) ?_
  refine x12_I (pc := 95) (cn2 := 12) (sn2 := 315) hI hB (hz_dec kX12_init 48 rfl) (hz_dec kX12_init 49 rfl) fo_X12_45 ft_X12_13 (by decide) rfl rfl (by decide) (by decide) (by decide) (by decide) (by decide) (fun M hI => ?_)
  refine hq_aloadn (pc := 100) 0 (hz_dec kX12_init 50 rfl) rfl ?_
  refine hq_bipush (pc := 101) (v := nI 9) (hz_dec kX12_init 51 rfl) (by decide) ?_
  refine x12_I (pc := 103) (cn2 := 13) (sn2 := 324) hI hB (hz_dec kX12_init 52 rfl) (hz_dec kX12_init 53 rfl) fo_X12_48 ft_X12_14 (by decide) rfl rfl (by decide) (by decide) (by decide) (by decide) (by decide) (fun M hI => ?_)
  refine hq_aloadn (pc := 108) 0 (hz_dec kX12_init 54 rfl) rfl ?_
  refine hq_bipush (pc := 109) (v := nI 9) (hz_dec kX12_init 55 rfl) (by decide) ?_
  refine x12_I (pc := 111) (cn2 := 14) (sn2 := 333) hI hB (hz_dec kX12_init 56 rfl) (hz_dec kX12_init 57 rfl) fo_X12_51 ft_X12_15 (by decide) rfl rfl (by decide) (by decide) (by decide) (by decide) (by decide) (fun M hI => ?_)
  refine hq_aloadn (pc := 116) 0 (hz_dec kX12_init 58 rfl) rfl ?_
  refine hq_sipush (pc := 117) (v := nI 256) (hz_dec kX12_init 59 rfl) (by decide) ?_
  refine x12_B (pc := 120) (cn2 := 15) (sn2 := 589) hI hB (hz_dec kX12_init 60 rfl) (hz_dec kX12_init 61 rfl) fo_X12_54 ft_X12_17 (by decide) rfl rfl (by decide) (by decide) (by decide) (by decide) (by decide) (fun M hI => ?_)
  refine hq_aloadn (pc := 125) 0 (hz_dec kX12_init 62 rfl) rfl ?_
  refine hq_bipush (pc := 126) (v := nI 6) (hz_dec kX12_init 63 rfl) (by decide) ?_
  refine x12_Z (pc := 128) (cn2 := 16) (sn2 := 595) hI hB (hz_dec kX12_init 64 rfl) (hz_dec kX12_init 65 rfl) fo_X12_57 ft_X12_18 (by decide) rfl rfl (by decide) (by decide) (by decide) (by decide) (by decide) (fun M hI => ?_)
  refine hq_aloadn (pc := 133) 0 (hz_dec kX12_init 66 rfl) rfl ?_
  refine hq_ldc (pc := 134) (v := nI 73728) (hz_dec kX12_init 67 rfl) ks_X12_61 ?_
  refine x12_B (pc := 136) (cn2 := 17) (sn2 := 74323) hI hB (hz_dec kX12_init 68 rfl) (hz_dec kX12_init 69 rfl) fo_X12_62 ft_X12_19 (by decide) rfl rfl (by decide) (by decide) (by decide) (by decide) (by decide) (fun M hI => ?_)
  refine hq_aloadn (pc := 141) 0 (hz_dec kX12_init 70 rfl) rfl ?_
  refine hq_bipush (pc := 142) (v := nI 6) (hz_dec kX12_init 71 rfl) (by decide) ?_
  refine x12_I (pc := 144) (cn2 := 18) (sn2 := 74329) hI hB (hz_dec kX12_init 72 rfl) (hz_dec kX12_init 73 rfl) fo_X12_65 ft_X12_20 (by decide) rfl rfl (by decide) (by decide) (by decide) (by decide) (by decide) (fun M hI => ?_)
  refine hq_aloadn (pc := 149) 0 (hz_dec kX12_init 74 rfl) rfl ?_
  refine hq_bipush (pc := 150) (v := nI 6) (hz_dec kX12_init 75 rfl) (by decide) ?_
  refine x12_I (pc := 152) (cn2 := 19) (sn2 := 74335) hI hB (hz_dec kX12_init 76 rfl) (hz_dec kX12_init 77 rfl) fo_X12_68 ft_X12_21 (by decide) rfl rfl (by decide) (by decide) (by decide) (by decide) (by decide) (fun M hI => ?_)
  refine hq_aloadn (pc := 157) 0 (hz_dec kX12_init 78 rfl) rfl ?_
  refine hq_bipush (pc := 158) (v := nI 6) (hz_dec kX12_init 79 rfl) (by decide) ?_
  refine x12_I (pc := 160) (cn2 := 20) (sn2 := 74341) hI hB (hz_dec kX12_init 80 rfl) (hz_dec kX12_init 81 rfl) fo_X12_71 ft_X12_22 (by decide) rfl rfl (by decide) (by decide) (by decide) (by decide) (by decide) (fun M hI => ?_)
  refine hq_aloadn (pc := 165) 0 (hz_dec kX12_init 82 rfl) rfl ?_
  refine hq_bipush (pc := 166) (v := nI 6) (hz_dec kX12_init 83 rfl) (by decide) ?_
  refine x12_I (pc := 168) (cn2 := 21) (sn2 := 74347) hI hB (hz_dec kX12_init 84 rfl) (hz_dec kX12_init 85 rfl) fo_X12_74 ft_X12_23 (by decide) rfl rfl (by decide) (by decide) (by decide) (by decide) (by decide) (fun M hI => ?_)
  refine hq_aloadn (pc := 173) 0 (hz_dec kX12_init 86 rfl) rfl ?_
  refine hq_bipush (pc := 174) (v := nI 6) (hz_dec kX12_init 87 rfl) (by decide) ?_
  refine x12_I (pc := 176) (cn2 := 22) (sn2 := 74353) hI hB (hz_dec kX12_init 88 rfl) (hz_dec kX12_init 89 rfl) fo_X12_77 ft_X12_24 (by decide) rfl rfl (by decide) (by decide) (by decide) (by decide) (by decide) (fun M hI => ?_)
  refine hq_aloadn (pc := 181) 0 (hz_dec kX12_init 90 rfl) rfl ?_
  refine hq_bipush (pc := 182) (v := nI 6) (hz_dec kX12_init 91 rfl) (by decide) ?_
  refine x12_I (pc := 184) (cn2 := 23) (sn2 := 74359) hI hB (hz_dec kX12_init 92 rfl) (hz_dec kX12_init 93 rfl) fo_X12_80 ft_X12_25 (by decide) rfl rfl (by decide) (by decide) (by decide) (by decide) (by decide) (fun M hI => ?_)
  refine hq_aloadn (pc := 189) 0 (hz_dec kX12_init 94 rfl) rfl ?_
  refine hq_sipush (pc := 190) (v := nI 768) (hz_dec kX12_init 95 rfl) (by decide) ?_
  refine x12_I (pc := 193) (cn2 := 24) (sn2 := 75127) hI hB (hz_dec kX12_init 96 rfl) (hz_dec kX12_init 97 rfl) fo_X12_83 ft_X12_26 (by decide) rfl rfl (by decide) (by decide) (by decide) (by decide) (by decide) (fun M hI => ?_)
  refine hq_aloadn (pc := 198) 0 (hz_dec kX12_init 98 rfl) rfl ?_
  refine hq_sipush (pc := 199) (v := nI 768) (hz_dec kX12_init 99 rfl) (by decide) ?_
  refine x12_I (pc := 202) (cn2 := 25) (sn2 := 75895) hI hB (hz_dec kX12_init 100 rfl) (hz_dec kX12_init 101 rfl) fo_X12_86 ft_X12_27 (by decide) rfl rfl (by decide) (by decide) (by decide) (by decide) (by decide) (fun M hI => ?_)
  refine hq_aloadn (pc := 207) 0 (hz_dec kX12_init 102 rfl) rfl ?_
  refine hq_sipush (pc := 208) (v := nI 768) (hz_dec kX12_init 103 rfl) (by decide) ?_
  refine x12_I (pc := 211) (cn2 := 26) (sn2 := 76663) hI hB (hz_dec kX12_init 104 rfl) (hz_dec kX12_init 105 rfl) fo_X12_89 ft_X12_28 (by decide) rfl rfl (by decide) (by decide) (by decide) (by decide) (by decide) (fun M hI => ?_)
  refine hq_aloadn (pc := 216) 0 (hz_dec kX12_init 106 rfl) rfl ?_
  refine hq_sipush (pc := 217) (v := nI 768) (hz_dec kX12_init 107 rfl) (by decide) ?_
  refine x12_I (pc := 220) (cn2 := 27) (sn2 := 77431) hI hB (hz_dec kX12_init 108 rfl) (hz_dec kX12_init 109 rfl) fo_X12_92 ft_X12_29 (by decide) rfl rfl (by decide) (by decide) (by decide) (by decide) (by decide) (fun M hI => ?_)
  refine hq_aloadn (pc := 225) 0 (hz_dec kX12_init 110 rfl) rfl ?_
  refine hq_sipush (pc := 226) (v := nI 768) (hz_dec kX12_init 111 rfl) (by decide) ?_
  refine x12_I (pc := 229) (cn2 := 28) (sn2 := 78199) hI hB (hz_dec kX12_init 112 rfl) (hz_dec kX12_init 113 rfl) fo_X12_95 ft_X12_30 (by decide) rfl rfl (by decide) (by decide) (by decide) (by decide) (by decide) (fun M hI => ?_)
  refine hq_aloadn (pc := 234) 0 (hz_dec kX12_init 114 rfl) rfl ?_
  refine hq_sipush (pc := 235) (v := nI 768) (hz_dec kX12_init 115 rfl) (by decide) ?_
  refine x12_I (pc := 238) (cn2 := 29) (sn2 := 78967) hI hB (hz_dec kX12_init 116 rfl) (hz_dec kX12_init 117 rfl) fo_X12_98 ft_X12_31 (by decide) rfl rfl (by decide) (by decide) (by decide) (by decide) (by decide) (fun M hI => ?_)
  refine hq_aloadn (pc := 243) 0 (hz_dec kX12_init 118 rfl) rfl ?_
  refine hq_sipush (pc := 244) (v := nI 24576) (hz_dec kX12_init 119 rfl) (by decide) ?_
  refine x12_B (pc := 247) (cn2 := 30) (sn2 := 103543) hI hB (hz_dec kX12_init 120 rfl) (hz_dec kX12_init 121 rfl) fo_X12_101 ft_X12_32 (by decide) rfl rfl (by decide) (by decide) (by decide) (by decide) (by decide) (fun M hI => ?_)
  exact x12_s1 hB K M hI
