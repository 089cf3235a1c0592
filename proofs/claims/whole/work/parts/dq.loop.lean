/-! the law: what its calls name; class and reference side by side -/
theorem co_L_15 : hz_co R_law 15 xX11_init 1 := ⟨hz_tm1 (List.mem_of_getElem? (i := 23) rfl), cd_X11_init, ini_X11, ⟨by decide +kernel, by decide +kernel, by decide +kernel⟩, by decide⟩
theorem co_L_21 : hz_co R_law 21 xX11_feed 5 := ⟨hz_tm3 (List.mem_of_getElem? (i := 208) rfl), cd_X11_feed, ini_X11, ⟨by decide +kernel, by decide +kernel, by decide +kernel⟩, by decide⟩
theorem co_L_26 : hz_co R_law 26 xX11_cut 1 := ⟨hz_tm3 (List.mem_of_getElem? (i := 212) rfl), cd_X11_cut, ini_X11, ⟨by decide +kernel, by decide +kernel, by decide +kernel⟩, by decide⟩
theorem co_L_31 : hz_co R_law 31 xX11_turn 2 := ⟨hz_tm3 (List.mem_of_getElem? (i := 216) rfl), cd_X11_turn, ini_X11, ⟨by decide +kernel, by decide +kernel, by decide +kernel⟩, by decide⟩
theorem co_L_36 : hz_co R_law 36 xX11_hash 2 := ⟨hz_tm3 (List.mem_of_getElem? (i := 220) rfl), cd_X11_hash, ini_X11, ⟨by decide +kernel, by decide +kernel, by decide +kernel⟩, by decide⟩
theorem co_L_43 : hz_co R_law 43 xX11_part 3 := ⟨hz_tm3 (List.mem_of_getElem? (i := 225) rfl), cd_X11_part, ini_X11, ⟨by decide +kernel, by decide +kernel, by decide +kernel⟩, by decide⟩
theorem co_L_48 : hz_co R_law 48 xX11_address 1 := ⟨hz_tm3 (List.mem_of_getElem? (i := 234) rfl), cd_X11_address, ini_X11, ⟨by decide +kernel, by decide +kernel, by decide +kernel⟩, by decide⟩
theorem co_L_53 : hz_co R_law 53 xX11_begin 0 := ⟨hz_tm3 (List.mem_of_getElem? (i := 238) rfl), cd_X11_begin, ini_X11, ⟨by decide +kernel, by decide +kernel, by decide +kernel⟩, by decide⟩
theorem co_L_58 : hz_co R_law 58 xX11_input 3 := ⟨hz_tm4 (List.mem_of_getElem? (i := 2) rfl), cd_X11_input, ini_X11, ⟨by decide +kernel, by decide +kernel, by decide +kernel⟩, by decide⟩
theorem co_L_63 : hz_co R_law 63 xX11_spend 3 := ⟨hz_tm4 (List.mem_of_getElem? (i := 10) rfl), cd_X11_spend, ini_X11, ⟨by decide +kernel, by decide +kernel, by decide +kernel⟩, by decide⟩
theorem co_L_68 : hz_co R_law 68 xX11_output 2 := ⟨hz_tm4 (List.mem_of_getElem? (i := 18) rfl), cd_X11_output, ini_X11, ⟨by decide +kernel, by decide +kernel, by decide +kernel⟩, by decide⟩
theorem co_L_73 : hz_co R_law 73 xX11_pay 2 := ⟨hz_tm4 (List.mem_of_getElem? (i := 26) rfl), cd_X11_pay, ini_X11, ⟨by decide +kernel, by decide +kernel, by decide +kernel⟩, by decide⟩
theorem co_L_77 : hz_co R_law 77 xX11_sign 1 := ⟨hz_tm4 (List.mem_of_getElem? (i := 30) rfl), cd_X11_sign, ini_X11, ⟨by decide +kernel, by decide +kernel, by decide +kernel⟩, by decide⟩
theorem co_L_81 : hz_co R_law 81 xX11_take 2 := ⟨hz_tm4 (List.mem_of_getElem? (i := 61) rfl), cd_X11_take, ini_X11, ⟨by decide +kernel, by decide +kernel, by decide +kernel⟩, by decide⟩
theorem co_L_85 : hz_co R_law 85 xX11_assemble 3 := ⟨hz_tm4 (List.mem_of_getElem? (i := 70) rfl), cd_X11_assemble, ini_X11, ⟨by decide +kernel, by decide +kernel, by decide +kernel⟩, by decide⟩
theorem co_L_90 : hz_co R_law 90 xX11_root 0 := ⟨hz_tm4 (List.mem_of_getElem? (i := 107) rfl), cd_X11_root, ini_X11, ⟨by decide +kernel, by decide +kernel, by decide +kernel⟩, by decide⟩
theorem co_L_94 : hz_co R_law 94 xX11_solve 2 := ⟨hz_tm4 (List.mem_of_getElem? (i := 111) rfl), cd_X11_solve, ini_X11, ⟨by decide +kernel, by decide +kernel, by decide +kernel⟩, by decide⟩
theorem co_L_99 : hz_co R_law 99 xX11_judge 2 := ⟨hz_tm4 (List.mem_of_getElem? (i := 117) rfl), cd_X11_judge, ini_X11, ⟨by decide +kernel, by decide +kernel, by decide +kernel⟩, by decide⟩
theorem co_L_103 : hz_co R_law 103 xX11_give 2 := ⟨hz_tm4 (List.mem_of_getElem? (i := 185) rfl), cd_X11_give, ini_X11, ⟨by decide +kernel, by decide +kernel, by decide +kernel⟩, by decide⟩
theorem co_L_107 : hz_co R_law 107 xX11_post 3 := ⟨hz_tm5 (List.mem_of_getElem? (i := 36) rfl), cd_X11_post, ini_X11, ⟨by decide +kernel, by decide +kernel, by decide +kernel⟩, by decide⟩
theorem co_L_112 : hz_co R_law 112 xX11_link 3 := ⟨hz_tm5 (List.mem_of_getElem? (i := 40) rfl), cd_X11_link, ini_X11, ⟨by decide +kernel, by decide +kernel, by decide +kernel⟩, by decide⟩
theorem co_L_116 : hz_co R_law 116 xX11_tick 1 := ⟨hz_tm5 (List.mem_of_getElem? (i := 48) rfl), cd_X11_tick, ini_X11, ⟨by decide +kernel, by decide +kernel, by decide +kernel⟩, by decide⟩
theorem co_L_120 : hz_co R_law 120 xX11_message 2 := ⟨hz_tm5 (List.mem_of_getElem? (i := 104) rfl), cd_X11_message, ini_X11, ⟨by decide +kernel, by decide +kernel, by decide +kernel⟩, by decide⟩
theorem co_L_124 : hz_co R_law 124 xX11_messageByte 2 := ⟨hz_tm5 (List.mem_of_getElem? (i := 108) rfl), cd_X11_messageByte, ini_X11, ⟨by decide +kernel, by decide +kernel, by decide +kernel⟩, by decide⟩
theorem co_L_128 : hz_co R_law 128 xX11_alter 3 := ⟨hz_tm5 (List.mem_of_getElem? (i := 116) rfl), cd_X11_alter, ini_X11, ⟨by decide +kernel, by decide +kernel, by decide +kernel⟩, by decide⟩
theorem co_L_132 : hz_co R_law 132 xX11_lose 1 := ⟨hz_tm5 (List.mem_of_getElem? (i := 120) rfl), cd_X11_lose, ini_X11, ⟨by decide +kernel, by decide +kernel, by decide +kernel⟩, by decide⟩
theorem co_L_136 : hz_co R_law 136 xX11_down 1 := ⟨hz_tm5 (List.mem_of_getElem? (i := 125) rfl), cd_X11_down, ini_X11, ⟨by decide +kernel, by decide +kernel, by decide +kernel⟩, by decide⟩
theorem co_L_140 : hz_co R_law 140 xX11_up 1 := ⟨hz_tm5 (List.mem_of_getElem? (i := 129) rfl), cd_X11_up, ini_X11, ⟨by decide +kernel, by decide +kernel, by decide +kernel⟩, by decide⟩
theorem co_L_144 : hz_co R_law 144 xX11_fuse 2 := ⟨hz_tm5 (List.mem_of_getElem? (i := 141) rfl), cd_X11_fuse, ini_X11, ⟨by decide +kernel, by decide +kernel, by decide +kernel⟩, by decide⟩
theorem co_L_148 : hz_co R_law 148 xX11_peek 2 := ⟨hz_tm5 (List.mem_of_getElem? (i := 145) rfl), cd_X11_peek, ini_X11, ⟨by decide +kernel, by decide +kernel, by decide +kernel⟩, by decide⟩
theorem co_L_152 : hz_co R_law 152 xX11_poke 3 := ⟨hz_tm5 (List.mem_of_getElem? (i := 149) rfl), cd_X11_poke, ini_X11, ⟨by decide +kernel, by decide +kernel, by decide +kernel⟩, by decide⟩
theorem co_L_156 : hz_co R_law 156 xX11_told 2 := ⟨hz_tm5 (List.mem_of_getElem? (i := 153) rfl), cd_X11_told, ini_X11, ⟨by decide +kernel, by decide +kernel, by decide +kernel⟩, by decide⟩
theorem co_L_160 : hz_co R_law 160 xX11_house 1 := ⟨hz_tm5 (List.mem_of_getElem? (i := 157) rfl), cd_X11_house, ini_X11, ⟨by decide +kernel, by decide +kernel, by decide +kernel⟩, by decide⟩
theorem co_L_164 : hz_co R_law 164 xX11_block 3 := ⟨hz_tm5 (List.mem_of_getElem? (i := 161) rfl), cd_X11_block, ini_X11, ⟨by decide +kernel, by decide +kernel, by decide +kernel⟩, by decide⟩
theorem co_L_168 : hz_co R_law 168 xX11_limb 3 := ⟨hz_tm5 (List.mem_of_getElem? (i := 165) rfl), cd_X11_limb, ini_X11, ⟨by decide +kernel, by decide +kernel, by decide +kernel⟩, by decide⟩
theorem co_L_173 : hz_co R_law 173 xX11_at 2 := ⟨hz_tm5 (List.mem_of_getElem? (i := 172) rfl), cd_X11_at, ini_X11, ⟨by decide +kernel, by decide +kernel, by decide +kernel⟩, by decide⟩
theorem co_L_177 : hz_co R_law 177 xX11_unspent 3 := ⟨hz_tm5 (List.mem_of_getElem? (i := 176) rfl), cd_X11_unspent, ini_X11, ⟨by decide +kernel, by decide +kernel, by decide +kernel⟩, by decide⟩
theorem co_L_181 : hz_co R_law 181 xX11_find 3 := ⟨hz_tm5 (List.mem_of_getElem? (i := 180) rfl), cd_X11_find, ini_X11, ⟨by decide +kernel, by decide +kernel, by decide +kernel⟩, by decide⟩
theorem co_L_185 : hz_co R_law 185 xX11_balance 2 := ⟨hz_tm5 (List.mem_of_getElem? (i := 185) rfl), cd_X11_balance, ini_X11, ⟨by decide +kernel, by decide +kernel, by decide +kernel⟩, by decide⟩
theorem co_L_190 : hz_co R_law 190 xX11_pooled 3 := ⟨hz_tm5 (List.mem_of_getElem? (i := 189) rfl), cd_X11_pooled, ini_X11, ⟨by decide +kernel, by decide +kernel, by decide +kernel⟩, by decide⟩
theorem co_L_194 : hz_co R_law 194 xX11_due 2 := ⟨hz_tm5 (List.mem_of_getElem? (i := 193) rfl), cd_X11_due, ini_X11, ⟨by decide +kernel, by decide +kernel, by decide +kernel⟩, by decide⟩
theorem co_L_20 : hz_co R_law 20 xX12_init 1 := ⟨hz_tm5 (List.mem_of_getElem? (i := 202) rfl), cd_X12_init, ini_X12, ⟨by decide +kernel, by decide +kernel, by decide +kernel⟩, by decide⟩
theorem co_L_25 : hz_co R_law 25 xX12_feed 5 := ⟨hz_tm7 (List.mem_of_getElem? (i := 207) rfl), cd_X12_feed, ini_X12, ⟨by decide +kernel, by decide +kernel, by decide +kernel⟩, by decide⟩
theorem co_L_30 : hz_co R_law 30 xX12_cut 1 := ⟨hz_tm7 (List.mem_of_getElem? (i := 211) rfl), cd_X12_cut, ini_X12, ⟨by decide +kernel, by decide +kernel, by decide +kernel⟩, by decide⟩
theorem co_L_35 : hz_co R_law 35 xX12_turn 2 := ⟨hz_tm7 (List.mem_of_getElem? (i := 215) rfl), cd_X12_turn, ini_X12, ⟨by decide +kernel, by decide +kernel, by decide +kernel⟩, by decide⟩
theorem co_L_40 : hz_co R_law 40 xX12_hash 2 := ⟨hz_tm7 (List.mem_of_getElem? (i := 219) rfl), cd_X12_hash, ini_X12, ⟨by decide +kernel, by decide +kernel, by decide +kernel⟩, by decide⟩
theorem co_L_47 : hz_co R_law 47 xX12_part 3 := ⟨hz_tm7 (List.mem_of_getElem? (i := 223) rfl), cd_X12_part, ini_X12, ⟨by decide +kernel, by decide +kernel, by decide +kernel⟩, by decide⟩
theorem co_L_52 : hz_co R_law 52 xX12_address 1 := ⟨hz_tm7 (List.mem_of_getElem? (i := 227) rfl), cd_X12_address, ini_X12, ⟨by decide +kernel, by decide +kernel, by decide +kernel⟩, by decide⟩
theorem co_L_57 : hz_co R_law 57 xX12_begin 0 := ⟨hz_tm7 (List.mem_of_getElem? (i := 231) rfl), cd_X12_begin, ini_X12, ⟨by decide +kernel, by decide +kernel, by decide +kernel⟩, by decide⟩
theorem co_L_62 : hz_co R_law 62 xX12_input 3 := ⟨hz_tm7 (List.mem_of_getElem? (i := 235) rfl), cd_X12_input, ini_X12, ⟨by decide +kernel, by decide +kernel, by decide +kernel⟩, by decide⟩
theorem co_L_67 : hz_co R_law 67 xX12_spend 3 := ⟨hz_tm8 (List.mem_of_getElem? (i := 3) rfl), cd_X12_spend, ini_X12, ⟨by decide +kernel, by decide +kernel, by decide +kernel⟩, by decide⟩
theorem co_L_72 : hz_co R_law 72 xX12_output 2 := ⟨hz_tm8 (List.mem_of_getElem? (i := 43) rfl), cd_X12_output, ini_X12, ⟨by decide +kernel, by decide +kernel, by decide +kernel⟩, by decide⟩
theorem co_L_76 : hz_co R_law 76 xX12_pay 2 := ⟨hz_tm8 (List.mem_of_getElem? (i := 47) rfl), cd_X12_pay, ini_X12, ⟨by decide +kernel, by decide +kernel, by decide +kernel⟩, by decide⟩
theorem co_L_80 : hz_co R_law 80 xX12_sign 1 := ⟨hz_tm8 (List.mem_of_getElem? (i := 52) rfl), cd_X12_sign, ini_X12, ⟨by decide +kernel, by decide +kernel, by decide +kernel⟩, by decide⟩
theorem co_L_84 : hz_co R_law 84 xX12_take 2 := ⟨hz_tm8 (List.mem_of_getElem? (i := 60) rfl), cd_X12_take, ini_X12, ⟨by decide +kernel, by decide +kernel, by decide +kernel⟩, by decide⟩
theorem co_L_89 : hz_co R_law 89 xX12_assemble 3 := ⟨hz_tm8 (List.mem_of_getElem? (i := 72) rfl), cd_X12_assemble, ini_X12, ⟨by decide +kernel, by decide +kernel, by decide +kernel⟩, by decide⟩
theorem co_L_93 : hz_co R_law 93 xX12_root 0 := ⟨hz_tm8 (List.mem_of_getElem? (i := 124) rfl), cd_X12_root, ini_X12, ⟨by decide +kernel, by decide +kernel, by decide +kernel⟩, by decide⟩
theorem co_L_98 : hz_co R_law 98 xX12_solve 2 := ⟨hz_tm8 (List.mem_of_getElem? (i := 132) rfl), cd_X12_solve, ini_X12, ⟨by decide +kernel, by decide +kernel, by decide +kernel⟩, by decide⟩
theorem co_L_102 : hz_co R_law 102 xX12_judge 2 := ⟨hz_tm8 (List.mem_of_getElem? (i := 142) rfl), cd_X12_judge, ini_X12, ⟨by decide +kernel, by decide +kernel, by decide +kernel⟩, by decide⟩
theorem co_L_106 : hz_co R_law 106 xX12_give 2 := ⟨hz_tm8 (List.mem_of_getElem? (i := 196) rfl), cd_X12_give, ini_X12, ⟨by decide +kernel, by decide +kernel, by decide +kernel⟩, by decide⟩
theorem co_L_111 : hz_co R_law 111 xX12_post 3 := ⟨hz_tm9 (List.mem_of_getElem? (i := 68) rfl), cd_X12_post, ini_X12, ⟨by decide +kernel, by decide +kernel, by decide +kernel⟩, by decide⟩
theorem co_L_115 : hz_co R_law 115 xX12_link 3 := ⟨hz_tm9 (List.mem_of_getElem? (i := 72) rfl), cd_X12_link, ini_X12, ⟨by decide +kernel, by decide +kernel, by decide +kernel⟩, by decide⟩
theorem co_L_119 : hz_co R_law 119 xX12_tick 1 := ⟨hz_tm9 (List.mem_of_getElem? (i := 76) rfl), cd_X12_tick, ini_X12, ⟨by decide +kernel, by decide +kernel, by decide +kernel⟩, by decide⟩
theorem co_L_123 : hz_co R_law 123 xX12_message 2 := ⟨hz_tm9 (List.mem_of_getElem? (i := 88) rfl), cd_X12_message, ini_X12, ⟨by decide +kernel, by decide +kernel, by decide +kernel⟩, by decide⟩
theorem co_L_127 : hz_co R_law 127 xX12_messageByte 2 := ⟨hz_tm9 (List.mem_of_getElem? (i := 92) rfl), cd_X12_messageByte, ini_X12, ⟨by decide +kernel, by decide +kernel, by decide +kernel⟩, by decide⟩
theorem co_L_131 : hz_co R_law 131 xX12_alter 3 := ⟨hz_tm9 (List.mem_of_getElem? (i := 100) rfl), cd_X12_alter, ini_X12, ⟨by decide +kernel, by decide +kernel, by decide +kernel⟩, by decide⟩
theorem co_L_135 : hz_co R_law 135 xX12_lose 1 := ⟨hz_tm9 (List.mem_of_getElem? (i := 104) rfl), cd_X12_lose, ini_X12, ⟨by decide +kernel, by decide +kernel, by decide +kernel⟩, by decide⟩
theorem co_L_139 : hz_co R_law 139 xX12_down 1 := ⟨hz_tm9 (List.mem_of_getElem? (i := 108) rfl), cd_X12_down, ini_X12, ⟨by decide +kernel, by decide +kernel, by decide +kernel⟩, by decide⟩
theorem co_L_143 : hz_co R_law 143 xX12_up 1 := ⟨hz_tm9 (List.mem_of_getElem? (i := 112) rfl), cd_X12_up, ini_X12, ⟨by decide +kernel, by decide +kernel, by decide +kernel⟩, by decide⟩
theorem co_L_147 : hz_co R_law 147 xX12_fuse 2 := ⟨hz_tm9 (List.mem_of_getElem? (i := 120) rfl), cd_X12_fuse, ini_X12, ⟨by decide +kernel, by decide +kernel, by decide +kernel⟩, by decide⟩
theorem co_L_151 : hz_co R_law 151 xX12_peek 2 := ⟨hz_tm9 (List.mem_of_getElem? (i := 124) rfl), cd_X12_peek, ini_X12, ⟨by decide +kernel, by decide +kernel, by decide +kernel⟩, by decide⟩
theorem co_L_155 : hz_co R_law 155 xX12_poke 3 := ⟨hz_tm9 (List.mem_of_getElem? (i := 128) rfl), cd_X12_poke, ini_X12, ⟨by decide +kernel, by decide +kernel, by decide +kernel⟩, by decide⟩
theorem co_L_159 : hz_co R_law 159 xX12_told 2 := ⟨hz_tm9 (List.mem_of_getElem? (i := 132) rfl), cd_X12_told, ini_X12, ⟨by decide +kernel, by decide +kernel, by decide +kernel⟩, by decide⟩
theorem co_L_163 : hz_co R_law 163 xX12_house 1 := ⟨hz_tm9 (List.mem_of_getElem? (i := 140) rfl), cd_X12_house, ini_X12, ⟨by decide +kernel, by decide +kernel, by decide +kernel⟩, by decide⟩
theorem co_L_167 : hz_co R_law 167 xX12_block 3 := ⟨hz_tm9 (List.mem_of_getElem? (i := 144) rfl), cd_X12_block, ini_X12, ⟨by decide +kernel, by decide +kernel, by decide +kernel⟩, by decide⟩
theorem co_L_172 : hz_co R_law 172 xX12_limb 3 := ⟨hz_tm9 (List.mem_of_getElem? (i := 148) rfl), cd_X12_limb, ini_X12, ⟨by decide +kernel, by decide +kernel, by decide +kernel⟩, by decide⟩
theorem co_L_176 : hz_co R_law 176 xX12_at 2 := ⟨hz_tm9 (List.mem_of_getElem? (i := 155) rfl), cd_X12_at, ini_X12, ⟨by decide +kernel, by decide +kernel, by decide +kernel⟩, by decide⟩
theorem co_L_180 : hz_co R_law 180 xX12_unspent 3 := ⟨hz_tm9 (List.mem_of_getElem? (i := 159) rfl), cd_X12_unspent, ini_X12, ⟨by decide +kernel, by decide +kernel, by decide +kernel⟩, by decide⟩
theorem co_L_184 : hz_co R_law 184 xX12_find 3 := ⟨hz_tm9 (List.mem_of_getElem? (i := 163) rfl), cd_X12_find, ini_X12, ⟨by decide +kernel, by decide +kernel, by decide +kernel⟩, by decide⟩
theorem co_L_189 : hz_co R_law 189 xX12_balance 2 := ⟨hz_tm9 (List.mem_of_getElem? (i := 167) rfl), cd_X12_balance, ini_X12, ⟨by decide +kernel, by decide +kernel, by decide +kernel⟩, by decide⟩
theorem co_L_193 : hz_co R_law 193 xX12_pooled 3 := ⟨hz_tm9 (List.mem_of_getElem? (i := 171) rfl), cd_X12_pooled, ini_X12, ⟨by decide +kernel, by decide +kernel, by decide +kernel⟩, by decide⟩
theorem co_L_197 : hz_co R_law 197 xX12_due 2 := ⟨hz_tm9 (List.mem_of_getElem? (i := 175) rfl), cd_X12_due, ini_X12, ⟨by decide +kernel, by decide +kernel, by decide +kernel⟩, by decide⟩
theorem ks_L_41 : Cond.constantLong R_law 41 (4294967295) ∈ lw_tbl := hz_tm9 (List.mem_of_getElem? (i := 179) rfl)
/-- the two stand side by side, over one house -/
def lawI (F : by_L) (z B : Nat) (M : hz_M) (H : ho_H) : Prop := hoG F H ∧ (∃ (ll : Nat) (fr kn : Int32), hcR M z H ll fr kn) ∧ hmR M z B H ∧ fiM M B F ∧ 63 + 34 * (hoN H).length ≤ B
theorem lawI.z {F : by_L} {z B : Nat} {M : hz_M} {H : ho_H} (h : lawI F z B M H) : 63 ≤ B ∧ B + 88 ≤ z := by
  obtain ⟨-, -, ⟨⟨-, -, -, -, q⟩, -⟩, -, q2⟩ := h
  exact ⟨by omega, q⟩
theorem lawI.c {F : by_L} {z B : Nat} {M : hz_M} {H : ho_H} (h : lawI F z B M H) : ∃ fs, M 8 = .inr (11, fs) := by
  obtain ⟨-, ⟨ll, fr, kn, q⟩, -⟩ := h
  exact ⟨_, q.1⟩
theorem ok_use {α : Type} {f : α → Value} {F : by_L} {xc xr : hz_X} {dc dr : Nat} {as : List Value} {κ : hz_C} {z B : Nat} {M : hz_M} {H : ho_H} (hk : okF f F xc xr dc dr as) (h : lawI F z B M H) : ∃ a : α, hz_Mt κ xc dc 0 0 (.ref 8 :: as) z M (fun r z2 M2 => some (f a) = r ∧ z = z2 ∧ (∃ fs, M2 B = .inr (12, fs)) ∧ hz_Mt κ xr dr 0 0 (.ref B :: as) z M2 (fun r z3 M3 => some (f a) = r ∧ z = z3 ∧ ∃ H2, lawI F z B M3 H2)) := by
  obtain ⟨hG, ⟨ll, fr, kn, hc⟩, hm, hF, hB⟩ := h
  obtain ⟨hk0, hE, ⟨m1, m2, m3⟩, -⟩ := id hm
  obtain ⟨⟨fs, hO, hFs⟩, -, -, h8, hz⟩ := id hk0
  obtain ⟨a, H2, ⟨hG2, hl⟩, rc, rr⟩ := hk H hG m3.2.1
  refine ⟨a, (rc κ z M ll fr kn (by omega) hc).weak (fun r z2 M2 hp => ?_)⟩
  obtain ⟨e1, e2, hf, ll2, fr2, kn2, hc2⟩ := hp
  subst e2
  have hq : ∀ q, B ≤ q → q < B + 88 → M2 q = M q := fun q q1 q2 => hf q ⟨by omega, trivial⟩
  refine ⟨e1, rfl, ⟨fs, (hq B (by omega) (by omega)).trans hO⟩, (rr κ z B M2 (hm.e hq) (hF.e hq)).weak (fun r3 z3 M3 hp3 => ?_)⟩
  obtain ⟨e3, e4, hf3, hm3⟩ := hp3
  have hc3 : hcR M3 z H2 ll2 fr2 kn2 := hc2.e (fun q q1 q2 => hf3.1 q ⟨by rw [hl] at q2; omega, trivial⟩)
  exact ⟨e3, e4, H2, hG2, ⟨ll2, fr2, kn2, hc3⟩, hm3, (hF.e hq).fr hf3, by rw [hl]; exact hB⟩
