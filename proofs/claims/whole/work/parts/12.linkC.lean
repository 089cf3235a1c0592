theorem im_X12_tellAll : Cond.instanceMethod yX12_tellAll ∈ lw_tbl := hz_tm9 (List.mem_of_getElem? (i := 46) rfl)
theorem se_X12_tellAll : Cond.selects yX12_tellAll.cls yX12_tellAll yX12_tellAll ∈ lw_tbl := List.mem_of_getElem? (i := 96) (by decide +kernel)
theorem cd_X12_ask : Cond.code xX12_ask.1 xX12_ask.2.1 xX12_ask.2.2.1 xX12_ask.2.2.2 ∈ lw_tbl := hz_tm8 (List.mem_of_getElem? (i := 215) rfl)
theorem im_X12_ask : Cond.instanceMethod yX12_ask ∈ lw_tbl := hz_tm8 (List.mem_of_getElem? (i := 214) rfl)
theorem se_X12_ask : Cond.selects yX12_ask.cls yX12_ask yX12_ask ∈ lw_tbl := List.mem_of_getElem? (i := 78) (by decide +kernel)
theorem cd_X12_copyHash : Cond.code xX12_copyHash.1 xX12_copyHash.2.1 xX12_copyHash.2.2.1 xX12_copyHash.2.2.2 ∈ lw_tbl := hz_tm8 (List.mem_of_getElem? (i := 223) rfl)
theorem im_X12_copyHash : Cond.instanceMethod yX12_copyHash ∈ lw_tbl := hz_tm8 (List.mem_of_getElem? (i := 222) rfl)
theorem se_X12_copyHash : Cond.selects yX12_copyHash.cls yX12_copyHash yX12_copyHash ∈ lw_tbl := List.mem_of_getElem? (i := 80) (by decide +kernel)
theorem cd_X12_isRow : Cond.code xX12_isRow.1 xX12_isRow.2.1 xX12_isRow.2.2.1 xX12_isRow.2.2.2 ∈ lw_tbl := hz_tm8 (List.mem_of_getElem? (i := 207) rfl)
theorem im_X12_isRow : Cond.instanceMethod yX12_isRow ∈ lw_tbl := hz_tm8 (List.mem_of_getElem? (i := 206) rfl)
theorem se_X12_isRow : Cond.selects yX12_isRow.cls yX12_isRow yX12_isRow ∈ lw_tbl := List.mem_of_getElem? (i := 76) (by decide +kernel)
theorem cd_X12_receive : Cond.code xX12_receive.1 xX12_receive.2.1 xX12_receive.2.2.1 xX12_receive.2.2.2 ∈ lw_tbl := hz_tm8 (List.mem_of_getElem? (i := 203) rfl)
theorem im_X12_receive : Cond.instanceMethod yX12_receive ∈ lw_tbl := hz_tm8 (List.mem_of_getElem? (i := 202) rfl)
theorem se_X12_receive : Cond.selects yX12_receive.cls yX12_receive yX12_receive ∈ lw_tbl := List.mem_of_getElem? (i := 75) (by decide +kernel)
theorem cd_X12_receiveTold : Cond.code xX12_receiveTold.1 xX12_receiveTold.2.1 xX12_receiveTold.2.2.1 xX12_receiveTold.2.2.2 ∈ lw_tbl := hz_tm8 (List.mem_of_getElem? (i := 211) rfl)
theorem im_X12_receiveTold : Cond.instanceMethod yX12_receiveTold ∈ lw_tbl := hz_tm8 (List.mem_of_getElem? (i := 210) rfl)
theorem se_X12_receiveTold : Cond.selects yX12_receiveTold.cls yX12_receiveTold yX12_receiveTold ∈ lw_tbl := List.mem_of_getElem? (i := 77) (by decide +kernel)
theorem cd_X12_receiveAsk : Cond.code xX12_receiveAsk.1 xX12_receiveAsk.2.1 xX12_receiveAsk.2.2.1 xX12_receiveAsk.2.2.2 ∈ lw_tbl := hz_tm8 (List.mem_of_getElem? (i := 231) rfl)
theorem im_X12_receiveAsk : Cond.instanceMethod yX12_receiveAsk ∈ lw_tbl := hz_tm8 (List.mem_of_getElem? (i := 230) rfl)
theorem se_X12_receiveAsk : Cond.selects yX12_receiveAsk.cls yX12_receiveAsk yX12_receiveAsk ∈ lw_tbl := List.mem_of_getElem? (i := 82) (by decide +kernel)
theorem cd_X12_receiveGet : Cond.code xX12_receiveGet.1 xX12_receiveGet.2.1 xX12_receiveGet.2.2.1 xX12_receiveGet.2.2.2 ∈ lw_tbl := hz_tm8 (List.mem_of_getElem? (i := 239) rfl)
theorem im_X12_receiveGet : Cond.instanceMethod yX12_receiveGet ∈ lw_tbl := hz_tm8 (List.mem_of_getElem? (i := 238) rfl)
theorem se_X12_receiveGet : Cond.selects yX12_receiveGet.cls yX12_receiveGet yX12_receiveGet ∈ lw_tbl := List.mem_of_getElem? (i := 84) (by decide +kernel)
theorem cd_X12_receiveHeaders : Cond.code xX12_receiveHeaders.1 xX12_receiveHeaders.2.1 xX12_receiveHeaders.2.2.1 xX12_receiveHeaders.2.2.2 ∈ lw_tbl := hz_tm9 (List.mem_of_getElem? (i := 3) rfl)
theorem im_X12_receiveHeaders : Cond.instanceMethod yX12_receiveHeaders ∈ lw_tbl := hz_tm9 (List.mem_of_getElem? (i := 2) rfl)
theorem se_X12_receiveHeaders : Cond.selects yX12_receiveHeaders.cls yX12_receiveHeaders yX12_receiveHeaders ∈ lw_tbl := List.mem_of_getElem? (i := 85) (by decide +kernel)
theorem cd_X12_isRightHeader : Cond.code xX12_isRightHeader.1 xX12_isRightHeader.2.1 xX12_isRightHeader.2.2.1 xX12_isRightHeader.2.2.2 ∈ lw_tbl := hz_tm9 (List.mem_of_getElem? (i := 7) rfl)
theorem im_X12_isRightHeader : Cond.instanceMethod yX12_isRightHeader ∈ lw_tbl := hz_tm9 (List.mem_of_getElem? (i := 6) rfl)
theorem se_X12_isRightHeader : Cond.selects yX12_isRightHeader.cls yX12_isRightHeader yX12_isRightHeader ∈ lw_tbl := List.mem_of_getElem? (i := 86) (by decide +kernel)
theorem cd_X12_inboxToBody : Cond.code xX12_inboxToBody.1 xX12_inboxToBody.2.1 xX12_inboxToBody.2.2.1 xX12_inboxToBody.2.2.2 ∈ lw_tbl := hz_tm8 (List.mem_of_getElem? (i := 183) rfl)
theorem im_X12_inboxToBody : Cond.instanceMethod yX12_inboxToBody ∈ lw_tbl := hz_tm8 (List.mem_of_getElem? (i := 182) rfl)
theorem se_X12_inboxToBody : Cond.selects yX12_inboxToBody.cls yX12_inboxToBody yX12_inboxToBody ∈ lw_tbl := List.mem_of_getElem? (i := 71) (by decide +kernel)
theorem cd_X12_receiveBlock : Cond.code xX12_receiveBlock.1 xX12_receiveBlock.2.1 xX12_receiveBlock.2.2.1 xX12_receiveBlock.2.2.2 ∈ lw_tbl := hz_tm9 (List.mem_of_getElem? (i := 11) rfl)
theorem im_X12_receiveBlock : Cond.instanceMethod yX12_receiveBlock ∈ lw_tbl := hz_tm9 (List.mem_of_getElem? (i := 10) rfl)
theorem se_X12_receiveBlock : Cond.selects yX12_receiveBlock.cls yX12_receiveBlock yX12_receiveBlock ∈ lw_tbl := List.mem_of_getElem? (i := 87) (by decide +kernel)
theorem cd_X12_receiveTransaction : Cond.code xX12_receiveTransaction.1 xX12_receiveTransaction.2.1 xX12_receiveTransaction.2.2.1 xX12_receiveTransaction.2.2.2 ∈ lw_tbl := hz_tm9 (List.mem_of_getElem? (i := 67) rfl)
theorem im_X12_receiveTransaction : Cond.instanceMethod yX12_receiveTransaction ∈ lw_tbl := hz_tm9 (List.mem_of_getElem? (i := 66) rfl)
theorem se_X12_receiveTransaction : Cond.selects yX12_receiveTransaction.cls yX12_receiveTransaction yX12_receiveTransaction ∈ lw_tbl := List.mem_of_getElem? (i := 101) (by decide +kernel)
theorem cd_X12_feed : Cond.code xX12_feed.1 xX12_feed.2.1 xX12_feed.2.2.1 xX12_feed.2.2.2 ∈ lw_tbl := hz_tm7 (List.mem_of_getElem? (i := 210) rfl)
theorem im_X12_feed : Cond.instanceMethod yX12_feed ∈ lw_tbl := hz_tm7 (List.mem_of_getElem? (i := 208) rfl)
theorem se_X12_feed : Cond.selects yX12_feed.cls yX12_feed yX12_feed ∈ lw_tbl := hz_tm7 (List.mem_of_getElem? (i := 209) rfl)
theorem cd_X12_cut : Cond.code xX12_cut.1 xX12_cut.2.1 xX12_cut.2.2.1 xX12_cut.2.2.2 ∈ lw_tbl := hz_tm7 (List.mem_of_getElem? (i := 214) rfl)
theorem im_X12_cut : Cond.instanceMethod yX12_cut ∈ lw_tbl := hz_tm7 (List.mem_of_getElem? (i := 212) rfl)
theorem se_X12_cut : Cond.selects yX12_cut.cls yX12_cut yX12_cut ∈ lw_tbl := hz_tm7 (List.mem_of_getElem? (i := 213) rfl)
theorem cd_X12_turn : Cond.code xX12_turn.1 xX12_turn.2.1 xX12_turn.2.2.1 xX12_turn.2.2.2 ∈ lw_tbl := hz_tm7 (List.mem_of_getElem? (i := 218) rfl)
theorem im_X12_turn : Cond.instanceMethod yX12_turn ∈ lw_tbl := hz_tm7 (List.mem_of_getElem? (i := 216) rfl)
theorem se_X12_turn : Cond.selects yX12_turn.cls yX12_turn yX12_turn ∈ lw_tbl := hz_tm7 (List.mem_of_getElem? (i := 217) rfl)
theorem cd_X12_hash : Cond.code xX12_hash.1 xX12_hash.2.1 xX12_hash.2.2.1 xX12_hash.2.2.2 ∈ lw_tbl := hz_tm7 (List.mem_of_getElem? (i := 222) rfl)
theorem im_X12_hash : Cond.instanceMethod yX12_hash ∈ lw_tbl := hz_tm7 (List.mem_of_getElem? (i := 220) rfl)
theorem se_X12_hash : Cond.selects yX12_hash.cls yX12_hash yX12_hash ∈ lw_tbl := hz_tm7 (List.mem_of_getElem? (i := 221) rfl)
theorem cd_X12_part : Cond.code xX12_part.1 xX12_part.2.1 xX12_part.2.2.1 xX12_part.2.2.2 ∈ lw_tbl := hz_tm7 (List.mem_of_getElem? (i := 226) rfl)
theorem im_X12_part : Cond.instanceMethod yX12_part ∈ lw_tbl := hz_tm7 (List.mem_of_getElem? (i := 224) rfl)
theorem se_X12_part : Cond.selects yX12_part.cls yX12_part yX12_part ∈ lw_tbl := hz_tm7 (List.mem_of_getElem? (i := 225) rfl)
theorem cd_X12_address : Cond.code xX12_address.1 xX12_address.2.1 xX12_address.2.2.1 xX12_address.2.2.2 ∈ lw_tbl := hz_tm7 (List.mem_of_getElem? (i := 230) rfl)
theorem im_X12_address : Cond.instanceMethod yX12_address ∈ lw_tbl := hz_tm7 (List.mem_of_getElem? (i := 228) rfl)
theorem se_X12_address : Cond.selects yX12_address.cls yX12_address yX12_address ∈ lw_tbl := hz_tm7 (List.mem_of_getElem? (i := 229) rfl)
theorem cd_X12_begin : Cond.code xX12_begin.1 xX12_begin.2.1 xX12_begin.2.2.1 xX12_begin.2.2.2 ∈ lw_tbl := hz_tm7 (List.mem_of_getElem? (i := 234) rfl)
theorem im_X12_begin : Cond.instanceMethod yX12_begin ∈ lw_tbl := hz_tm7 (List.mem_of_getElem? (i := 232) rfl)
theorem se_X12_begin : Cond.selects yX12_begin.cls yX12_begin yX12_begin ∈ lw_tbl := hz_tm7 (List.mem_of_getElem? (i := 233) rfl)
theorem cd_X12_addInput : Cond.code xX12_addInput.1 xX12_addInput.2.1 xX12_addInput.2.2.1 xX12_addInput.2.2.2 ∈ lw_tbl := hz_tm8 (List.mem_of_getElem? (i := 2) rfl)
theorem im_X12_addInput : Cond.instanceMethod yX12_addInput ∈ lw_tbl := hz_tm8 (List.mem_of_getElem? (i := 1) rfl)
theorem se_X12_addInput : Cond.selects yX12_addInput.cls yX12_addInput yX12_addInput ∈ lw_tbl := List.mem_of_getElem? (i := 44) (by decide +kernel)
theorem cd_X12_input : Cond.code xX12_input.1 xX12_input.2.1 xX12_input.2.2.1 xX12_input.2.2.2 ∈ lw_tbl := hz_tm7 (List.mem_of_getElem? (i := 238) rfl)
theorem im_X12_input : Cond.instanceMethod yX12_input ∈ lw_tbl := hz_tm7 (List.mem_of_getElem? (i := 236) rfl)
theorem se_X12_input : Cond.selects yX12_input.cls yX12_input yX12_input ∈ lw_tbl := hz_tm7 (List.mem_of_getElem? (i := 237) rfl)
theorem cd_X12_stateOf : Cond.code xX12_stateOf.1 xX12_stateOf.2.1 xX12_stateOf.2.2.1 xX12_stateOf.2.2.2 ∈ lw_tbl := hz_tm8 (List.mem_of_getElem? (i := 10) rfl)
theorem im_X12_stateOf : Cond.instanceMethod yX12_stateOf ∈ lw_tbl := hz_tm8 (List.mem_of_getElem? (i := 9) rfl)
theorem se_X12_stateOf : Cond.selects yX12_stateOf.cls yX12_stateOf yX12_stateOf ∈ lw_tbl := List.mem_of_getElem? (i := 45) (by decide +kernel)
theorem cd_X12_spend : Cond.code xX12_spend.1 xX12_spend.2.1 xX12_spend.2.2.1 xX12_spend.2.2.2 ∈ lw_tbl := hz_tm8 (List.mem_of_getElem? (i := 6) rfl)
theorem im_X12_spend : Cond.instanceMethod yX12_spend ∈ lw_tbl := hz_tm8 (List.mem_of_getElem? (i := 4) rfl)
theorem se_X12_spend : Cond.selects yX12_spend.cls yX12_spend yX12_spend ∈ lw_tbl := hz_tm8 (List.mem_of_getElem? (i := 5) rfl)
theorem cd_X12_output : Cond.code xX12_output.1 xX12_output.2.1 xX12_output.2.2.1 xX12_output.2.2.2 ∈ lw_tbl := hz_tm8 (List.mem_of_getElem? (i := 46) rfl)
theorem im_X12_output : Cond.instanceMethod yX12_output ∈ lw_tbl := hz_tm8 (List.mem_of_getElem? (i := 44) rfl)
theorem se_X12_output : Cond.selects yX12_output.cls yX12_output yX12_output ∈ lw_tbl := hz_tm8 (List.mem_of_getElem? (i := 45) rfl)
theorem cd_X12_pay : Cond.code xX12_pay.1 xX12_pay.2.1 xX12_pay.2.2.1 xX12_pay.2.2.2 ∈ lw_tbl := hz_tm8 (List.mem_of_getElem? (i := 50) rfl)
theorem im_X12_pay : Cond.instanceMethod yX12_pay ∈ lw_tbl := hz_tm8 (List.mem_of_getElem? (i := 48) rfl)
theorem se_X12_pay : Cond.selects yX12_pay.cls yX12_pay yX12_pay ∈ lw_tbl := hz_tm8 (List.mem_of_getElem? (i := 49) rfl)
theorem cd_X12_sign : Cond.code xX12_sign.1 xX12_sign.2.1 xX12_sign.2.2.1 xX12_sign.2.2.2 ∈ lw_tbl := hz_tm8 (List.mem_of_getElem? (i := 55) rfl)
theorem im_X12_sign : Cond.instanceMethod yX12_sign ∈ lw_tbl := hz_tm8 (List.mem_of_getElem? (i := 53) rfl)
theorem se_X12_sign : Cond.selects yX12_sign.cls yX12_sign yX12_sign ∈ lw_tbl := hz_tm8 (List.mem_of_getElem? (i := 54) rfl)
theorem cd_X12_bodyToTape : Cond.code xX12_bodyToTape.1 xX12_bodyToTape.2.1 xX12_bodyToTape.2.2.1 xX12_bodyToTape.2.2.2 ∈ lw_tbl := hz_tm8 (List.mem_of_getElem? (i := 71) rfl)
theorem im_X12_bodyToTape : Cond.instanceMethod yX12_bodyToTape ∈ lw_tbl := hz_tm8 (List.mem_of_getElem? (i := 70) rfl)
theorem se_X12_bodyToTape : Cond.selects yX12_bodyToTape.cls yX12_bodyToTape yX12_bodyToTape ∈ lw_tbl := List.mem_of_getElem? (i := 53) (by decide +kernel)
theorem cd_X12_take : Cond.code xX12_take.1 xX12_take.2.1 xX12_take.2.2.1 xX12_take.2.2.2 ∈ lw_tbl := hz_tm8 (List.mem_of_getElem? (i := 63) rfl)
theorem im_X12_take : Cond.instanceMethod yX12_take ∈ lw_tbl := hz_tm8 (List.mem_of_getElem? (i := 61) rfl)
theorem se_X12_take : Cond.selects yX12_take.cls yX12_take yX12_take ∈ lw_tbl := hz_tm8 (List.mem_of_getElem? (i := 62) rfl)
theorem cd_X12_assemble : Cond.code xX12_assemble.1 xX12_assemble.2.1 xX12_assemble.2.2.1 xX12_assemble.2.2.2 ∈ lw_tbl := hz_tm8 (List.mem_of_getElem? (i := 75) rfl)
theorem im_X12_assemble : Cond.instanceMethod yX12_assemble ∈ lw_tbl := hz_tm8 (List.mem_of_getElem? (i := 73) rfl)
theorem se_X12_assemble : Cond.selects yX12_assemble.cls yX12_assemble yX12_assemble ∈ lw_tbl := hz_tm8 (List.mem_of_getElem? (i := 74) rfl)
theorem cd_X12_root : Cond.code xX12_root.1 xX12_root.2.1 xX12_root.2.2.1 xX12_root.2.2.2 ∈ lw_tbl := hz_tm8 (List.mem_of_getElem? (i := 127) rfl)
theorem im_X12_root : Cond.instanceMethod yX12_root ∈ lw_tbl := hz_tm8 (List.mem_of_getElem? (i := 125) rfl)
theorem se_X12_root : Cond.selects yX12_root.cls yX12_root yX12_root ∈ lw_tbl := hz_tm8 (List.mem_of_getElem? (i := 126) rfl)
theorem cd_X12_solve : Cond.code xX12_solve.1 xX12_solve.2.1 xX12_solve.2.2.1 xX12_solve.2.2.2 ∈ lw_tbl := hz_tm8 (List.mem_of_getElem? (i := 135) rfl)
theorem im_X12_solve : Cond.instanceMethod yX12_solve ∈ lw_tbl := hz_tm8 (List.mem_of_getElem? (i := 133) rfl)
theorem se_X12_solve : Cond.selects yX12_solve.cls yX12_solve yX12_solve ∈ lw_tbl := hz_tm8 (List.mem_of_getElem? (i := 134) rfl)
theorem cd_X12_judge : Cond.code xX12_judge.1 xX12_judge.2.1 xX12_judge.2.2.1 xX12_judge.2.2.2 ∈ lw_tbl := hz_tm8 (List.mem_of_getElem? (i := 145) rfl)
theorem im_X12_judge : Cond.instanceMethod yX12_judge ∈ lw_tbl := hz_tm8 (List.mem_of_getElem? (i := 143) rfl)
theorem se_X12_judge : Cond.selects yX12_judge.cls yX12_judge yX12_judge ∈ lw_tbl := hz_tm8 (List.mem_of_getElem? (i := 144) rfl)
theorem cd_X12_tapeToInbox : Cond.code xX12_tapeToInbox.1 xX12_tapeToInbox.2.1 xX12_tapeToInbox.2.2.1 xX12_tapeToInbox.2.2.2 ∈ lw_tbl := hz_tm8 (List.mem_of_getElem? (i := 179) rfl)
theorem im_X12_tapeToInbox : Cond.instanceMethod yX12_tapeToInbox ∈ lw_tbl := hz_tm8 (List.mem_of_getElem? (i := 178) rfl)
theorem se_X12_tapeToInbox : Cond.selects yX12_tapeToInbox.cls yX12_tapeToInbox yX12_tapeToInbox ∈ lw_tbl := List.mem_of_getElem? (i := 70) (by decide +kernel)
theorem cd_X12_give : Cond.code xX12_give.1 xX12_give.2.1 xX12_give.2.2.1 xX12_give.2.2.2 ∈ lw_tbl := hz_tm8 (List.mem_of_getElem? (i := 199) rfl)
theorem im_X12_give : Cond.instanceMethod yX12_give ∈ lw_tbl := hz_tm8 (List.mem_of_getElem? (i := 197) rfl)
theorem se_X12_give : Cond.selects yX12_give.cls yX12_give yX12_give ∈ lw_tbl := hz_tm8 (List.mem_of_getElem? (i := 198) rfl)
theorem cd_X12_post : Cond.code xX12_post.1 xX12_post.2.1 xX12_post.2.2.1 xX12_post.2.2.2 ∈ lw_tbl := hz_tm9 (List.mem_of_getElem? (i := 71) rfl)
theorem im_X12_post : Cond.instanceMethod yX12_post ∈ lw_tbl := hz_tm9 (List.mem_of_getElem? (i := 69) rfl)
theorem se_X12_post : Cond.selects yX12_post.cls yX12_post yX12_post ∈ lw_tbl := hz_tm9 (List.mem_of_getElem? (i := 70) rfl)
theorem cd_X12_link : Cond.code xX12_link.1 xX12_link.2.1 xX12_link.2.2.1 xX12_link.2.2.2 ∈ lw_tbl := hz_tm9 (List.mem_of_getElem? (i := 75) rfl)
theorem im_X12_link : Cond.instanceMethod yX12_link ∈ lw_tbl := hz_tm9 (List.mem_of_getElem? (i := 73) rfl)
theorem se_X12_link : Cond.selects yX12_link.cls yX12_link yX12_link ∈ lw_tbl := hz_tm9 (List.mem_of_getElem? (i := 74) rfl)
theorem cd_X12_tick : Cond.code xX12_tick.1 xX12_tick.2.1 xX12_tick.2.2.1 xX12_tick.2.2.2 ∈ lw_tbl := hz_tm9 (List.mem_of_getElem? (i := 79) rfl)
theorem im_X12_tick : Cond.instanceMethod yX12_tick ∈ lw_tbl := hz_tm9 (List.mem_of_getElem? (i := 77) rfl)
theorem se_X12_tick : Cond.selects yX12_tick.cls yX12_tick yX12_tick ∈ lw_tbl := hz_tm9 (List.mem_of_getElem? (i := 78) rfl)
theorem cd_X12_arrive : Cond.code xX12_arrive.1 xX12_arrive.2.1 xX12_arrive.2.2.1 xX12_arrive.2.2.2 ∈ lw_tbl := hz_tm9 (List.mem_of_getElem? (i := 83) rfl)
theorem im_X12_arrive : Cond.instanceMethod yX12_arrive ∈ lw_tbl := hz_tm9 (List.mem_of_getElem? (i := 82) rfl)
theorem se_X12_arrive : Cond.selects yX12_arrive.cls yX12_arrive yX12_arrive ∈ lw_tbl := List.mem_of_getElem? (i := 102) (by decide +kernel)
theorem cd_X12_message : Cond.code xX12_message.1 xX12_message.2.1 xX12_message.2.2.1 xX12_message.2.2.2 ∈ lw_tbl := hz_tm9 (List.mem_of_getElem? (i := 91) rfl)
theorem im_X12_message : Cond.instanceMethod yX12_message ∈ lw_tbl := hz_tm9 (List.mem_of_getElem? (i := 89) rfl)
theorem se_X12_message : Cond.selects yX12_message.cls yX12_message yX12_message ∈ lw_tbl := hz_tm9 (List.mem_of_getElem? (i := 90) rfl)
theorem cd_X12_hasByte : Cond.code xX12_hasByte.1 xX12_hasByte.2.1 xX12_hasByte.2.2.1 xX12_hasByte.2.2.2 ∈ lw_tbl := hz_tm9 (List.mem_of_getElem? (i := 99) rfl)
theorem im_X12_hasByte : Cond.instanceMethod yX12_hasByte ∈ lw_tbl := hz_tm9 (List.mem_of_getElem? (i := 98) rfl)
theorem se_X12_hasByte : Cond.selects yX12_hasByte.cls yX12_hasByte yX12_hasByte ∈ lw_tbl := List.mem_of_getElem? (i := 104) (by decide +kernel)
theorem cd_X12_messageByte : Cond.code xX12_messageByte.1 xX12_messageByte.2.1 xX12_messageByte.2.2.1 xX12_messageByte.2.2.2 ∈ lw_tbl := hz_tm9 (List.mem_of_getElem? (i := 95) rfl)
theorem im_X12_messageByte : Cond.instanceMethod yX12_messageByte ∈ lw_tbl := hz_tm9 (List.mem_of_getElem? (i := 93) rfl)
theorem se_X12_messageByte : Cond.selects yX12_messageByte.cls yX12_messageByte yX12_messageByte ∈ lw_tbl := hz_tm9 (List.mem_of_getElem? (i := 94) rfl)
theorem cd_X12_alter : Cond.code xX12_alter.1 xX12_alter.2.1 xX12_alter.2.2.1 xX12_alter.2.2.2 ∈ lw_tbl := hz_tm9 (List.mem_of_getElem? (i := 103) rfl)
theorem im_X12_alter : Cond.instanceMethod yX12_alter ∈ lw_tbl := hz_tm9 (List.mem_of_getElem? (i := 101) rfl)
theorem se_X12_alter : Cond.selects yX12_alter.cls yX12_alter yX12_alter ∈ lw_tbl := hz_tm9 (List.mem_of_getElem? (i := 102) rfl)
theorem cd_X12_lose : Cond.code xX12_lose.1 xX12_lose.2.1 xX12_lose.2.2.1 xX12_lose.2.2.2 ∈ lw_tbl := hz_tm9 (List.mem_of_getElem? (i := 107) rfl)
theorem im_X12_lose : Cond.instanceMethod yX12_lose ∈ lw_tbl := hz_tm9 (List.mem_of_getElem? (i := 105) rfl)
theorem se_X12_lose : Cond.selects yX12_lose.cls yX12_lose yX12_lose ∈ lw_tbl := hz_tm9 (List.mem_of_getElem? (i := 106) rfl)
theorem cd_X12_down : Cond.code xX12_down.1 xX12_down.2.1 xX12_down.2.2.1 xX12_down.2.2.2 ∈ lw_tbl := hz_tm9 (List.mem_of_getElem? (i := 111) rfl)
theorem im_X12_down : Cond.instanceMethod yX12_down ∈ lw_tbl := hz_tm9 (List.mem_of_getElem? (i := 109) rfl)
theorem se_X12_down : Cond.selects yX12_down.cls yX12_down yX12_down ∈ lw_tbl := hz_tm9 (List.mem_of_getElem? (i := 110) rfl)
theorem cd_X12_up : Cond.code xX12_up.1 xX12_up.2.1 xX12_up.2.2.1 xX12_up.2.2.2 ∈ lw_tbl := hz_tm9 (List.mem_of_getElem? (i := 115) rfl)
theorem im_X12_up : Cond.instanceMethod yX12_up ∈ lw_tbl := hz_tm9 (List.mem_of_getElem? (i := 113) rfl)
theorem se_X12_up : Cond.selects yX12_up.cls yX12_up yX12_up ∈ lw_tbl := hz_tm9 (List.mem_of_getElem? (i := 114) rfl)
theorem cd_X12_readRecord : Cond.code xX12_readRecord.1 xX12_readRecord.2.1 xX12_readRecord.2.2.1 xX12_readRecord.2.2.2 ∈ lw_tbl := hz_tm9 (List.mem_of_getElem? (i := 119) rfl)
theorem im_X12_readRecord : Cond.instanceMethod yX12_readRecord ∈ lw_tbl := hz_tm9 (List.mem_of_getElem? (i := 118) rfl)
theorem se_X12_readRecord : Cond.selects yX12_readRecord.cls yX12_readRecord yX12_readRecord ∈ lw_tbl := List.mem_of_getElem? (i := 105) (by decide +kernel)
theorem cd_X12_fuse : Cond.code xX12_fuse.1 xX12_fuse.2.1 xX12_fuse.2.2.1 xX12_fuse.2.2.2 ∈ lw_tbl := hz_tm9 (List.mem_of_getElem? (i := 123) rfl)
theorem im_X12_fuse : Cond.instanceMethod yX12_fuse ∈ lw_tbl := hz_tm9 (List.mem_of_getElem? (i := 121) rfl)
theorem se_X12_fuse : Cond.selects yX12_fuse.cls yX12_fuse yX12_fuse ∈ lw_tbl := hz_tm9 (List.mem_of_getElem? (i := 122) rfl)
theorem cd_X12_peek : Cond.code xX12_peek.1 xX12_peek.2.1 xX12_peek.2.2.1 xX12_peek.2.2.2 ∈ lw_tbl := hz_tm9 (List.mem_of_getElem? (i := 127) rfl)
theorem im_X12_peek : Cond.instanceMethod yX12_peek ∈ lw_tbl := hz_tm9 (List.mem_of_getElem? (i := 125) rfl)
theorem se_X12_peek : Cond.selects yX12_peek.cls yX12_peek yX12_peek ∈ lw_tbl := hz_tm9 (List.mem_of_getElem? (i := 126) rfl)
theorem cd_X12_poke : Cond.code xX12_poke.1 xX12_poke.2.1 xX12_poke.2.2.1 xX12_poke.2.2.2 ∈ lw_tbl := hz_tm9 (List.mem_of_getElem? (i := 131) rfl)
theorem im_X12_poke : Cond.instanceMethod yX12_poke ∈ lw_tbl := hz_tm9 (List.mem_of_getElem? (i := 129) rfl)
theorem se_X12_poke : Cond.selects yX12_poke.cls yX12_poke yX12_poke ∈ lw_tbl := hz_tm9 (List.mem_of_getElem? (i := 130) rfl)
theorem cd_X12_told : Cond.code xX12_told.1 xX12_told.2.1 xX12_told.2.2.1 xX12_told.2.2.2 ∈ lw_tbl := hz_tm9 (List.mem_of_getElem? (i := 135) rfl)
theorem im_X12_told : Cond.instanceMethod yX12_told ∈ lw_tbl := hz_tm9 (List.mem_of_getElem? (i := 133) rfl)
theorem se_X12_told : Cond.selects yX12_told.cls yX12_told yX12_told ∈ lw_tbl := hz_tm9 (List.mem_of_getElem? (i := 134) rfl)
theorem cd_X12_house : Cond.code xX12_house.1 xX12_house.2.1 xX12_house.2.2.1 xX12_house.2.2.2 ∈ lw_tbl := hz_tm9 (List.mem_of_getElem? (i := 143) rfl)
theorem im_X12_house : Cond.instanceMethod yX12_house ∈ lw_tbl := hz_tm9 (List.mem_of_getElem? (i := 141) rfl)
theorem se_X12_house : Cond.selects yX12_house.cls yX12_house yX12_house ∈ lw_tbl := hz_tm9 (List.mem_of_getElem? (i := 142) rfl)
theorem cd_X12_block : Cond.code xX12_block.1 xX12_block.2.1 xX12_block.2.2.1 xX12_block.2.2.2 ∈ lw_tbl := hz_tm9 (List.mem_of_getElem? (i := 147) rfl)
theorem im_X12_block : Cond.instanceMethod yX12_block ∈ lw_tbl := hz_tm9 (List.mem_of_getElem? (i := 145) rfl)
theorem se_X12_block : Cond.selects yX12_block.cls yX12_block yX12_block ∈ lw_tbl := hz_tm9 (List.mem_of_getElem? (i := 146) rfl)
theorem cd_X12_limbOf : Cond.code xX12_limbOf.1 xX12_limbOf.2.1 xX12_limbOf.2.2.1 xX12_limbOf.2.2.2 ∈ lw_tbl := hz_tm9 (List.mem_of_getElem? (i := 154) rfl)
theorem sc_X12_limbOf : Cond.static yX12_limbOf ∈ lw_tbl := hz_tm9 (List.mem_of_getElem? (i := 153) rfl)
theorem cd_X12_limb : Cond.code xX12_limb.1 xX12_limb.2.1 xX12_limb.2.2.1 xX12_limb.2.2.2 ∈ lw_tbl := hz_tm9 (List.mem_of_getElem? (i := 151) rfl)
theorem im_X12_limb : Cond.instanceMethod yX12_limb ∈ lw_tbl := hz_tm9 (List.mem_of_getElem? (i := 149) rfl)
theorem se_X12_limb : Cond.selects yX12_limb.cls yX12_limb yX12_limb ∈ lw_tbl := hz_tm9 (List.mem_of_getElem? (i := 150) rfl)
theorem cd_X12_at : Cond.code xX12_at.1 xX12_at.2.1 xX12_at.2.2.1 xX12_at.2.2.2 ∈ lw_tbl := hz_tm9 (List.mem_of_getElem? (i := 158) rfl)
theorem im_X12_at : Cond.instanceMethod yX12_at ∈ lw_tbl := hz_tm9 (List.mem_of_getElem? (i := 156) rfl)
theorem se_X12_at : Cond.selects yX12_at.cls yX12_at yX12_at ∈ lw_tbl := hz_tm9 (List.mem_of_getElem? (i := 157) rfl)
theorem cd_X12_unspent : Cond.code xX12_unspent.1 xX12_unspent.2.1 xX12_unspent.2.2.1 xX12_unspent.2.2.2 ∈ lw_tbl := hz_tm9 (List.mem_of_getElem? (i := 162) rfl)
theorem im_X12_unspent : Cond.instanceMethod yX12_unspent ∈ lw_tbl := hz_tm9 (List.mem_of_getElem? (i := 160) rfl)
theorem se_X12_unspent : Cond.selects yX12_unspent.cls yX12_unspent yX12_unspent ∈ lw_tbl := hz_tm9 (List.mem_of_getElem? (i := 161) rfl)
theorem cd_X12_find : Cond.code xX12_find.1 xX12_find.2.1 xX12_find.2.2.1 xX12_find.2.2.2 ∈ lw_tbl := hz_tm9 (List.mem_of_getElem? (i := 166) rfl)
theorem im_X12_find : Cond.instanceMethod yX12_find ∈ lw_tbl := hz_tm9 (List.mem_of_getElem? (i := 164) rfl)
theorem se_X12_find : Cond.selects yX12_find.cls yX12_find yX12_find ∈ lw_tbl := hz_tm9 (List.mem_of_getElem? (i := 165) rfl)
theorem cd_X12_balance : Cond.code xX12_balance.1 xX12_balance.2.1 xX12_balance.2.2.1 xX12_balance.2.2.2 ∈ lw_tbl := hz_tm9 (List.mem_of_getElem? (i := 170) rfl)
theorem im_X12_balance : Cond.instanceMethod yX12_balance ∈ lw_tbl := hz_tm9 (List.mem_of_getElem? (i := 168) rfl)
theorem se_X12_balance : Cond.selects yX12_balance.cls yX12_balance yX12_balance ∈ lw_tbl := hz_tm9 (List.mem_of_getElem? (i := 169) rfl)
theorem cd_X12_pooled : Cond.code xX12_pooled.1 xX12_pooled.2.1 xX12_pooled.2.2.1 xX12_pooled.2.2.2 ∈ lw_tbl := hz_tm9 (List.mem_of_getElem? (i := 174) rfl)
theorem im_X12_pooled : Cond.instanceMethod yX12_pooled ∈ lw_tbl := hz_tm9 (List.mem_of_getElem? (i := 172) rfl)
theorem se_X12_pooled : Cond.selects yX12_pooled.cls yX12_pooled yX12_pooled ∈ lw_tbl := hz_tm9 (List.mem_of_getElem? (i := 173) rfl)
theorem cd_X12_due : Cond.code xX12_due.1 xX12_due.2.1 xX12_due.2.2.1 xX12_due.2.2.2 ∈ lw_tbl := hz_tm9 (List.mem_of_getElem? (i := 178) rfl)
theorem im_X12_due : Cond.instanceMethod yX12_due ∈ lw_tbl := hz_tm9 (List.mem_of_getElem? (i := 176) rfl)
theorem se_X12_due : Cond.selects yX12_due.cls yX12_due yX12_due ∈ lw_tbl := hz_tm9 (List.mem_of_getElem? (i := 177) rfl)
theorem cd_J9_max_7cf53 : Cond.code xJ9_max_7cf53.1 xJ9_max_7cf53.2.1 xJ9_max_7cf53.2.2.1 xJ9_max_7cf53.2.2.2 ∈ lw_tbl := hz_tm1 (List.mem_of_getElem? (i := 34) rfl)
theorem sc_J9_max_7cf53 : Cond.static yJ9_max_7cf53 ∈ lw_tbl := hz_tm1 (List.mem_of_getElem? (i := 33) rfl)
theorem cd_J9_min_7cf53 : Cond.code xJ9_min_7cf53.1 xJ9_min_7cf53.2.1 xJ9_min_7cf53.2.2.1 xJ9_min_7cf53.2.2.2 ∈ lw_tbl := hz_tm1 (List.mem_of_getElem? (i := 31) rfl)
theorem sc_J9_min_7cf53 : Cond.static yJ9_min_7cf53 ∈ lw_tbl := hz_tm1 (List.mem_of_getElem? (i := 30) rfl)
theorem cd_J0_charAt_5068e : Cond.code xJ0_charAt_5068e.1 xJ0_charAt_5068e.2.1 xJ0_charAt_5068e.2.2.1 xJ0_charAt_5068e.2.2.2 ∈ lw_tbl := hz_tm5 (List.mem_of_getElem? (i := 222) rfl)
theorem im_J0_charAt_5068e : Cond.instanceMethod yJ0_charAt_5068e ∈ lw_tbl := hz_tm5 (List.mem_of_getElem? (i := 220) rfl)
theorem se_J0_charAt_5068e : Cond.selects yJ0_charAt_5068e.cls yJ0_charAt_5068e yJ0_charAt_5068e ∈ lw_tbl := hz_tm5 (List.mem_of_getElem? (i := 221) rfl)
theorem cd_J0_isLatin1_aae02 : Cond.code xJ0_isLatin1_aae02.1 xJ0_isLatin1_aae02.2.1 xJ0_isLatin1_aae02.2.2.1 xJ0_isLatin1_aae02.2.2.2 ∈ lw_tbl := hz_tm5 (List.mem_of_getElem? (i := 226) rfl)
theorem im_J0_isLatin1_aae02 : Cond.instanceMethod yJ0_isLatin1_aae02 ∈ lw_tbl := hz_tm5 (List.mem_of_getElem? (i := 224) rfl)
theorem se_J0_isLatin1_aae02 : Cond.selects yJ0_isLatin1_aae02.cls yJ0_isLatin1_aae02 yJ0_isLatin1_aae02 ∈ lw_tbl := hz_tm5 (List.mem_of_getElem? (i := 225) rfl)
theorem cd_J0_checkIndex_df160 : Cond.code xJ0_checkIndex_df160.1 xJ0_checkIndex_df160.2.1 xJ0_checkIndex_df160.2.2.1 xJ0_checkIndex_df160.2.2.2 ∈ lw_tbl := hz_tm5 (List.mem_of_getElem? (i := 234) rfl)
theorem sc_J0_checkIndex_df160 : Cond.static yJ0_checkIndex_df160 ∈ lw_tbl := hz_tm5 (List.mem_of_getElem? (i := 233) rfl)
theorem cd_J1_charAt_3b067 : Cond.code xJ1_charAt_3b067.1 xJ1_charAt_3b067.2.1 xJ1_charAt_3b067.2.2.1 xJ1_charAt_3b067.2.2.2 ∈ lw_tbl := hz_tm5 (List.mem_of_getElem? (i := 231) rfl)
theorem sc_J1_charAt_3b067 : Cond.static yJ1_charAt_3b067 ∈ lw_tbl := hz_tm5 (List.mem_of_getElem? (i := 230) rfl)
theorem cd_J2_getChar_3b067 : Cond.code xJ2_getChar_3b067.1 xJ2_getChar_3b067.2.1 xJ2_getChar_3b067.2.2.1 xJ2_getChar_3b067.2.2.2 ∈ lw_tbl := hz_tm6 (List.mem_of_getElem? (i := 12) rfl)
theorem sc_J2_getChar_3b067 : Cond.static yJ2_getChar_3b067 ∈ lw_tbl := hz_tm6 (List.mem_of_getElem? (i := 11) rfl)
theorem cd_J2_length_9d52b : Cond.code xJ2_length_9d52b.1 xJ2_length_9d52b.2.1 xJ2_length_9d52b.2.2.1 xJ2_length_9d52b.2.2.2 ∈ lw_tbl := hz_tm6 (List.mem_of_getElem? (i := 8) rfl)
theorem sc_J2_length_9d52b : Cond.static yJ2_length_9d52b ∈ lw_tbl := hz_tm6 (List.mem_of_getElem? (i := 7) rfl)
theorem cd_J2_charAt_3b067 : Cond.code xJ2_charAt_3b067.1 xJ2_charAt_3b067.2.1 xJ2_charAt_3b067.2.2.1 xJ2_charAt_3b067.2.2.2 ∈ lw_tbl := hz_tm6 (List.mem_of_getElem? (i := 2) rfl)
theorem sc_J2_charAt_3b067 : Cond.static yJ2_charAt_3b067 ∈ lw_tbl := hz_tm6 (List.mem_of_getElem? (i := 1) rfl)
theorem cd_J2_checkIndex_2214a : Cond.code xJ2_checkIndex_2214a.1 xJ2_checkIndex_2214a.2.1 xJ2_checkIndex_2214a.2.2.1 xJ2_checkIndex_2214a.2.2.2 ∈ lw_tbl := hz_tm6 (List.mem_of_getElem? (i := 5) rfl)
theorem sc_J2_checkIndex_2214a : Cond.static yJ2_checkIndex_2214a ∈ lw_tbl := hz_tm6 (List.mem_of_getElem? (i := 4) rfl)
theorem cd_J7_rangeCheck_23922 : Cond.code xJ7_rangeCheck_23922.1 xJ7_rangeCheck_23922.2.1 xJ7_rangeCheck_23922.2.2.1 xJ7_rangeCheck_23922.2.2.2 ∈ lw_tbl := hz_tm4 (List.mem_of_getElem? (i := 53) rfl)
theorem sc_J7_rangeCheck_23922 : Cond.static yJ7_rangeCheck_23922 ∈ lw_tbl := hz_tm4 (List.mem_of_getElem? (i := 52) rfl)
theorem cd_J7_fill_53178 : Cond.code xJ7_fill_53178.1 xJ7_fill_53178.2.1 xJ7_fill_53178.2.2.1 xJ7_fill_53178.2.2.2 ∈ lw_tbl := hz_tm2 (List.mem_of_getElem? (i := 173) rfl)
theorem sc_J7_fill_53178 : Cond.static yJ7_fill_53178 ∈ lw_tbl := hz_tm2 (List.mem_of_getElem? (i := 172) rfl)
theorem cd_J7_fill_eb02e : Cond.code xJ7_fill_eb02e.1 xJ7_fill_eb02e.2.1 xJ7_fill_eb02e.2.2.1 xJ7_fill_eb02e.2.2.2 ∈ lw_tbl := hz_tm4 (List.mem_of_getElem? (i := 50) rfl)
theorem sc_J7_fill_eb02e : Cond.static yJ7_fill_eb02e ∈ lw_tbl := hz_tm4 (List.mem_of_getElem? (i := 49) rfl)
theorem cd_J3_checkIndex_8e157 : Cond.code xJ3_checkIndex_8e157.1 xJ3_checkIndex_8e157.2.1 xJ3_checkIndex_8e157.2.2.1 xJ3_checkIndex_8e157.2.2.2 ∈ lw_tbl := hz_tm5 (List.mem_of_getElem? (i := 239) rfl)
theorem sc_J3_checkIndex_8e157 : Cond.static yJ3_checkIndex_8e157 ∈ lw_tbl := hz_tm5 (List.mem_of_getElem? (i := 238) rfl)
theorem ini_X0 : Cond.initialized RX0 ∈ lw_tbl := hz_tm1 (List.mem_of_getElem? (i := 11) rfl)
theorem ini_X1 : Cond.initialized RX1 ∈ lw_tbl := hz_tm1 (List.mem_of_getElem? (i := 7) rfl)
theorem ini_X2 : Cond.initialized RX2 ∈ lw_tbl := hz_tm1 (List.mem_of_getElem? (i := 8) rfl)
theorem ini_X3 : Cond.initialized RX3 ∈ lw_tbl := hz_tm1 (List.mem_of_getElem? (i := 6) rfl)
theorem ini_X4 : Cond.initialized RX4 ∈ lw_tbl := hz_tm1 (List.mem_of_getElem? (i := 4) rfl)
theorem ini_X5 : Cond.initialized RX5 ∈ lw_tbl := hz_tm1 (List.mem_of_getElem? (i := 9) rfl)
theorem ini_X6 : Cond.initialized RX6 ∈ lw_tbl := hz_tm1 (List.mem_of_getElem? (i := 14) rfl)
theorem ini_X7 : Cond.initialized RX7 ∈ lw_tbl := hz_tm1 (List.mem_of_getElem? (i := 10) rfl)
theorem ini_X8 : Cond.initialized RX8 ∈ lw_tbl := hz_tm1 (List.mem_of_getElem? (i := 3) rfl)
theorem ini_X9 : Cond.initialized RX9 ∈ lw_tbl := hz_tm1 (List.mem_of_getElem? (i := 5) rfl)
theorem ini_X10 : Cond.initialized RX10 ∈ lw_tbl := hz_tm1 (List.mem_of_getElem? (i := 15) rfl)
theorem ini_X11 : Cond.initialized RX11 ∈ lw_tbl := hz_tm1 (List.mem_of_getElem? (i := 1) rfl)
theorem ini_X12 : Cond.initialized RX12 ∈ lw_tbl := hz_tm1 (List.mem_of_getElem? (i := 16) rfl)
theorem ini_J9 : Cond.initialized RJ9 ∈ lw_tbl := hz_tm1 (List.mem_of_getElem? (i := 2) rfl)
theorem ini_J0 : Cond.initialized RJ0 ∈ lw_tbl := hz_tm1 (List.mem_of_getElem? (i := 17) rfl)
theorem ini_J1 : Cond.initialized RJ1 ∈ lw_tbl := hz_tm1 (List.mem_of_getElem? (i := 18) rfl)
theorem ini_J2 : Cond.initialized RJ2 ∈ lw_tbl := hz_tm1 (List.mem_of_getElem? (i := 20) rfl)
theorem ini_J10 : Cond.initialized RJ10 ∈ lw_tbl := hz_tm1 (List.mem_of_getElem? (i := 12) rfl)
theorem ini_J7 : Cond.initialized RJ7 ∈ lw_tbl := hz_tm1 (List.mem_of_getElem? (i := 13) rfl)
theorem ini_J3 : Cond.initialized RJ3 ∈ lw_tbl := hz_tm1 (List.mem_of_getElem? (i := 19) rfl)
theorem co_X11_9 : hz_co RX11 9 xJ9_min_7cf53 2 := ⟨hz_tm1 (List.mem_of_getElem? (i := 29) rfl), cd_J9_min_7cf53, ini_J9, ⟨by decide +kernel, by decide +kernel, by decide +kernel⟩, by decide⟩
theorem co_X11_15 : hz_co RX11 15 xJ9_max_7cf53 2 := ⟨hz_tm1 (List.mem_of_getElem? (i := 32) rfl), cd_J9_max_7cf53, ini_J9, ⟨by decide +kernel, by decide +kernel, by decide +kernel⟩, by decide⟩
theorem co_X11_20 : hz_cn RX11 20 xX8_init 0 "ChainHouse" := ⟨hz_tm1 (List.mem_of_getElem? (i := 37) rfl), cd_X8_init, ini_X8, ⟨by decide +kernel, by decide +kernel, by decide +kernel⟩, by decide⟩
theorem co_X11_27 : hz_co RX11 27 xX4_init 1 := ⟨hz_tm1 (List.mem_of_getElem? (i := 58) rfl), cd_X4_init, ini_X4, ⟨by decide +kernel, by decide +kernel, by decide +kernel⟩, by decide⟩
theorem co_X11_36 : hz_cn RX11 36 xX9_init 0 "ChainHouse" := ⟨hz_tm1 (List.mem_of_getElem? (i := 89) rfl), cd_X9_init, ini_X9, ⟨by decide +kernel, by decide +kernel, by decide +kernel⟩, by decide⟩
theorem co_X11_43 : hz_co RX11 43 xX3_init 3 := ⟨hz_tm1 (List.mem_of_getElem? (i := 113) rfl), cd_X3_init, ini_X3, ⟨by decide +kernel, by decide +kernel, by decide +kernel⟩, by decide⟩
theorem co_X3_11 : hz_cn RX3 11 xX1_init 0 "ChainHouse" := ⟨hz_tm1 (List.mem_of_getElem? (i := 119) rfl), cd_X1_init, ini_X1, ⟨by decide +kernel, by decide +kernel, by decide +kernel⟩, by decide⟩
theorem co_X11_52 : hz_cn RX11 52 xX2_init 0 "ChainHouse" := ⟨hz_tm1 (List.mem_of_getElem? (i := 199) rfl), cd_X2_init, ini_X2, ⟨by decide +kernel, by decide +kernel, by decide +kernel⟩, by decide⟩
theorem co_X11_59 : hz_co RX11 59 xX5_init 1 := ⟨hz_tm1 (List.mem_of_getElem? (i := 230) rfl), cd_X5_init, ini_X5, ⟨by decide +kernel, by decide +kernel, by decide +kernel⟩, by decide⟩
theorem co_X5_12 : hz_co RX5 12 xX7_init 2 := ⟨hz_tm1 (List.mem_of_getElem? (i := 237) rfl), cd_X7_init, ini_X7, ⟨by decide +kernel, by decide +kernel, by decide +kernel⟩, by decide⟩
theorem co_X11_86 : hz_co RX11 86 xX7_init 2 := ⟨hz_tm2 (List.mem_of_getElem? (i := 81) rfl), cd_X7_init, ini_X7, ⟨by decide +kernel, by decide +kernel, by decide +kernel⟩, by decide⟩
theorem co_X11_97 : hz_co RX11 97 xX11_makeFirst 1 := ⟨hz_tm2 (List.mem_of_getElem? (i := 82) rfl), cd_X11_makeFirst, ini_X11, ⟨by decide +kernel, by decide +kernel, by decide +kernel⟩, by decide⟩
theorem co_X11_127 : hz_co RX11 127 xX0_put 4 := ⟨hz_tm2 (List.mem_of_getElem? (i := 87) rfl), cd_X0_put, ini_X0, ⟨by decide +kernel, by decide +kernel, by decide +kernel⟩, by decide⟩
theorem co_X11_148 : hz_co RX11 148 xX4_addressOf 1 := ⟨hz_tm2 (List.mem_of_getElem? (i := 92) rfl), cd_X4_addressOf, ini_X4, ⟨by decide +kernel, by decide +kernel, by decide +kernel⟩, by decide⟩
theorem co_X4_58 : hz_co RX4 58 xX4_startFrom 1 := ⟨hz_tm2 (List.mem_of_getElem? (i := 96) rfl), cd_X4_startFrom, ini_X4, ⟨by decide +kernel, by decide +kernel, by decide +kernel⟩, by decide⟩
theorem co_X4_36 : hz_co RX4 36 xX0_put 4 := ⟨hz_tm2 (List.mem_of_getElem? (i := 100) rfl), cd_X0_put, ini_X0, ⟨by decide +kernel, by decide +kernel, by decide +kernel⟩, by decide⟩
theorem co_X4_42 : hz_co RX4 42 xX8_digest 3 := ⟨hz_tm2 (List.mem_of_getElem? (i := 101) rfl), cd_X8_digest, ini_X8, ⟨by decide +kernel, by decide +kernel, by decide +kernel⟩, by decide⟩
theorem co_X4_48 : hz_co RX4 48 xX8_limbOf 1 := ⟨hz_tm2 (List.mem_of_getElem? (i := 109) rfl), cd_X8_limbOf, ini_X8, ⟨by decide +kernel, by decide +kernel, by decide +kernel⟩, by decide⟩
theorem co_X4_65 : hz_co RX4 65 xX4_climb 2 := ⟨hz_tm2 (List.mem_of_getElem? (i := 118) rfl), cd_X4_climb, ini_X4, ⟨by decide +kernel, by decide +kernel, by decide +kernel⟩, by decide⟩
theorem co_X4_72 : hz_co RX4 72 xX4_addressOfEnds 0 := ⟨hz_tm2 (List.mem_of_getElem? (i := 122) rfl), cd_X4_addressOfEnds, ini_X4, ⟨by decide +kernel, by decide +kernel, by decide +kernel⟩, by decide⟩
theorem co_X11_266 : hz_co RX11 266 xX0_putReward 5 := ⟨hz_tm2 (List.mem_of_getElem? (i := 126) rfl), cd_X0_putReward, ini_X0, ⟨by decide +kernel, by decide +kernel, by decide +kernel⟩, by decide⟩
theorem co_X0_37 : hz_co RX0 37 xX0_put 4 := ⟨hz_tm2 (List.mem_of_getElem? (i := 129) rfl), cd_X0_put, ini_X0, ⟨by decide +kernel, by decide +kernel, by decide +kernel⟩, by decide⟩
theorem co_X11_270 : hz_co RX11 270 xX3_putRoot 2 := ⟨hz_tm2 (List.mem_of_getElem? (i := 130) rfl), cd_X3_putRoot, ini_X3, ⟨by decide +kernel, by decide +kernel, by decide +kernel⟩, by decide⟩
theorem co_X3_90 : hz_co RX3 90 xX0_blockStarts 3 := ⟨hz_tm2 (List.mem_of_getElem? (i := 134) rfl), cd_X0_blockStarts, ini_X0, ⟨by decide +kernel, by decide +kernel, by decide +kernel⟩, by decide⟩
theorem co_X0_15 : hz_co RX0 15 xX0_transactionLength 3 := ⟨hz_tm2 (List.mem_of_getElem? (i := 137) rfl), cd_X0_transactionLength, ini_X0, ⟨by decide +kernel, by decide +kernel, by decide +kernel⟩, by decide⟩
theorem co_X3_104 : hz_co RX3 104 xX3_makeRoot 2 := ⟨hz_tm2 (List.mem_of_getElem? (i := 140) rfl), cd_X3_makeRoot, ini_X3, ⟨by decide +kernel, by decide +kernel, by decide +kernel⟩, by decide⟩
theorem co_X3_48 : hz_co RX3 48 xX8_digest 3 := ⟨hz_tm2 (List.mem_of_getElem? (i := 144) rfl), cd_X8_digest, ini_X8, ⟨by decide +kernel, by decide +kernel, by decide +kernel⟩, by decide⟩
theorem co_X3_230 : hz_co RX3 230 xX8_limbOf 1 := ⟨hz_tm2 (List.mem_of_getElem? (i := 145) rfl), cd_X8_limbOf, ini_X8, ⟨by decide +kernel, by decide +kernel, by decide +kernel⟩, by decide⟩
theorem co_X3_54 : hz_co RX3 54 xX8_again 0 := ⟨hz_tm2 (List.mem_of_getElem? (i := 146) rfl), cd_X8_again, ini_X8, ⟨by decide +kernel, by decide +kernel, by decide +kernel⟩, by decide⟩
theorem co_X8_28 : hz_co RX8 28 xX8_writeTo 2 := ⟨hz_tm2 (List.mem_of_getElem? (i := 150) rfl), cd_X8_writeTo, ini_X8, ⟨by decide +kernel, by decide +kernel, by decide +kernel⟩, by decide⟩
theorem co_X8_36 : hz_co RX8 36 xX0_put 4 := ⟨hz_tm2 (List.mem_of_getElem? (i := 154) rfl), cd_X0_put, ini_X0, ⟨by decide +kernel, by decide +kernel, by decide +kernel⟩, by decide⟩
theorem co_X8_32 : hz_co RX8 32 xX8_digest 3 := ⟨hz_tm2 (List.mem_of_getElem? (i := 155) rfl), cd_X8_digest, ini_X8, ⟨by decide +kernel, by decide +kernel, by decide +kernel⟩, by decide⟩
theorem co_X3_57 : hz_co RX3 57 xX8_writeTo 2 := ⟨hz_tm2 (List.mem_of_getElem? (i := 156) rfl), cd_X8_writeTo, ini_X8, ⟨by decide +kernel, by decide +kernel, by decide +kernel⟩, by decide⟩
theorem co_X3_245 : hz_co RX3 245 xX0_copy 5 := ⟨hz_tm2 (List.mem_of_getElem? (i := 157) rfl), cd_X0_copy, ini_X0, ⟨by decide +kernel, by decide +kernel, by decide +kernel⟩, by decide⟩
theorem co_X3_107 : hz_co RX3 107 xX0_same 5 := ⟨hz_tm2 (List.mem_of_getElem? (i := 163) rfl), cd_X0_same, ini_X0, ⟨by decide +kernel, by decide +kernel, by decide +kernel⟩, by decide⟩
theorem co_X11_281 : hz_co RX11 281 xX9_load 1 := ⟨hz_tm2 (List.mem_of_getElem? (i := 167) rfl), cd_X9_load, ini_X9, ⟨by decide +kernel, by decide +kernel, by decide +kernel⟩, by decide⟩
theorem co_X9_30 : hz_co RX9 30 xJ7_fill_53178 2 := ⟨hz_tm2 (List.mem_of_getElem? (i := 171) rfl), cd_J7_fill_53178, ini_J7, ⟨by decide +kernel, by decide +kernel, by decide +kernel⟩, by decide⟩
theorem co_X9_36 : hz_co RX9 36 xX9_putByte 2 := ⟨hz_tm2 (List.mem_of_getElem? (i := 174) rfl), cd_X9_putByte, ini_X9, ⟨by decide +kernel, by decide +kernel, by decide +kernel⟩, by decide⟩
theorem co_X11_284 : hz_co RX11 284 xX11_meetsWith 2 := ⟨hz_tm2 (List.mem_of_getElem? (i := 179) rfl), cd_X11_meetsWith, ini_X11, ⟨by decide +kernel, by decide +kernel, by decide +kernel⟩, by decide⟩
theorem co_X11_133 : hz_co RX11 133 xX8_digest 3 := ⟨hz_tm2 (List.mem_of_getElem? (i := 183) rfl), cd_X8_digest, ini_X8, ⟨by decide +kernel, by decide +kernel, by decide +kernel⟩, by decide⟩
theorem co_X11_137 : hz_co RX11 137 xX8_again 0 := ⟨hz_tm2 (List.mem_of_getElem? (i := 184) rfl), cd_X8_again, ini_X8, ⟨by decide +kernel, by decide +kernel, by decide +kernel⟩, by decide⟩
theorem co_X11_440 : hz_co RX11 440 xX9_isMetBy 1 := ⟨hz_tm2 (List.mem_of_getElem? (i := 185) rfl), cd_X9_isMetBy, ini_X9, ⟨by decide +kernel, by decide +kernel, by decide +kernel⟩, by decide⟩
theorem co_X9_40 : hz_co RX9 40 xX9_compareWords 4 := ⟨hz_tm2 (List.mem_of_getElem? (i := 189) rfl), cd_X9_compareWords, ini_X9, ⟨by decide +kernel, by decide +kernel, by decide +kernel⟩, by decide⟩
theorem co_X11_433 : hz_co RX11 433 xX3_works 2 := ⟨hz_tm2 (List.mem_of_getElem? (i := 193) rfl), cd_X3_works, ini_X3, ⟨by decide +kernel, by decide +kernel, by decide +kernel⟩, by decide⟩
theorem co_X3_61 : hz_co RX3 61 xX0_number 3 := ⟨hz_tm2 (List.mem_of_getElem? (i := 197) rfl), cd_X0_number, ini_X0, ⟨by decide +kernel, by decide +kernel, by decide +kernel⟩, by decide⟩
theorem co_X3_67 : hz_co RX3 67 xX9_load 1 := ⟨hz_tm2 (List.mem_of_getElem? (i := 200) rfl), cd_X9_load, ini_X9, ⟨by decide +kernel, by decide +kernel, by decide +kernel⟩, by decide⟩
theorem co_X3_73 : hz_co RX3 73 xX9_isRight 1 := ⟨hz_tm2 (List.mem_of_getElem? (i := 201) rfl), cd_X9_isRight, ini_X9, ⟨by decide +kernel, by decide +kernel, by decide +kernel⟩, by decide⟩
theorem co_X3_80 : hz_co RX3 80 xX9_isMetBy 1 := ⟨hz_tm2 (List.mem_of_getElem? (i := 208) rfl), cd_X9_isMetBy, ini_X9, ⟨by decide +kernel, by decide +kernel, by decide +kernel⟩, by decide⟩
theorem co_X11_101 : hz_co RX11 101 xX6_init 2 := ⟨hz_tm2 (List.mem_of_getElem? (i := 210) rfl), cd_X6_init, ini_X6, ⟨by decide +kernel, by decide +kernel, by decide +kernel⟩, by decide⟩
theorem co_X6_25 : hz_cn RX6 25 xX1_init 0 "ChainHouse" := ⟨hz_tm2 (List.mem_of_getElem? (i := 215) rfl), cd_X1_init, ini_X1, ⟨by decide +kernel, by decide +kernel, by decide +kernel⟩, by decide⟩
theorem co_X6_32 : hz_co RX6 32 xX7_init 2 := ⟨hz_tm2 (List.mem_of_getElem? (i := 217) rfl), cd_X7_init, ini_X7, ⟨by decide +kernel, by decide +kernel, by decide +kernel⟩, by decide⟩
theorem co_X6_58 : hz_co RX6 58 xX10_init 1 := ⟨hz_tm2 (List.mem_of_getElem? (i := 220) rfl), cd_X10_init, ini_X10, ⟨by decide +kernel, by decide +kernel, by decide +kernel⟩, by decide⟩
theorem co_X10_11 : hz_co RX10 11 xX7_init 2 := ⟨hz_tm2 (List.mem_of_getElem? (i := 225) rfl), cd_X7_init, ini_X7, ⟨by decide +kernel, by decide +kernel, by decide +kernel⟩, by decide⟩
theorem co_X11_115 : hz_co RX11 115 xX10_add 5 := ⟨hz_tm3 (List.mem_of_getElem? (i := 96) rfl), cd_X10_add, ini_X10, ⟨by decide +kernel, by decide +kernel, by decide +kernel⟩, by decide⟩
theorem co_X10_73 : hz_co RX10 73 xX7_add 3 := ⟨hz_tm3 (List.mem_of_getElem? (i := 100) rfl), cd_X7_add, ini_X7, ⟨by decide +kernel, by decide +kernel, by decide +kernel⟩, by decide⟩
theorem co_X10_77 : hz_co RX10 77 xX0_copy 5 := ⟨hz_tm3 (List.mem_of_getElem? (i := 105) rfl), cd_X0_copy, ini_X0, ⟨by decide +kernel, by decide +kernel, by decide +kernel⟩, by decide⟩
theorem co_X10_87 : hz_co RX10 87 xX10_note 4 := ⟨hz_tm3 (List.mem_of_getElem? (i := 107) rfl), cd_X10_note, ini_X10, ⟨by decide +kernel, by decide +kernel, by decide +kernel⟩, by decide⟩
theorem co_X10_117 : hz_co RX10 117 xX0_number 3 := ⟨hz_tm3 (List.mem_of_getElem? (i := 111) rfl), cd_X0_number, ini_X0, ⟨by decide +kernel, by decide +kernel, by decide +kernel⟩, by decide⟩
theorem co_X10_91 : hz_co RX10 91 xX9_makeWork 1 := ⟨hz_tm3 (List.mem_of_getElem? (i := 112) rfl), cd_X9_makeWork, ini_X9, ⟨by decide +kernel, by decide +kernel, by decide +kernel⟩, by decide⟩
theorem co_X9_49 : hz_co RX9 49 xX9_load 1 := ⟨hz_tm3 (List.mem_of_getElem? (i := 116) rfl), cd_X9_load, ini_X9, ⟨by decide +kernel, by decide +kernel, by decide +kernel⟩, by decide⟩
theorem co_X9_61 : hz_co RX9 61 xX9_twice 1 := ⟨hz_tm3 (List.mem_of_getElem? (i := 117) rfl), cd_X9_twice, ini_X9, ⟨by decide +kernel, by decide +kernel, by decide +kernel⟩, by decide⟩
theorem co_X9_65 : hz_co RX9 65 xX9_lessen 0 := ⟨hz_tm3 (List.mem_of_getElem? (i := 120) rfl), cd_X9_lessen, ini_X9, ⟨by decide +kernel, by decide +kernel, by decide +kernel⟩, by decide⟩
theorem co_X10_102 : hz_co RX10 102 xX9_compareWords 4 := ⟨hz_tm3 (List.mem_of_getElem? (i := 125) rfl), cd_X9_compareWords, ini_X9, ⟨by decide +kernel, by decide +kernel, by decide +kernel⟩, by decide⟩
theorem co_X10_106 : hz_co RX10 106 xX10_follow 2 := ⟨hz_tm3 (List.mem_of_getElem? (i := 126) rfl), cd_X10_follow, ini_X10, ⟨by decide +kernel, by decide +kernel, by decide +kernel⟩, by decide⟩
theorem co_X11_121 : hz_co RX11 121 xX6_forget 0 := ⟨hz_tm3 (List.mem_of_getElem? (i := 130) rfl), cd_X6_forget, ini_X6, ⟨by decide +kernel, by decide +kernel, by decide +kernel⟩, by decide⟩
theorem co_X6_65 : hz_co RX6 65 xX7_clear 0 := ⟨hz_tm3 (List.mem_of_getElem? (i := 134) rfl), cd_X7_clear, ini_X7, ⟨by decide +kernel, by decide +kernel, by decide +kernel⟩, by decide⟩
theorem co_X6_71 : hz_co RX6 71 xX1_replay 2 := ⟨hz_tm3 (List.mem_of_getElem? (i := 138) rfl), cd_X1_replay, ini_X1, ⟨by decide +kernel, by decide +kernel, by decide +kernel⟩, by decide⟩
theorem co_X1_71 : hz_co RX1 71 xX10_follow 2 := ⟨hz_tm3 (List.mem_of_getElem? (i := 142) rfl), cd_X10_follow, ini_X10, ⟨by decide +kernel, by decide +kernel, by decide +kernel⟩, by decide⟩
theorem co_X1_45 : hz_co RX1 45 xX0_one 2 := ⟨hz_tm3 (List.mem_of_getElem? (i := 143) rfl), cd_X0_one, ini_X0, ⟨by decide +kernel, by decide +kernel, by decide +kernel⟩, by decide⟩
theorem co_X1_90 : hz_co RX1 90 xJ9_min_7cf53 2 := ⟨hz_tm3 (List.mem_of_getElem? (i := 146) rfl), cd_J9_min_7cf53, ini_J9, ⟨by decide +kernel, by decide +kernel, by decide +kernel⟩, by decide⟩
theorem co_X1_98 : hz_co RX1 98 xX1_apply 4 := ⟨hz_tm3 (List.mem_of_getElem? (i := 147) rfl), cd_X1_apply, ini_X1, ⟨by decide +kernel, by decide +kernel, by decide +kernel⟩, by decide⟩
theorem co_X1_51 : hz_co RX1 51 xX0_inputAt 2 := ⟨hz_tm3 (List.mem_of_getElem? (i := 151) rfl), cd_X0_inputAt, ini_X0, ⟨by decide +kernel, by decide +kernel, by decide +kernel⟩, by decide⟩
theorem co_X1_55 : hz_co RX1 55 xX0_number 3 := ⟨hz_tm3 (List.mem_of_getElem? (i := 154) rfl), cd_X0_number, ini_X0, ⟨by decide +kernel, by decide +kernel, by decide +kernel⟩, by decide⟩
theorem co_X1_59 : hz_co RX1 59 xX1_indexOf 2 := ⟨hz_tm3 (List.mem_of_getElem? (i := 155) rfl), cd_X1_indexOf, ini_X1, ⟨by decide +kernel, by decide +kernel, by decide +kernel⟩, by decide⟩
theorem co_X1_63 : hz_co RX1 63 xX1_remove 1 := ⟨hz_tm3 (List.mem_of_getElem? (i := 159) rfl), cd_X1_remove, ini_X1, ⟨by decide +kernel, by decide +kernel, by decide +kernel⟩, by decide⟩
theorem co_X1_67 : hz_co RX1 67 xX0_outputAt 3 := ⟨hz_tm3 (List.mem_of_getElem? (i := 164) rfl), cd_X0_outputAt, ini_X0, ⟨by decide +kernel, by decide +kernel, by decide +kernel⟩, by decide⟩
theorem co_X1_102 : hz_co RX1 102 xX0_transactionLength 3 := ⟨hz_tm3 (List.mem_of_getElem? (i := 167) rfl), cd_X0_transactionLength, ini_X0, ⟨by decide +kernel, by decide +kernel, by decide +kernel⟩, by decide⟩
theorem co_X11_140 : hz_co RX11 140 xX8_limbOf 1 := ⟨hz_tm3 (List.mem_of_getElem? (i := 224) rfl), cd_X8_limbOf, ini_X8, ⟨by decide +kernel, by decide +kernel, by decide +kernel⟩, by decide⟩
theorem co_X11_144 : hz_co RX11 144 xX4_partBehind 3 := ⟨hz_tm3 (List.mem_of_getElem? (i := 229) rfl), cd_X4_partBehind, ini_X4, ⟨by decide +kernel, by decide +kernel, by decide +kernel⟩, by decide⟩
theorem co_X4_52 : hz_co RX4 52 xJ7_fill_53178 2 := ⟨hz_tm3 (List.mem_of_getElem? (i := 233) rfl), cd_J7_fill_53178, ini_J7, ⟨by decide +kernel, by decide +kernel, by decide +kernel⟩, by decide⟩
theorem co_X11_158 : hz_co RX11 158 xX2_addInput 3 := ⟨hz_tm4 (List.mem_of_getElem? (i := 6) rfl), cd_X2_addInput, ini_X2, ⟨by decide +kernel, by decide +kernel, by decide +kernel⟩, by decide⟩
theorem co_X11_162 : hz_co RX11 162 xX11_nodeOf 1 := ⟨hz_tm4 (List.mem_of_getElem? (i := 14) rfl), cd_X11_nodeOf, ini_X11, ⟨by decide +kernel, by decide +kernel, by decide +kernel⟩, by decide⟩
theorem co_X11_185 : hz_co RX11 185 xX2_addOutput 2 := ⟨hz_tm4 (List.mem_of_getElem? (i := 22) rfl), cd_X2_addOutput, ini_X2, ⟨by decide +kernel, by decide +kernel, by decide +kernel⟩, by decide⟩
theorem co_X11_189 : hz_co RX11 189 xX2_write 2 := ⟨hz_tm4 (List.mem_of_getElem? (i := 34) rfl), cd_X2_write, ini_X2, ⟨by decide +kernel, by decide +kernel, by decide +kernel⟩, by decide⟩
theorem co_X2_35 : hz_co RX2 35 xX0_put 4 := ⟨hz_tm4 (List.mem_of_getElem? (i := 38) rfl), cd_X0_put, ini_X0, ⟨by decide +kernel, by decide +kernel, by decide +kernel⟩, by decide⟩
theorem co_X2_41 : hz_co RX2 41 xX0_inputAt 2 := ⟨hz_tm4 (List.mem_of_getElem? (i := 39) rfl), cd_X0_inputAt, ini_X0, ⟨by decide +kernel, by decide +kernel, by decide +kernel⟩, by decide⟩
theorem co_X2_45 : hz_co RX2 45 xX0_outputAt 3 := ⟨hz_tm4 (List.mem_of_getElem? (i := 40) rfl), cd_X0_outputAt, ini_X0, ⟨by decide +kernel, by decide +kernel, by decide +kernel⟩, by decide⟩
theorem co_X11_193 : hz_co RX11 193 xX4_readDigits 3 := ⟨hz_tm4 (List.mem_of_getElem? (i := 41) rfl), cd_X4_readDigits, ini_X4, ⟨by decide +kernel, by decide +kernel, by decide +kernel⟩, by decide⟩
theorem co_X4_86 : hz_co RX4 86 xJ9_min_7cf53 2 := ⟨hz_tm4 (List.mem_of_getElem? (i := 46) rfl), cd_J9_min_7cf53, ini_J9, ⟨by decide +kernel, by decide +kernel, by decide +kernel⟩, by decide⟩
theorem co_X4_92 : hz_co RX4 92 xX0_inputAt 2 := ⟨hz_tm4 (List.mem_of_getElem? (i := 47) rfl), cd_X0_inputAt, ini_X0, ⟨by decide +kernel, by decide +kernel, by decide +kernel⟩, by decide⟩
theorem co_X4_95 : hz_co RX4 95 xJ7_fill_eb02e 4 := ⟨hz_tm4 (List.mem_of_getElem? (i := 48) rfl), cd_J7_fill_eb02e, ini_J7, ⟨by decide +kernel, by decide +kernel, by decide +kernel⟩, by decide⟩
theorem co_J7_13 : hz_co RJ7 13 xJ7_rangeCheck_23922 3 := ⟨hz_tm4 (List.mem_of_getElem? (i := 51) rfl), cd_J7_rangeCheck_23922, ini_J7, ⟨by decide +kernel, by decide +kernel, by decide +kernel⟩, by decide⟩
theorem co_X11_199 : hz_co RX11 199 xX4_startFrom 1 := ⟨hz_tm4 (List.mem_of_getElem? (i := 54) rfl), cd_X4_startFrom, ini_X4, ⟨by decide +kernel, by decide +kernel, by decide +kernel⟩, by decide⟩
theorem co_X11_209 : hz_co RX11 209 xX4_climb 2 := ⟨hz_tm4 (List.mem_of_getElem? (i := 56) rfl), cd_X4_climb, ini_X4, ⟨by decide +kernel, by decide +kernel, by decide +kernel⟩, by decide⟩
theorem co_X11_213 : hz_co RX11 213 xX4_save 2 := ⟨hz_tm4 (List.mem_of_getElem? (i := 57) rfl), cd_X4_save, ini_X4, ⟨by decide +kernel, by decide +kernel, by decide +kernel⟩, by decide⟩
theorem co_X11_221 : hz_co RX11 221 xX7_lengthOf 1 := ⟨hz_tm4 (List.mem_of_getElem? (i := 65) rfl), cd_X7_lengthOf, ini_X7, ⟨by decide +kernel, by decide +kernel, by decide +kernel⟩, by decide⟩
theorem co_X11_231 : hz_co RX11 231 xX0_copy 5 := ⟨hz_tm4 (List.mem_of_getElem? (i := 69) rfl), cd_X0_copy, ini_X0, ⟨by decide +kernel, by decide +kernel, by decide +kernel⟩, by decide⟩
theorem co_X11_238 : hz_co RX11 238 xX10_middleTime 1 := ⟨hz_tm4 (List.mem_of_getElem? (i := 74) rfl), cd_X10_middleTime, ini_X10, ⟨by decide +kernel, by decide +kernel, by decide +kernel⟩, by decide⟩
theorem co_X11_247 : hz_co RX11 247 xX10_dueBits 1 := ⟨hz_tm4 (List.mem_of_getElem? (i := 78) rfl), cd_X10_dueBits, ini_X10, ⟨by decide +kernel, by decide +kernel, by decide +kernel⟩, by decide⟩
theorem co_X10_121 : hz_co RX10 121 xX9_load 1 := ⟨hz_tm4 (List.mem_of_getElem? (i := 82) rfl), cd_X9_load, ini_X9, ⟨by decide +kernel, by decide +kernel, by decide +kernel⟩, by decide⟩
theorem co_X10_58 : hz_co RX10 58 xJ9_min_7cf53 2 := ⟨hz_tm4 (List.mem_of_getElem? (i := 83) rfl), cd_J9_min_7cf53, ini_J9, ⟨by decide +kernel, by decide +kernel, by decide +kernel⟩, by decide⟩
theorem co_X10_124 : hz_co RX10 124 xJ9_max_7cf53 2 := ⟨hz_tm4 (List.mem_of_getElem? (i := 84) rfl), cd_J9_max_7cf53, ini_J9, ⟨by decide +kernel, by decide +kernel, by decide +kernel⟩, by decide⟩
theorem co_X10_127 : hz_co RX10 127 xX9_scale 1 := ⟨hz_tm4 (List.mem_of_getElem? (i := 85) rfl), cd_X9_scale, ini_X9, ⟨by decide +kernel, by decide +kernel, by decide +kernel⟩, by decide⟩
theorem co_X10_130 : hz_co RX10 130 xX9_toBits 0 := ⟨hz_tm4 (List.mem_of_getElem? (i := 92) rfl), cd_X9_toBits, ini_X9, ⟨by decide +kernel, by decide +kernel, by decide +kernel⟩, by decide⟩
theorem co_X9_53 : hz_co RX9 53 xX9_byteOf 1 := ⟨hz_tm4 (List.mem_of_getElem? (i := 96) rfl), cd_X9_byteOf, ini_X9, ⟨by decide +kernel, by decide +kernel, by decide +kernel⟩, by decide⟩
theorem co_X11_250 : hz_co RX11 250 xX6_chooseGreatest 0 := ⟨hz_tm4 (List.mem_of_getElem? (i := 100) rfl), cd_X6_chooseGreatest, ini_X6, ⟨by decide +kernel, by decide +kernel, by decide +kernel⟩, by decide⟩
theorem co_X11_263 : hz_co RX11 263 xX3_subsidyAt 1 := ⟨hz_tm4 (List.mem_of_getElem? (i := 104) rfl), cd_X3_subsidyAt, ini_X3, ⟨by decide +kernel, by decide +kernel, by decide +kernel⟩, by decide⟩
theorem co_X11_273 : hz_co RX11 273 xX0_number 3 := ⟨hz_tm4 (List.mem_of_getElem? (i := 115) rfl), cd_X0_number, ini_X0, ⟨by decide +kernel, by decide +kernel, by decide +kernel⟩, by decide⟩
theorem co_X11_277 : hz_co RX11 277 xX9_isRight 1 := ⟨hz_tm4 (List.mem_of_getElem? (i := 116) rfl), cd_X9_isRight, ini_X9, ⟨by decide +kernel, by decide +kernel, by decide +kernel⟩, by decide⟩
theorem co_X11_288 : hz_co RX11 288 xX3_ofBlock 4 := ⟨hz_tm4 (List.mem_of_getElem? (i := 121) rfl), cd_X3_ofBlock, ini_X3, ⟨by decide +kernel, by decide +kernel, by decide +kernel⟩, by decide⟩
theorem co_X3_94 : hz_co RX3 94 xX3_works 2 := ⟨hz_tm4 (List.mem_of_getElem? (i := 125) rfl), cd_X3_works, ini_X3, ⟨by decide +kernel, by decide +kernel, by decide +kernel⟩, by decide⟩
theorem co_X3_98 : hz_co RX3 98 xX10_indexOf 2 := ⟨hz_tm4 (List.mem_of_getElem? (i := 126) rfl), cd_X10_indexOf, ini_X10, ⟨by decide +kernel, by decide +kernel, by decide +kernel⟩, by decide⟩
theorem co_X10_67 : hz_co RX10 67 xX0_same 5 := ⟨hz_tm4 (List.mem_of_getElem? (i := 130) rfl), cd_X0_same, ini_X0, ⟨by decide +kernel, by decide +kernel, by decide +kernel⟩, by decide⟩
theorem co_X3_111 : hz_co RX3 111 xX0_one 2 := ⟨hz_tm4 (List.mem_of_getElem? (i := 131) rfl), cd_X0_one, ini_X0, ⟨by decide +kernel, by decide +kernel, by decide +kernel⟩, by decide⟩
theorem co_X3_118 : hz_co RX3 118 xX10_dueBits 1 := ⟨hz_tm4 (List.mem_of_getElem? (i := 132) rfl), cd_X10_dueBits, ini_X10, ⟨by decide +kernel, by decide +kernel, by decide +kernel⟩, by decide⟩
theorem co_X3_122 : hz_co RX3 122 xX10_middleTime 1 := ⟨hz_tm4 (List.mem_of_getElem? (i := 133) rfl), cd_X10_middleTime, ini_X10, ⟨by decide +kernel, by decide +kernel, by decide +kernel⟩, by decide⟩
theorem co_X3_128 : hz_co RX3 128 xX1_replay 2 := ⟨hz_tm4 (List.mem_of_getElem? (i := 134) rfl), cd_X1_replay, ini_X1, ⟨by decide +kernel, by decide +kernel, by decide +kernel⟩, by decide⟩
theorem co_X3_132 : hz_co RX3 132 xX3_ofTransactions 3 := ⟨hz_tm4 (List.mem_of_getElem? (i := 135) rfl), cd_X3_ofTransactions, ini_X3, ⟨by decide +kernel, by decide +kernel, by decide +kernel⟩, by decide⟩
theorem co_X3_139 : hz_co RX3 139 xX3_subsidyAt 1 := ⟨hz_tm4 (List.mem_of_getElem? (i := 139) rfl), cd_X3_subsidyAt, ini_X3, ⟨by decide +kernel, by decide +kernel, by decide +kernel⟩, by decide⟩
theorem co_X3_142 : hz_co RX3 142 xX3_ofTransaction 6 := ⟨hz_tm4 (List.mem_of_getElem? (i := 140) rfl), cd_X3_ofTransaction, ini_X3, ⟨by decide +kernel, by decide +kernel, by decide +kernel⟩, by decide⟩
theorem co_X3_162 : hz_co RX3 162 xX4_readDigits 3 := ⟨hz_tm4 (List.mem_of_getElem? (i := 144) rfl), cd_X4_readDigits, ini_X4, ⟨by decide +kernel, by decide +kernel, by decide +kernel⟩, by decide⟩
theorem co_X3_167 : hz_co RX3 167 xX0_inputAt 2 := ⟨hz_tm4 (List.mem_of_getElem? (i := 145) rfl), cd_X0_inputAt, ini_X0, ⟨by decide +kernel, by decide +kernel, by decide +kernel⟩, by decide⟩
theorem co_X3_171 : hz_co RX3 171 xX1_indexOf 2 := ⟨hz_tm4 (List.mem_of_getElem? (i := 146) rfl), cd_X1_indexOf, ini_X1, ⟨by decide +kernel, by decide +kernel, by decide +kernel⟩, by decide⟩
theorem co_X3_174 : hz_co RX3 174 xX3_hasInput 5 := ⟨hz_tm4 (List.mem_of_getElem? (i := 147) rfl), cd_X3_hasInput, ini_X3, ⟨by decide +kernel, by decide +kernel, by decide +kernel⟩, by decide⟩
theorem co_X3_183 : hz_co RX3 183 xX4_load 2 := ⟨hz_tm4 (List.mem_of_getElem? (i := 150) rfl), cd_X4_load, ini_X4, ⟨by decide +kernel, by decide +kernel, by decide +kernel⟩, by decide⟩
theorem co_X4_76 : hz_co RX4 76 xX0_number 3 := ⟨hz_tm4 (List.mem_of_getElem? (i := 154) rfl), cd_X0_number, ini_X0, ⟨by decide +kernel, by decide +kernel, by decide +kernel⟩, by decide⟩
theorem co_X3_191 : hz_co RX3 191 xX4_climb 2 := ⟨hz_tm4 (List.mem_of_getElem? (i := 156) rfl), cd_X4_climb, ini_X4, ⟨by decide +kernel, by decide +kernel, by decide +kernel⟩, by decide⟩
theorem co_X3_195 : hz_co RX3 195 xX4_addressOfEnds 0 := ⟨hz_tm4 (List.mem_of_getElem? (i := 157) rfl), cd_X4_addressOfEnds, ini_X4, ⟨by decide +kernel, by decide +kernel, by decide +kernel⟩, by decide⟩
theorem co_X3_154 : hz_co RX3 154 xX0_paidBy 2 := ⟨hz_tm4 (List.mem_of_getElem? (i := 158) rfl), cd_X0_paidBy, ini_X0, ⟨by decide +kernel, by decide +kernel, by decide +kernel⟩, by decide⟩
theorem co_X0_21 : hz_co RX0 21 xX0_one 2 := ⟨hz_tm4 (List.mem_of_getElem? (i := 161) rfl), cd_X0_one, ini_X0, ⟨by decide +kernel, by decide +kernel, by decide +kernel⟩, by decide⟩
theorem co_X0_25 : hz_co RX0 25 xX0_outputAt 3 := ⟨hz_tm4 (List.mem_of_getElem? (i := 162) rfl), cd_X0_outputAt, ini_X0, ⟨by decide +kernel, by decide +kernel, by decide +kernel⟩, by decide⟩
theorem co_X0_29 : hz_co RX0 29 xX0_number 3 := ⟨hz_tm4 (List.mem_of_getElem? (i := 163) rfl), cd_X0_number, ini_X0, ⟨by decide +kernel, by decide +kernel, by decide +kernel⟩, by decide⟩
theorem co_X3_158 : hz_co RX3 158 xX1_holds 1 := ⟨hz_tm4 (List.mem_of_getElem? (i := 166) rfl), cd_X1_holds, ini_X1, ⟨by decide +kernel, by decide +kernel, by decide +kernel⟩, by decide⟩
theorem co_X3_150 : hz_co RX3 150 xX1_apply 4 := ⟨hz_tm4 (List.mem_of_getElem? (i := 170) rfl), cd_X1_apply, ini_X1, ⟨by decide +kernel, by decide +kernel, by decide +kernel⟩, by decide⟩
theorem co_X3_136 : hz_co RX3 136 xX6_hasRoomFor 1 := ⟨hz_tm4 (List.mem_of_getElem? (i := 171) rfl), cd_X6_hasRoomFor, ini_X6, ⟨by decide +kernel, by decide +kernel, by decide +kernel⟩, by decide⟩
theorem co_X11_292 : hz_co RX11 292 xX3_forPool 5 := ⟨hz_tm4 (List.mem_of_getElem? (i := 175) rfl), cd_X3_forPool, ini_X3, ⟨by decide +kernel, by decide +kernel, by decide +kernel⟩, by decide⟩
theorem co_X3_209 : hz_co RX3 209 xX0_transactionLength 3 := ⟨hz_tm4 (List.mem_of_getElem? (i := 179) rfl), cd_X0_transactionLength, ini_X0, ⟨by decide +kernel, by decide +kernel, by decide +kernel⟩, by decide⟩
theorem co_X3_217 : hz_co RX3 217 xX7_lengthOf 1 := ⟨hz_tm4 (List.mem_of_getElem? (i := 180) rfl), cd_X7_lengthOf, ini_X7, ⟨by decide +kernel, by decide +kernel, by decide +kernel⟩, by decide⟩
theorem co_X3_234 : hz_co RX3 234 xX3_clashes 3 := ⟨hz_tm4 (List.mem_of_getElem? (i := 181) rfl), cd_X3_clashes, ini_X3, ⟨by decide +kernel, by decide +kernel, by decide +kernel⟩, by decide⟩
theorem co_X3_241 : hz_co RX3 241 xX7_add 3 := ⟨hz_tm4 (List.mem_of_getElem? (i := 184) rfl), cd_X7_add, ini_X7, ⟨by decide +kernel, by decide +kernel, by decide +kernel⟩, by decide⟩
theorem co_X11_296 : hz_co RX11 296 xX5_hold 3 := ⟨hz_tm4 (List.mem_of_getElem? (i := 189) rfl), cd_X5_hold, ini_X5, ⟨by decide +kernel, by decide +kernel, by decide +kernel⟩, by decide⟩
theorem co_X5_86 : hz_co RX5 86 xX0_copy 5 := ⟨hz_tm4 (List.mem_of_getElem? (i := 193) rfl), cd_X0_copy, ini_X0, ⟨by decide +kernel, by decide +kernel, by decide +kernel⟩, by decide⟩
theorem co_X11_302 : hz_co RX11 302 xX11_takeBlock 1 := ⟨hz_tm4 (List.mem_of_getElem? (i := 194) rfl), cd_X11_takeBlock, ini_X11, ⟨by decide +kernel, by decide +kernel, by decide +kernel⟩, by decide⟩
theorem co_X11_456 : hz_co RX11 456 xX11_keepOrphan 1 := ⟨hz_tm4 (List.mem_of_getElem? (i := 198) rfl), cd_X11_keepOrphan, ini_X11, ⟨by decide +kernel, by decide +kernel, by decide +kernel⟩, by decide⟩
theorem co_X11_487 : hz_co RX11 487 xX6_isLost 1 := ⟨hz_tm4 (List.mem_of_getElem? (i := 202) rfl), cd_X6_isLost, ini_X6, ⟨by decide +kernel, by decide +kernel, by decide +kernel⟩, by decide⟩
theorem co_X6_97 : hz_co RX6 97 xX0_same 5 := ⟨hz_tm4 (List.mem_of_getElem? (i := 206) rfl), cd_X0_same, ini_X0, ⟨by decide +kernel, by decide +kernel, by decide +kernel⟩, by decide⟩
theorem co_X11_484 : hz_co RX11 484 xX6_removeLost 1 := ⟨hz_tm4 (List.mem_of_getElem? (i := 207) rfl), cd_X6_removeLost, ini_X6, ⟨by decide +kernel, by decide +kernel, by decide +kernel⟩, by decide⟩
theorem co_X6_105 : hz_co RX6 105 xX7_remove 1 := ⟨hz_tm4 (List.mem_of_getElem? (i := 211) rfl), cd_X7_remove, ini_X7, ⟨by decide +kernel, by decide +kernel, by decide +kernel⟩, by decide⟩
theorem co_X7_23 : hz_co RX7 23 xX7_lengthOf 1 := ⟨hz_tm4 (List.mem_of_getElem? (i := 215) rfl), cd_X7_lengthOf, ini_X7, ⟨by decide +kernel, by decide +kernel, by decide +kernel⟩, by decide⟩
theorem co_X11_491 : hz_co RX11 491 xX6_addLost 3 := ⟨hz_tm4 (List.mem_of_getElem? (i := 216) rfl), cd_X6_addLost, ini_X6, ⟨by decide +kernel, by decide +kernel, by decide +kernel⟩, by decide⟩
theorem co_X6_101 : hz_co RX6 101 xX7_add 3 := ⟨hz_tm4 (List.mem_of_getElem? (i := 220) rfl), cd_X7_add, ini_X7, ⟨by decide +kernel, by decide +kernel, by decide +kernel⟩, by decide⟩
theorem co_X11_495 : hz_co RX11 495 xX11_sendAsk 1 := ⟨hz_tm4 (List.mem_of_getElem? (i := 221) rfl), cd_X11_sendAsk, ini_X11, ⟨by decide +kernel, by decide +kernel, by decide +kernel⟩, by decide⟩
theorem co_X11_309 : hz_co RX11 309 xX5_send 6 := ⟨hz_tm4 (List.mem_of_getElem? (i := 225) rfl), cd_X5_send, ini_X5, ⟨by decide +kernel, by decide +kernel, by decide +kernel⟩, by decide⟩
theorem co_X5_45 : hz_co RX5 45 xX5_delayOf 2 := ⟨hz_tm4 (List.mem_of_getElem? (i := 229) rfl), cd_X5_delayOf, ini_X5, ⟨by decide +kernel, by decide +kernel, by decide +kernel⟩, by decide⟩
theorem co_X5_52 : hz_co RX5 52 xX7_add 3 := ⟨hz_tm4 (List.mem_of_getElem? (i := 233) rfl), cd_X7_add, ini_X7, ⟨by decide +kernel, by decide +kernel, by decide +kernel⟩, by decide⟩
theorem co_X11_460 : hz_co RX11 460 xX11_keep 2 := ⟨hz_tm4 (List.mem_of_getElem? (i := 234) rfl), cd_X11_keep, ini_X11, ⟨by decide +kernel, by decide +kernel, by decide +kernel⟩, by decide⟩
theorem co_X11_464 : hz_co RX11 464 xX3_sealOf 3 := ⟨hz_tm4 (List.mem_of_getElem? (i := 238) rfl), cd_X3_sealOf, ini_X3, ⟨by decide +kernel, by decide +kernel, by decide +kernel⟩, by decide⟩
theorem co_X3_249 : hz_co RX3 249 xX0_put 4 := ⟨hz_tm5 (List.mem_of_getElem? (i := 2) rfl), cd_X0_put, ini_X0, ⟨by decide +kernel, by decide +kernel, by decide +kernel⟩, by decide⟩
theorem co_X11_468 : hz_co RX11 468 xX6_write 3 := ⟨hz_tm5 (List.mem_of_getElem? (i := 3) rfl), cd_X6_write, ini_X6, ⟨by decide +kernel, by decide +kernel, by decide +kernel⟩, by decide⟩
theorem co_X6_78 : hz_co RX6 78 xX6_hasRoomFor 1 := ⟨hz_tm5 (List.mem_of_getElem? (i := 7) rfl), cd_X6_hasRoomFor, ini_X6, ⟨by decide +kernel, by decide +kernel, by decide +kernel⟩, by decide⟩
theorem co_X6_82 : hz_co RX6 82 xX0_put 4 := ⟨hz_tm5 (List.mem_of_getElem? (i := 8) rfl), cd_X0_put, ini_X0, ⟨by decide +kernel, by decide +kernel, by decide +kernel⟩, by decide⟩
theorem co_X11_473 : hz_co RX11 473 xX11_renewPool 2 := ⟨hz_tm5 (List.mem_of_getElem? (i := 9) rfl), cd_X11_renewPool, ini_X11, ⟨by decide +kernel, by decide +kernel, by decide +kernel⟩, by decide⟩
theorem co_X11_498 : hz_co RX11 498 xX1_replay 2 := ⟨hz_tm5 (List.mem_of_getElem? (i := 13) rfl), cd_X1_replay, ini_X1, ⟨by decide +kernel, by decide +kernel, by decide +kernel⟩, by decide⟩
theorem co_X11_502 : hz_co RX11 502 xX7_clear 0 := ⟨hz_tm5 (List.mem_of_getElem? (i := 14) rfl), cd_X7_clear, ini_X7, ⟨by decide +kernel, by decide +kernel, by decide +kernel⟩, by decide⟩
theorem co_X11_505 : hz_co RX11 505 xX7_add 3 := ⟨hz_tm5 (List.mem_of_getElem? (i := 15) rfl), cd_X7_add, ini_X7, ⟨by decide +kernel, by decide +kernel, by decide +kernel⟩, by decide⟩
theorem co_X11_507 : hz_co RX11 507 xX10_follow 2 := ⟨hz_tm5 (List.mem_of_getElem? (i := 16) rfl), cd_X10_follow, ini_X10, ⟨by decide +kernel, by decide +kernel, by decide +kernel⟩, by decide⟩
theorem co_X11_395 : hz_co RX11 395 xX10_isOnChain 1 := ⟨hz_tm5 (List.mem_of_getElem? (i := 17) rfl), cd_X10_isOnChain, ini_X10, ⟨by decide +kernel, by decide +kernel, by decide +kernel⟩, by decide⟩
theorem co_X11_358 : hz_co RX11 358 xX0_one 2 := ⟨hz_tm5 (List.mem_of_getElem? (i := 21) rfl), cd_X0_one, ini_X0, ⟨by decide +kernel, by decide +kernel, by decide +kernel⟩, by decide⟩
theorem co_X11_511 : hz_co RX11 511 xX0_transactionLength 3 := ⟨hz_tm5 (List.mem_of_getElem? (i := 22) rfl), cd_X0_transactionLength, ini_X0, ⟨by decide +kernel, by decide +kernel, by decide +kernel⟩, by decide⟩
theorem co_X11_477 : hz_co RX11 477 xX11_tell 5 := ⟨hz_tm5 (List.mem_of_getElem? (i := 23) rfl), cd_X11_tell, ini_X11, ⟨by decide +kernel, by decide +kernel, by decide +kernel⟩, by decide⟩
theorem co_X11_313 : hz_co RX11 313 xX5_delayOf 2 := ⟨hz_tm5 (List.mem_of_getElem? (i := 27) rfl), cd_X5_delayOf, ini_X5, ⟨by decide +kernel, by decide +kernel, by decide +kernel⟩, by decide⟩
theorem co_X11_481 : hz_co RX11 481 xX6_lostBehind 1 := ⟨hz_tm5 (List.mem_of_getElem? (i := 28) rfl), cd_X6_lostBehind, ini_X6, ⟨by decide +kernel, by decide +kernel, by decide +kernel⟩, by decide⟩
theorem co_X11_306 : hz_co RX11 306 xX11_takeTransaction 1 := ⟨hz_tm5 (List.mem_of_getElem? (i := 32) rfl), cd_X11_takeTransaction, ini_X11, ⟨by decide +kernel, by decide +kernel, by decide +kernel⟩, by decide⟩
theorem co_X11_316 : hz_co RX11 316 xX5_setDelay 3 := ⟨hz_tm5 (List.mem_of_getElem? (i := 44) rfl), cd_X5_setDelay, ini_X5, ⟨by decide +kernel, by decide +kernel, by decide +kernel⟩, by decide⟩
theorem co_X11_323 : hz_co RX11 323 xX11_nextReceiver 0 := ⟨hz_tm5 (List.mem_of_getElem? (i := 52) rfl), cd_X11_nextReceiver, ini_X11, ⟨by decide +kernel, by decide +kernel, by decide +kernel⟩, by decide⟩
theorem co_X11_444 : hz_co RX11 444 xX5_firstNow 0 := ⟨hz_tm5 (List.mem_of_getElem? (i := 56) rfl), cd_X5_firstNow, ini_X5, ⟨by decide +kernel, by decide +kernel, by decide +kernel⟩, by decide⟩
theorem co_X11_447 : hz_co RX11 447 xX5_fetch 1 := ⟨hz_tm5 (List.mem_of_getElem? (i := 60) rfl), cd_X5_fetch, ini_X5, ⟨by decide +kernel, by decide +kernel, by decide +kernel⟩, by decide⟩
theorem co_X5_68 : hz_co RX5 68 xX7_lengthOf 1 := ⟨hz_tm5 (List.mem_of_getElem? (i := 64) rfl), cd_X7_lengthOf, ini_X7, ⟨by decide +kernel, by decide +kernel, by decide +kernel⟩, by decide⟩
theorem co_X5_72 : hz_co RX5 72 xX5_hold 3 := ⟨hz_tm5 (List.mem_of_getElem? (i := 65) rfl), cd_X5_hold, ini_X5, ⟨by decide +kernel, by decide +kernel, by decide +kernel⟩, by decide⟩
theorem co_X5_82 : hz_co RX5 82 xX5_remove 1 := ⟨hz_tm5 (List.mem_of_getElem? (i := 66) rfl), cd_X5_remove, ini_X5, ⟨by decide +kernel, by decide +kernel, by decide +kernel⟩, by decide⟩
theorem co_X5_95 : hz_co RX5 95 xX7_remove 1 := ⟨hz_tm5 (List.mem_of_getElem? (i := 70) rfl), cd_X7_remove, ini_X7, ⟨by decide +kernel, by decide +kernel, by decide +kernel⟩, by decide⟩
theorem co_X11_333 : hz_co RX11 333 xX11_hear 1 := ⟨hz_tm5 (List.mem_of_getElem? (i := 72) rfl), cd_X11_hear, ini_X11, ⟨by decide +kernel, by decide +kernel, by decide +kernel⟩, by decide⟩
theorem co_X11_516 : hz_co RX11 516 xX11_hearTold 2 := ⟨hz_tm5 (List.mem_of_getElem? (i := 76) rfl), cd_X11_hearTold, ini_X11, ⟨by decide +kernel, by decide +kernel, by decide +kernel⟩, by decide⟩
theorem co_X11_528 : hz_co RX11 528 xX10_indexOf 2 := ⟨hz_tm5 (List.mem_of_getElem? (i := 80) rfl), cd_X10_indexOf, ini_X10, ⟨by decide +kernel, by decide +kernel, by decide +kernel⟩, by decide⟩
theorem co_X11_519 : hz_co RX11 519 xX11_hearAsk 2 := ⟨hz_tm5 (List.mem_of_getElem? (i := 81) rfl), cd_X11_hearAsk, ini_X11, ⟨by decide +kernel, by decide +kernel, by decide +kernel⟩, by decide⟩
theorem co_X11_522 : hz_co RX11 522 xX11_hearHeaders 2 := ⟨hz_tm5 (List.mem_of_getElem? (i := 85) rfl), cd_X11_hearHeaders, ini_X11, ⟨by decide +kernel, by decide +kernel, by decide +kernel⟩, by decide⟩
theorem co_X11_530 : hz_co RX11 530 xX0_same 5 := ⟨hz_tm5 (List.mem_of_getElem? (i := 89) rfl), cd_X0_same, ini_X0, ⟨by decide +kernel, by decide +kernel, by decide +kernel⟩, by decide⟩
theorem co_X11_534 : hz_co RX11 534 xX10_lend 4 := ⟨hz_tm5 (List.mem_of_getElem? (i := 90) rfl), cd_X10_lend, ini_X10, ⟨by decide +kernel, by decide +kernel, by decide +kernel⟩, by decide⟩
theorem co_X10_110 : hz_co RX10 110 xX10_middleTime 1 := ⟨hz_tm5 (List.mem_of_getElem? (i := 94) rfl), cd_X10_middleTime, ini_X10, ⟨by decide +kernel, by decide +kernel, by decide +kernel⟩, by decide⟩
theorem co_X10_114 : hz_co RX10 114 xX10_dueBits 1 := ⟨hz_tm5 (List.mem_of_getElem? (i := 95) rfl), cd_X10_dueBits, ini_X10, ⟨by decide +kernel, by decide +kernel, by decide +kernel⟩, by decide⟩
theorem co_X11_525 : hz_co RX11 525 xX11_hearGet 2 := ⟨hz_tm5 (List.mem_of_getElem? (i := 96) rfl), cd_X11_hearGet, ini_X11, ⟨by decide +kernel, by decide +kernel, by decide +kernel⟩, by decide⟩
theorem co_X11_339 : hz_co RX11 339 xX11_tellTips 0 := ⟨hz_tm5 (List.mem_of_getElem? (i := 100) rfl), cd_X11_tellTips, ini_X11, ⟨by decide +kernel, by decide +kernel, by decide +kernel⟩, by decide⟩
theorem co_X11_355 : hz_co RX11 355 xX7_placeOf 2 := ⟨hz_tm5 (List.mem_of_getElem? (i := 112) rfl), cd_X7_placeOf, ini_X7, ⟨by decide +kernel, by decide +kernel, by decide +kernel⟩, by decide⟩
theorem co_X11_361 : hz_co RX11 361 xX5_remove 1 := ⟨hz_tm5 (List.mem_of_getElem? (i := 124) rfl), cd_X5_remove, ini_X5, ⟨by decide +kernel, by decide +kernel, by decide +kernel⟩, by decide⟩
theorem co_X11_364 : hz_co RX11 364 xX10_backToFirst 0 := ⟨hz_tm5 (List.mem_of_getElem? (i := 133) rfl), cd_X10_backToFirst, ini_X10, ⟨by decide +kernel, by decide +kernel, by decide +kernel⟩, by decide⟩
theorem co_X11_370 : hz_co RX11 370 xX11_readRecord 1 := ⟨hz_tm5 (List.mem_of_getElem? (i := 137) rfl), cd_X11_readRecord, ini_X11, ⟨by decide +kernel, by decide +kernel, by decide +kernel⟩, by decide⟩
theorem co_X11_401 : hz_co RX11 401 xX9_limbOf 2 := ⟨hz_tm5 (List.mem_of_getElem? (i := 169) rfl), cd_X9_limbOf, ini_X9, ⟨by decide +kernel, by decide +kernel, by decide +kernel⟩, by decide⟩
theorem co_X11_421 : hz_co RX11 421 xX1_indexOf 2 := ⟨hz_tm5 (List.mem_of_getElem? (i := 184) rfl), cd_X1_indexOf, ini_X1, ⟨by decide +kernel, by decide +kernel, by decide +kernel⟩, by decide⟩
theorem co_X12_292 : hz_co RX12 292 xX12_layNumbers 0 := ⟨hz_tm5 (List.mem_of_getElem? (i := 211) rfl), cd_X12_layNumbers, ini_X12, ⟨by decide +kernel, by decide +kernel, by decide +kernel⟩, by decide⟩
theorem co_X12_313 : hz_co RX12 313 xX12_wordOf 2 := ⟨hz_tm5 (List.mem_of_getElem? (i := 216) rfl), cd_X12_wordOf, ini_X12, ⟨by decide +kernel, by decide +kernel, by decide +kernel⟩, by decide⟩
theorem co_X12_305 : hz_co RX12 305 xJ0_charAt_5068e 1 := ⟨hz_tm5 (List.mem_of_getElem? (i := 219) rfl), cd_J0_charAt_5068e, ini_J0, ⟨by decide +kernel, by decide +kernel, by decide +kernel⟩, by decide⟩
theorem co_J0_492 : hz_co RJ0 492 xJ0_isLatin1_aae02 0 := ⟨hz_tm5 (List.mem_of_getElem? (i := 223) rfl), cd_J0_isLatin1_aae02, ini_J0, ⟨by decide +kernel, by decide +kernel, by decide +kernel⟩, by decide⟩
theorem co_J0_495 : hz_co RJ0 495 xJ1_charAt_3b067 2 := ⟨hz_tm5 (List.mem_of_getElem? (i := 229) rfl), cd_J1_charAt_3b067, ini_J1, ⟨by decide +kernel, by decide +kernel, by decide +kernel⟩, by decide⟩
theorem co_J1_9 : hz_co RJ1 9 xJ0_checkIndex_df160 2 := ⟨hz_tm5 (List.mem_of_getElem? (i := 232) rfl), cd_J0_checkIndex_df160, ini_J0, ⟨by decide +kernel, by decide +kernel, by decide +kernel⟩, by decide⟩
theorem co_J0_1059 : hz_co RJ0 1059 xJ3_checkIndex_8e157 3 := ⟨hz_tm5 (List.mem_of_getElem? (i := 237) rfl), cd_J3_checkIndex_8e157, ini_J3, ⟨by decide +kernel, by decide +kernel, by decide +kernel⟩, by decide⟩
theorem co_J0_498 : hz_co RJ0 498 xJ2_charAt_3b067 2 := ⟨hz_tm6 (List.mem_of_getElem? (i := 0) rfl), cd_J2_charAt_3b067, ini_J2, ⟨by decide +kernel, by decide +kernel, by decide +kernel⟩, by decide⟩
theorem co_J2_67 : hz_co RJ2 67 xJ2_checkIndex_2214a 2 := ⟨hz_tm6 (List.mem_of_getElem? (i := 3) rfl), cd_J2_checkIndex_2214a, ini_J2, ⟨by decide +kernel, by decide +kernel, by decide +kernel⟩, by decide⟩
theorem co_J2_48 : hz_co RJ2 48 xJ2_length_9d52b 1 := ⟨hz_tm6 (List.mem_of_getElem? (i := 6) rfl), cd_J2_length_9d52b, ini_J2, ⟨by decide +kernel, by decide +kernel, by decide +kernel⟩, by decide⟩
theorem co_J2_414 : hz_co RJ2 414 xJ0_checkIndex_df160 2 := ⟨hz_tm6 (List.mem_of_getElem? (i := 9) rfl), cd_J0_checkIndex_df160, ini_J0, ⟨by decide +kernel, by decide +kernel, by decide +kernel⟩, by decide⟩
theorem co_J2_71 : hz_co RJ2 71 xJ2_getChar_3b067 2 := ⟨hz_tm6 (List.mem_of_getElem? (i := 10) rfl), cd_J2_getChar_3b067, ini_J2, ⟨by decide +kernel, by decide +kernel, by decide +kernel⟩, by decide⟩
theorem co_X12_295 : hz_co RX12 295 xX12_layFirst 0 := ⟨hz_tm6 (List.mem_of_getElem? (i := 20) rfl), cd_X12_layFirst, ini_X12, ⟨by decide +kernel, by decide +kernel, by decide +kernel⟩, by decide⟩
theorem co_X12_425 : hz_co RX12 425 xX12_putInt 3 := ⟨hz_tm6 (List.mem_of_getElem? (i := 24) rfl), cd_X12_putInt, ini_X12, ⟨by decide +kernel, by decide +kernel, by decide +kernel⟩, by decide⟩
theorem co_X12_334 : hz_co RX12 334 xX12_putLong 3 := ⟨hz_tm6 (List.mem_of_getElem? (i := 29) rfl), cd_X12_putLong, ini_X12, ⟨by decide +kernel, by decide +kernel, by decide +kernel⟩, by decide⟩
theorem co_X12_430 : hz_co RX12 430 xX12_addressOf 1 := ⟨hz_tm6 (List.mem_of_getElem? (i := 32) rfl), cd_X12_addressOf, ini_X12, ⟨by decide +kernel, by decide +kernel, by decide +kernel⟩, by decide⟩
theorem co_X12_346 : hz_co RX12 346 xX12_partBegin 2 := ⟨hz_tm6 (List.mem_of_getElem? (i := 36) rfl), cd_X12_partBegin, ini_X12, ⟨by decide +kernel, by decide +kernel, by decide +kernel⟩, by decide⟩
theorem co_X12_338 : hz_co RX12 338 xX12_shortOf 3 := ⟨hz_tm6 (List.mem_of_getElem? (i := 40) rfl), cd_X12_shortOf, ini_X12, ⟨by decide +kernel, by decide +kernel, by decide +kernel⟩, by decide⟩
theorem co_X12_326 : hz_co RX12 326 xX12_hashOf 3 := ⟨hz_tm6 (List.mem_of_getElem? (i := 44) rfl), cd_X12_hashOf, ini_X12, ⟨by decide +kernel, by decide +kernel, by decide +kernel⟩, by decide⟩
theorem co_X12_323 : hz_co RX12 323 xX12_turnWords 0 := ⟨hz_tm6 (List.mem_of_getElem? (i := 48) rfl), cd_X12_turnWords, ini_X12, ⟨by decide +kernel, by decide +kernel, by decide +kernel⟩, by decide⟩
theorem co_X12_319 : hz_co RX12 319 xX12_right 2 := ⟨hz_tm6 (List.mem_of_getElem? (i := 52) rfl), cd_X12_right, ini_X12, ⟨by decide +kernel, by decide +kernel, by decide +kernel⟩, by decide⟩
theorem co_X12_330 : hz_co RX12 330 xX12_longAt 2 := ⟨hz_tm6 (List.mem_of_getElem? (i := 55) rfl), cd_X12_longAt, ini_X12, ⟨by decide +kernel, by decide +kernel, by decide +kernel⟩, by decide⟩
theorem co_X12_350 : hz_co RX12 350 xX12_partSteps 4 := ⟨hz_tm6 (List.mem_of_getElem? (i := 58) rfl), cd_X12_partSteps, ini_X12, ⟨by decide +kernel, by decide +kernel, by decide +kernel⟩, by decide⟩
theorem co_X12_342 : hz_co RX12 342 xX12_partStep 3 := ⟨hz_tm6 (List.mem_of_getElem? (i := 62) rfl), cd_X12_partStep, ini_X12, ⟨by decide +kernel, by decide +kernel, by decide +kernel⟩, by decide⟩
theorem co_X12_354 : hz_co RX12 354 xX12_addressOfEnds 0 := ⟨hz_tm6 (List.mem_of_getElem? (i := 66) rfl), cd_X12_addressOfEnds, ini_X12, ⟨by decide +kernel, by decide +kernel, by decide +kernel⟩, by decide⟩
theorem co_X12_437 : hz_co RX12 437 xX12_isBlock 3 := ⟨hz_tm6 (List.mem_of_getElem? (i := 70) rfl), cd_X12_isBlock, ini_X12, ⟨by decide +kernel, by decide +kernel, by decide +kernel⟩, by decide⟩
theorem co_X12_405 : hz_co RX12 405 xX12_transactionSize 3 := ⟨hz_tm6 (List.mem_of_getElem? (i := 74) rfl), cd_X12_transactionSize, ini_X12, ⟨by decide +kernel, by decide +kernel, by decide +kernel⟩, by decide⟩
theorem co_X12_441 : hz_co RX12 441 xX12_findRoot 1 := ⟨hz_tm6 (List.mem_of_getElem? (i := 77) rfl), cd_X12_findRoot, ini_X12, ⟨by decide +kernel, by decide +kernel, by decide +kernel⟩, by decide⟩
theorem co_X12_412 : hz_co RX12 412 xX12_twiceOf 3 := ⟨hz_tm6 (List.mem_of_getElem? (i := 81) rfl), cd_X12_twiceOf, ini_X12, ⟨by decide +kernel, by decide +kernel, by decide +kernel⟩, by decide⟩
theorem co_X12_415 : hz_co RX12 415 xX12_keepDigest 2 := ⟨hz_tm6 (List.mem_of_getElem? (i := 85) rfl), cd_X12_keepDigest, ini_X12, ⟨by decide +kernel, by decide +kernel, by decide +kernel⟩, by decide⟩
theorem co_X12_445 : hz_co RX12 445 xX12_meets 1 := ⟨hz_tm6 (List.mem_of_getElem? (i := 89) rfl), cd_X12_meets, ini_X12, ⟨by decide +kernel, by decide +kernel, by decide +kernel⟩, by decide⟩
theorem co_X12_367 : hz_co RX12 367 xX12_layTarget 2 := ⟨hz_tm6 (List.mem_of_getElem? (i := 93) rfl), cd_X12_layTarget, ini_X12, ⟨by decide +kernel, by decide +kernel, by decide +kernel⟩, by decide⟩
theorem co_X12_360 : hz_co RX12 360 xX12_clearBig 1 := ⟨hz_tm6 (List.mem_of_getElem? (i := 96) rfl), cd_X12_clearBig, ini_X12, ⟨by decide +kernel, by decide +kernel, by decide +kernel⟩, by decide⟩
theorem co_X12_376 : hz_co RX12 376 xX12_intAt 2 := ⟨hz_tm6 (List.mem_of_getElem? (i := 100) rfl), cd_X12_intAt, ini_X12, ⟨by decide +kernel, by decide +kernel, by decide +kernel⟩, by decide⟩
theorem co_X12_372 : hz_co RX12 372 xX12_compareBig 2 := ⟨hz_tm6 (List.mem_of_getElem? (i := 103) rfl), cd_X12_compareBig, ini_X12, ⟨by decide +kernel, by decide +kernel, by decide +kernel⟩, by decide⟩
theorem co_X12_298 : hz_co RX12 298 xX12_keepFirst 1 := ⟨hz_tm6 (List.mem_of_getElem? (i := 107) rfl), cd_X12_keepFirst, ini_X12, ⟨by decide +kernel, by decide +kernel, by decide +kernel⟩, by decide⟩
theorem co_X12_449 : hz_co RX12 449 xX12_register 3 := ⟨hz_tm6 (List.mem_of_getElem? (i := 111) rfl), cd_X12_register, ini_X12, ⟨by decide +kernel, by decide +kernel, by decide +kernel⟩, by decide⟩
theorem co_X12_419 : hz_co RX12 419 xX12_at0 2 := ⟨hz_tm6 (List.mem_of_getElem? (i := 115) rfl), cd_X12_at0, ini_X12, ⟨by decide +kernel, by decide +kernel, by decide +kernel⟩, by decide⟩
theorem co_X12_453 : hz_co RX12 453 xX12_findWork 1 := ⟨hz_tm6 (List.mem_of_getElem? (i := 118) rfl), cd_X12_findWork, ini_X12, ⟨by decide +kernel, by decide +kernel, by decide +kernel⟩, by decide⟩
theorem co_X12_380 : hz_co RX12 380 xX12_addBig 2 := ⟨hz_tm6 (List.mem_of_getElem? (i := 122) rfl), cd_X12_addBig, ini_X12, ⟨by decide +kernel, by decide +kernel, by decide +kernel⟩, by decide⟩
theorem co_X12_384 : hz_co RX12 384 xX12_takeBig 2 := ⟨hz_tm6 (List.mem_of_getElem? (i := 125) rfl), cd_X12_takeBig, ini_X12, ⟨by decide +kernel, by decide +kernel, by decide +kernel⟩, by decide⟩
theorem co_X12_688 : hz_co RX12 688 xX12_addInput 3 := ⟨hz_tm7 (List.mem_of_getElem? (i := 239) rfl), cd_X12_addInput, ini_X12, ⟨by decide +kernel, by decide +kernel, by decide +kernel⟩, by decide⟩
theorem co_X12_692 : hz_co RX12 692 xX12_stateOf 1 := ⟨hz_tm8 (List.mem_of_getElem? (i := 7) rfl), cd_X12_stateOf, ini_X12, ⟨by decide +kernel, by decide +kernel, by decide +kernel⟩, by decide⟩
theorem co_X12_553 : hz_co RX12 553 xX12_unspentBehind 2 := ⟨hz_tm8 (List.mem_of_getElem? (i := 11) rfl), cd_X12_unspentBehind, ini_X12, ⟨by decide +kernel, by decide +kernel, by decide +kernel⟩, by decide⟩
theorem co_X12_501 : hz_co RX12 501 xX12_bring2 2 := ⟨hz_tm8 (List.mem_of_getElem? (i := 15) rfl), cd_X12_bring2, ini_X12, ⟨by decide +kernel, by decide +kernel, by decide +kernel⟩, by decide⟩
theorem co_X12_505 : hz_co RX12 505 xX12_spendOf 4 := ⟨hz_tm8 (List.mem_of_getElem? (i := 19) rfl), cd_X12_spendOf, ini_X12, ⟨by decide +kernel, by decide +kernel, by decide +kernel⟩, by decide⟩
theorem co_X12_482 : hz_co RX12 482 xX12_inputsOf 2 := ⟨hz_tm8 (List.mem_of_getElem? (i := 23) rfl), cd_X12_inputsOf, ini_X12, ⟨by decide +kernel, by decide +kernel, by decide +kernel⟩, by decide⟩
theorem co_X12_485 : hz_co RX12 485 xX12_inputAt 3 := ⟨hz_tm8 (List.mem_of_getElem? (i := 26) rfl), cd_X12_inputAt, ini_X12, ⟨by decide +kernel, by decide +kernel, by decide +kernel⟩, by decide⟩
theorem co_X12_488 : hz_co RX12 488 xX12_findCoin 2 := ⟨hz_tm8 (List.mem_of_getElem? (i := 29) rfl), cd_X12_findCoin, ini_X12, ⟨by decide +kernel, by decide +kernel, by decide +kernel⟩, by decide⟩
theorem co_X12_492 : hz_co RX12 492 xX12_dropCoin 1 := ⟨hz_tm8 (List.mem_of_getElem? (i := 33) rfl), cd_X12_dropCoin, ini_X12, ⟨by decide +kernel, by decide +kernel, by decide +kernel⟩, by decide⟩
theorem co_X12_495 : hz_co RX12 495 xX12_outputsOf 2 := ⟨hz_tm8 (List.mem_of_getElem? (i := 37) rfl), cd_X12_outputsOf, ini_X12, ⟨by decide +kernel, by decide +kernel, by decide +kernel⟩, by decide⟩
theorem co_X12_498 : hz_co RX12 498 xX12_outputAt 3 := ⟨hz_tm8 (List.mem_of_getElem? (i := 40) rfl), cd_X12_outputAt, ini_X12, ⟨by decide +kernel, by decide +kernel, by decide +kernel⟩, by decide⟩
theorem co_X12_695 : hz_co RX12 695 xX12_output 2 := ⟨hz_tm8 (List.mem_of_getElem? (i := 51) rfl), cd_X12_output, ini_X12, ⟨by decide +kernel, by decide +kernel, by decide +kernel⟩, by decide⟩
theorem co_X12_509 : hz_co RX12 509 xX12_findDigits 0 := ⟨hz_tm8 (List.mem_of_getElem? (i := 56) rfl), cd_X12_findDigits, ini_X12, ⟨by decide +kernel, by decide +kernel, by decide +kernel⟩, by decide⟩
theorem co_X12_664 : hz_co RX12 664 xX12_bring 2 := ⟨hz_tm8 (List.mem_of_getElem? (i := 64) rfl), cd_X12_bring, ini_X12, ⟨by decide +kernel, by decide +kernel, by decide +kernel⟩, by decide⟩
theorem co_X12_699 : hz_co RX12 699 xX12_bodyToTape 0 := ⟨hz_tm8 (List.mem_of_getElem? (i := 68) rfl), cd_X12_bodyToTape, ini_X12, ⟨by decide +kernel, by decide +kernel, by decide +kernel⟩, by decide⟩
theorem co_X12_547 : hz_co RX12 547 xX12_middleBehind 2 := ⟨hz_tm8 (List.mem_of_getElem? (i := 76) rfl), cd_X12_middleBehind, ini_X12, ⟨by decide +kernel, by decide +kernel, by decide +kernel⟩, by decide⟩
theorem co_X12_469 : hz_co RX12 469 xX12_timeOf 2 := ⟨hz_tm8 (List.mem_of_getElem? (i := 80) rfl), cd_X12_timeOf, ini_X12, ⟨by decide +kernel, by decide +kernel, by decide +kernel⟩, by decide⟩
theorem co_X12_466 : hz_co RX12 466 xX12_prevOf 2 := ⟨hz_tm8 (List.mem_of_getElem? (i := 84) rfl), cd_X12_prevOf, ini_X12, ⟨by decide +kernel, by decide +kernel, by decide +kernel⟩, by decide⟩
theorem co_X12_544 : hz_co RX12 544 xX12_dueBehind 2 := ⟨hz_tm8 (List.mem_of_getElem? (i := 88) rfl), cd_X12_dueBehind, ini_X12, ⟨by decide +kernel, by decide +kernel, by decide +kernel⟩, by decide⟩
theorem co_X12_460 : hz_co RX12 460 xX12_heightOf 2 := ⟨hz_tm8 (List.mem_of_getElem? (i := 92) rfl), cd_X12_heightOf, ini_X12, ⟨by decide +kernel, by decide +kernel, by decide +kernel⟩, by decide⟩
theorem co_X12_463 : hz_co RX12 463 xX12_bitsOf 2 := ⟨hz_tm8 (List.mem_of_getElem? (i := 96) rfl), cd_X12_bitsOf, ini_X12, ⟨by decide +kernel, by decide +kernel, by decide +kernel⟩, by decide⟩
theorem co_X12_476 : hz_co RX12 476 xX12_moved 2 := ⟨hz_tm8 (List.mem_of_getElem? (i := 102) rfl), cd_X12_moved, ini_X12, ⟨by decide +kernel, by decide +kernel, by decide +kernel⟩, by decide⟩
theorem co_X12_387 : hz_co RX12 387 xX12_timesBig 2 := ⟨hz_tm8 (List.mem_of_getElem? (i := 106) rfl), cd_X12_timesBig, ini_X12, ⟨by decide +kernel, by decide +kernel, by decide +kernel⟩, by decide⟩
theorem co_X12_391 : hz_co RX12 391 xX12_byBig 2 := ⟨hz_tm8 (List.mem_of_getElem? (i := 109) rfl), cd_X12_byBig, ini_X12, ⟨by decide +kernel, by decide +kernel, by decide +kernel⟩, by decide⟩
theorem co_X12_394 : hz_co RX12 394 xX12_copyBig 2 := ⟨hz_tm8 (List.mem_of_getElem? (i := 112) rfl), cd_X12_copyBig, ini_X12, ⟨by decide +kernel, by decide +kernel, by decide +kernel⟩, by decide⟩
theorem co_X12_397 : hz_co RX12 397 xX12_above 1 := ⟨hz_tm8 (List.mem_of_getElem? (i := 115) rfl), cd_X12_above, ini_X12, ⟨by decide +kernel, by decide +kernel, by decide +kernel⟩, by decide⟩
theorem co_X12_560 : hz_co RX12 560 xX12_subsidy 1 := ⟨hz_tm8 (List.mem_of_getElem? (i := 121) rfl), cd_X12_subsidy, ini_X12, ⟨by decide +kernel, by decide +kernel, by decide +kernel⟩, by decide⟩
theorem co_X12_538 : hz_co RX12 538 xX12_isDigest 2 := ⟨hz_tm8 (List.mem_of_getElem? (i := 128) rfl), cd_X12_isDigest, ini_X12, ⟨by decide +kernel, by decide +kernel, by decide +kernel⟩, by decide⟩
theorem co_X12_535 : hz_co RX12 535 xX12_areRight 1 := ⟨hz_tm8 (List.mem_of_getElem? (i := 136) rfl), cd_X12_areRight, ini_X12, ⟨by decide +kernel, by decide +kernel, by decide +kernel⟩, by decide⟩
theorem co_X12_578 : hz_co RX12 578 xX12_judgeForPool 4 := ⟨hz_tm8 (List.mem_of_getElem? (i := 146) rfl), cd_X12_judgeForPool, ini_X12, ⟨by decide +kernel, by decide +kernel, by decide +kernel⟩, by decide⟩
theorem co_X12_564 : hz_co RX12 564 xX12_isTransaction 3 := ⟨hz_tm8 (List.mem_of_getElem? (i := 150) rfl), cd_X12_isTransaction, ini_X12, ⟨by decide +kernel, by decide +kernel, by decide +kernel⟩, by decide⟩
theorem co_X12_456 : hz_co RX12 456 xX12_sameBytes 5 := ⟨hz_tm8 (List.mem_of_getElem? (i := 153) rfl), cd_X12_sameBytes, ini_X12, ⟨by decide +kernel, by decide +kernel, by decide +kernel⟩, by decide⟩
theorem co_X12_556 : hz_co RX12 556 xX12_judgeSpending 4 := ⟨hz_tm8 (List.mem_of_getElem? (i := 156) rfl), cd_X12_judgeSpending, ini_X12, ⟨by decide +kernel, by decide +kernel, by decide +kernel⟩, by decide⟩
theorem co_X12_512 : hz_co RX12 512 xX12_digitsOf 3 := ⟨hz_tm8 (List.mem_of_getElem? (i := 160) rfl), cd_X12_digitsOf, ini_X12, ⟨by decide +kernel, by decide +kernel, by decide +kernel⟩, by decide⟩
theorem co_X12_515 : hz_co RX12 515 xX12_isSigned 3 := ⟨hz_tm8 (List.mem_of_getElem? (i := 164) rfl), cd_X12_isSigned, ini_X12, ⟨by decide +kernel, by decide +kernel, by decide +kernel⟩, by decide⟩
theorem co_X12_519 : hz_co RX12 519 xX12_isAmount 2 := ⟨hz_tm8 (List.mem_of_getElem? (i := 168) rfl), cd_X12_isAmount, ini_X12, ⟨by decide +kernel, by decide +kernel, by decide +kernel⟩, by decide⟩
theorem co_X12_527 : hz_co RX12 527 xX12_hasCoins 1 := ⟨hz_tm8 (List.mem_of_getElem? (i := 172) rfl), cd_X12_hasCoins, ini_X12, ⟨by decide +kernel, by decide +kernel, by decide +kernel⟩, by decide⟩
theorem co_X12_702 : hz_co RX12 702 xX12_tapeToInbox 0 := ⟨hz_tm8 (List.mem_of_getElem? (i := 176) rfl), cd_X12_tapeToInbox, ini_X12, ⟨by decide +kernel, by decide +kernel, by decide +kernel⟩, by decide⟩
theorem co_X12_670 : hz_co RX12 670 xX12_inboxToBody 0 := ⟨hz_tm8 (List.mem_of_getElem? (i := 180) rfl), cd_X12_inboxToBody, ini_X12, ⟨by decide +kernel, by decide +kernel, by decide +kernel⟩, by decide⟩
theorem co_X12_603 : hz_co RX12 603 xX12_judgeBody 2 := ⟨hz_tm8 (List.mem_of_getElem? (i := 184) rfl), cd_X12_judgeBody, ini_X12, ⟨by decide +kernel, by decide +kernel, by decide +kernel⟩, by decide⟩
theorem co_X12_531 : hz_co RX12 531 xX12_findBlock 3 := ⟨hz_tm8 (List.mem_of_getElem? (i := 188) rfl), cd_X12_findBlock, ini_X12, ⟨by decide +kernel, by decide +kernel, by decide +kernel⟩, by decide⟩
theorem co_X12_550 : hz_co RX12 550 xX12_judgeParts 2 := ⟨hz_tm8 (List.mem_of_getElem? (i := 192) rfl), cd_X12_judgeParts, ini_X12, ⟨by decide +kernel, by decide +kernel, by decide +kernel⟩, by decide⟩
theorem co_X12_705 : hz_co RX12 705 xX12_receive 3 := ⟨hz_tm8 (List.mem_of_getElem? (i := 200) rfl), cd_X12_receive, ini_X12, ⟨by decide +kernel, by decide +kernel, by decide +kernel⟩, by decide⟩
theorem co_X12_640 : hz_co RX12 640 xX12_isRow 1 := ⟨hz_tm8 (List.mem_of_getElem? (i := 204) rfl), cd_X12_isRow, ini_X12, ⟨by decide +kernel, by decide +kernel, by decide +kernel⟩, by decide⟩
theorem co_X12_643 : hz_co RX12 643 xX12_receiveTold 2 := ⟨hz_tm8 (List.mem_of_getElem? (i := 208) rfl), cd_X12_receiveTold, ini_X12, ⟨by decide +kernel, by decide +kernel, by decide +kernel⟩, by decide⟩
theorem co_X12_661 : hz_co RX12 661 xX12_ask 2 := ⟨hz_tm8 (List.mem_of_getElem? (i := 212) rfl), cd_X12_ask, ini_X12, ⟨by decide +kernel, by decide +kernel, by decide +kernel⟩, by decide⟩
theorem co_X12_630 : hz_co RX12 630 xX12_atHeight 3 := ⟨hz_tm8 (List.mem_of_getElem? (i := 216) rfl), cd_X12_atHeight, ini_X12, ⟨by decide +kernel, by decide +kernel, by decide +kernel⟩, by decide⟩
theorem co_X12_634 : hz_co RX12 634 xX12_copyHash 3 := ⟨hz_tm8 (List.mem_of_getElem? (i := 220) rfl), cd_X12_copyHash, ini_X12, ⟨by decide +kernel, by decide +kernel, by decide +kernel⟩, by decide⟩
theorem co_X12_622 : hz_co RX12 622 xX12_send 6 := ⟨hz_tm8 (List.mem_of_getElem? (i := 224) rfl), cd_X12_send, ini_X12, ⟨by decide +kernel, by decide +kernel, by decide +kernel⟩, by decide⟩
theorem co_X12_646 : hz_co RX12 646 xX12_receiveAsk 2 := ⟨hz_tm8 (List.mem_of_getElem? (i := 228) rfl), cd_X12_receiveAsk, ini_X12, ⟨by decide +kernel, by decide +kernel, by decide +kernel⟩, by decide⟩
theorem co_X12_571 : hz_co RX12 571 xX12_isOnChain 3 := ⟨hz_tm8 (List.mem_of_getElem? (i := 232) rfl), cd_X12_isOnChain, ini_X12, ⟨by decide +kernel, by decide +kernel, by decide +kernel⟩, by decide⟩
theorem co_X12_649 : hz_co RX12 649 xX12_receiveGet 2 := ⟨hz_tm8 (List.mem_of_getElem? (i := 236) rfl), cd_X12_receiveGet, ini_X12, ⟨by decide +kernel, by decide +kernel, by decide +kernel⟩, by decide⟩
theorem co_X12_652 : hz_co RX12 652 xX12_receiveHeaders 2 := ⟨hz_tm9 (List.mem_of_getElem? (i := 0) rfl), cd_X12_receiveHeaders, ini_X12, ⟨by decide +kernel, by decide +kernel, by decide +kernel⟩, by decide⟩
theorem co_X12_667 : hz_co RX12 667 xX12_isRightHeader 3 := ⟨hz_tm9 (List.mem_of_getElem? (i := 4) rfl), cd_X12_isRightHeader, ini_X12, ⟨by decide +kernel, by decide +kernel, by decide +kernel⟩, by decide⟩
theorem co_X12_655 : hz_co RX12 655 xX12_receiveBlock 2 := ⟨hz_tm9 (List.mem_of_getElem? (i := 8) rfl), cd_X12_receiveBlock, ini_X12, ⟨by decide +kernel, by decide +kernel, by decide +kernel⟩, by decide⟩
theorem co_X12_607 : hz_co RX12 607 xX12_store 2 := ⟨hz_tm9 (List.mem_of_getElem? (i := 12) rfl), cd_X12_store, ini_X12, ⟨by decide +kernel, by decide +kernel, by decide +kernel⟩, by decide⟩
theorem co_X12_591 : hz_co RX12 591 xX12_writeRecord 1 := ⟨hz_tm9 (List.mem_of_getElem? (i := 16) rfl), cd_X12_writeRecord, ini_X12, ⟨by decide +kernel, by decide +kernel, by decide +kernel⟩, by decide⟩
theorem co_X12_588 : hz_co RX12 588 xX12_goDown 1 := ⟨hz_tm9 (List.mem_of_getElem? (i := 20) rfl), cd_X12_goDown, ini_X12, ⟨by decide +kernel, by decide +kernel, by decide +kernel⟩, by decide⟩
theorem co_X12_594 : hz_co RX12 594 xX12_isAbove 3 := ⟨hz_tm9 (List.mem_of_getElem? (i := 24) rfl), cd_X12_isAbove, ini_X12, ⟨by decide +kernel, by decide +kernel, by decide +kernel⟩, by decide⟩
theorem co_X12_597 : hz_co RX12 597 xX12_poolAnew 2 := ⟨hz_tm9 (List.mem_of_getElem? (i := 28) rfl), cd_X12_poolAnew, ini_X12, ⟨by decide +kernel, by decide +kernel, by decide +kernel⟩, by decide⟩
theorem co_X12_567 : hz_co RX12 567 xX12_tryPool 4 := ⟨hz_tm9 (List.mem_of_getElem? (i := 32) rfl), cd_X12_tryPool, ini_X12, ⟨by decide +kernel, by decide +kernel, by decide +kernel⟩, by decide⟩
theorem co_X12_582 : hz_co RX12 582 xX12_addToPool 4 := ⟨hz_tm9 (List.mem_of_getElem? (i := 36) rfl), cd_X12_addToPool, ini_X12, ⟨by decide +kernel, by decide +kernel, by decide +kernel⟩, by decide⟩
theorem co_X12_575 : hz_co RX12 575 xX12_bringBack 2 := ⟨hz_tm9 (List.mem_of_getElem? (i := 40) rfl), cd_X12_bringBack, ini_X12, ⟨by decide +kernel, by decide +kernel, by decide +kernel⟩, by decide⟩
theorem co_X12_600 : hz_co RX12 600 xX12_tellAll 3 := ⟨hz_tm9 (List.mem_of_getElem? (i := 44) rfl), cd_X12_tellAll, ini_X12, ⟨by decide +kernel, by decide +kernel, by decide +kernel⟩, by decide⟩
theorem co_X12_626 : hz_co RX12 626 xX12_sendAll 6 := ⟨hz_tm9 (List.mem_of_getElem? (i := 48) rfl), cd_X12_sendAll, ini_X12, ⟨by decide +kernel, by decide +kernel, by decide +kernel⟩, by decide⟩
theorem co_X12_673 : hz_co RX12 673 xX12_clean 1 := ⟨hz_tm9 (List.mem_of_getElem? (i := 52) rfl), cd_X12_clean, ini_X12, ⟨by decide +kernel, by decide +kernel, by decide +kernel⟩, by decide⟩
theorem co_X12_585 : hz_co RX12 585 xX12_dropOrphan 2 := ⟨hz_tm9 (List.mem_of_getElem? (i := 56) rfl), cd_X12_dropOrphan, ini_X12, ⟨by decide +kernel, by decide +kernel, by decide +kernel⟩, by decide⟩
theorem co_X12_676 : hz_co RX12 676 xX12_addOrphan 1 := ⟨hz_tm9 (List.mem_of_getElem? (i := 60) rfl), cd_X12_addOrphan, ini_X12, ⟨by decide +kernel, by decide +kernel, by decide +kernel⟩, by decide⟩
theorem co_X12_658 : hz_co RX12 658 xX12_receiveTransaction 2 := ⟨hz_tm9 (List.mem_of_getElem? (i := 64) rfl), cd_X12_receiveTransaction, ini_X12, ⟨by decide +kernel, by decide +kernel, by decide +kernel⟩, by decide⟩
theorem co_X12_708 : hz_co RX12 708 xX12_arrive 1 := ⟨hz_tm9 (List.mem_of_getElem? (i := 80) rfl), cd_X12_arrive, ini_X12, ⟨by decide +kernel, by decide +kernel, by decide +kernel⟩, by decide⟩
theorem co_X12_711 : hz_co RX12 711 xX12_dropMessage 1 := ⟨hz_tm9 (List.mem_of_getElem? (i := 84) rfl), cd_X12_dropMessage, ini_X12, ⟨by decide +kernel, by decide +kernel, by decide +kernel⟩, by decide⟩
theorem co_X12_714 : hz_co RX12 714 xX12_hasByte 2 := ⟨hz_tm9 (List.mem_of_getElem? (i := 96) rfl), cd_X12_hasByte, ini_X12, ⟨by decide +kernel, by decide +kernel, by decide +kernel⟩, by decide⟩
theorem co_X12_718 : hz_co RX12 718 xX12_readRecord 1 := ⟨hz_tm9 (List.mem_of_getElem? (i := 116) rfl), cd_X12_readRecord, ini_X12, ⟨by decide +kernel, by decide +kernel, by decide +kernel⟩, by decide⟩
theorem co_X12_721 : hz_co RX12 721 xX12_orphansOf 1 := ⟨hz_tm9 (List.mem_of_getElem? (i := 136) rfl), cd_X12_orphansOf, ini_X12, ⟨by decide +kernel, by decide +kernel, by decide +kernel⟩, by decide⟩
theorem co_X12_724 : hz_co RX12 724 xX12_limbOf 2 := ⟨hz_tm9 (List.mem_of_getElem? (i := 152) rfl), cd_X12_limbOf, ini_X12, ⟨by decide +kernel, by decide +kernel, by decide +kernel⟩, by decide⟩
theorem ks_X5_11 : Cond.constant RX5 11 (40000) ∈ lw_tbl := hz_tm1 (List.mem_of_getElem? (i := 236) rfl)
theorem ks_X11_76 : Cond.constant RX11 76 (200000) ∈ lw_tbl := hz_tm2 (List.mem_of_getElem? (i := 79) rfl)
theorem ks_X11_425 : Cond.constantLong RX11 425 (1000) ∈ lw_tbl := hz_tm2 (List.mem_of_getElem? (i := 86) rfl)
theorem ks_X11_427 : Cond.constantLong RX11 427 (537919487) ∈ lw_tbl := hz_tm2 (List.mem_of_getElem? (i := 90) rfl)
theorem ks_X11_429 : Cond.constantLong RX11 429 (4096) ∈ lw_tbl := hz_tm2 (List.mem_of_getElem? (i := 91) rfl)
theorem ks_X8_42 : Cond.constantLong RX8 42 (4294967295) ∈ lw_tbl := hz_tm2 (List.mem_of_getElem? (i := 113) rfl)
theorem ks_X11_431 : Cond.constant RX11 431 (537919487) ∈ lw_tbl := hz_tm2 (List.mem_of_getElem? (i := 166) rfl)
theorem ks_X11_432 : Cond.constant RX11 432 (1000000) ∈ lw_tbl := hz_tm2 (List.mem_of_getElem? (i := 178) rfl)
theorem ks_X9_28 : Cond.constantLong RX9 28 (4294967295) ∈ lw_tbl := hz_tm2 (List.mem_of_getElem? (i := 192) rfl)
theorem ks_X9_24 : Cond.constant RX9 24 (16777215) ∈ lw_tbl := hz_tm2 (List.mem_of_getElem? (i := 204) rfl)
theorem ks_X9_25 : Cond.constant RX9 25 (32768) ∈ lw_tbl := hz_tm2 (List.mem_of_getElem? (i := 205) rfl)
theorem ks_X9_26 : Cond.constant RX9 26 (1048575) ∈ lw_tbl := hz_tm2 (List.mem_of_getElem? (i := 206) rfl)
theorem ks_X9_27 : Cond.constant RX9 27 (8388607) ∈ lw_tbl := hz_tm2 (List.mem_of_getElem? (i := 207) rfl)
theorem ks_X10_100 : Cond.constantLong RX10 100 (4294967295) ∈ lw_tbl := hz_tm3 (List.mem_of_getElem? (i := 124) rfl)
theorem ks_X9_44 : Cond.constantLong RX9 44 (160) ∈ lw_tbl := hz_tm4 (List.mem_of_getElem? (i := 89) rfl)
theorem ks_X9_46 : Cond.constantLong RX9 46 (268435200) ∈ lw_tbl := hz_tm4 (List.mem_of_getElem? (i := 90) rfl)
theorem ks_X9_48 : Cond.constant RX9 48 (537919487) ∈ lw_tbl := hz_tm4 (List.mem_of_getElem? (i := 91) rfl)
theorem ks_X0_33 : Cond.constantLong RX0 33 (1099511627776) ∈ lw_tbl := hz_tm4 (List.mem_of_getElem? (i := 164) rfl)
theorem ks_X0_35 : Cond.constantLong RX0 35 (-1) ∈ lw_tbl := hz_tm4 (List.mem_of_getElem? (i := 165) rfl)
theorem ks_X12_61 : Cond.constant RX12 61 (73728) ∈ lw_tbl := hz_tm5 (List.mem_of_getElem? (i := 206) rfl)
theorem ks_X12_180 : Cond.constant RX12 180 (34560) ∈ lw_tbl := hz_tm5 (List.mem_of_getElem? (i := 207) rfl)
theorem ks_X12_208 : Cond.constant RX12 208 (192000) ∈ lw_tbl := hz_tm5 (List.mem_of_getElem? (i := 208) rfl)
theorem ks_X12_248 : Cond.constant RX12 248 (40000) ∈ lw_tbl := hz_tm5 (List.mem_of_getElem? (i := 209) rfl)
theorem ks_X12_279 : Cond.constant RX12 279 (200000) ∈ lw_tbl := hz_tm5 (List.mem_of_getElem? (i := 210) rfl)
theorem ks_X12_371 : Cond.constant RX12 371 (537919487) ∈ lw_tbl := hz_tm6 (List.mem_of_getElem? (i := 27) rfl)
theorem ks_X12_428 : Cond.constantLong RX12 428 (4096) ∈ lw_tbl := hz_tm6 (List.mem_of_getElem? (i := 28) rfl)
theorem ks_X12_364 : Cond.constant RX12 364 (16777215) ∈ lw_tbl := hz_tm6 (List.mem_of_getElem? (i := 99) rfl)
theorem ks_X12_358 : Cond.constantLong RX12 358 (4294967295) ∈ lw_tbl := hz_tm6 (List.mem_of_getElem? (i := 106) rfl)
theorem ks_X12_472 : Cond.constantLong RX12 472 (40) ∈ lw_tbl := hz_tm8 (List.mem_of_getElem? (i := 100) rfl)
theorem ks_X12_474 : Cond.constantLong RX12 474 (640) ∈ lw_tbl := hz_tm8 (List.mem_of_getElem? (i := 101) rfl)
theorem ks_X12_403 : Cond.constantLong RX12 403 (1099511627776) ∈ lw_tbl := hz_tm8 (List.mem_of_getElem? (i := 119) rfl)
theorem ks_X12_401 : Cond.constantLong RX12 401 (8388607) ∈ lw_tbl := hz_tm8 (List.mem_of_getElem? (i := 120) rfl)
theorem ks_X12_365 : Cond.constant RX12 365 (32768) ∈ lw_tbl := hz_tm8 (List.mem_of_getElem? (i := 140) rfl)
theorem ks_X12_366 : Cond.constant RX12 366 (8388607) ∈ lw_tbl := hz_tm8 (List.mem_of_getElem? (i := 141) rfl)
theorem gs_X8_22 : Cond.fieldLink RX8 22 (hz_zc 0).1 (hz_zc 0).2 "[I" ∈ lw_tbl := hz_tm2 (List.mem_of_getElem? (i := 105) rfl)
theorem gs_X8_25 : Cond.fieldLink RX8 25 (hz_zc 1).1 (hz_zc 1).2 "[I" ∈ lw_tbl := hz_tm2 (List.mem_of_getElem? (i := 107) rfl)
theorem gs_X4_62 : Cond.fieldLink RX4 62 (hz_zc 2).1 (hz_zc 2).2 "[I" ∈ lw_tbl := hz_tm2 (List.mem_of_getElem? (i := 114) rfl)
theorem gs_X4_69 : Cond.fieldLink RX4 69 (hz_zc 3).1 (hz_zc 3).2 "[I" ∈ lw_tbl := hz_tm2 (List.mem_of_getElem? (i := 116) rfl)
theorem gs_X11_203 : Cond.fieldLink RX11 203 (hz_zc 2).1 (hz_zc 2).2 "[I" ∈ lw_tbl := hz_tm4 (List.mem_of_getElem? (i := 55) rfl)
theorem gs_X3_188 : Cond.fieldLink RX3 188 (hz_zc 3).1 (hz_zc 3).2 "[I" ∈ lw_tbl := hz_tm4 (List.mem_of_getElem? (i := 155) rfl)
