theorem hz_subp {ws : List Cond} (ps : List Nat) (h : ws = ps.filterMap (fun i => lw_tbl[i]?)) : ∀ w ∈ ws, w ∈ lw_tbl := by
  intro w hw
  rw [h] at hw
  obtain ⟨i, -, hi⟩ := List.mem_filterMap.mp hw
  exact List.mem_of_getElem? hi
theorem hz_tm1 {w : Cond} (h : w ∈ tables_1_1) : w ∈ lw_tbl := List.mem_append_right _ (show w ∈ tables_1 from List.mem_append_left _ h)
theorem hz_tm2 {w : Cond} (h : w ∈ tables_1_2) : w ∈ lw_tbl := List.mem_append_right _ (show w ∈ tables_1 from List.mem_append_right _ (List.mem_append_left _ h))
theorem hz_tm3 {w : Cond} (h : w ∈ tables_1_3) : w ∈ lw_tbl := List.mem_append_right _ (show w ∈ tables_1 from List.mem_append_right _ (List.mem_append_right _ (List.mem_append_left _ h)))
theorem hz_tm4 {w : Cond} (h : w ∈ tables_1_4) : w ∈ lw_tbl := List.mem_append_right _ (show w ∈ tables_1 from List.mem_append_right _ (List.mem_append_right _ (List.mem_append_right _ (List.mem_append_left _ h))))
theorem hz_tm5 {w : Cond} (h : w ∈ tables_1_5) : w ∈ lw_tbl := List.mem_append_right _ (show w ∈ tables_1 from List.mem_append_right _ (List.mem_append_right _ (List.mem_append_right _ (List.mem_append_right _ (List.mem_append_left _ h)))))
theorem hz_tm6 {w : Cond} (h : w ∈ tables_1_6) : w ∈ lw_tbl := List.mem_append_right _ (show w ∈ tables_1 from List.mem_append_right _ (List.mem_append_right _ (List.mem_append_right _ (List.mem_append_right _ (List.mem_append_right _ (List.mem_append_left _ h))))))
theorem hz_tm7 {w : Cond} (h : w ∈ tables_1_7) : w ∈ lw_tbl := List.mem_append_right _ (show w ∈ tables_1 from List.mem_append_right _ (List.mem_append_right _ (List.mem_append_right _ (List.mem_append_right _ (List.mem_append_right _ (List.mem_append_right _ (List.mem_append_left _ h)))))))
theorem hz_tm8 {w : Cond} (h : w ∈ tables_1_8) : w ∈ lw_tbl := List.mem_append_right _ (show w ∈ tables_1 from List.mem_append_right _ (List.mem_append_right _ (List.mem_append_right _ (List.mem_append_right _ (List.mem_append_right _ (List.mem_append_right _ (List.mem_append_right _ (List.mem_append_left _ h))))))))
theorem hz_tm9 {w : Cond} (h : w ∈ tables_1_9) : w ∈ lw_tbl := List.mem_append_right _ (show w ∈ tables_1 from List.mem_append_right _ (List.mem_append_right _ (List.mem_append_right _ (List.mem_append_right _ (List.mem_append_right _ (List.mem_append_right _ (List.mem_append_right _ (List.mem_append_right _ (h)))))))))
theorem inX0 : ∀ w ∈ u_ws RX0 TX0 0, w ∈ lw_tbl := hz_subp [] (by decide +kernel)
theorem inX1 : ∀ w ∈ u_ws RX1 TX1 8, w ∈ lw_tbl := hz_subp [249, 251, 253, 255, 257, 259, 261, 263] (by decide +kernel)
theorem inX2 : ∀ w ∈ u_ws RX2 TX2 7, w ∈ lw_tbl := hz_subp [320, 322, 324, 326, 328, 330, 332] (by decide +kernel)
theorem inX3 : ∀ w ∈ u_ws RX3 TX3 11, w ∈ lw_tbl := hz_subp [281, 283, 285, 287, 289, 291, 293, 295, 297, 299, 301] (by decide +kernel)
theorem inX4 : ∀ w ∈ u_ws RX4 TX4 7, w ∈ lw_tbl := hz_subp [178, 180, 182, 184, 186, 188, 190] (by decide +kernel)
theorem inX5 : ∀ w ∈ u_ws RX5 TX5 13, w ∈ lw_tbl := hz_subp [397, 399, 401, 403, 405, 407, 409, 411, 413, 415, 417, 419, 421] (by decide +kernel)
theorem inX6 : ∀ w ∈ u_ws RX6 TX6 14, w ∈ lw_tbl := hz_subp [654, 656, 658, 660, 662, 664, 666, 668, 670, 672, 674, 676, 678, 680] (by decide +kernel)
theorem inX7 : ∀ w ∈ u_ws RX7 TX7 3, w ∈ lw_tbl := hz_subp [366, 368, 370] (by decide +kernel)
theorem inX8 : ∀ w ∈ u_ws RX8 TX8 3, w ∈ lw_tbl := hz_subp [154, 156, 158] (by decide +kernel)
theorem inX9 : ∀ w ∈ u_ws RX9 TX9 5, w ∈ lw_tbl := hz_subp [207, 209, 211, 213, 215] (by decide +kernel)
theorem inX10 : ∀ w ∈ u_ws RX10 TX10 12, w ∈ lw_tbl := hz_subp [600, 602, 604, 606, 608, 610, 612, 614, 616, 618, 620, 622] (by decide +kernel)
theorem inX11 : ∀ w ∈ u_ws RX11 TX11 13, w ∈ lw_tbl := hz_subp [768, 770, 772, 774, 776, 778, 780, 782, 784, 786, 788, 790, 792] (by decide +kernel)
theorem inX12 : ∀ w ∈ u_ws RX12 TX12 106, w ∈ lw_tbl := hz_subp [1541, 1543, 1545, 1547, 1549, 1551, 1553, 1555, 1557, 1559, 1561, 1563, 1565, 1567, 1569, 1571, 1573, 1575, 1577, 1579, 1581, 1583, 1585, 1587, 1589, 1591, 1593, 1595, 1597, 1599, 1601, 1603, 1605, 1607, 1609, 1611, 1613, 1615, 1617, 1619, 1621, 1623, 1625, 1627, 1629, 1631, 1633, 1635, 1637, 1639, 1641, 1643, 1645, 1647, 1649, 1651, 1653, 1655, 1657, 1659, 1661, 1663, 1665, 1667, 1669, 1671, 1673, 1675, 1677, 1679, 1681, 1683, 1685, 1687, 1689, 1691, 1693, 1695, 1697, 1699, 1701, 1703, 1705, 1707, 1709, 1711, 1713, 1715, 1717, 1719, 1721, 1723, 1725, 1727, 1729, 1731, 1733, 1735, 1737, 1739, 1741, 1743, 1745, 1747, 1749, 1751] (by decide +kernel)
theorem fo_X8_9 : hz_fo RX8 9 8 0 := ⟨RX8, TX8, 3, tyX8, rfl, by decide, hz_tm1 (List.mem_of_getElem? (i := 41) rfl), inX8, tyX8_ok, nmX8⟩
theorem fo_X3_77 : hz_fo RX3 77 8 0 := ⟨RX8, TX8, 3, tyX8, rfl, by decide, hz_tm1 (List.mem_of_getElem? (i := 42) rfl), inX8, tyX8_ok, nmX8⟩
theorem fo_X4_98 : hz_fo RX4 98 8 0 := ⟨RX8, TX8, 3, tyX8, rfl, by decide, hz_tm1 (List.mem_of_getElem? (i := 43) rfl), inX8, tyX8_ok, nmX8⟩
theorem fo_X11_437 : hz_fo RX11 437 8 0 := ⟨RX8, TX8, 3, tyX8, rfl, by decide, hz_tm1 (List.mem_of_getElem? (i := 44) rfl), inX8, tyX8_ok, nmX8⟩
theorem fo_X8_15 : hz_fo RX8 15 8 1 := ⟨RX8, TX8, 3, tyX8, rfl, by decide, hz_tm1 (List.mem_of_getElem? (i := 45) rfl), inX8, tyX8_ok, nmX8⟩
theorem fo_X8_18 : hz_fo RX8 18 8 2 := ⟨RX8, TX8, 3, tyX8, rfl, by decide, hz_tm1 (List.mem_of_getElem? (i := 46) rfl), inX8, tyX8_ok, nmX8⟩
theorem fo_X4_32 : hz_fo RX4 32 4 0 := ⟨RX4, TX4, 7, tyX4, rfl, by decide, hz_tm1 (List.mem_of_getElem? (i := 62) rfl), inX4, tyX4_ok, nmX4⟩
theorem fo_X4_9 : hz_fo RX4 9 4 1 := ⟨RX4, TX4, 7, tyX4, rfl, by decide, hz_tm1 (List.mem_of_getElem? (i := 63) rfl), inX4, tyX4_ok, nmX4⟩
theorem fo_X4_15 : hz_fo RX4 15 4 2 := ⟨RX4, TX4, 7, tyX4, rfl, by decide, hz_tm1 (List.mem_of_getElem? (i := 64) rfl), inX4, tyX4_ok, nmX4⟩
theorem fo_X3_185 : hz_fo RX3 185 4 2 := ⟨RX4, TX4, 7, tyX4, rfl, by decide, hz_tm1 (List.mem_of_getElem? (i := 65) rfl), inX4, tyX4_ok, nmX4⟩
theorem fo_X11_206 : hz_fo RX11 206 4 2 := ⟨RX4, TX4, 7, tyX4, rfl, by decide, hz_tm1 (List.mem_of_getElem? (i := 66) rfl), inX4, tyX4_ok, nmX4⟩
theorem fo_X4_19 : hz_fo RX4 19 4 3 := ⟨RX4, TX4, 7, tyX4, rfl, by decide, hz_tm1 (List.mem_of_getElem? (i := 67) rfl), inX4, tyX4_ok, nmX4⟩
theorem fo_X4_22 : hz_fo RX4 22 4 4 := ⟨RX4, TX4, 7, tyX4, rfl, by decide, hz_tm1 (List.mem_of_getElem? (i := 68) rfl), inX4, tyX4_ok, nmX4⟩
theorem fo_X4_26 : hz_fo RX4 26 4 5 := ⟨RX4, TX4, 7, tyX4, rfl, by decide, hz_tm1 (List.mem_of_getElem? (i := 69) rfl), inX4, tyX4_ok, nmX4⟩
theorem fo_X4_29 : hz_fo RX4 29 4 6 := ⟨RX4, TX4, 7, tyX4, rfl, by decide, hz_tm1 (List.mem_of_getElem? (i := 70) rfl), inX4, tyX4_ok, nmX4⟩
theorem fo_X9_9 : hz_fo RX9 9 9 0 := ⟨RX9, TX9, 5, tyX9, rfl, by decide, hz_tm1 (List.mem_of_getElem? (i := 93) rfl), inX9, tyX9_ok, nmX9⟩
theorem fo_X11_404 : hz_fo RX11 404 9 0 := ⟨RX9, TX9, 5, tyX9, rfl, by decide, hz_tm1 (List.mem_of_getElem? (i := 94) rfl), inX9, tyX9_ok, nmX9⟩
theorem fo_X9_15 : hz_fo RX9 15 9 1 := ⟨RX9, TX9, 5, tyX9, rfl, by decide, hz_tm1 (List.mem_of_getElem? (i := 95) rfl), inX9, tyX9_ok, nmX9⟩
theorem fo_X9_18 : hz_fo RX9 18 9 2 := ⟨RX9, TX9, 5, tyX9, rfl, by decide, hz_tm1 (List.mem_of_getElem? (i := 96) rfl), inX9, tyX9_ok, nmX9⟩
theorem fo_X9_21 : hz_fo RX9 21 9 3 := ⟨RX9, TX9, 5, tyX9, rfl, by decide, hz_tm1 (List.mem_of_getElem? (i := 97) rfl), inX9, tyX9_ok, nmX9⟩
theorem fo_X10_97 : hz_fo RX10 97 9 3 := ⟨RX9, TX9, 5, tyX9, rfl, by decide, hz_tm1 (List.mem_of_getElem? (i := 98) rfl), inX9, tyX9_ok, nmX9⟩
theorem fo_X9_57 : hz_fo RX9 57 9 4 := ⟨RX9, TX9, 5, tyX9, rfl, by decide, hz_tm1 (List.mem_of_getElem? (i := 99) rfl), inX9, tyX9_ok, nmX9⟩
theorem fo_X1_9 : hz_fo RX1 9 1 0 := ⟨RX1, TX1, 8, tyX1, rfl, by decide, hz_tm1 (List.mem_of_getElem? (i := 123) rfl), inX1, tyX1_ok, nmX1⟩
theorem fo_X11_179 : hz_fo RX11 179 1 0 := ⟨RX1, TX1, 8, tyX1, rfl, by decide, hz_tm1 (List.mem_of_getElem? (i := 124) rfl), inX1, tyX1_ok, nmX1⟩
theorem fo_X1_15 : hz_fo RX1 15 1 1 := ⟨RX1, TX1, 8, tyX1, rfl, by decide, hz_tm1 (List.mem_of_getElem? (i := 125) rfl), inX1, tyX1_ok, nmX1⟩
theorem fo_X11_182 : hz_fo RX11 182 1 1 := ⟨RX1, TX1, 8, tyX1, rfl, by decide, hz_tm1 (List.mem_of_getElem? (i := 126) rfl), inX1, tyX1_ok, nmX1⟩
theorem fo_X1_19 : hz_fo RX1 19 1 2 := ⟨RX1, TX1, 8, tyX1, rfl, by decide, hz_tm1 (List.mem_of_getElem? (i := 127) rfl), inX1, tyX1_ok, nmX1⟩
theorem fo_X3_202 : hz_fo RX3 202 1 2 := ⟨RX1, TX1, 8, tyX1, rfl, by decide, hz_tm1 (List.mem_of_getElem? (i := 128) rfl), inX1, tyX1_ok, nmX1⟩
theorem fo_X11_410 : hz_fo RX11 410 1 2 := ⟨RX1, TX1, 8, tyX1, rfl, by decide, hz_tm1 (List.mem_of_getElem? (i := 129) rfl), inX1, tyX1_ok, nmX1⟩
theorem fo_X1_22 : hz_fo RX1 22 1 3 := ⟨RX1, TX1, 8, tyX1, rfl, by decide, hz_tm1 (List.mem_of_getElem? (i := 130) rfl), inX1, tyX1_ok, nmX1⟩
theorem fo_X3_199 : hz_fo RX3 199 1 3 := ⟨RX1, TX1, 8, tyX1, rfl, by decide, hz_tm1 (List.mem_of_getElem? (i := 131) rfl), inX1, tyX1_ok, nmX1⟩
theorem fo_X11_413 : hz_fo RX11 413 1 3 := ⟨RX1, TX1, 8, tyX1, rfl, by decide, hz_tm1 (List.mem_of_getElem? (i := 132) rfl), inX1, tyX1_ok, nmX1⟩
theorem fo_X1_25 : hz_fo RX1 25 1 4 := ⟨RX1, TX1, 8, tyX1, rfl, by decide, hz_tm1 (List.mem_of_getElem? (i := 133) rfl), inX1, tyX1_ok, nmX1⟩
theorem fo_X3_182 : hz_fo RX3 182 1 4 := ⟨RX1, TX1, 8, tyX1, rfl, by decide, hz_tm1 (List.mem_of_getElem? (i := 134) rfl), inX1, tyX1_ok, nmX1⟩
theorem fo_X11_416 : hz_fo RX11 416 1 4 := ⟨RX1, TX1, 8, tyX1, rfl, by decide, hz_tm1 (List.mem_of_getElem? (i := 135) rfl), inX1, tyX1_ok, nmX1⟩
theorem fo_X1_28 : hz_fo RX1 28 1 5 := ⟨RX1, TX1, 8, tyX1, rfl, by decide, hz_tm1 (List.mem_of_getElem? (i := 136) rfl), inX1, tyX1_ok, nmX1⟩
theorem fo_X3_178 : hz_fo RX3 178 1 5 := ⟨RX1, TX1, 8, tyX1, rfl, by decide, hz_tm1 (List.mem_of_getElem? (i := 137) rfl), inX1, tyX1_ok, nmX1⟩
theorem fo_X11_417 : hz_fo RX11 417 1 5 := ⟨RX1, TX1, 8, tyX1, rfl, by decide, hz_tm1 (List.mem_of_getElem? (i := 138) rfl), inX1, tyX1_ok, nmX1⟩
theorem fo_X1_35 : hz_fo RX1 35 1 6 := ⟨RX1, TX1, 8, tyX1, rfl, by decide, hz_tm1 (List.mem_of_getElem? (i := 139) rfl), inX1, tyX1_ok, nmX1⟩
theorem fo_X11_174 : hz_fo RX11 174 1 6 := ⟨RX1, TX1, 8, tyX1, rfl, by decide, hz_tm1 (List.mem_of_getElem? (i := 140) rfl), inX1, tyX1_ok, nmX1⟩
theorem fo_X1_32 : hz_fo RX1 32 1 7 := ⟨RX1, TX1, 8, tyX1, rfl, by decide, hz_tm1 (List.mem_of_getElem? (i := 141) rfl), inX1, tyX1_ok, nmX1⟩
theorem fo_X3_36 : hz_fo RX3 36 3 0 := ⟨RX3, TX3, 11, tyX3, rfl, by decide, hz_tm1 (List.mem_of_getElem? (i := 160) rfl), inX3, tyX3_ok, nmX3⟩
theorem fo_X3_40 : hz_fo RX3 40 3 1 := ⟨RX3, TX3, 11, tyX3, rfl, by decide, hz_tm1 (List.mem_of_getElem? (i := 161) rfl), inX3, tyX3_ok, nmX3⟩
theorem fo_X3_44 : hz_fo RX3 44 3 2 := ⟨RX3, TX3, 11, tyX3, rfl, by decide, hz_tm1 (List.mem_of_getElem? (i := 162) rfl), inX3, tyX3_ok, nmX3⟩
theorem fo_X3_12 : hz_fo RX3 12 3 3 := ⟨RX3, TX3, 11, tyX3, rfl, by decide, hz_tm1 (List.mem_of_getElem? (i := 163) rfl), inX3, tyX3_ok, nmX3⟩
theorem fo_X3_18 : hz_fo RX3 18 3 4 := ⟨RX3, TX3, 11, tyX3, rfl, by decide, hz_tm1 (List.mem_of_getElem? (i := 164) rfl), inX3, tyX3_ok, nmX3⟩
theorem fo_X3_22 : hz_fo RX3 22 3 5 := ⟨RX3, TX3, 11, tyX3, rfl, by decide, hz_tm1 (List.mem_of_getElem? (i := 165) rfl), inX3, tyX3_ok, nmX3⟩
theorem fo_X3_26 : hz_fo RX3 26 3 6 := ⟨RX3, TX3, 11, tyX3, rfl, by decide, hz_tm1 (List.mem_of_getElem? (i := 166) rfl), inX3, tyX3_ok, nmX3⟩
theorem fo_X3_29 : hz_fo RX3 29 3 7 := ⟨RX3, TX3, 11, tyX3, rfl, by decide, hz_tm1 (List.mem_of_getElem? (i := 167) rfl), inX3, tyX3_ok, nmX3⟩
theorem fo_X11_108 : hz_fo RX11 108 3 7 := ⟨RX3, TX3, 11, tyX3, rfl, by decide, hz_tm1 (List.mem_of_getElem? (i := 168) rfl), inX3, tyX3_ok, nmX3⟩
theorem fo_X3_32 : hz_fo RX3 32 3 8 := ⟨RX3, TX3, 11, tyX3, rfl, by decide, hz_tm1 (List.mem_of_getElem? (i := 169) rfl), inX3, tyX3_ok, nmX3⟩
theorem fo_X11_111 : hz_fo RX11 111 3 8 := ⟨RX3, TX3, 11, tyX3, rfl, by decide, hz_tm1 (List.mem_of_getElem? (i := 170) rfl), inX3, tyX3_ok, nmX3⟩
theorem fo_X3_114 : hz_fo RX3 114 3 9 := ⟨RX3, TX3, 11, tyX3, rfl, by decide, hz_tm1 (List.mem_of_getElem? (i := 171) rfl), inX3, tyX3_ok, nmX3⟩
theorem fo_X11_471 : hz_fo RX11 471 3 9 := ⟨RX3, TX3, 11, tyX3, rfl, by decide, hz_tm1 (List.mem_of_getElem? (i := 172) rfl), inX3, tyX3_ok, nmX3⟩
theorem fo_X3_146 : hz_fo RX3 146 3 10 := ⟨RX3, TX3, 11, tyX3, rfl, by decide, hz_tm1 (List.mem_of_getElem? (i := 173) rfl), inX3, tyX3_ok, nmX3⟩
theorem fo_X2_28 : hz_fo RX2 28 2 0 := ⟨RX2, TX2, 7, tyX2, rfl, by decide, hz_tm1 (List.mem_of_getElem? (i := 203) rfl), inX2, tyX2_ok, nmX2⟩
theorem fo_X11_152 : hz_fo RX11 152 2 0 := ⟨RX2, TX2, 7, tyX2, rfl, by decide, hz_tm1 (List.mem_of_getElem? (i := 204) rfl), inX2, tyX2_ok, nmX2⟩
theorem fo_X2_9 : hz_fo RX2 9 2 1 := ⟨RX2, TX2, 7, tyX2, rfl, by decide, hz_tm1 (List.mem_of_getElem? (i := 205) rfl), inX2, tyX2_ok, nmX2⟩
theorem fo_X2_15 : hz_fo RX2 15 2 2 := ⟨RX2, TX2, 7, tyX2, rfl, by decide, hz_tm1 (List.mem_of_getElem? (i := 206) rfl), inX2, tyX2_ok, nmX2⟩
theorem fo_X2_19 : hz_fo RX2 19 2 3 := ⟨RX2, TX2, 7, tyX2, rfl, by decide, hz_tm1 (List.mem_of_getElem? (i := 207) rfl), inX2, tyX2_ok, nmX2⟩
theorem fo_X11_196 : hz_fo RX11 196 2 3 := ⟨RX2, TX2, 7, tyX2, rfl, by decide, hz_tm1 (List.mem_of_getElem? (i := 208) rfl), inX2, tyX2_ok, nmX2⟩
theorem fo_X2_32 : hz_fo RX2 32 2 4 := ⟨RX2, TX2, 7, tyX2, rfl, by decide, hz_tm1 (List.mem_of_getElem? (i := 209) rfl), inX2, tyX2_ok, nmX2⟩
theorem fo_X11_155 : hz_fo RX11 155 2 4 := ⟨RX2, TX2, 7, tyX2, rfl, by decide, hz_tm1 (List.mem_of_getElem? (i := 210) rfl), inX2, tyX2_ok, nmX2⟩
theorem fo_X2_22 : hz_fo RX2 22 2 5 := ⟨RX2, TX2, 7, tyX2, rfl, by decide, hz_tm1 (List.mem_of_getElem? (i := 211) rfl), inX2, tyX2_ok, nmX2⟩
theorem fo_X2_25 : hz_fo RX2 25 2 6 := ⟨RX2, TX2, 7, tyX2, rfl, by decide, hz_tm1 (List.mem_of_getElem? (i := 212) rfl), inX2, tyX2_ok, nmX2⟩
theorem fo_X7_9 : hz_fo RX7 9 7 0 := ⟨RX7, TX7, 3, tyX7, rfl, by decide, hz_tm2 (List.mem_of_getElem? (i := 1) rfl), inX7, tyX7_ok, nmX7⟩
theorem fo_X6_91 : hz_fo RX6 91 7 0 := ⟨RX7, TX7, 3, tyX7, rfl, by decide, hz_tm2 (List.mem_of_getElem? (i := 2) rfl), inX7, tyX7_ok, nmX7⟩
theorem fo_X1_81 : hz_fo RX1 81 7 0 := ⟨RX7, TX7, 3, tyX7, rfl, by decide, hz_tm2 (List.mem_of_getElem? (i := 3) rfl), inX7, tyX7_ok, nmX7⟩
theorem fo_X5_62 : hz_fo RX5 62 7 0 := ⟨RX7, TX7, 3, tyX7, rfl, by decide, hz_tm2 (List.mem_of_getElem? (i := 4) rfl), inX7, tyX7_ok, nmX7⟩
theorem fo_X3_220 : hz_fo RX3 220 7 0 := ⟨RX7, TX7, 3, tyX7, rfl, by decide, hz_tm2 (List.mem_of_getElem? (i := 5) rfl), inX7, tyX7_ok, nmX7⟩
theorem fo_X11_225 : hz_fo RX11 225 7 0 := ⟨RX7, TX7, 3, tyX7, rfl, by decide, hz_tm2 (List.mem_of_getElem? (i := 6) rfl), inX7, tyX7_ok, nmX7⟩
theorem fo_X7_15 : hz_fo RX7 15 7 1 := ⟨RX7, TX7, 3, tyX7, rfl, by decide, hz_tm2 (List.mem_of_getElem? (i := 7) rfl), inX7, tyX7_ok, nmX7⟩
theorem fo_X6_94 : hz_fo RX6 94 7 1 := ⟨RX7, TX7, 3, tyX7, rfl, by decide, hz_tm2 (List.mem_of_getElem? (i := 8) rfl), inX7, tyX7_ok, nmX7⟩
theorem fo_X5_65 : hz_fo RX5 65 7 1 := ⟨RX7, TX7, 3, tyX7, rfl, by decide, hz_tm2 (List.mem_of_getElem? (i := 9) rfl), inX7, tyX7_ok, nmX7⟩
theorem fo_X1_87 : hz_fo RX1 87 7 1 := ⟨RX7, TX7, 3, tyX7, rfl, by decide, hz_tm2 (List.mem_of_getElem? (i := 10) rfl), inX7, tyX7_ok, nmX7⟩
theorem fo_X3_223 : hz_fo RX3 223 7 1 := ⟨RX7, TX7, 3, tyX7, rfl, by decide, hz_tm2 (List.mem_of_getElem? (i := 11) rfl), inX7, tyX7_ok, nmX7⟩
theorem fo_X11_228 : hz_fo RX11 228 7 1 := ⟨RX7, TX7, 3, tyX7, rfl, by decide, hz_tm2 (List.mem_of_getElem? (i := 12) rfl), inX7, tyX7_ok, nmX7⟩
theorem fo_X7_19 : hz_fo RX7 19 7 2 := ⟨RX7, TX7, 3, tyX7, rfl, by decide, hz_tm2 (List.mem_of_getElem? (i := 13) rfl), inX7, tyX7_ok, nmX7⟩
theorem fo_X10_54 : hz_fo RX10 54 7 2 := ⟨RX7, TX7, 3, tyX7, rfl, by decide, hz_tm2 (List.mem_of_getElem? (i := 14) rfl), inX7, tyX7_ok, nmX7⟩
theorem fo_X5_49 : hz_fo RX5 49 7 2 := ⟨RX7, TX7, 3, tyX7, rfl, by decide, hz_tm2 (List.mem_of_getElem? (i := 15) rfl), inX7, tyX7_ok, nmX7⟩
theorem fo_X6_88 : hz_fo RX6 88 7 2 := ⟨RX7, TX7, 3, tyX7, rfl, by decide, hz_tm2 (List.mem_of_getElem? (i := 16) rfl), inX7, tyX7_ok, nmX7⟩
theorem fo_X3_212 : hz_fo RX3 212 7 2 := ⟨RX7, TX7, 3, tyX7, rfl, by decide, hz_tm2 (List.mem_of_getElem? (i := 17) rfl), inX7, tyX7_ok, nmX7⟩
theorem fo_X11_220 : hz_fo RX11 220 7 2 := ⟨RX7, TX7, 3, tyX7, rfl, by decide, hz_tm2 (List.mem_of_getElem? (i := 18) rfl), inX7, tyX7_ok, nmX7⟩
theorem fo_X5_15 : hz_fo RX5 15 5 0 := ⟨RX5, TX5, 13, tyX5, rfl, by decide, hz_tm2 (List.mem_of_getElem? (i := 26) rfl), inX5, tyX5_ok, nmX5⟩
theorem fo_X11_342 : hz_fo RX11 342 5 0 := ⟨RX5, TX5, 13, tyX5, rfl, by decide, hz_tm2 (List.mem_of_getElem? (i := 27) rfl), inX5, tyX5_ok, nmX5⟩
theorem fo_X5_21 : hz_fo RX5 21 5 1 := ⟨RX5, TX5, 13, tyX5, rfl, by decide, hz_tm2 (List.mem_of_getElem? (i := 28) rfl), inX5, tyX5_ok, nmX5⟩
theorem fo_X11_343 : hz_fo RX11 343 5 1 := ⟨RX5, TX5, 13, tyX5, rfl, by decide, hz_tm2 (List.mem_of_getElem? (i := 29) rfl), inX5, tyX5_ok, nmX5⟩
theorem fo_X5_25 : hz_fo RX5 25 5 2 := ⟨RX5, TX5, 13, tyX5, rfl, by decide, hz_tm2 (List.mem_of_getElem? (i := 30) rfl), inX5, tyX5_ok, nmX5⟩
theorem fo_X11_346 : hz_fo RX11 346 5 2 := ⟨RX5, TX5, 13, tyX5, rfl, by decide, hz_tm2 (List.mem_of_getElem? (i := 31) rfl), inX5, tyX5_ok, nmX5⟩
theorem fo_X5_28 : hz_fo RX5 28 5 3 := ⟨RX5, TX5, 13, tyX5, rfl, by decide, hz_tm2 (List.mem_of_getElem? (i := 32) rfl), inX5, tyX5_ok, nmX5⟩
theorem fo_X11_349 : hz_fo RX11 349 5 3 := ⟨RX5, TX5, 13, tyX5, rfl, by decide, hz_tm2 (List.mem_of_getElem? (i := 33) rfl), inX5, tyX5_ok, nmX5⟩
theorem fo_X5_31 : hz_fo RX5 31 5 4 := ⟨RX5, TX5, 13, tyX5, rfl, by decide, hz_tm2 (List.mem_of_getElem? (i := 34) rfl), inX5, tyX5_ok, nmX5⟩
theorem fo_X11_352 : hz_fo RX11 352 5 4 := ⟨RX5, TX5, 13, tyX5, rfl, by decide, hz_tm2 (List.mem_of_getElem? (i := 35) rfl), inX5, tyX5_ok, nmX5⟩
theorem fo_X5_38 : hz_fo RX5 38 5 5 := ⟨RX5, TX5, 13, tyX5, rfl, by decide, hz_tm2 (List.mem_of_getElem? (i := 36) rfl), inX5, tyX5_ok, nmX5⟩
theorem fo_X5_42 : hz_fo RX5 42 5 6 := ⟨RX5, TX5, 13, tyX5, rfl, by decide, hz_tm2 (List.mem_of_getElem? (i := 37) rfl), inX5, tyX5_ok, nmX5⟩
theorem fo_X5_59 : hz_fo RX5 59 5 7 := ⟨RX5, TX5, 13, tyX5, rfl, by decide, hz_tm2 (List.mem_of_getElem? (i := 38) rfl), inX5, tyX5_ok, nmX5⟩
theorem fo_X11_320 : hz_fo RX11 320 5 7 := ⟨RX5, TX5, 13, tyX5, rfl, by decide, hz_tm2 (List.mem_of_getElem? (i := 39) rfl), inX5, tyX5_ok, nmX5⟩
theorem fo_X5_56 : hz_fo RX5 56 5 8 := ⟨RX5, TX5, 13, tyX5, rfl, by decide, hz_tm2 (List.mem_of_getElem? (i := 40) rfl), inX5, tyX5_ok, nmX5⟩
theorem fo_X11_383 : hz_fo RX11 383 5 8 := ⟨RX5, TX5, 13, tyX5, rfl, by decide, hz_tm2 (List.mem_of_getElem? (i := 41) rfl), inX5, tyX5_ok, nmX5⟩
theorem fo_X5_34 : hz_fo RX5 34 5 9 := ⟨RX5, TX5, 13, tyX5, rfl, by decide, hz_tm2 (List.mem_of_getElem? (i := 42) rfl), inX5, tyX5_ok, nmX5⟩
theorem fo_X11_450 : hz_fo RX11 450 5 9 := ⟨RX5, TX5, 13, tyX5, rfl, by decide, hz_tm2 (List.mem_of_getElem? (i := 43) rfl), inX5, tyX5_ok, nmX5⟩
theorem fo_X5_92 : hz_fo RX5 92 5 10 := ⟨RX5, TX5, 13, tyX5, rfl, by decide, hz_tm2 (List.mem_of_getElem? (i := 44) rfl), inX5, tyX5_ok, nmX5⟩
theorem fo_X11_453 : hz_fo RX11 453 5 10 := ⟨RX5, TX5, 13, tyX5, rfl, by decide, hz_tm2 (List.mem_of_getElem? (i := 45) rfl), inX5, tyX5_ok, nmX5⟩
theorem fo_X5_76 : hz_fo RX5 76 5 11 := ⟨RX5, TX5, 13, tyX5, rfl, by decide, hz_tm2 (List.mem_of_getElem? (i := 46) rfl), inX5, tyX5_ok, nmX5⟩
theorem fo_X11_299 : hz_fo RX11 299 5 11 := ⟨RX5, TX5, 13, tyX5, rfl, by decide, hz_tm2 (List.mem_of_getElem? (i := 47) rfl), inX5, tyX5_ok, nmX5⟩
theorem fo_X5_79 : hz_fo RX5 79 5 12 := ⟨RX5, TX5, 13, tyX5, rfl, by decide, hz_tm2 (List.mem_of_getElem? (i := 48) rfl), inX5, tyX5_ok, nmX5⟩
theorem fo_X11_330 : hz_fo RX11 330 5 12 := ⟨RX5, TX5, 13, tyX5, rfl, by decide, hz_tm2 (List.mem_of_getElem? (i := 49) rfl), inX5, tyX5_ok, nmX5⟩
theorem fo_X10_14 : hz_fo RX10 14 10 0 := ⟨RX10, TX10, 12, tyX10, rfl, by decide, hz_tm2 (List.mem_of_getElem? (i := 226) rfl), inX10, tyX10_ok, nmX10⟩
theorem fo_X1_77 : hz_fo RX1 77 10 0 := ⟨RX10, TX10, 12, tyX10, rfl, by decide, hz_tm2 (List.mem_of_getElem? (i := 227) rfl), inX10, tyX10_ok, nmX10⟩
theorem fo_X11_217 : hz_fo RX11 217 10 0 := ⟨RX10, TX10, 12, tyX10, rfl, by decide, hz_tm2 (List.mem_of_getElem? (i := 228) rfl), inX10, tyX10_ok, nmX10⟩
theorem fo_X10_20 : hz_fo RX10 20 10 1 := ⟨RX10, TX10, 12, tyX10, rfl, by decide, hz_tm2 (List.mem_of_getElem? (i := 229) rfl), inX10, tyX10_ok, nmX10⟩
theorem fo_X6_109 : hz_fo RX6 109 10 1 := ⟨RX10, TX10, 12, tyX10, rfl, by decide, hz_tm2 (List.mem_of_getElem? (i := 230) rfl), inX10, tyX10_ok, nmX10⟩
theorem fo_X11_244 : hz_fo RX11 244 10 1 := ⟨RX10, TX10, 12, tyX10, rfl, by decide, hz_tm2 (List.mem_of_getElem? (i := 231) rfl), inX10, tyX10_ok, nmX10⟩
theorem fo_X10_24 : hz_fo RX10 24 10 2 := ⟨RX10, TX10, 12, tyX10, rfl, by decide, hz_tm2 (List.mem_of_getElem? (i := 232) rfl), inX10, tyX10_ok, nmX10⟩
theorem fo_X11_386 : hz_fo RX11 386 10 2 := ⟨RX10, TX10, 12, tyX10, rfl, by decide, hz_tm2 (List.mem_of_getElem? (i := 233) rfl), inX10, tyX10_ok, nmX10⟩
theorem fo_X10_28 : hz_fo RX10 28 10 3 := ⟨RX10, TX10, 12, tyX10, rfl, by decide, hz_tm2 (List.mem_of_getElem? (i := 234) rfl), inX10, tyX10_ok, nmX10⟩
theorem fo_X3_125 : hz_fo RX3 125 10 3 := ⟨RX10, TX10, 12, tyX10, rfl, by decide, hz_tm2 (List.mem_of_getElem? (i := 235) rfl), inX10, tyX10_ok, nmX10⟩
theorem fo_X11_241 : hz_fo RX11 241 10 3 := ⟨RX10, TX10, 12, tyX10, rfl, by decide, hz_tm2 (List.mem_of_getElem? (i := 236) rfl), inX10, tyX10_ok, nmX10⟩
theorem fo_X10_31 : hz_fo RX10 31 10 4 := ⟨RX10, TX10, 12, tyX10, rfl, by decide, hz_tm2 (List.mem_of_getElem? (i := 237) rfl), inX10, tyX10_ok, nmX10⟩
theorem fo_X11_389 : hz_fo RX11 389 10 4 := ⟨RX10, TX10, 12, tyX10, rfl, by decide, hz_tm2 (List.mem_of_getElem? (i := 238) rfl), inX10, tyX10_ok, nmX10⟩
theorem fo_X10_34 : hz_fo RX10 34 10 5 := ⟨RX10, TX10, 12, tyX10, rfl, by decide, hz_tm2 (List.mem_of_getElem? (i := 239) rfl), inX10, tyX10_ok, nmX10⟩
theorem fo_X11_392 : hz_fo RX11 392 10 5 := ⟨RX10, TX10, 12, tyX10, rfl, by decide, hz_tm3 (List.mem_of_getElem? (i := 0) rfl), inX10, tyX10_ok, nmX10⟩
theorem fo_X10_37 : hz_fo RX10 37 10 6 := ⟨RX10, TX10, 12, tyX10, rfl, by decide, hz_tm3 (List.mem_of_getElem? (i := 1) rfl), inX10, tyX10_ok, nmX10⟩
theorem fo_X11_398 : hz_fo RX11 398 10 6 := ⟨RX10, TX10, 12, tyX10, rfl, by decide, hz_tm3 (List.mem_of_getElem? (i := 2) rfl), inX10, tyX10_ok, nmX10⟩
theorem fo_X10_40 : hz_fo RX10 40 10 7 := ⟨RX10, TX10, 12, tyX10, rfl, by decide, hz_tm3 (List.mem_of_getElem? (i := 3) rfl), inX10, tyX10_ok, nmX10⟩
theorem fo_X1_95 : hz_fo RX1 95 10 7 := ⟨RX10, TX10, 12, tyX10, rfl, by decide, hz_tm3 (List.mem_of_getElem? (i := 4) rfl), inX10, tyX10_ok, nmX10⟩
theorem fo_X10_64 : hz_fo RX10 64 10 8 := ⟨RX10, TX10, 12, tyX10, rfl, by decide, hz_tm3 (List.mem_of_getElem? (i := 5) rfl), inX10, tyX10_ok, nmX10⟩
theorem fo_X6_68 : hz_fo RX6 68 10 8 := ⟨RX10, TX10, 12, tyX10, rfl, by decide, hz_tm3 (List.mem_of_getElem? (i := 6) rfl), inX10, tyX10_ok, nmX10⟩
theorem fo_X3_226 : hz_fo RX3 226 10 8 := ⟨RX10, TX10, 12, tyX10, rfl, by decide, hz_tm3 (List.mem_of_getElem? (i := 7) rfl), inX10, tyX10_ok, nmX10⟩
theorem fo_X11_235 : hz_fo RX11 235 10 8 := ⟨RX10, TX10, 12, tyX10, rfl, by decide, hz_tm3 (List.mem_of_getElem? (i := 8) rfl), inX10, tyX10_ok, nmX10⟩
theorem fo_X10_44 : hz_fo RX10 44 10 9 := ⟨RX10, TX10, 12, tyX10, rfl, by decide, hz_tm3 (List.mem_of_getElem? (i := 9) rfl), inX10, tyX10_ok, nmX10⟩
theorem fo_X11_407 : hz_fo RX11 407 10 9 := ⟨RX10, TX10, 12, tyX10, rfl, by decide, hz_tm3 (List.mem_of_getElem? (i := 10) rfl), inX10, tyX10_ok, nmX10⟩
theorem fo_X10_47 : hz_fo RX10 47 10 10 := ⟨RX10, TX10, 12, tyX10, rfl, by decide, hz_tm3 (List.mem_of_getElem? (i := 11) rfl), inX10, tyX10_ok, nmX10⟩
theorem fo_X10_50 : hz_fo RX10 50 10 11 := ⟨RX10, TX10, 12, tyX10, rfl, by decide, hz_tm3 (List.mem_of_getElem? (i := 12) rfl), inX10, tyX10_ok, nmX10⟩
theorem fo_X6_53 : hz_fo RX6 53 6 0 := ⟨RX6, TX6, 14, tyX6, rfl, by decide, hz_tm3 (List.mem_of_getElem? (i := 38) rfl), inX6, tyX6_ok, nmX6⟩
theorem fo_X11_514 : hz_fo RX11 514 6 0 := ⟨RX6, TX6, 14, tyX6, rfl, by decide, hz_tm3 (List.mem_of_getElem? (i := 39) rfl), inX6, tyX6_ok, nmX6⟩
theorem fo_X6_9 : hz_fo RX6 9 6 1 := ⟨RX6, TX6, 14, tyX6, rfl, by decide, hz_tm3 (List.mem_of_getElem? (i := 40) rfl), inX6, tyX6_ok, nmX6⟩
theorem fo_X11_166 : hz_fo RX11 166 6 1 := ⟨RX6, TX6, 14, tyX6, rfl, by decide, hz_tm3 (List.mem_of_getElem? (i := 41) rfl), inX6, tyX6_ok, nmX6⟩
theorem fo_X6_15 : hz_fo RX6 15 6 2 := ⟨RX6, TX6, 14, tyX6, rfl, by decide, hz_tm3 (List.mem_of_getElem? (i := 42) rfl), inX6, tyX6_ok, nmX6⟩
theorem fo_X11_377 : hz_fo RX11 377 6 2 := ⟨RX6, TX6, 14, tyX6, rfl, by decide, hz_tm3 (List.mem_of_getElem? (i := 43) rfl), inX6, tyX6_ok, nmX6⟩
theorem fo_X6_75 : hz_fo RX6 75 6 3 := ⟨RX6, TX6, 14, tyX6, rfl, by decide, hz_tm3 (List.mem_of_getElem? (i := 44) rfl), inX6, tyX6_ok, nmX6⟩
theorem fo_X11_367 : hz_fo RX11 367 6 3 := ⟨RX6, TX6, 14, tyX6, rfl, by decide, hz_tm3 (List.mem_of_getElem? (i := 45) rfl), inX6, tyX6_ok, nmX6⟩
theorem fo_X6_19 : hz_fo RX6 19 6 4 := ⟨RX6, TX6, 14, tyX6, rfl, by decide, hz_tm3 (List.mem_of_getElem? (i := 46) rfl), inX6, tyX6_ok, nmX6⟩
theorem fo_X11_374 : hz_fo RX11 374 6 4 := ⟨RX6, TX6, 14, tyX6, rfl, by decide, hz_tm3 (List.mem_of_getElem? (i := 47) rfl), inX6, tyX6_ok, nmX6⟩
theorem fo_X6_61 : hz_fo RX6 61 6 5 := ⟨RX6, TX6, 14, tyX6, rfl, by decide, hz_tm3 (List.mem_of_getElem? (i := 48) rfl), inX6, tyX6_ok, nmX6⟩
theorem fo_X11_104 : hz_fo RX11 104 6 5 := ⟨RX6, TX6, 14, tyX6, rfl, by decide, hz_tm3 (List.mem_of_getElem? (i := 49) rfl), inX6, tyX6_ok, nmX6⟩
theorem fo_X3_84 : hz_fo RX3 84 6 5 := ⟨RX6, TX6, 14, tyX6, rfl, by decide, hz_tm3 (List.mem_of_getElem? (i := 50) rfl), inX6, tyX6_ok, nmX6⟩
theorem fo_X6_26 : hz_fo RX6 26 6 6 := ⟨RX6, TX6, 14, tyX6, rfl, by decide, hz_tm3 (List.mem_of_getElem? (i := 51) rfl), inX6, tyX6_ok, nmX6⟩
theorem fo_X3_229 : hz_fo RX3 229 6 6 := ⟨RX6, TX6, 14, tyX6, rfl, by decide, hz_tm3 (List.mem_of_getElem? (i := 52) rfl), inX6, tyX6_ok, nmX6⟩
theorem fo_X11_170 : hz_fo RX11 170 6 6 := ⟨RX6, TX6, 14, tyX6, rfl, by decide, hz_tm3 (List.mem_of_getElem? (i := 53) rfl), inX6, tyX6_ok, nmX6⟩
theorem fo_X6_35 : hz_fo RX6 35 6 7 := ⟨RX6, TX6, 14, tyX6, rfl, by decide, hz_tm3 (List.mem_of_getElem? (i := 54) rfl), inX6, tyX6_ok, nmX6⟩
theorem fo_X3_205 : hz_fo RX3 205 6 7 := ⟨RX6, TX6, 14, tyX6, rfl, by decide, hz_tm3 (List.mem_of_getElem? (i := 55) rfl), inX6, tyX6_ok, nmX6⟩
theorem fo_X11_257 : hz_fo RX11 257 6 7 := ⟨RX6, TX6, 14, tyX6, rfl, by decide, hz_tm3 (List.mem_of_getElem? (i := 56) rfl), inX6, tyX6_ok, nmX6⟩
theorem fo_X6_39 : hz_fo RX6 39 6 8 := ⟨RX6, TX6, 14, tyX6, rfl, by decide, hz_tm3 (List.mem_of_getElem? (i := 57) rfl), inX6, tyX6_ok, nmX6⟩
theorem fo_X3_238 : hz_fo RX3 238 6 8 := ⟨RX6, TX6, 14, tyX6, rfl, by decide, hz_tm3 (List.mem_of_getElem? (i := 58) rfl), inX6, tyX6_ok, nmX6⟩
theorem fo_X11_260 : hz_fo RX11 260 6 8 := ⟨RX6, TX6, 14, tyX6, rfl, by decide, hz_tm3 (List.mem_of_getElem? (i := 59) rfl), inX6, tyX6_ok, nmX6⟩
theorem fo_X6_43 : hz_fo RX6 43 6 9 := ⟨RX6, TX6, 14, tyX6, rfl, by decide, hz_tm3 (List.mem_of_getElem? (i := 60) rfl), inX6, tyX6_ok, nmX6⟩
theorem fo_X11_254 : hz_fo RX11 254 6 9 := ⟨RX6, TX6, 14, tyX6, rfl, by decide, hz_tm3 (List.mem_of_getElem? (i := 61) rfl), inX6, tyX6_ok, nmX6⟩
theorem fo_X6_47 : hz_fo RX6 47 6 10 := ⟨RX6, TX6, 14, tyX6, rfl, by decide, hz_tm3 (List.mem_of_getElem? (i := 62) rfl), inX6, tyX6_ok, nmX6⟩
theorem fo_X11_380 : hz_fo RX11 380 6 10 := ⟨RX6, TX6, 14, tyX6, rfl, by decide, hz_tm3 (List.mem_of_getElem? (i := 63) rfl), inX6, tyX6_ok, nmX6⟩
theorem fo_X6_50 : hz_fo RX6 50 6 11 := ⟨RX6, TX6, 14, tyX6, rfl, by decide, hz_tm3 (List.mem_of_getElem? (i := 64) rfl), inX6, tyX6_ok, nmX6⟩
theorem fo_X11_327 : hz_fo RX11 327 6 12 := ⟨RX6, TX6, 14, tyX6, rfl, by decide, hz_tm3 (List.mem_of_getElem? (i := 65) rfl), inX6, tyX6_ok, nmX6⟩
theorem fo_X11_336 : hz_fo RX11 336 6 13 := ⟨RX6, TX6, 14, tyX6, rfl, by decide, hz_tm3 (List.mem_of_getElem? (i := 66) rfl), inX6, tyX6_ok, nmX6⟩
theorem fo_X11_21 : hz_fo RX11 21 11 0 := ⟨RX11, TX11, 13, tyX11, rfl, by decide, hz_tm3 (List.mem_of_getElem? (i := 168) rfl), inX11, tyX11_ok, nmX11⟩
theorem fo_X11_30 : hz_fo RX11 30 11 1 := ⟨RX11, TX11, 13, tyX11, rfl, by decide, hz_tm3 (List.mem_of_getElem? (i := 169) rfl), inX11, tyX11_ok, nmX11⟩
theorem fo_X11_37 : hz_fo RX11 37 11 2 := ⟨RX11, TX11, 13, tyX11, rfl, by decide, hz_tm3 (List.mem_of_getElem? (i := 170) rfl), inX11, tyX11_ok, nmX11⟩
theorem fo_X11_46 : hz_fo RX11 46 11 3 := ⟨RX11, TX11, 13, tyX11, rfl, by decide, hz_tm3 (List.mem_of_getElem? (i := 171) rfl), inX11, tyX11_ok, nmX11⟩
theorem fo_X11_53 : hz_fo RX11 53 11 4 := ⟨RX11, TX11, 13, tyX11, rfl, by decide, hz_tm3 (List.mem_of_getElem? (i := 172) rfl), inX11, tyX11_ok, nmX11⟩
theorem fo_X11_62 : hz_fo RX11 62 11 5 := ⟨RX11, TX11, 13, tyX11, rfl, by decide, hz_tm3 (List.mem_of_getElem? (i := 173) rfl), inX11, tyX11_ok, nmX11⟩
theorem fo_X11_68 : hz_fo RX11 68 11 6 := ⟨RX11, TX11, 13, tyX11, rfl, by decide, hz_tm3 (List.mem_of_getElem? (i := 174) rfl), inX11, tyX11_ok, nmX11⟩
theorem fo_X11_72 : hz_fo RX11 72 11 7 := ⟨RX11, TX11, 13, tyX11, rfl, by decide, hz_tm3 (List.mem_of_getElem? (i := 175) rfl), inX11, tyX11_ok, nmX11⟩
theorem fo_X11_124 : hz_fo RX11 124 11 8 := ⟨RX11, TX11, 13, tyX11, rfl, by decide, hz_tm3 (List.mem_of_getElem? (i := 176) rfl), inX11, tyX11_ok, nmX11⟩
theorem fo_X11_77 : hz_fo RX11 77 11 9 := ⟨RX11, TX11, 13, tyX11, rfl, by decide, hz_tm3 (List.mem_of_getElem? (i := 177) rfl), inX11, tyX11_ok, nmX11⟩
theorem fo_X11_81 : hz_fo RX11 81 11 10 := ⟨RX11, TX11, 13, tyX11, rfl, by decide, hz_tm3 (List.mem_of_getElem? (i := 178) rfl), inX11, tyX11_ok, nmX11⟩
theorem fo_X11_89 : hz_fo RX11 89 11 11 := ⟨RX11, TX11, 13, tyX11, rfl, by decide, hz_tm3 (List.mem_of_getElem? (i := 179) rfl), inX11, tyX11_ok, nmX11⟩
theorem fo_X11_93 : hz_fo RX11 93 11 12 := ⟨RX11, TX11, 13, tyX11, rfl, by decide, hz_tm3 (List.mem_of_getElem? (i := 180) rfl), inX11, tyX11_ok, nmX11⟩
theorem fo_X12_302 : hz_fo RX12 302 12 0 := ⟨RX12, TX12, 106, tyX12, rfl, by decide, hz_tm6 (List.mem_of_getElem? (i := 128) rfl), inX12, tyX12_ok, nmX12⟩
theorem fo_X12_289 : hz_fo RX12 289 12 1 := ⟨RX12, TX12, 106, tyX12, rfl, by decide, hz_tm6 (List.mem_of_getElem? (i := 129) rfl), inX12, tyX12_ok, nmX12⟩
theorem fo_X12_7 : hz_fo RX12 7 12 2 := ⟨RX12, TX12, 106, tyX12, rfl, by decide, hz_tm6 (List.mem_of_getElem? (i := 130) rfl), inX12, tyX12_ok, nmX12⟩
theorem fo_X12_13 : hz_fo RX12 13 12 3 := ⟨RX12, TX12, 106, tyX12, rfl, by decide, hz_tm6 (List.mem_of_getElem? (i := 131) rfl), inX12, tyX12_ok, nmX12⟩
theorem fo_X12_16 : hz_fo RX12 16 12 4 := ⟨RX12, TX12, 106, tyX12, rfl, by decide, hz_tm6 (List.mem_of_getElem? (i := 132) rfl), inX12, tyX12_ok, nmX12⟩
theorem fo_X12_19 : hz_fo RX12 19 12 5 := ⟨RX12, TX12, 106, tyX12, rfl, by decide, hz_tm6 (List.mem_of_getElem? (i := 133) rfl), inX12, tyX12_ok, nmX12⟩
theorem fo_X12_22 : hz_fo RX12 22 12 6 := ⟨RX12, TX12, 106, tyX12, rfl, by decide, hz_tm6 (List.mem_of_getElem? (i := 134) rfl), inX12, tyX12_ok, nmX12⟩
theorem fo_X12_26 : hz_fo RX12 26 12 7 := ⟨RX12, TX12, 106, tyX12, rfl, by decide, hz_tm6 (List.mem_of_getElem? (i := 135) rfl), inX12, tyX12_ok, nmX12⟩
theorem fo_X12_29 : hz_fo RX12 29 12 8 := ⟨RX12, TX12, 106, tyX12, rfl, by decide, hz_tm6 (List.mem_of_getElem? (i := 136) rfl), inX12, tyX12_ok, nmX12⟩
theorem fo_X12_32 : hz_fo RX12 32 12 9 := ⟨RX12, TX12, 106, tyX12, rfl, by decide, hz_tm6 (List.mem_of_getElem? (i := 137) rfl), inX12, tyX12_ok, nmX12⟩
theorem fo_X12_36 : hz_fo RX12 36 12 10 := ⟨RX12, TX12, 106, tyX12, rfl, by decide, hz_tm6 (List.mem_of_getElem? (i := 138) rfl), inX12, tyX12_ok, nmX12⟩
theorem fo_X12_39 : hz_fo RX12 39 12 11 := ⟨RX12, TX12, 106, tyX12, rfl, by decide, hz_tm6 (List.mem_of_getElem? (i := 139) rfl), inX12, tyX12_ok, nmX12⟩
theorem fo_X12_42 : hz_fo RX12 42 12 12 := ⟨RX12, TX12, 106, tyX12, rfl, by decide, hz_tm6 (List.mem_of_getElem? (i := 140) rfl), inX12, tyX12_ok, nmX12⟩
theorem fo_X12_45 : hz_fo RX12 45 12 13 := ⟨RX12, TX12, 106, tyX12, rfl, by decide, hz_tm6 (List.mem_of_getElem? (i := 141) rfl), inX12, tyX12_ok, nmX12⟩
theorem fo_X12_48 : hz_fo RX12 48 12 14 := ⟨RX12, TX12, 106, tyX12, rfl, by decide, hz_tm6 (List.mem_of_getElem? (i := 142) rfl), inX12, tyX12_ok, nmX12⟩
theorem fo_X12_51 : hz_fo RX12 51 12 15 := ⟨RX12, TX12, 106, tyX12, rfl, by decide, hz_tm6 (List.mem_of_getElem? (i := 143) rfl), inX12, tyX12_ok, nmX12⟩
theorem fo_X12_409 : hz_fo RX12 409 12 16 := ⟨RX12, TX12, 106, tyX12, rfl, by decide, hz_tm6 (List.mem_of_getElem? (i := 144) rfl), inX12, tyX12_ok, nmX12⟩
theorem fo_X12_54 : hz_fo RX12 54 12 17 := ⟨RX12, TX12, 106, tyX12, rfl, by decide, hz_tm6 (List.mem_of_getElem? (i := 145) rfl), inX12, tyX12_ok, nmX12⟩
theorem fo_X12_57 : hz_fo RX12 57 12 18 := ⟨RX12, TX12, 106, tyX12, rfl, by decide, hz_tm6 (List.mem_of_getElem? (i := 146) rfl), inX12, tyX12_ok, nmX12⟩
theorem fo_X12_62 : hz_fo RX12 62 12 19 := ⟨RX12, TX12, 106, tyX12, rfl, by decide, hz_tm6 (List.mem_of_getElem? (i := 147) rfl), inX12, tyX12_ok, nmX12⟩
theorem fo_X12_65 : hz_fo RX12 65 12 20 := ⟨RX12, TX12, 106, tyX12, rfl, by decide, hz_tm6 (List.mem_of_getElem? (i := 148) rfl), inX12, tyX12_ok, nmX12⟩
theorem fo_X12_68 : hz_fo RX12 68 12 21 := ⟨RX12, TX12, 106, tyX12, rfl, by decide, hz_tm6 (List.mem_of_getElem? (i := 149) rfl), inX12, tyX12_ok, nmX12⟩
theorem fo_X12_71 : hz_fo RX12 71 12 22 := ⟨RX12, TX12, 106, tyX12, rfl, by decide, hz_tm6 (List.mem_of_getElem? (i := 150) rfl), inX12, tyX12_ok, nmX12⟩
theorem fo_X12_74 : hz_fo RX12 74 12 23 := ⟨RX12, TX12, 106, tyX12, rfl, by decide, hz_tm6 (List.mem_of_getElem? (i := 151) rfl), inX12, tyX12_ok, nmX12⟩
theorem fo_X12_77 : hz_fo RX12 77 12 24 := ⟨RX12, TX12, 106, tyX12, rfl, by decide, hz_tm6 (List.mem_of_getElem? (i := 152) rfl), inX12, tyX12_ok, nmX12⟩
theorem fo_X12_80 : hz_fo RX12 80 12 25 := ⟨RX12, TX12, 106, tyX12, rfl, by decide, hz_tm6 (List.mem_of_getElem? (i := 153) rfl), inX12, tyX12_ok, nmX12⟩
theorem fo_X12_83 : hz_fo RX12 83 12 26 := ⟨RX12, TX12, 106, tyX12, rfl, by decide, hz_tm6 (List.mem_of_getElem? (i := 154) rfl), inX12, tyX12_ok, nmX12⟩
theorem fo_X12_86 : hz_fo RX12 86 12 27 := ⟨RX12, TX12, 106, tyX12, rfl, by decide, hz_tm6 (List.mem_of_getElem? (i := 155) rfl), inX12, tyX12_ok, nmX12⟩
theorem fo_X12_89 : hz_fo RX12 89 12 28 := ⟨RX12, TX12, 106, tyX12, rfl, by decide, hz_tm6 (List.mem_of_getElem? (i := 156) rfl), inX12, tyX12_ok, nmX12⟩
theorem fo_X12_92 : hz_fo RX12 92 12 29 := ⟨RX12, TX12, 106, tyX12, rfl, by decide, hz_tm6 (List.mem_of_getElem? (i := 157) rfl), inX12, tyX12_ok, nmX12⟩
theorem fo_X12_95 : hz_fo RX12 95 12 30 := ⟨RX12, TX12, 106, tyX12, rfl, by decide, hz_tm6 (List.mem_of_getElem? (i := 158) rfl), inX12, tyX12_ok, nmX12⟩
theorem fo_X12_98 : hz_fo RX12 98 12 31 := ⟨RX12, TX12, 106, tyX12, rfl, by decide, hz_tm6 (List.mem_of_getElem? (i := 159) rfl), inX12, tyX12_ok, nmX12⟩
theorem fo_X12_101 : hz_fo RX12 101 12 32 := ⟨RX12, TX12, 106, tyX12, rfl, by decide, hz_tm6 (List.mem_of_getElem? (i := 160) rfl), inX12, tyX12_ok, nmX12⟩
theorem fo_X12_104 : hz_fo RX12 104 12 33 := ⟨RX12, TX12, 106, tyX12, rfl, by decide, hz_tm6 (List.mem_of_getElem? (i := 161) rfl), inX12, tyX12_ok, nmX12⟩
theorem fo_X12_107 : hz_fo RX12 107 12 34 := ⟨RX12, TX12, 106, tyX12, rfl, by decide, hz_tm6 (List.mem_of_getElem? (i := 162) rfl), inX12, tyX12_ok, nmX12⟩
theorem fo_X12_110 : hz_fo RX12 110 12 35 := ⟨RX12, TX12, 106, tyX12, rfl, by decide, hz_tm6 (List.mem_of_getElem? (i := 163) rfl), inX12, tyX12_ok, nmX12⟩
theorem fo_X12_113 : hz_fo RX12 113 12 36 := ⟨RX12, TX12, 106, tyX12, rfl, by decide, hz_tm6 (List.mem_of_getElem? (i := 164) rfl), inX12, tyX12_ok, nmX12⟩
theorem fo_X12_434 : hz_fo RX12 434 12 37 := ⟨RX12, TX12, 106, tyX12, rfl, by decide, hz_tm6 (List.mem_of_getElem? (i := 165) rfl), inX12, tyX12_ok, nmX12⟩
theorem fo_X12_116 : hz_fo RX12 116 12 38 := ⟨RX12, TX12, 106, tyX12, rfl, by decide, hz_tm6 (List.mem_of_getElem? (i := 166) rfl), inX12, tyX12_ok, nmX12⟩
theorem fo_X12_422 : hz_fo RX12 422 12 39 := ⟨RX12, TX12, 106, tyX12, rfl, by decide, hz_tm6 (List.mem_of_getElem? (i := 167) rfl), inX12, tyX12_ok, nmX12⟩
theorem fo_X12_119 : hz_fo RX12 119 12 40 := ⟨RX12, TX12, 106, tyX12, rfl, by decide, hz_tm6 (List.mem_of_getElem? (i := 168) rfl), inX12, tyX12_ok, nmX12⟩
theorem fo_X12_122 : hz_fo RX12 122 12 41 := ⟨RX12, TX12, 106, tyX12, rfl, by decide, hz_tm6 (List.mem_of_getElem? (i := 169) rfl), inX12, tyX12_ok, nmX12⟩
theorem fo_X12_125 : hz_fo RX12 125 12 42 := ⟨RX12, TX12, 106, tyX12, rfl, by decide, hz_tm6 (List.mem_of_getElem? (i := 170) rfl), inX12, tyX12_ok, nmX12⟩
theorem fo_X12_128 : hz_fo RX12 128 12 43 := ⟨RX12, TX12, 106, tyX12, rfl, by decide, hz_tm6 (List.mem_of_getElem? (i := 171) rfl), inX12, tyX12_ok, nmX12⟩
theorem fo_X12_131 : hz_fo RX12 131 12 44 := ⟨RX12, TX12, 106, tyX12, rfl, by decide, hz_tm6 (List.mem_of_getElem? (i := 172) rfl), inX12, tyX12_ok, nmX12⟩
theorem fo_X12_134 : hz_fo RX12 134 12 45 := ⟨RX12, TX12, 106, tyX12, rfl, by decide, hz_tm6 (List.mem_of_getElem? (i := 173) rfl), inX12, tyX12_ok, nmX12⟩
theorem fo_X12_137 : hz_fo RX12 137 12 46 := ⟨RX12, TX12, 106, tyX12, rfl, by decide, hz_tm6 (List.mem_of_getElem? (i := 174) rfl), inX12, tyX12_ok, nmX12⟩
theorem fo_X12_140 : hz_fo RX12 140 12 47 := ⟨RX12, TX12, 106, tyX12, rfl, by decide, hz_tm6 (List.mem_of_getElem? (i := 175) rfl), inX12, tyX12_ok, nmX12⟩
theorem fo_X12_143 : hz_fo RX12 143 12 48 := ⟨RX12, TX12, 106, tyX12, rfl, by decide, hz_tm6 (List.mem_of_getElem? (i := 176) rfl), inX12, tyX12_ok, nmX12⟩
theorem fo_X12_146 : hz_fo RX12 146 12 49 := ⟨RX12, TX12, 106, tyX12, rfl, by decide, hz_tm6 (List.mem_of_getElem? (i := 177) rfl), inX12, tyX12_ok, nmX12⟩
theorem fo_X12_149 : hz_fo RX12 149 12 50 := ⟨RX12, TX12, 106, tyX12, rfl, by decide, hz_tm6 (List.mem_of_getElem? (i := 178) rfl), inX12, tyX12_ok, nmX12⟩
theorem fo_X12_152 : hz_fo RX12 152 12 51 := ⟨RX12, TX12, 106, tyX12, rfl, by decide, hz_tm6 (List.mem_of_getElem? (i := 179) rfl), inX12, tyX12_ok, nmX12⟩
theorem fo_X12_155 : hz_fo RX12 155 12 52 := ⟨RX12, TX12, 106, tyX12, rfl, by decide, hz_tm6 (List.mem_of_getElem? (i := 180) rfl), inX12, tyX12_ok, nmX12⟩
theorem fo_X12_479 : hz_fo RX12 479 12 53 := ⟨RX12, TX12, 106, tyX12, rfl, by decide, hz_tm6 (List.mem_of_getElem? (i := 181) rfl), inX12, tyX12_ok, nmX12⟩
theorem fo_X12_158 : hz_fo RX12 158 12 54 := ⟨RX12, TX12, 106, tyX12, rfl, by decide, hz_tm6 (List.mem_of_getElem? (i := 182) rfl), inX12, tyX12_ok, nmX12⟩
theorem fo_X12_162 : hz_fo RX12 162 12 55 := ⟨RX12, TX12, 106, tyX12, rfl, by decide, hz_tm6 (List.mem_of_getElem? (i := 183) rfl), inX12, tyX12_ok, nmX12⟩
theorem fo_X12_165 : hz_fo RX12 165 12 56 := ⟨RX12, TX12, 106, tyX12, rfl, by decide, hz_tm6 (List.mem_of_getElem? (i := 184) rfl), inX12, tyX12_ok, nmX12⟩
theorem fo_X12_168 : hz_fo RX12 168 12 57 := ⟨RX12, TX12, 106, tyX12, rfl, by decide, hz_tm6 (List.mem_of_getElem? (i := 185) rfl), inX12, tyX12_ok, nmX12⟩
theorem fo_X12_171 : hz_fo RX12 171 12 58 := ⟨RX12, TX12, 106, tyX12, rfl, by decide, hz_tm6 (List.mem_of_getElem? (i := 186) rfl), inX12, tyX12_ok, nmX12⟩
theorem fo_X12_523 : hz_fo RX12 523 12 59 := ⟨RX12, TX12, 106, tyX12, rfl, by decide, hz_tm6 (List.mem_of_getElem? (i := 187) rfl), inX12, tyX12_ok, nmX12⟩
theorem fo_X12_174 : hz_fo RX12 174 12 60 := ⟨RX12, TX12, 106, tyX12, rfl, by decide, hz_tm6 (List.mem_of_getElem? (i := 188) rfl), inX12, tyX12_ok, nmX12⟩
theorem fo_X12_541 : hz_fo RX12 541 12 61 := ⟨RX12, TX12, 106, tyX12, rfl, by decide, hz_tm6 (List.mem_of_getElem? (i := 189) rfl), inX12, tyX12_ok, nmX12⟩
theorem fo_X12_177 : hz_fo RX12 177 12 62 := ⟨RX12, TX12, 106, tyX12, rfl, by decide, hz_tm6 (List.mem_of_getElem? (i := 190) rfl), inX12, tyX12_ok, nmX12⟩
theorem fo_X12_181 : hz_fo RX12 181 12 63 := ⟨RX12, TX12, 106, tyX12, rfl, by decide, hz_tm6 (List.mem_of_getElem? (i := 191) rfl), inX12, tyX12_ok, nmX12⟩
theorem fo_X12_184 : hz_fo RX12 184 12 64 := ⟨RX12, TX12, 106, tyX12, rfl, by decide, hz_tm6 (List.mem_of_getElem? (i := 192) rfl), inX12, tyX12_ok, nmX12⟩
theorem fo_X12_187 : hz_fo RX12 187 12 65 := ⟨RX12, TX12, 106, tyX12, rfl, by decide, hz_tm6 (List.mem_of_getElem? (i := 193) rfl), inX12, tyX12_ok, nmX12⟩
theorem fo_X12_190 : hz_fo RX12 190 12 66 := ⟨RX12, TX12, 106, tyX12, rfl, by decide, hz_tm6 (List.mem_of_getElem? (i := 194) rfl), inX12, tyX12_ok, nmX12⟩
theorem fo_X12_193 : hz_fo RX12 193 12 67 := ⟨RX12, TX12, 106, tyX12, rfl, by decide, hz_tm6 (List.mem_of_getElem? (i := 195) rfl), inX12, tyX12_ok, nmX12⟩
theorem fo_X12_196 : hz_fo RX12 196 12 68 := ⟨RX12, TX12, 106, tyX12, rfl, by decide, hz_tm6 (List.mem_of_getElem? (i := 196) rfl), inX12, tyX12_ok, nmX12⟩
theorem fo_X12_199 : hz_fo RX12 199 12 69 := ⟨RX12, TX12, 106, tyX12, rfl, by decide, hz_tm6 (List.mem_of_getElem? (i := 197) rfl), inX12, tyX12_ok, nmX12⟩
theorem fo_X12_202 : hz_fo RX12 202 12 70 := ⟨RX12, TX12, 106, tyX12, rfl, by decide, hz_tm6 (List.mem_of_getElem? (i := 198) rfl), inX12, tyX12_ok, nmX12⟩
theorem fo_X12_205 : hz_fo RX12 205 12 71 := ⟨RX12, TX12, 106, tyX12, rfl, by decide, hz_tm6 (List.mem_of_getElem? (i := 199) rfl), inX12, tyX12_ok, nmX12⟩
theorem fo_X12_209 : hz_fo RX12 209 12 72 := ⟨RX12, TX12, 106, tyX12, rfl, by decide, hz_tm6 (List.mem_of_getElem? (i := 200) rfl), inX12, tyX12_ok, nmX12⟩
theorem fo_X12_212 : hz_fo RX12 212 12 73 := ⟨RX12, TX12, 106, tyX12, rfl, by decide, hz_tm6 (List.mem_of_getElem? (i := 201) rfl), inX12, tyX12_ok, nmX12⟩
theorem fo_X12_215 : hz_fo RX12 215 12 74 := ⟨RX12, TX12, 106, tyX12, rfl, by decide, hz_tm6 (List.mem_of_getElem? (i := 202) rfl), inX12, tyX12_ok, nmX12⟩
theorem fo_X12_218 : hz_fo RX12 218 12 75 := ⟨RX12, TX12, 106, tyX12, rfl, by decide, hz_tm6 (List.mem_of_getElem? (i := 203) rfl), inX12, tyX12_ok, nmX12⟩
theorem fo_X12_221 : hz_fo RX12 221 12 76 := ⟨RX12, TX12, 106, tyX12, rfl, by decide, hz_tm6 (List.mem_of_getElem? (i := 204) rfl), inX12, tyX12_ok, nmX12⟩
theorem fo_X12_224 : hz_fo RX12 224 12 77 := ⟨RX12, TX12, 106, tyX12, rfl, by decide, hz_tm6 (List.mem_of_getElem? (i := 205) rfl), inX12, tyX12_ok, nmX12⟩
theorem fo_X12_227 : hz_fo RX12 227 12 78 := ⟨RX12, TX12, 106, tyX12, rfl, by decide, hz_tm6 (List.mem_of_getElem? (i := 206) rfl), inX12, tyX12_ok, nmX12⟩
theorem fo_X12_230 : hz_fo RX12 230 12 79 := ⟨RX12, TX12, 106, tyX12, rfl, by decide, hz_tm6 (List.mem_of_getElem? (i := 207) rfl), inX12, tyX12_ok, nmX12⟩
theorem fo_X12_233 : hz_fo RX12 233 12 80 := ⟨RX12, TX12, 106, tyX12, rfl, by decide, hz_tm6 (List.mem_of_getElem? (i := 208) rfl), inX12, tyX12_ok, nmX12⟩
theorem fo_X12_236 : hz_fo RX12 236 12 81 := ⟨RX12, TX12, 106, tyX12, rfl, by decide, hz_tm6 (List.mem_of_getElem? (i := 209) rfl), inX12, tyX12_ok, nmX12⟩
theorem fo_X12_239 : hz_fo RX12 239 12 82 := ⟨RX12, TX12, 106, tyX12, rfl, by decide, hz_tm6 (List.mem_of_getElem? (i := 210) rfl), inX12, tyX12_ok, nmX12⟩
theorem fo_X12_242 : hz_fo RX12 242 12 83 := ⟨RX12, TX12, 106, tyX12, rfl, by decide, hz_tm6 (List.mem_of_getElem? (i := 211) rfl), inX12, tyX12_ok, nmX12⟩
theorem fo_X12_245 : hz_fo RX12 245 12 84 := ⟨RX12, TX12, 106, tyX12, rfl, by decide, hz_tm6 (List.mem_of_getElem? (i := 212) rfl), inX12, tyX12_ok, nmX12⟩
theorem fo_X12_249 : hz_fo RX12 249 12 85 := ⟨RX12, TX12, 106, tyX12, rfl, by decide, hz_tm6 (List.mem_of_getElem? (i := 213) rfl), inX12, tyX12_ok, nmX12⟩
theorem fo_X12_610 : hz_fo RX12 610 12 86 := ⟨RX12, TX12, 106, tyX12, rfl, by decide, hz_tm6 (List.mem_of_getElem? (i := 214) rfl), inX12, tyX12_ok, nmX12⟩
theorem fo_X12_613 : hz_fo RX12 613 12 87 := ⟨RX12, TX12, 106, tyX12, rfl, by decide, hz_tm6 (List.mem_of_getElem? (i := 215) rfl), inX12, tyX12_ok, nmX12⟩
theorem fo_X12_616 : hz_fo RX12 616 12 88 := ⟨RX12, TX12, 106, tyX12, rfl, by decide, hz_tm6 (List.mem_of_getElem? (i := 216) rfl), inX12, tyX12_ok, nmX12⟩
theorem fo_X12_619 : hz_fo RX12 619 12 89 := ⟨RX12, TX12, 106, tyX12, rfl, by decide, hz_tm6 (List.mem_of_getElem? (i := 217) rfl), inX12, tyX12_ok, nmX12⟩
theorem fo_X12_252 : hz_fo RX12 252 12 90 := ⟨RX12, TX12, 106, tyX12, rfl, by decide, hz_tm6 (List.mem_of_getElem? (i := 218) rfl), inX12, tyX12_ok, nmX12⟩
theorem fo_X12_255 : hz_fo RX12 255 12 91 := ⟨RX12, TX12, 106, tyX12, rfl, by decide, hz_tm6 (List.mem_of_getElem? (i := 219) rfl), inX12, tyX12_ok, nmX12⟩
theorem fo_X12_637 : hz_fo RX12 637 12 92 := ⟨RX12, TX12, 106, tyX12, rfl, by decide, hz_tm6 (List.mem_of_getElem? (i := 220) rfl), inX12, tyX12_ok, nmX12⟩
theorem fo_X12_258 : hz_fo RX12 258 12 93 := ⟨RX12, TX12, 106, tyX12, rfl, by decide, hz_tm6 (List.mem_of_getElem? (i := 221) rfl), inX12, tyX12_ok, nmX12⟩
theorem fo_X12_261 : hz_fo RX12 261 12 94 := ⟨RX12, TX12, 106, tyX12, rfl, by decide, hz_tm6 (List.mem_of_getElem? (i := 222) rfl), inX12, tyX12_ok, nmX12⟩
theorem fo_X12_679 : hz_fo RX12 679 12 95 := ⟨RX12, TX12, 106, tyX12, rfl, by decide, hz_tm6 (List.mem_of_getElem? (i := 223) rfl), inX12, tyX12_ok, nmX12⟩
theorem fo_X12_682 : hz_fo RX12 682 12 96 := ⟨RX12, TX12, 106, tyX12, rfl, by decide, hz_tm6 (List.mem_of_getElem? (i := 224) rfl), inX12, tyX12_ok, nmX12⟩
theorem fo_X12_264 : hz_fo RX12 264 12 97 := ⟨RX12, TX12, 106, tyX12, rfl, by decide, hz_tm6 (List.mem_of_getElem? (i := 225) rfl), inX12, tyX12_ok, nmX12⟩
theorem fo_X12_267 : hz_fo RX12 267 12 98 := ⟨RX12, TX12, 106, tyX12, rfl, by decide, hz_tm6 (List.mem_of_getElem? (i := 226) rfl), inX12, tyX12_ok, nmX12⟩
theorem fo_X12_270 : hz_fo RX12 270 12 99 := ⟨RX12, TX12, 106, tyX12, rfl, by decide, hz_tm6 (List.mem_of_getElem? (i := 227) rfl), inX12, tyX12_ok, nmX12⟩
theorem fo_X12_685 : hz_fo RX12 685 12 100 := ⟨RX12, TX12, 106, tyX12, rfl, by decide, hz_tm6 (List.mem_of_getElem? (i := 228) rfl), inX12, tyX12_ok, nmX12⟩
theorem fo_X12_273 : hz_fo RX12 273 12 101 := ⟨RX12, TX12, 106, tyX12, rfl, by decide, hz_tm6 (List.mem_of_getElem? (i := 229) rfl), inX12, tyX12_ok, nmX12⟩
theorem fo_X12_276 : hz_fo RX12 276 12 102 := ⟨RX12, TX12, 106, tyX12, rfl, by decide, hz_tm6 (List.mem_of_getElem? (i := 230) rfl), inX12, tyX12_ok, nmX12⟩
theorem fo_X12_280 : hz_fo RX12 280 12 103 := ⟨RX12, TX12, 106, tyX12, rfl, by decide, hz_tm6 (List.mem_of_getElem? (i := 231) rfl), inX12, tyX12_ok, nmX12⟩
theorem fo_X12_283 : hz_fo RX12 283 12 104 := ⟨RX12, TX12, 106, tyX12, rfl, by decide, hz_tm6 (List.mem_of_getElem? (i := 232) rfl), inX12, tyX12_ok, nmX12⟩
theorem fo_X12_286 : hz_fo RX12 286 12 105 := ⟨RX12, TX12, 106, tyX12, rfl, by decide, hz_tm6 (List.mem_of_getElem? (i := 233) rfl), inX12, tyX12_ok, nmX12⟩
theorem ft_X1_0 : hz_fo1 1 0 (.array .long) true := ⟨RX1, TX1, 8, rfl, rfl, by decide +kernel, rfl⟩
theorem ft_X1_1 : hz_fo1 1 1 (.array .int) true := ⟨RX1, TX1, 8, rfl, rfl, by decide +kernel, rfl⟩
theorem ft_X1_2 : hz_fo1 1 2 (.array .long) true := ⟨RX1, TX1, 8, rfl, rfl, by decide +kernel, rfl⟩
theorem ft_X1_3 : hz_fo1 1 3 (.array .long) true := ⟨RX1, TX1, 8, rfl, rfl, by decide +kernel, rfl⟩
theorem ft_X1_4 : hz_fo1 1 4 (.array .int) true := ⟨RX1, TX1, 8, rfl, rfl, by decide +kernel, rfl⟩
theorem ft_X1_5 : hz_fo1 1 5 (.array .boolean) true := ⟨RX1, TX1, 8, rfl, rfl, by decide +kernel, rfl⟩
theorem ft_X1_6 : hz_fo1 1 6 .int false := ⟨RX1, TX1, 8, rfl, rfl, by decide +kernel, rfl⟩
theorem ft_X1_7 : hz_fo1 1 7 (.array .int) true := ⟨RX1, TX1, 8, rfl, rfl, by decide +kernel, rfl⟩
theorem ft_X2_0 : hz_fo1 2 0 .int false := ⟨RX2, TX2, 7, rfl, rfl, by decide +kernel, rfl⟩
theorem ft_X2_1 : hz_fo1 2 1 (.array .long) true := ⟨RX2, TX2, 7, rfl, rfl, by decide +kernel, rfl⟩
theorem ft_X2_2 : hz_fo1 2 2 (.array .int) true := ⟨RX2, TX2, 7, rfl, rfl, by decide +kernel, rfl⟩
theorem ft_X2_3 : hz_fo1 2 3 (.array .long) true := ⟨RX2, TX2, 7, rfl, rfl, by decide +kernel, rfl⟩
theorem ft_X2_4 : hz_fo1 2 4 .int false := ⟨RX2, TX2, 7, rfl, rfl, by decide +kernel, rfl⟩
theorem ft_X2_5 : hz_fo1 2 5 (.array .long) true := ⟨RX2, TX2, 7, rfl, rfl, by decide +kernel, rfl⟩
theorem ft_X2_6 : hz_fo1 2 6 (.array .long) true := ⟨RX2, TX2, 7, rfl, rfl, by decide +kernel, rfl⟩
theorem ft_X3_0 : hz_fo1 3 0 (.object "ChainHouse$Sha") true := ⟨RX3, TX3, 11, rfl, rfl, by decide +kernel, rfl⟩
theorem ft_X3_1 : hz_fo1 3 1 (.object "ChainHouse$Keys") true := ⟨RX3, TX3, 11, rfl, rfl, by decide +kernel, rfl⟩
theorem ft_X3_2 : hz_fo1 3 2 (.object "ChainHouse$Target") true := ⟨RX3, TX3, 11, rfl, rfl, by decide +kernel, rfl⟩
theorem ft_X3_3 : hz_fo1 3 3 (.object "ChainHouse$Coins") true := ⟨RX3, TX3, 11, rfl, rfl, by decide +kernel, rfl⟩
theorem ft_X3_4 : hz_fo1 3 4 (.array .int) true := ⟨RX3, TX3, 11, rfl, rfl, by decide +kernel, rfl⟩
theorem ft_X3_5 : hz_fo1 3 5 (.array .byte) true := ⟨RX3, TX3, 11, rfl, rfl, by decide +kernel, rfl⟩
theorem ft_X3_6 : hz_fo1 3 6 (.array .byte) true := ⟨RX3, TX3, 11, rfl, rfl, by decide +kernel, rfl⟩
theorem ft_X3_7 : hz_fo1 3 7 (.array .byte) true := ⟨RX3, TX3, 11, rfl, rfl, by decide +kernel, rfl⟩
theorem ft_X3_8 : hz_fo1 3 8 (.array .long) true := ⟨RX3, TX3, 11, rfl, rfl, by decide +kernel, rfl⟩
theorem ft_X3_9 : hz_fo1 3 9 .int false := ⟨RX3, TX3, 11, rfl, rfl, by decide +kernel, rfl⟩
theorem ft_X3_10 : hz_fo1 3 10 .long false := ⟨RX3, TX3, 11, rfl, rfl, by decide +kernel, rfl⟩
theorem ft_X4_0 : hz_fo1 4 0 (.object "ChainHouse$Sha") true := ⟨RX4, TX4, 7, rfl, rfl, by decide +kernel, rfl⟩
theorem ft_X4_1 : hz_fo1 4 1 (.array .long) true := ⟨RX4, TX4, 7, rfl, rfl, by decide +kernel, rfl⟩
theorem ft_X4_2 : hz_fo1 4 2 (.array .int) true := ⟨RX4, TX4, 7, rfl, rfl, by decide +kernel, rfl⟩
theorem ft_X4_3 : hz_fo1 4 3 (.array .int) true := ⟨RX4, TX4, 7, rfl, rfl, by decide +kernel, rfl⟩
theorem ft_X4_4 : hz_fo1 4 4 (.array .byte) true := ⟨RX4, TX4, 7, rfl, rfl, by decide +kernel, rfl⟩
theorem ft_X4_5 : hz_fo1 4 5 (.array .byte) true := ⟨RX4, TX4, 7, rfl, rfl, by decide +kernel, rfl⟩
theorem ft_X4_6 : hz_fo1 4 6 (.array .byte) true := ⟨RX4, TX4, 7, rfl, rfl, by decide +kernel, rfl⟩
theorem ft_X5_0 : hz_fo1 5 0 (.object "ChainHouse$Rows") true := ⟨RX5, TX5, 13, rfl, rfl, by decide +kernel, rfl⟩
theorem ft_X5_1 : hz_fo1 5 1 (.array .int) true := ⟨RX5, TX5, 13, rfl, rfl, by decide +kernel, rfl⟩
theorem ft_X5_2 : hz_fo1 5 2 (.array .int) true := ⟨RX5, TX5, 13, rfl, rfl, by decide +kernel, rfl⟩
theorem ft_X5_3 : hz_fo1 5 3 (.array .int) true := ⟨RX5, TX5, 13, rfl, rfl, by decide +kernel, rfl⟩
theorem ft_X5_4 : hz_fo1 5 4 (.array .int) true := ⟨RX5, TX5, 13, rfl, rfl, by decide +kernel, rfl⟩
theorem ft_X5_5 : hz_fo1 5 5 .int true := ⟨RX5, TX5, 13, rfl, rfl, by decide +kernel, rfl⟩
theorem ft_X5_6 : hz_fo1 5 6 (.array .int) true := ⟨RX5, TX5, 13, rfl, rfl, by decide +kernel, rfl⟩
theorem ft_X5_7 : hz_fo1 5 7 .int false := ⟨RX5, TX5, 13, rfl, rfl, by decide +kernel, rfl⟩
theorem ft_X5_8 : hz_fo1 5 8 .int false := ⟨RX5, TX5, 13, rfl, rfl, by decide +kernel, rfl⟩
theorem ft_X5_9 : hz_fo1 5 9 (.array .byte) true := ⟨RX5, TX5, 13, rfl, rfl, by decide +kernel, rfl⟩
theorem ft_X5_10 : hz_fo1 5 10 .int false := ⟨RX5, TX5, 13, rfl, rfl, by decide +kernel, rfl⟩
theorem ft_X5_11 : hz_fo1 5 11 .int false := ⟨RX5, TX5, 13, rfl, rfl, by decide +kernel, rfl⟩
theorem ft_X5_12 : hz_fo1 5 12 .int false := ⟨RX5, TX5, 13, rfl, rfl, by decide +kernel, rfl⟩
theorem ft_X6_0 : hz_fo1 6 0 .int true := ⟨RX6, TX6, 14, rfl, rfl, by decide +kernel, rfl⟩
theorem ft_X6_1 : hz_fo1 6 1 .boolean false := ⟨RX6, TX6, 14, rfl, rfl, by decide +kernel, rfl⟩
theorem ft_X6_2 : hz_fo1 6 2 (.array .byte) true := ⟨RX6, TX6, 14, rfl, rfl, by decide +kernel, rfl⟩
theorem ft_X6_3 : hz_fo1 6 3 .int false := ⟨RX6, TX6, 14, rfl, rfl, by decide +kernel, rfl⟩
theorem ft_X6_4 : hz_fo1 6 4 .int false := ⟨RX6, TX6, 14, rfl, rfl, by decide +kernel, rfl⟩
theorem ft_X6_5 : hz_fo1 6 5 (.object "ChainHouse$Tree") true := ⟨RX6, TX6, 14, rfl, rfl, by decide +kernel, rfl⟩
theorem ft_X6_6 : hz_fo1 6 6 (.object "ChainHouse$Coins") true := ⟨RX6, TX6, 14, rfl, rfl, by decide +kernel, rfl⟩
theorem ft_X6_7 : hz_fo1 6 7 (.object "ChainHouse$Rows") true := ⟨RX6, TX6, 14, rfl, rfl, by decide +kernel, rfl⟩
theorem ft_X6_8 : hz_fo1 6 8 (.array .long) true := ⟨RX6, TX6, 14, rfl, rfl, by decide +kernel, rfl⟩
theorem ft_X6_9 : hz_fo1 6 9 (.array .int) true := ⟨RX6, TX6, 14, rfl, rfl, by decide +kernel, rfl⟩
theorem ft_X6_10 : hz_fo1 6 10 (.object "ChainHouse$Rows") true := ⟨RX6, TX6, 14, rfl, rfl, by decide +kernel, rfl⟩
theorem ft_X6_11 : hz_fo1 6 11 (.object "ChainHouse$Rows") true := ⟨RX6, TX6, 14, rfl, rfl, by decide +kernel, rfl⟩
theorem ft_X6_12 : hz_fo1 6 12 .int false := ⟨RX6, TX6, 14, rfl, rfl, by decide +kernel, rfl⟩
theorem ft_X6_13 : hz_fo1 6 13 .int false := ⟨RX6, TX6, 14, rfl, rfl, by decide +kernel, rfl⟩
theorem ft_X7_0 : hz_fo1 7 0 (.array .byte) true := ⟨RX7, TX7, 3, rfl, rfl, by decide +kernel, rfl⟩
theorem ft_X7_1 : hz_fo1 7 1 (.array .int) true := ⟨RX7, TX7, 3, rfl, rfl, by decide +kernel, rfl⟩
theorem ft_X7_2 : hz_fo1 7 2 .int false := ⟨RX7, TX7, 3, rfl, rfl, by decide +kernel, rfl⟩
theorem ft_X8_0 : hz_fo1 8 0 (.array .int) true := ⟨RX8, TX8, 3, rfl, rfl, by decide +kernel, rfl⟩
theorem ft_X8_1 : hz_fo1 8 1 (.array .int) true := ⟨RX8, TX8, 3, rfl, rfl, by decide +kernel, rfl⟩
theorem ft_X8_2 : hz_fo1 8 2 (.array .byte) true := ⟨RX8, TX8, 3, rfl, rfl, by decide +kernel, rfl⟩
theorem ft_X9_0 : hz_fo1 9 0 (.array .int) true := ⟨RX9, TX9, 5, rfl, rfl, by decide +kernel, rfl⟩
theorem ft_X9_1 : hz_fo1 9 1 (.array .int) true := ⟨RX9, TX9, 5, rfl, rfl, by decide +kernel, rfl⟩
theorem ft_X9_2 : hz_fo1 9 2 (.array .int) true := ⟨RX9, TX9, 5, rfl, rfl, by decide +kernel, rfl⟩
theorem ft_X9_3 : hz_fo1 9 3 (.array .int) true := ⟨RX9, TX9, 5, rfl, rfl, by decide +kernel, rfl⟩
theorem ft_X9_4 : hz_fo1 9 4 .int false := ⟨RX9, TX9, 5, rfl, rfl, by decide +kernel, rfl⟩
theorem ft_X10_0 : hz_fo1 10 0 (.object "ChainHouse$Rows") true := ⟨RX10, TX10, 12, rfl, rfl, by decide +kernel, rfl⟩
theorem ft_X10_1 : hz_fo1 10 1 (.array .byte) true := ⟨RX10, TX10, 12, rfl, rfl, by decide +kernel, rfl⟩
theorem ft_X10_2 : hz_fo1 10 2 (.array .int) true := ⟨RX10, TX10, 12, rfl, rfl, by decide +kernel, rfl⟩
theorem ft_X10_3 : hz_fo1 10 3 (.array .int) true := ⟨RX10, TX10, 12, rfl, rfl, by decide +kernel, rfl⟩
theorem ft_X10_4 : hz_fo1 10 4 (.array .int) true := ⟨RX10, TX10, 12, rfl, rfl, by decide +kernel, rfl⟩
theorem ft_X10_5 : hz_fo1 10 5 (.array .int) true := ⟨RX10, TX10, 12, rfl, rfl, by decide +kernel, rfl⟩
theorem ft_X10_6 : hz_fo1 10 6 (.array .int) true := ⟨RX10, TX10, 12, rfl, rfl, by decide +kernel, rfl⟩
theorem ft_X10_7 : hz_fo1 10 7 (.array .long) true := ⟨RX10, TX10, 12, rfl, rfl, by decide +kernel, rfl⟩
theorem ft_X10_8 : hz_fo1 10 8 .int false := ⟨RX10, TX10, 12, rfl, rfl, by decide +kernel, rfl⟩
theorem ft_X10_9 : hz_fo1 10 9 (.array .int) true := ⟨RX10, TX10, 12, rfl, rfl, by decide +kernel, rfl⟩
theorem ft_X10_10 : hz_fo1 10 10 (.array .int) true := ⟨RX10, TX10, 12, rfl, rfl, by decide +kernel, rfl⟩
theorem ft_X10_11 : hz_fo1 10 11 (.object "ChainHouse$Target") true := ⟨RX10, TX10, 12, rfl, rfl, by decide +kernel, rfl⟩
theorem ft_X11_0 : hz_fo1 11 0 (.object "ChainHouse$Sha") true := ⟨RX11, TX11, 13, rfl, rfl, by decide +kernel, rfl⟩
theorem ft_X11_1 : hz_fo1 11 1 (.object "ChainHouse$Keys") true := ⟨RX11, TX11, 13, rfl, rfl, by decide +kernel, rfl⟩
theorem ft_X11_2 : hz_fo1 11 2 (.object "ChainHouse$Target") true := ⟨RX11, TX11, 13, rfl, rfl, by decide +kernel, rfl⟩
theorem ft_X11_3 : hz_fo1 11 3 (.object "ChainHouse$Judge") true := ⟨RX11, TX11, 13, rfl, rfl, by decide +kernel, rfl⟩
theorem ft_X11_4 : hz_fo1 11 4 (.object "ChainHouse$Draft") true := ⟨RX11, TX11, 13, rfl, rfl, by decide +kernel, rfl⟩
theorem ft_X11_5 : hz_fo1 11 5 (.object "ChainHouse$Mail") true := ⟨RX11, TX11, 13, rfl, rfl, by decide +kernel, rfl⟩
theorem ft_X11_6 : hz_fo1 11 6 (.array (.object "ChainHouse$Node")) true := ⟨RX11, TX11, 13, rfl, rfl, by decide +kernel, rfl⟩
theorem ft_X11_7 : hz_fo1 11 7 (.array .byte) true := ⟨RX11, TX11, 13, rfl, rfl, by decide +kernel, rfl⟩
theorem ft_X11_8 : hz_fo1 11 8 .int false := ⟨RX11, TX11, 13, rfl, rfl, by decide +kernel, rfl⟩
theorem ft_X11_9 : hz_fo1 11 9 .int false := ⟨RX11, TX11, 13, rfl, rfl, by decide +kernel, rfl⟩
theorem ft_X11_10 : hz_fo1 11 10 (.array .byte) true := ⟨RX11, TX11, 13, rfl, rfl, by decide +kernel, rfl⟩
theorem ft_X11_11 : hz_fo1 11 11 (.object "ChainHouse$Rows") true := ⟨RX11, TX11, 13, rfl, rfl, by decide +kernel, rfl⟩
theorem ft_X11_12 : hz_fo1 11 12 (.array .int) true := ⟨RX11, TX11, 13, rfl, rfl, by decide +kernel, rfl⟩
theorem ft_X12_0 : hz_fo1 12 0 .int false := ⟨RX12, TX12, 106, rfl, rfl, by decide +kernel, rfl⟩
theorem ft_X12_1 : hz_fo1 12 1 .int true := ⟨RX12, TX12, 106, rfl, rfl, by decide +kernel, rfl⟩
theorem ft_X12_2 : hz_fo1 12 2 (.array .int) true := ⟨RX12, TX12, 106, rfl, rfl, by decide +kernel, rfl⟩
theorem ft_X12_3 : hz_fo1 12 3 (.array .int) true := ⟨RX12, TX12, 106, rfl, rfl, by decide +kernel, rfl⟩
theorem ft_X12_4 : hz_fo1 12 4 (.array .int) true := ⟨RX12, TX12, 106, rfl, rfl, by decide +kernel, rfl⟩
theorem ft_X12_5 : hz_fo1 12 5 (.array .int) true := ⟨RX12, TX12, 106, rfl, rfl, by decide +kernel, rfl⟩
theorem ft_X12_6 : hz_fo1 12 6 (.array .byte) true := ⟨RX12, TX12, 106, rfl, rfl, by decide +kernel, rfl⟩
theorem ft_X12_7 : hz_fo1 12 7 (.array .byte) true := ⟨RX12, TX12, 106, rfl, rfl, by decide +kernel, rfl⟩
theorem ft_X12_8 : hz_fo1 12 8 (.array .byte) true := ⟨RX12, TX12, 106, rfl, rfl, by decide +kernel, rfl⟩
theorem ft_X12_9 : hz_fo1 12 9 (.array .long) true := ⟨RX12, TX12, 106, rfl, rfl, by decide +kernel, rfl⟩
theorem ft_X12_10 : hz_fo1 12 10 (.array .int) true := ⟨RX12, TX12, 106, rfl, rfl, by decide +kernel, rfl⟩
theorem ft_X12_11 : hz_fo1 12 11 (.array .int) true := ⟨RX12, TX12, 106, rfl, rfl, by decide +kernel, rfl⟩
theorem ft_X12_12 : hz_fo1 12 12 (.array .int) true := ⟨RX12, TX12, 106, rfl, rfl, by decide +kernel, rfl⟩
theorem ft_X12_13 : hz_fo1 12 13 (.array .int) true := ⟨RX12, TX12, 106, rfl, rfl, by decide +kernel, rfl⟩
theorem ft_X12_14 : hz_fo1 12 14 (.array .int) true := ⟨RX12, TX12, 106, rfl, rfl, by decide +kernel, rfl⟩
theorem ft_X12_15 : hz_fo1 12 15 (.array .int) true := ⟨RX12, TX12, 106, rfl, rfl, by decide +kernel, rfl⟩
theorem ft_X12_16 : hz_fo1 12 16 .int false := ⟨RX12, TX12, 106, rfl, rfl, by decide +kernel, rfl⟩
theorem ft_X12_17 : hz_fo1 12 17 (.array .byte) true := ⟨RX12, TX12, 106, rfl, rfl, by decide +kernel, rfl⟩
theorem ft_X12_18 : hz_fo1 12 18 (.array .boolean) true := ⟨RX12, TX12, 106, rfl, rfl, by decide +kernel, rfl⟩
theorem ft_X12_19 : hz_fo1 12 19 (.array .byte) true := ⟨RX12, TX12, 106, rfl, rfl, by decide +kernel, rfl⟩
theorem ft_X12_20 : hz_fo1 12 20 (.array .int) true := ⟨RX12, TX12, 106, rfl, rfl, by decide +kernel, rfl⟩
theorem ft_X12_21 : hz_fo1 12 21 (.array .int) true := ⟨RX12, TX12, 106, rfl, rfl, by decide +kernel, rfl⟩
theorem ft_X12_22 : hz_fo1 12 22 (.array .int) true := ⟨RX12, TX12, 106, rfl, rfl, by decide +kernel, rfl⟩
theorem ft_X12_23 : hz_fo1 12 23 (.array .int) true := ⟨RX12, TX12, 106, rfl, rfl, by decide +kernel, rfl⟩
theorem ft_X12_24 : hz_fo1 12 24 (.array .int) true := ⟨RX12, TX12, 106, rfl, rfl, by decide +kernel, rfl⟩
theorem ft_X12_25 : hz_fo1 12 25 (.array .int) true := ⟨RX12, TX12, 106, rfl, rfl, by decide +kernel, rfl⟩
theorem ft_X12_26 : hz_fo1 12 26 (.array .int) true := ⟨RX12, TX12, 106, rfl, rfl, by decide +kernel, rfl⟩
theorem ft_X12_27 : hz_fo1 12 27 (.array .int) true := ⟨RX12, TX12, 106, rfl, rfl, by decide +kernel, rfl⟩
theorem ft_X12_28 : hz_fo1 12 28 (.array .int) true := ⟨RX12, TX12, 106, rfl, rfl, by decide +kernel, rfl⟩
theorem ft_X12_29 : hz_fo1 12 29 (.array .int) true := ⟨RX12, TX12, 106, rfl, rfl, by decide +kernel, rfl⟩
theorem ft_X12_30 : hz_fo1 12 30 (.array .int) true := ⟨RX12, TX12, 106, rfl, rfl, by decide +kernel, rfl⟩
theorem ft_X12_31 : hz_fo1 12 31 (.array .int) true := ⟨RX12, TX12, 106, rfl, rfl, by decide +kernel, rfl⟩
theorem ft_X12_32 : hz_fo1 12 32 (.array .byte) true := ⟨RX12, TX12, 106, rfl, rfl, by decide +kernel, rfl⟩
theorem ft_X12_33 : hz_fo1 12 33 (.array .int) true := ⟨RX12, TX12, 106, rfl, rfl, by decide +kernel, rfl⟩
theorem ft_X12_34 : hz_fo1 12 34 (.array .int) true := ⟨RX12, TX12, 106, rfl, rfl, by decide +kernel, rfl⟩
theorem ft_X12_35 : hz_fo1 12 35 (.array .long) true := ⟨RX12, TX12, 106, rfl, rfl, by decide +kernel, rfl⟩
theorem ft_X12_36 : hz_fo1 12 36 (.array .byte) true := ⟨RX12, TX12, 106, rfl, rfl, by decide +kernel, rfl⟩
theorem ft_X12_37 : hz_fo1 12 37 .int false := ⟨RX12, TX12, 106, rfl, rfl, by decide +kernel, rfl⟩
theorem ft_X12_38 : hz_fo1 12 38 (.array .byte) true := ⟨RX12, TX12, 106, rfl, rfl, by decide +kernel, rfl⟩
theorem ft_X12_39 : hz_fo1 12 39 .int false := ⟨RX12, TX12, 106, rfl, rfl, by decide +kernel, rfl⟩
theorem ft_X12_40 : hz_fo1 12 40 (.array .int) true := ⟨RX12, TX12, 106, rfl, rfl, by decide +kernel, rfl⟩
theorem ft_X12_41 : hz_fo1 12 41 (.array .byte) true := ⟨RX12, TX12, 106, rfl, rfl, by decide +kernel, rfl⟩
theorem ft_X12_42 : hz_fo1 12 42 (.array .int) true := ⟨RX12, TX12, 106, rfl, rfl, by decide +kernel, rfl⟩
theorem ft_X12_43 : hz_fo1 12 43 (.array .int) true := ⟨RX12, TX12, 106, rfl, rfl, by decide +kernel, rfl⟩
theorem ft_X12_44 : hz_fo1 12 44 (.array .int) true := ⟨RX12, TX12, 106, rfl, rfl, by decide +kernel, rfl⟩
theorem ft_X12_45 : hz_fo1 12 45 (.array .int) true := ⟨RX12, TX12, 106, rfl, rfl, by decide +kernel, rfl⟩
theorem ft_X12_46 : hz_fo1 12 46 (.array .int) true := ⟨RX12, TX12, 106, rfl, rfl, by decide +kernel, rfl⟩
theorem ft_X12_47 : hz_fo1 12 47 (.array .long) true := ⟨RX12, TX12, 106, rfl, rfl, by decide +kernel, rfl⟩
theorem ft_X12_48 : hz_fo1 12 48 (.array .int) true := ⟨RX12, TX12, 106, rfl, rfl, by decide +kernel, rfl⟩
theorem ft_X12_49 : hz_fo1 12 49 (.array .long) true := ⟨RX12, TX12, 106, rfl, rfl, by decide +kernel, rfl⟩
theorem ft_X12_50 : hz_fo1 12 50 (.array .long) true := ⟨RX12, TX12, 106, rfl, rfl, by decide +kernel, rfl⟩
theorem ft_X12_51 : hz_fo1 12 51 (.array .int) true := ⟨RX12, TX12, 106, rfl, rfl, by decide +kernel, rfl⟩
theorem ft_X12_52 : hz_fo1 12 52 (.array .boolean) true := ⟨RX12, TX12, 106, rfl, rfl, by decide +kernel, rfl⟩
theorem ft_X12_53 : hz_fo1 12 53 .int false := ⟨RX12, TX12, 106, rfl, rfl, by decide +kernel, rfl⟩
theorem ft_X12_54 : hz_fo1 12 54 .int false := ⟨RX12, TX12, 106, rfl, rfl, by decide +kernel, rfl⟩
theorem ft_X12_55 : hz_fo1 12 55 .int false := ⟨RX12, TX12, 106, rfl, rfl, by decide +kernel, rfl⟩
theorem ft_X12_56 : hz_fo1 12 56 (.array .int) true := ⟨RX12, TX12, 106, rfl, rfl, by decide +kernel, rfl⟩
theorem ft_X12_57 : hz_fo1 12 57 (.array .byte) true := ⟨RX12, TX12, 106, rfl, rfl, by decide +kernel, rfl⟩
theorem ft_X12_58 : hz_fo1 12 58 (.array .byte) true := ⟨RX12, TX12, 106, rfl, rfl, by decide +kernel, rfl⟩
theorem ft_X12_59 : hz_fo1 12 59 .long false := ⟨RX12, TX12, 106, rfl, rfl, by decide +kernel, rfl⟩
theorem ft_X12_60 : hz_fo1 12 60 (.array .byte) true := ⟨RX12, TX12, 106, rfl, rfl, by decide +kernel, rfl⟩
theorem ft_X12_61 : hz_fo1 12 61 .int false := ⟨RX12, TX12, 106, rfl, rfl, by decide +kernel, rfl⟩
theorem ft_X12_62 : hz_fo1 12 62 (.array .byte) true := ⟨RX12, TX12, 106, rfl, rfl, by decide +kernel, rfl⟩
theorem ft_X12_63 : hz_fo1 12 63 (.array .byte) true := ⟨RX12, TX12, 106, rfl, rfl, by decide +kernel, rfl⟩
theorem ft_X12_64 : hz_fo1 12 64 (.array .int) true := ⟨RX12, TX12, 106, rfl, rfl, by decide +kernel, rfl⟩
theorem ft_X12_65 : hz_fo1 12 65 (.array .long) true := ⟨RX12, TX12, 106, rfl, rfl, by decide +kernel, rfl⟩
theorem ft_X12_66 : hz_fo1 12 66 (.array .long) true := ⟨RX12, TX12, 106, rfl, rfl, by decide +kernel, rfl⟩
theorem ft_X12_67 : hz_fo1 12 67 (.array .int) true := ⟨RX12, TX12, 106, rfl, rfl, by decide +kernel, rfl⟩
theorem ft_X12_68 : hz_fo1 12 68 (.array .byte) true := ⟨RX12, TX12, 106, rfl, rfl, by decide +kernel, rfl⟩
theorem ft_X12_69 : hz_fo1 12 69 (.array .int) true := ⟨RX12, TX12, 106, rfl, rfl, by decide +kernel, rfl⟩
theorem ft_X12_70 : hz_fo1 12 70 (.array .int) true := ⟨RX12, TX12, 106, rfl, rfl, by decide +kernel, rfl⟩
theorem ft_X12_71 : hz_fo1 12 71 (.array .byte) true := ⟨RX12, TX12, 106, rfl, rfl, by decide +kernel, rfl⟩
theorem ft_X12_72 : hz_fo1 12 72 (.array .byte) true := ⟨RX12, TX12, 106, rfl, rfl, by decide +kernel, rfl⟩
theorem ft_X12_73 : hz_fo1 12 73 (.array .int) true := ⟨RX12, TX12, 106, rfl, rfl, by decide +kernel, rfl⟩
theorem ft_X12_74 : hz_fo1 12 74 (.array .int) true := ⟨RX12, TX12, 106, rfl, rfl, by decide +kernel, rfl⟩
theorem ft_X12_75 : hz_fo1 12 75 (.array .byte) true := ⟨RX12, TX12, 106, rfl, rfl, by decide +kernel, rfl⟩
theorem ft_X12_76 : hz_fo1 12 76 (.array .int) true := ⟨RX12, TX12, 106, rfl, rfl, by decide +kernel, rfl⟩
theorem ft_X12_77 : hz_fo1 12 77 (.array .byte) true := ⟨RX12, TX12, 106, rfl, rfl, by decide +kernel, rfl⟩
theorem ft_X12_78 : hz_fo1 12 78 (.array .int) true := ⟨RX12, TX12, 106, rfl, rfl, by decide +kernel, rfl⟩
theorem ft_X12_79 : hz_fo1 12 79 (.array .int) true := ⟨RX12, TX12, 106, rfl, rfl, by decide +kernel, rfl⟩
theorem ft_X12_80 : hz_fo1 12 80 (.array .int) true := ⟨RX12, TX12, 106, rfl, rfl, by decide +kernel, rfl⟩
theorem ft_X12_81 : hz_fo1 12 81 (.array .int) true := ⟨RX12, TX12, 106, rfl, rfl, by decide +kernel, rfl⟩
theorem ft_X12_82 : hz_fo1 12 82 (.array .int) true := ⟨RX12, TX12, 106, rfl, rfl, by decide +kernel, rfl⟩
theorem ft_X12_83 : hz_fo1 12 83 (.array .int) true := ⟨RX12, TX12, 106, rfl, rfl, by decide +kernel, rfl⟩
theorem ft_X12_84 : hz_fo1 12 84 (.array .int) true := ⟨RX12, TX12, 106, rfl, rfl, by decide +kernel, rfl⟩
theorem ft_X12_85 : hz_fo1 12 85 (.array .byte) true := ⟨RX12, TX12, 106, rfl, rfl, by decide +kernel, rfl⟩
theorem ft_X12_86 : hz_fo1 12 86 .int false := ⟨RX12, TX12, 106, rfl, rfl, by decide +kernel, rfl⟩
theorem ft_X12_87 : hz_fo1 12 87 .int false := ⟨RX12, TX12, 106, rfl, rfl, by decide +kernel, rfl⟩
theorem ft_X12_88 : hz_fo1 12 88 .int false := ⟨RX12, TX12, 106, rfl, rfl, by decide +kernel, rfl⟩
theorem ft_X12_89 : hz_fo1 12 89 .int false := ⟨RX12, TX12, 106, rfl, rfl, by decide +kernel, rfl⟩
theorem ft_X12_90 : hz_fo1 12 90 (.array .byte) true := ⟨RX12, TX12, 106, rfl, rfl, by decide +kernel, rfl⟩
theorem ft_X12_91 : hz_fo1 12 91 (.array .byte) true := ⟨RX12, TX12, 106, rfl, rfl, by decide +kernel, rfl⟩
theorem ft_X12_92 : hz_fo1 12 92 .int false := ⟨RX12, TX12, 106, rfl, rfl, by decide +kernel, rfl⟩
theorem ft_X12_93 : hz_fo1 12 93 (.array .byte) true := ⟨RX12, TX12, 106, rfl, rfl, by decide +kernel, rfl⟩
theorem ft_X12_94 : hz_fo1 12 94 (.array .byte) true := ⟨RX12, TX12, 106, rfl, rfl, by decide +kernel, rfl⟩
theorem ft_X12_95 : hz_fo1 12 95 .int false := ⟨RX12, TX12, 106, rfl, rfl, by decide +kernel, rfl⟩
theorem ft_X12_96 : hz_fo1 12 96 .int false := ⟨RX12, TX12, 106, rfl, rfl, by decide +kernel, rfl⟩
theorem ft_X12_97 : hz_fo1 12 97 (.array .long) true := ⟨RX12, TX12, 106, rfl, rfl, by decide +kernel, rfl⟩
theorem ft_X12_98 : hz_fo1 12 98 (.array .int) true := ⟨RX12, TX12, 106, rfl, rfl, by decide +kernel, rfl⟩
theorem ft_X12_99 : hz_fo1 12 99 (.array .long) true := ⟨RX12, TX12, 106, rfl, rfl, by decide +kernel, rfl⟩
theorem ft_X12_100 : hz_fo1 12 100 .int false := ⟨RX12, TX12, 106, rfl, rfl, by decide +kernel, rfl⟩
theorem ft_X12_101 : hz_fo1 12 101 (.array .long) true := ⟨RX12, TX12, 106, rfl, rfl, by decide +kernel, rfl⟩
theorem ft_X12_102 : hz_fo1 12 102 (.array .long) true := ⟨RX12, TX12, 106, rfl, rfl, by decide +kernel, rfl⟩
theorem ft_X12_103 : hz_fo1 12 103 .int false := ⟨RX12, TX12, 106, rfl, rfl, by decide +kernel, rfl⟩
theorem ft_X12_104 : hz_fo1 12 104 (.array .boolean) true := ⟨RX12, TX12, 106, rfl, rfl, by decide +kernel, rfl⟩
theorem ft_X12_105 : hz_fo1 12 105 (.array .int) true := ⟨RX12, TX12, 106, rfl, rfl, by decide +kernel, rfl⟩
theorem cd_X0_one : Cond.code xX0_one.1 xX0_one.2.1 xX0_one.2.2.1 xX0_one.2.2.2 ∈ lw_tbl := hz_tm3 (List.mem_of_getElem? (i := 145) rfl)
theorem sc_X0_one : Cond.static yX0_one ∈ lw_tbl := hz_tm3 (List.mem_of_getElem? (i := 144) rfl)
theorem cd_X0_number : Cond.code xX0_number.1 xX0_number.2.1 xX0_number.2.2.1 xX0_number.2.2.2 ∈ lw_tbl := hz_tm2 (List.mem_of_getElem? (i := 199) rfl)
theorem sc_X0_number : Cond.static yX0_number ∈ lw_tbl := hz_tm2 (List.mem_of_getElem? (i := 198) rfl)
theorem cd_X0_put : Cond.code xX0_put.1 xX0_put.2.1 xX0_put.2.2.1 xX0_put.2.2.2 ∈ lw_tbl := hz_tm2 (List.mem_of_getElem? (i := 89) rfl)
theorem sc_X0_put : Cond.static yX0_put ∈ lw_tbl := hz_tm2 (List.mem_of_getElem? (i := 88) rfl)
theorem cd_X0_same : Cond.code xX0_same.1 xX0_same.2.1 xX0_same.2.2.1 xX0_same.2.2.2 ∈ lw_tbl := hz_tm2 (List.mem_of_getElem? (i := 165) rfl)
theorem sc_X0_same : Cond.static yX0_same ∈ lw_tbl := hz_tm2 (List.mem_of_getElem? (i := 164) rfl)
theorem cd_X0_copy : Cond.code xX0_copy.1 xX0_copy.2.1 xX0_copy.2.2.1 xX0_copy.2.2.2 ∈ lw_tbl := hz_tm2 (List.mem_of_getElem? (i := 159) rfl)
theorem sc_X0_copy : Cond.static yX0_copy ∈ lw_tbl := hz_tm2 (List.mem_of_getElem? (i := 158) rfl)
theorem cd_X0_transactionLength : Cond.code xX0_transactionLength.1 xX0_transactionLength.2.1 xX0_transactionLength.2.2.1 xX0_transactionLength.2.2.2 ∈ lw_tbl := hz_tm2 (List.mem_of_getElem? (i := 139) rfl)
theorem sc_X0_transactionLength : Cond.static yX0_transactionLength ∈ lw_tbl := hz_tm2 (List.mem_of_getElem? (i := 138) rfl)
theorem cd_X0_blockStarts : Cond.code xX0_blockStarts.1 xX0_blockStarts.2.1 xX0_blockStarts.2.2.1 xX0_blockStarts.2.2.2 ∈ lw_tbl := hz_tm2 (List.mem_of_getElem? (i := 136) rfl)
theorem sc_X0_blockStarts : Cond.static yX0_blockStarts ∈ lw_tbl := hz_tm2 (List.mem_of_getElem? (i := 135) rfl)
theorem cd_X0_inputAt : Cond.code xX0_inputAt.1 xX0_inputAt.2.1 xX0_inputAt.2.2.1 xX0_inputAt.2.2.2 ∈ lw_tbl := hz_tm3 (List.mem_of_getElem? (i := 153) rfl)
theorem sc_X0_inputAt : Cond.static yX0_inputAt ∈ lw_tbl := hz_tm3 (List.mem_of_getElem? (i := 152) rfl)
theorem cd_X0_outputAt : Cond.code xX0_outputAt.1 xX0_outputAt.2.1 xX0_outputAt.2.2.1 xX0_outputAt.2.2.2 ∈ lw_tbl := hz_tm3 (List.mem_of_getElem? (i := 166) rfl)
theorem sc_X0_outputAt : Cond.static yX0_outputAt ∈ lw_tbl := hz_tm3 (List.mem_of_getElem? (i := 165) rfl)
theorem cd_X0_paidBy : Cond.code xX0_paidBy.1 xX0_paidBy.2.1 xX0_paidBy.2.2.1 xX0_paidBy.2.2.2 ∈ lw_tbl := hz_tm4 (List.mem_of_getElem? (i := 160) rfl)
theorem sc_X0_paidBy : Cond.static yX0_paidBy ∈ lw_tbl := hz_tm4 (List.mem_of_getElem? (i := 159) rfl)
theorem cd_X0_putReward : Cond.code xX0_putReward.1 xX0_putReward.2.1 xX0_putReward.2.2.1 xX0_putReward.2.2.2 ∈ lw_tbl := hz_tm2 (List.mem_of_getElem? (i := 128) rfl)
theorem sc_X0_putReward : Cond.static yX0_putReward ∈ lw_tbl := hz_tm2 (List.mem_of_getElem? (i := 127) rfl)
theorem cd_X1_init : Cond.code xX1_init.1 xX1_init.2.1 xX1_init.2.2.1 xX1_init.2.2.2 ∈ lw_tbl := hz_tm1 (List.mem_of_getElem? (i := 121) rfl)
theorem im_X1_init : Cond.instanceMethod yX1_init ∈ lw_tbl := hz_tm1 (List.mem_of_getElem? (i := 120) rfl)
theorem cd_X1_indexOf : Cond.code xX1_indexOf.1 xX1_indexOf.2.1 xX1_indexOf.2.2.1 xX1_indexOf.2.2.2 ∈ lw_tbl := hz_tm3 (List.mem_of_getElem? (i := 158) rfl)
theorem im_X1_indexOf : Cond.instanceMethod yX1_indexOf ∈ lw_tbl := hz_tm3 (List.mem_of_getElem? (i := 156) rfl)
theorem se_X1_indexOf : Cond.selects yX1_indexOf.cls yX1_indexOf yX1_indexOf ∈ lw_tbl := hz_tm3 (List.mem_of_getElem? (i := 157) rfl)
theorem cd_X1_holds : Cond.code xX1_holds.1 xX1_holds.2.1 xX1_holds.2.2.1 xX1_holds.2.2.2 ∈ lw_tbl := hz_tm4 (List.mem_of_getElem? (i := 169) rfl)
theorem im_X1_holds : Cond.instanceMethod yX1_holds ∈ lw_tbl := hz_tm4 (List.mem_of_getElem? (i := 167) rfl)
theorem se_X1_holds : Cond.selects yX1_holds.cls yX1_holds yX1_holds ∈ lw_tbl := hz_tm4 (List.mem_of_getElem? (i := 168) rfl)
theorem cd_X1_remove : Cond.code xX1_remove.1 xX1_remove.2.1 xX1_remove.2.2.1 xX1_remove.2.2.2 ∈ lw_tbl := hz_tm3 (List.mem_of_getElem? (i := 162) rfl)
theorem im_X1_remove : Cond.instanceMethod yX1_remove ∈ lw_tbl := hz_tm3 (List.mem_of_getElem? (i := 161) rfl)
theorem se_X1_remove : Cond.selects yX1_remove.cls yX1_remove yX1_remove ∈ lw_tbl := List.mem_of_getElem? (i := 6) (by decide +kernel)
theorem cd_X1_apply : Cond.code xX1_apply.1 xX1_apply.2.1 xX1_apply.2.2.1 xX1_apply.2.2.2 ∈ lw_tbl := hz_tm3 (List.mem_of_getElem? (i := 150) rfl)
theorem im_X1_apply : Cond.instanceMethod yX1_apply ∈ lw_tbl := hz_tm3 (List.mem_of_getElem? (i := 148) rfl)
theorem se_X1_apply : Cond.selects yX1_apply.cls yX1_apply yX1_apply ∈ lw_tbl := hz_tm3 (List.mem_of_getElem? (i := 149) rfl)
theorem cd_X1_replay : Cond.code xX1_replay.1 xX1_replay.2.1 xX1_replay.2.2.1 xX1_replay.2.2.2 ∈ lw_tbl := hz_tm3 (List.mem_of_getElem? (i := 141) rfl)
theorem im_X1_replay : Cond.instanceMethod yX1_replay ∈ lw_tbl := hz_tm3 (List.mem_of_getElem? (i := 139) rfl)
theorem se_X1_replay : Cond.selects yX1_replay.cls yX1_replay yX1_replay ∈ lw_tbl := hz_tm3 (List.mem_of_getElem? (i := 140) rfl)
theorem cd_X2_init : Cond.code xX2_init.1 xX2_init.2.1 xX2_init.2.2.1 xX2_init.2.2.2 ∈ lw_tbl := hz_tm1 (List.mem_of_getElem? (i := 201) rfl)
theorem im_X2_init : Cond.instanceMethod yX2_init ∈ lw_tbl := hz_tm1 (List.mem_of_getElem? (i := 200) rfl)
theorem cd_X2_addInput : Cond.code xX2_addInput.1 xX2_addInput.2.1 xX2_addInput.2.2.1 xX2_addInput.2.2.2 ∈ lw_tbl := hz_tm4 (List.mem_of_getElem? (i := 9) rfl)
theorem im_X2_addInput : Cond.instanceMethod yX2_addInput ∈ lw_tbl := hz_tm4 (List.mem_of_getElem? (i := 7) rfl)
theorem se_X2_addInput : Cond.selects yX2_addInput.cls yX2_addInput yX2_addInput ∈ lw_tbl := hz_tm4 (List.mem_of_getElem? (i := 8) rfl)
theorem cd_X2_addOutput : Cond.code xX2_addOutput.1 xX2_addOutput.2.1 xX2_addOutput.2.2.1 xX2_addOutput.2.2.2 ∈ lw_tbl := hz_tm4 (List.mem_of_getElem? (i := 25) rfl)
theorem im_X2_addOutput : Cond.instanceMethod yX2_addOutput ∈ lw_tbl := hz_tm4 (List.mem_of_getElem? (i := 23) rfl)
theorem se_X2_addOutput : Cond.selects yX2_addOutput.cls yX2_addOutput yX2_addOutput ∈ lw_tbl := hz_tm4 (List.mem_of_getElem? (i := 24) rfl)
theorem cd_X2_write : Cond.code xX2_write.1 xX2_write.2.1 xX2_write.2.2.1 xX2_write.2.2.2 ∈ lw_tbl := hz_tm4 (List.mem_of_getElem? (i := 37) rfl)
theorem im_X2_write : Cond.instanceMethod yX2_write ∈ lw_tbl := hz_tm4 (List.mem_of_getElem? (i := 35) rfl)
theorem se_X2_write : Cond.selects yX2_write.cls yX2_write yX2_write ∈ lw_tbl := hz_tm4 (List.mem_of_getElem? (i := 36) rfl)
theorem cd_X3_init : Cond.code xX3_init.1 xX3_init.2.1 xX3_init.2.2.1 xX3_init.2.2.2 ∈ lw_tbl := hz_tm1 (List.mem_of_getElem? (i := 115) rfl)
theorem im_X3_init : Cond.instanceMethod yX3_init ∈ lw_tbl := hz_tm1 (List.mem_of_getElem? (i := 114) rfl)
theorem cd_X3_subsidyAt : Cond.code xX3_subsidyAt.1 xX3_subsidyAt.2.1 xX3_subsidyAt.2.2.1 xX3_subsidyAt.2.2.2 ∈ lw_tbl := hz_tm4 (List.mem_of_getElem? (i := 106) rfl)
theorem sc_X3_subsidyAt : Cond.static yX3_subsidyAt ∈ lw_tbl := hz_tm4 (List.mem_of_getElem? (i := 105) rfl)
theorem cd_X3_works : Cond.code xX3_works.1 xX3_works.2.1 xX3_works.2.2.1 xX3_works.2.2.2 ∈ lw_tbl := hz_tm2 (List.mem_of_getElem? (i := 196) rfl)
theorem im_X3_works : Cond.instanceMethod yX3_works ∈ lw_tbl := hz_tm2 (List.mem_of_getElem? (i := 194) rfl)
theorem se_X3_works : Cond.selects yX3_works.cls yX3_works yX3_works ∈ lw_tbl := hz_tm2 (List.mem_of_getElem? (i := 195) rfl)
theorem cd_X3_ofBlock : Cond.code xX3_ofBlock.1 xX3_ofBlock.2.1 xX3_ofBlock.2.2.1 xX3_ofBlock.2.2.2 ∈ lw_tbl := hz_tm4 (List.mem_of_getElem? (i := 124) rfl)
theorem im_X3_ofBlock : Cond.instanceMethod yX3_ofBlock ∈ lw_tbl := hz_tm4 (List.mem_of_getElem? (i := 122) rfl)
theorem se_X3_ofBlock : Cond.selects yX3_ofBlock.cls yX3_ofBlock yX3_ofBlock ∈ lw_tbl := hz_tm4 (List.mem_of_getElem? (i := 123) rfl)
theorem cd_X3_ofTransactions : Cond.code xX3_ofTransactions.1 xX3_ofTransactions.2.1 xX3_ofTransactions.2.2.1 xX3_ofTransactions.2.2.2 ∈ lw_tbl := hz_tm4 (List.mem_of_getElem? (i := 138) rfl)
theorem im_X3_ofTransactions : Cond.instanceMethod yX3_ofTransactions ∈ lw_tbl := hz_tm4 (List.mem_of_getElem? (i := 137) rfl)
theorem se_X3_ofTransactions : Cond.selects yX3_ofTransactions.cls yX3_ofTransactions yX3_ofTransactions ∈ lw_tbl := List.mem_of_getElem? (i := 9) (by decide +kernel)
theorem cd_X3_ofTransaction : Cond.code xX3_ofTransaction.1 xX3_ofTransaction.2.1 xX3_ofTransaction.2.2.1 xX3_ofTransaction.2.2.2 ∈ lw_tbl := hz_tm4 (List.mem_of_getElem? (i := 143) rfl)
theorem im_X3_ofTransaction : Cond.instanceMethod yX3_ofTransaction ∈ lw_tbl := hz_tm4 (List.mem_of_getElem? (i := 142) rfl)
theorem se_X3_ofTransaction : Cond.selects yX3_ofTransaction.cls yX3_ofTransaction yX3_ofTransaction ∈ lw_tbl := List.mem_of_getElem? (i := 10) (by decide +kernel)
theorem cd_X3_hasInput : Cond.code xX3_hasInput.1 xX3_hasInput.2.1 xX3_hasInput.2.2.1 xX3_hasInput.2.2.2 ∈ lw_tbl := hz_tm4 (List.mem_of_getElem? (i := 149) rfl)
theorem sc_X3_hasInput : Cond.static yX3_hasInput ∈ lw_tbl := hz_tm4 (List.mem_of_getElem? (i := 148) rfl)
theorem cd_X3_forPool : Cond.code xX3_forPool.1 xX3_forPool.2.1 xX3_forPool.2.2.1 xX3_forPool.2.2.2 ∈ lw_tbl := hz_tm4 (List.mem_of_getElem? (i := 178) rfl)
theorem im_X3_forPool : Cond.instanceMethod yX3_forPool ∈ lw_tbl := hz_tm4 (List.mem_of_getElem? (i := 176) rfl)
theorem se_X3_forPool : Cond.selects yX3_forPool.cls yX3_forPool yX3_forPool ∈ lw_tbl := hz_tm4 (List.mem_of_getElem? (i := 177) rfl)
theorem cd_X3_clashes : Cond.code xX3_clashes.1 xX3_clashes.2.1 xX3_clashes.2.2.1 xX3_clashes.2.2.2 ∈ lw_tbl := hz_tm4 (List.mem_of_getElem? (i := 183) rfl)
theorem sc_X3_clashes : Cond.static yX3_clashes ∈ lw_tbl := hz_tm4 (List.mem_of_getElem? (i := 182) rfl)
theorem cd_X3_makeRoot : Cond.code xX3_makeRoot.1 xX3_makeRoot.2.1 xX3_makeRoot.2.2.1 xX3_makeRoot.2.2.2 ∈ lw_tbl := hz_tm2 (List.mem_of_getElem? (i := 143) rfl)
theorem im_X3_makeRoot : Cond.instanceMethod yX3_makeRoot ∈ lw_tbl := hz_tm2 (List.mem_of_getElem? (i := 142) rfl)
theorem se_X3_makeRoot : Cond.selects yX3_makeRoot.cls yX3_makeRoot yX3_makeRoot ∈ lw_tbl := List.mem_of_getElem? (i := 1) (by decide +kernel)
