set_option maxRecDepth 20000 in
theorem wsL_law0_r38_in : ∀ w ∈ wsL_law0_r38, w ∈ lw_tbl := fun w h => (goodIn_p wsL_law0_r38 [1096, 1619, 1623, 1627, 1103] rfl (by decide +kernel) w h).1
set_option maxRecDepth 20000 in
theorem wsL_law0_r39_in : ∀ w ∈ wsL_law0_r39, w ∈ lw_tbl := fun w h => (goodIn_p wsL_law0_r39 [1107, 1631, 1635, 1114, 1119] rfl (by decide +kernel) w h).1
set_option maxRecDepth 20000 in
theorem wsL_law0_r40_in : ∀ w ∈ wsL_law0_r40, w ∈ lw_tbl := fun w h => (goodIn_p wsL_law0_r40 [1123, 747, 750, 1639, 1642, 1131] rfl (by decide +kernel) w h).1
set_option maxRecDepth 20000 in
theorem wsL_law0_r41_in : ∀ w ∈ wsL_law0_r41, w ∈ lw_tbl := fun w h => (goodIn_p wsL_law0_r41 [1134, 698, 701, 704, 1140] rfl (by decide +kernel) w h).1
set_option maxRecDepth 20000 in
theorem wsL_law0_r42_in : ∀ w ∈ wsL_law0_r42, w ∈ lw_tbl := fun w h => (goodIn_p wsL_law0_r42 [1646, 1650, 1150, 1654] rfl (by decide +kernel) w h).1
set_option maxRecDepth 20000 in
theorem wsL_law0_r43_in : ∀ w ∈ wsL_law0_r43, w ∈ lw_tbl := fun w h => (goodIn_p wsL_law0_r43 [1158, 1659, 1165, 690, 695] rfl (by decide +kernel) w h).1
set_option maxRecDepth 20000 in
theorem wsL_law0_r44_in : ∀ w ∈ wsL_law0_r44, w ∈ lw_tbl := fun w h => (goodIn_p wsL_law0_r44 [718, 1663, 1668, 1671, 1174] rfl (by decide +kernel) w h).1
set_option maxRecDepth 20000 in
theorem wsL_law0_r45_in : ∀ w ∈ wsL_law0_r45, w ∈ lw_tbl := fun w h => (goodIn_p wsL_law0_r45 [1177, 1181, 1675, 1679, 1190] rfl (by decide +kernel) w h).1
set_option maxRecDepth 20000 in
theorem wsL_law0_r46_in : ∀ w ∈ wsL_law0_r46, w ∈ lw_tbl := fun w h => (goodIn_p wsL_law0_r46 [1683, 1198, 1687, 1205] rfl (by decide +kernel) w h).1
set_option maxRecDepth 20000 in
theorem wsL_law0_r47_in : ∀ w ∈ wsL_law0_r47, w ∈ lw_tbl := fun w h => (goodIn_p wsL_law0_r47 [1691, 568, 572, 1695, 576, 580] rfl (by decide +kernel) w h).1
set_option maxRecDepth 20000 in
theorem wsL_law0_r48_in : ∀ w ∈ wsL_law0_r48, w ∈ lw_tbl := fun w h => (goodIn_p wsL_law0_r48 [586, 591, 596, 603, 1699] rfl (by decide +kernel) w h).1
set_option maxRecDepth 20000 in
theorem wsL_law0_r49_in : ∀ w ∈ wsL_law0_r49, w ∈ lw_tbl := fun w h => (goodIn_p wsL_law0_r49 [1703, 1707, 1711, 1214, 615] rfl (by decide +kernel) w h).1
set_option maxRecDepth 20000 in
theorem wsL_law0_r50_in : ∀ w ∈ wsL_law0_r50, w ∈ lw_tbl := fun w h => (goodIn_p wsL_law0_r50 [1715, 607, 611, 1719, 1223] rfl (by decide +kernel) w h).1
set_option maxRecDepth 20000 in
theorem wsL_law0_r51_in : ∀ w ∈ wsL_law0_r51, w ∈ lw_tbl := fun w h => (goodIn_p wsL_law0_r51 [1227, 1232, 1239, 1243, 1247] rfl (by decide +kernel) w h).1
set_option maxRecDepth 20000 in
theorem wsL_law0_r52_in : ∀ w ∈ wsL_law0_r52, w ∈ lw_tbl := fun w h => (goodIn_p wsL_law0_r52 [1251, 1255, 1260, 1267, 627] rfl (by decide +kernel) w h).1
set_option maxRecDepth 20000 in
theorem wsL_law0_r53_in : ∀ w ∈ wsL_law0_r53, w ∈ lw_tbl := fun w h => (goodIn_p wsL_law0_r53 [1274, 1279, 1723, 1727] rfl (by decide +kernel) w h).1
set_option maxRecDepth 20000 in
theorem wsL_law0_r54_in : ∀ w ∈ wsL_law0_r54, w ∈ lw_tbl := fun w h => (goodIn_p wsL_law0_r54 [1731, 1734, 1737, 1741, 1745, 619, 623] rfl (by decide +kernel) w h).1
set_option maxRecDepth 20000 in
theorem wsL_law0_r55_in : ∀ w ∈ wsL_law0_r55, w ∈ lw_tbl := fun w h => (goodIn_p wsL_law0_r55 [632, 636, 640, 1749, 1753, 1757] rfl (by decide +kernel) w h).1
set_option maxRecDepth 20000 in
theorem wsL_law0_r56_in : ∀ w ∈ wsL_law0_r56, w ∈ lw_tbl := fun w h => (goodIn_p wsL_law0_r56 [1288, 1292, 1297, 1761, 644] rfl (by decide +kernel) w h).1
set_option maxRecDepth 20000 in
theorem wsL_law0_r57_in : ∀ w ∈ wsL_law0_r57, w ∈ lw_tbl := fun w h => (goodIn_p wsL_law0_r57 [1378, 648, 1765, 652, 1769, 656] rfl (by decide +kernel) w h).1
set_option maxRecDepth 20000 in
theorem wsL_law0_r58_in : ∀ w ∈ wsL_law0_r58, w ∈ lw_tbl := fun w h => (goodIn_p wsL_law0_r58 [1773, 665, 669, 742, 1777] rfl (by decide +kernel) w h).1
theorem wsL_u_wsX100 : ∀ w ∈ wsX100, w ∈ lw_tbl := by decide +kernel
theorem wsL_u_wsX110 : ∀ w ∈ wsX110, w ∈ lw_tbl := by decide +kernel
theorem wsL_u_wsX60 : ∀ w ∈ wsX60, w ∈ lw_tbl := by decide +kernel
theorem wsL_u_wsX90 : ∀ w ∈ wsX90, w ∈ lw_tbl := by decide +kernel
theorem wsL_u_wsX10 : ∀ w ∈ wsX10, w ∈ lw_tbl := by decide +kernel
theorem wsL_u_wsX50 : ∀ w ∈ wsX50, w ∈ lw_tbl := by decide +kernel
theorem wsL_u_wsX30 : ∀ w ∈ wsX30, w ∈ lw_tbl := by decide +kernel
theorem wsL_u_wsX70 : ∀ w ∈ wsX70, w ∈ lw_tbl := by decide +kernel
theorem wsL_u_wsX20 : ∀ w ∈ wsX20, w ∈ lw_tbl := by decide +kernel
theorem wsL_u_wsX80 : ∀ w ∈ wsX80, w ∈ lw_tbl := by decide +kernel
theorem wsL_law_in0 : ∀ w ∈ wsL_law0, w ∈ lw_tbl := by
  unfold wsL_law0
  exact List.forall_mem_append.mpr ⟨List.forall_mem_append.mpr ⟨List.forall_mem_append.mpr ⟨List.forall_mem_append.mpr ⟨List.forall_mem_append.mpr ⟨List.forall_mem_append.mpr ⟨List.forall_mem_append.mpr ⟨List.forall_mem_append.mpr ⟨List.forall_mem_append.mpr ⟨List.forall_mem_append.mpr ⟨List.forall_mem_append.mpr ⟨List.forall_mem_append.mpr ⟨wsL_law0_r1_in, List.forall_mem_append.mpr ⟨wsL_law0_r2_in, List.forall_mem_append.mpr ⟨wsL_law0_r3_in, List.forall_mem_append.mpr ⟨wsL_law0_r4_in, List.forall_mem_append.mpr ⟨wsL_law0_r5_in, List.forall_mem_append.mpr ⟨wsL_law0_r6_in, List.forall_mem_append.mpr ⟨wsL_law0_r7_in, List.forall_mem_append.mpr ⟨wsL_law0_r8_in, List.forall_mem_append.mpr ⟨wsL_law0_r9_in, List.forall_mem_append.mpr ⟨wsL_law0_r10_in, List.forall_mem_append.mpr ⟨wsL_law0_r11_in, List.forall_mem_append.mpr ⟨wsL_law0_r12_in, List.forall_mem_append.mpr ⟨wsL_law0_r13_in, List.forall_mem_append.mpr ⟨wsL_law0_r14_in, List.forall_mem_append.mpr ⟨wsL_law0_r15_in, List.forall_mem_append.mpr ⟨wsL_law0_r16_in, List.forall_mem_append.mpr ⟨wsL_law0_r17_in, List.forall_mem_append.mpr ⟨wsL_law0_r18_in, List.forall_mem_append.mpr ⟨wsL_law0_r19_in, List.forall_mem_append.mpr ⟨wsL_law0_r20_in, List.forall_mem_append.mpr ⟨wsL_law0_r21_in, List.forall_mem_append.mpr ⟨wsL_law0_r22_in, List.forall_mem_append.mpr ⟨wsL_law0_r23_in, List.forall_mem_append.mpr ⟨wsL_law0_r24_in, List.forall_mem_append.mpr ⟨wsL_law0_r25_in, List.forall_mem_append.mpr ⟨wsL_law0_r26_in, List.forall_mem_append.mpr ⟨wsL_law0_r27_in, List.forall_mem_append.mpr ⟨wsL_law0_r28_in, List.forall_mem_append.mpr ⟨wsL_law0_r29_in, List.forall_mem_append.mpr ⟨wsL_law0_r30_in, List.forall_mem_append.mpr ⟨wsL_law0_r31_in, List.forall_mem_append.mpr ⟨wsL_law0_r32_in, List.forall_mem_append.mpr ⟨wsL_law0_r33_in, List.forall_mem_append.mpr ⟨wsL_law0_r34_in, List.forall_mem_append.mpr ⟨wsL_law0_r35_in, List.forall_mem_append.mpr ⟨wsL_law0_r36_in, List.forall_mem_append.mpr ⟨wsL_law0_r37_in, List.forall_mem_append.mpr ⟨wsL_law0_r38_in, List.forall_mem_append.mpr ⟨wsL_law0_r39_in, List.forall_mem_append.mpr ⟨wsL_law0_r40_in, List.forall_mem_append.mpr ⟨wsL_law0_r41_in, List.forall_mem_append.mpr ⟨wsL_law0_r42_in, List.forall_mem_append.mpr ⟨wsL_law0_r43_in, List.forall_mem_append.mpr ⟨wsL_law0_r44_in, List.forall_mem_append.mpr ⟨wsL_law0_r45_in, List.forall_mem_append.mpr ⟨wsL_law0_r46_in, List.forall_mem_append.mpr ⟨wsL_law0_r47_in, List.forall_mem_append.mpr ⟨wsL_law0_r48_in, List.forall_mem_append.mpr ⟨wsL_law0_r49_in, List.forall_mem_append.mpr ⟨wsL_law0_r50_in, List.forall_mem_append.mpr ⟨wsL_law0_r51_in, List.forall_mem_append.mpr ⟨wsL_law0_r52_in, List.forall_mem_append.mpr ⟨wsL_law0_r53_in, List.forall_mem_append.mpr ⟨wsL_law0_r54_in, List.forall_mem_append.mpr ⟨wsL_law0_r55_in, List.forall_mem_append.mpr ⟨wsL_law0_r56_in, List.forall_mem_append.mpr ⟨wsL_law0_r57_in, wsL_law0_r58_in⟩⟩⟩⟩⟩⟩⟩⟩⟩⟩⟩⟩⟩⟩⟩⟩⟩⟩⟩⟩⟩⟩⟩⟩⟩⟩⟩⟩⟩⟩⟩⟩⟩⟩⟩⟩⟩⟩⟩⟩⟩⟩⟩⟩⟩⟩⟩⟩⟩⟩⟩⟩⟩⟩⟩⟩⟩, wsL_u_wsX100⟩, wsL_u_wsX110⟩, wsL_u_wsX60⟩, wsL_u_wsX90⟩, wsL_u_wsX10⟩, wsL_u_wsX50⟩, wsL_u_wsX30⟩, wsL_u_wsX70⟩, wsL_u_wsX20⟩, wsL_u_wsX80⟩, fun w h => by cases h⟩
theorem wsL_law_x0 : ∀ w ∈ (vx_atS RX10 84 "java/lang/IllegalStateException" ["java/lang/RuntimeException", "java/lang/Exception"]).filter goodWord, w ∈ lw_tbl := by decide +kernel
theorem wsL_law_x1 : ∀ w ∈ (vx_atS RX10 117 "java/lang/IllegalArgumentException" ["java/lang/RuntimeException", "java/lang/Exception"]).filter goodWord, w ∈ lw_tbl := by decide +kernel
theorem wsL_law_x2 : ∀ w ∈ (vx_atS RX10 177 "java/lang/IndexOutOfBoundsException" ["java/lang/RuntimeException", "java/lang/Exception"]).filter goodWord, w ∈ lw_tbl := by decide +kernel
theorem wsL_law_in : ∀ w ∈ wsL_law, w ∈ lw_tbl := fun w h => (List.mem_append.mp h).elim (fun h => (List.mem_append.mp h).elim (fun h => (List.mem_append.mp h).elim (fun h => wsL_law_in0 w h) (fun h => wsL_law_x0 w h)) (fun h => wsL_law_x1 w h)) (fun h => wsL_law_x2 w h)
theorem inX0 : ∀ w ∈ wsX00, w ∈ lw_tbl := by decide +kernel
theorem inlX1 : ∀ w ∈ wsX10, w ∈ wsL_law := fun _ h => List.mem_append_left _ (List.mem_append_left _ (List.mem_append_left _ (List.mem_append_left _ (List.mem_append_left _ (List.mem_append_left _ (List.mem_append_left _ (List.mem_append_left _ (List.mem_append_left _ (List.mem_append_right _ h)))))))))
theorem inX1 : ∀ w ∈ wsX10, w ∈ lw_tbl := fun w h => wsL_law_in w (inlX1 w h)
theorem inlX2 : ∀ w ∈ wsX20, w ∈ wsL_law := fun _ h => List.mem_append_left _ (List.mem_append_left _ (List.mem_append_left _ (List.mem_append_left _ (List.mem_append_left _ (List.mem_append_right _ h)))))
theorem inX2 : ∀ w ∈ wsX20, w ∈ lw_tbl := fun w h => wsL_law_in w (inlX2 w h)
theorem inlX3 : ∀ w ∈ wsX30, w ∈ wsL_law := fun _ h => List.mem_append_left _ (List.mem_append_left _ (List.mem_append_left _ (List.mem_append_left _ (List.mem_append_left _ (List.mem_append_left _ (List.mem_append_left _ (List.mem_append_right _ h)))))))
theorem inX3 : ∀ w ∈ wsX30, w ∈ lw_tbl := fun w h => wsL_law_in w (inlX3 w h)
theorem inX4 : ∀ w ∈ wsX40, w ∈ lw_tbl := by decide +kernel
theorem inlX5 : ∀ w ∈ wsX50, w ∈ wsL_law := fun _ h => List.mem_append_left _ (List.mem_append_left _ (List.mem_append_left _ (List.mem_append_left _ (List.mem_append_left _ (List.mem_append_left _ (List.mem_append_left _ (List.mem_append_left _ (List.mem_append_right _ h))))))))
theorem inX5 : ∀ w ∈ wsX50, w ∈ lw_tbl := fun w h => wsL_law_in w (inlX5 w h)
theorem inlX6 : ∀ w ∈ wsX60, w ∈ wsL_law := fun _ h => List.mem_append_left _ (List.mem_append_left _ (List.mem_append_left _ (List.mem_append_left _ (List.mem_append_left _ (List.mem_append_left _ (List.mem_append_left _ (List.mem_append_left _ (List.mem_append_left _ (List.mem_append_left _ (List.mem_append_left _ (List.mem_append_right _ h)))))))))))
