theorem dX10_stone_34 : decode cX10_stone 34 = .ok (.goto 4, 3) := by decide +kernel
theorem dX10_stone_37 : decode cX10_stone 37 = .ok (.iconst 0, 1) := by decide +kernel
theorem dX10_stone_38 : decode cX10_stone 38 = .ok (.istore 5, 2) := by decide +kernel
theorem dX10_stone_40 : decode cX10_stone 40 = .ok (.iload 5, 2) := by decide +kernel
theorem dX10_stone_42 : decode cX10_stone 42 = .ok (.ifCond .eq 13, 3) := by decide +kernel
theorem dX10_stone_45 : decode cX10_stone 45 = .ok (.aload_n 0, 1) := by decide +kernel
theorem dX10_stone_46 : decode cX10_stone 46 = .ok (.getfield 33, 3) := by decide +kernel
theorem dX10_stone_49 : decode cX10_stone 49 = .ok (.invokevirtual 101, 3) := by decide +kernel
theorem dX10_stone_52 : decode cX10_stone 52 = .ok (.goto 4, 3) := by decide +kernel
theorem dX10_stone_55 : decode cX10_stone 55 = .ok (.iconst 0, 1) := by decide +kernel
theorem dX10_stone_56 : decode cX10_stone 56 = .ok (.istore 6, 2) := by decide +kernel
theorem dX10_stone_58 : decode cX10_stone 58 = .ok (.iload 5, 2) := by decide +kernel
theorem dX10_stone_60 : decode cX10_stone 60 = .ok (.ifCond .eq 13, 3) := by decide +kernel
theorem dX10_stone_63 : decode cX10_stone 63 = .ok (.aload_n 0, 1) := by decide +kernel
theorem dX10_stone_64 : decode cX10_stone 64 = .ok (.getfield 33, 3) := by decide +kernel
theorem dX10_stone_67 : decode cX10_stone 67 = .ok (.invokevirtual 104, 3) := by decide +kernel
theorem dX10_stone_70 : decode cX10_stone 70 = .ok (.goto 4, 3) := by decide +kernel
theorem dX10_stone_73 : decode cX10_stone 73 = .ok (.iconst (-1), 1) := by decide +kernel
theorem dX10_stone_74 : decode cX10_stone 74 = .ok (.istore 7, 2) := by decide +kernel
theorem dX10_stone_76 : decode cX10_stone 76 = .ok (.iload 7, 2) := by decide +kernel
theorem dX10_stone_78 : decode cX10_stone 78 = .ok (.iconst (-1), 1) := by decide +kernel
theorem dX10_stone_79 : decode cX10_stone 79 = .ok (.if_icmp .ne 24, 3) := by decide +kernel
theorem dX10_stone_82 : decode cX10_stone 82 = .ok (.iload 5, 2) := by decide +kernel
theorem dX10_stone_84 : decode cX10_stone 84 = .ok (.ifCond .eq 19, 3) := by decide +kernel
theorem dX10_stone_87 : decode cX10_stone 87 = .ok (.aload_n 0, 1) := by decide +kernel
theorem dX10_stone_88 : decode cX10_stone 88 = .ok (.getfield 12, 3) := by decide +kernel
theorem dX10_stone_91 : decode cX10_stone 91 = .ok (.iload 6, 2) := by decide +kernel
theorem dX10_stone_93 : decode cX10_stone 93 = .ok (.invokevirtual 107, 3) := by decide +kernel
theorem dX10_stone_96 : decode cX10_stone 96 = .ok (.iconst (-1), 1) := by decide +kernel
theorem dX10_stone_97 : decode cX10_stone 97 = .ok (.if_icmp .eq 6, 3) := by decide +kernel
theorem dX10_stone_100 : decode cX10_stone 100 = .ok (.iconst 0, 1) := by decide +kernel
theorem dX10_stone_101 : decode cX10_stone 101 = .ok (.istore 7, 2) := by decide +kernel
theorem dX10_stone_103 : decode cX10_stone 103 = .ok (.aload_n 0, 1) := by decide +kernel
theorem dX10_stone_104 : decode cX10_stone 104 = .ok (.getfield 33, 3) := by decide +kernel
theorem dX10_stone_107 : decode cX10_stone 107 = .ok (.iload 7, 2) := by decide +kernel
theorem dX10_stone_109 : decode cX10_stone 109 = .ok (.invokevirtual 110, 3) := by decide +kernel
theorem dX10_stone_112 : decode cX10_stone 112 = .ok (.iload 5, 2) := by decide +kernel
theorem dX10_stone_114 : decode cX10_stone 114 = .ok (.ifCond .eq 9, 3) := by decide +kernel
theorem dX10_stone_117 : decode cX10_stone 117 = .ok (.iload 7, 2) := by decide +kernel
theorem dX10_stone_119 : decode cX10_stone 119 = .ok (.iconst (-1), 1) := by decide +kernel
theorem dX10_stone_120 : decode cX10_stone 120 = .ok (.if_icmp .eq 13, 3) := by decide +kernel
theorem dX10_stone_123 : decode cX10_stone 123 = .ok (.new 113, 3) := by decide +kernel
theorem dX10_stone_126 : decode cX10_stone 126 = .ok (.dup, 1) := by decide +kernel
theorem dX10_stone_127 : decode cX10_stone 127 = .ok (.ldc 115, 2) := by decide +kernel
theorem dX10_stone_129 : decode cX10_stone 129 = .ok (.invokespecial 117, 3) := by decide +kernel
theorem dX10_stone_132 : decode cX10_stone 132 = .ok (.athrow, 1) := by decide +kernel
theorem dX10_stone_133 : decode cX10_stone 133 = .ok (.aload_n 0, 1) := by decide +kernel
theorem dX10_stone_134 : decode cX10_stone 134 = .ok (.getfield 12, 3) := by decide +kernel
theorem dX10_stone_137 : decode cX10_stone 137 = .ok (.getfield 118, 3) := by decide +kernel
theorem dX10_stone_140 : decode cX10_stone 140 = .ok (.invokevirtual 122, 3) := by decide +kernel
theorem dX10_stone_143 : decode cX10_stone 143 = .ok (.ifCond .eq 13, 3) := by decide +kernel
theorem dX10_stone_146 : decode cX10_stone 146 = .ok (.new 80, 3) := by decide +kernel
theorem dX10_stone_149 : decode cX10_stone 149 = .ok (.dup, 1) := by decide +kernel
theorem dX10_stone_150 : decode cX10_stone 150 = .ok (.ldc 128, 2) := by decide +kernel
theorem dX10_stone_152 : decode cX10_stone 152 = .ok (.invokespecial 84, 3) := by decide +kernel
theorem dX10_stone_155 : decode cX10_stone 155 = .ok (.athrow, 1) := by decide +kernel
theorem dX10_stone_156 : decode cX10_stone 156 = .ok (.aload_n 0, 1) := by decide +kernel
theorem dX10_stone_157 : decode cX10_stone 157 = .ok (.invokevirtual 130, 3) := by decide +kernel
theorem dX10_stone_160 : decode cX10_stone 160 = .ok (.aload_n 0, 1) := by decide +kernel
theorem dX10_stone_161 : decode cX10_stone 161 = .ok (.getfield 12, 3) := by decide +kernel
theorem dX10_stone_164 : decode cX10_stone 164 = .ok (.iload 6, 2) := by decide +kernel
theorem dX10_stone_166 : decode cX10_stone 166 = .ok (.iload_n 1, 1) := by decide +kernel
theorem dX10_stone_167 : decode cX10_stone 167 = .ok (.iload_n 2, 1) := by decide +kernel
theorem dX10_stone_168 : decode cX10_stone 168 = .ok (.iload_n 3, 1) := by decide +kernel
theorem dX10_stone_169 : decode cX10_stone 169 = .ok (.iload 4, 2) := by decide +kernel
theorem dX10_stone_171 : decode cX10_stone 171 = .ok (.invokevirtual 133, 3) := by decide +kernel
theorem dX10_stone_174 : decode cX10_stone 174 = .ok (.ireturn, 1) := by decide +kernel
set_option maxRecDepth 20000 in
theorem ggX10_stones_X8_size : GoodIn wsX10_stones wsX8_size := goodIn_r _ [6, 7, 27, 28, 29] rfl (by decide +kernel)
set_option maxRecDepth 20000 in
theorem gX10_stones_X8_size : GoodIn wsX10_stones (wsV RX10 137 RX8 yX8_size wsX8_size) := goodIn_app (goodIn_of _ (by decide +kernel)) ggX10_stones_X8_size
theorem dX10_stones_0 : decode cX10_stones 0 = .ok (.aload_n 0, 1) := by decide +kernel
theorem dX10_stones_1 : decode cX10_stones 1 = .ok (.getfield 12, 3) := by decide +kernel
theorem dX10_stones_4 : decode cX10_stones 4 = .ok (.getfield 118, 3) := by decide +kernel
theorem dX10_stones_7 : decode cX10_stones 7 = .ok (.invokevirtual 137, 3) := by decide +kernel
theorem dX10_stones_10 : decode cX10_stones 10 = .ok (.ireturn, 1) := by decide +kernel
set_option maxRecDepth 20000 in
theorem ggX10_stoneOf_X10_needStone : GoodIn wsX10_stoneOf wsX10_needStone := goodIn_ca (goodIn_r _ [6, 7, 8, 1, 9, 10, 11, 12, 13, 14, 37, 38, 39, 40, 41, 42, 43, 44, 45, 46, 47, 48, 49, 50, 51, 52, 53, 54, 55, 56, 57, 58] rfl (by decide +kernel)) (goodIn_sub (fun _ h => List.mem_cons_of_mem _ (List.mem_append_left _ (List.mem_append_right _ h))) (by decide +kernel))
set_option maxRecDepth 20000 in
theorem gX10_stoneOf_X10_needStone : GoodIn wsX10_stoneOf (wsV RX10 140 RX10 yX10_needStone wsX10_needStone) := goodIn_app (goodIn_of _ (by decide +kernel)) ggX10_stoneOf_X10_needStone
set_option maxRecDepth 20000 in
theorem ggX10_stoneOf_X10_needRange : GoodIn wsX10_stoneOf wsX10_needRange := goodIn_ca (goodIn_r _ [17, 18, 19] rfl (by decide +kernel)) (goodIn_sub (fun _ h => List.mem_cons_of_mem _ (List.mem_append_right _ h)) (by decide +kernel))
set_option maxRecDepth 20000 in
theorem gX10_stoneOf_X10_needRange : GoodIn wsX10_stoneOf (va_wsS RX10 143 yX10_needRange wsX10_needRange) := goodIn_app (goodIn_of _ (by decide +kernel)) ggX10_stoneOf_X10_needRange
set_option maxRecDepth 20000 in
theorem ggX10_stoneOf_X6_placeOf : GoodIn wsX10_stoneOf wsX6_placeOf := goodIn_r _ [24, 25, 26, 27, 28, 12, 29, 14, 30, 31, 32, 33, 34, 35, 48, 49, 50, 51, 52, 53, 54, 55, 56, 57, 58] rfl (by decide +kernel)
set_option maxRecDepth 20000 in
theorem gX10_stoneOf_X6_placeOf : GoodIn wsX10_stoneOf (wsV RX10 147 RX6 yX6_placeOf wsX6_placeOf) := goodIn_app (goodIn_of _ (by decide +kernel)) ggX10_stoneOf_X6_placeOf
set_option maxRecDepth 20000 in
theorem ggX10_stoneOf_X8_get : GoodIn wsX10_stoneOf wsX8_get := goodIn_r _ [33, 14, 34, 35, 56, 57, 58] rfl (by decide +kernel)
set_option maxRecDepth 20000 in
theorem gX10_stoneOf_X8_get : GoodIn wsX10_stoneOf (wsV RX10 150 RX8 yX8_get wsX8_get) := goodIn_app (goodIn_of _ (by decide +kernel)) ggX10_stoneOf_X8_get
theorem dX10_stoneOf_0 : decode cX10_stoneOf 0 = .ok (.aload_n 0, 1) := by decide +kernel
theorem dX10_stoneOf_1 : decode cX10_stoneOf 1 = .ok (.iload_n 1, 1) := by decide +kernel
theorem dX10_stoneOf_2 : decode cX10_stoneOf 2 = .ok (.invokevirtual 140, 3) := by decide +kernel
theorem dX10_stoneOf_5 : decode cX10_stoneOf 5 = .ok (.iload_n 2, 1) := by decide +kernel
theorem dX10_stoneOf_6 : decode cX10_stoneOf 6 = .ok (.iconst 0, 1) := by decide +kernel
theorem dX10_stoneOf_7 : decode cX10_stoneOf 7 = .ok (.iconst 5, 1) := by decide +kernel
theorem dX10_stoneOf_8 : decode cX10_stoneOf 8 = .ok (.invokestatic 143, 3) := by decide +kernel
theorem dX10_stoneOf_11 : decode cX10_stoneOf 11 = .ok (.iload_n 2, 1) := by decide +kernel
theorem dX10_stoneOf_12 : decode cX10_stoneOf 12 = .ok (.iconst 5, 1) := by decide +kernel
theorem dX10_stoneOf_13 : decode cX10_stoneOf 13 = .ok (.if_icmp .ne 12, 3) := by decide +kernel
theorem dX10_stoneOf_16 : decode cX10_stoneOf 16 = .ok (.aload_n 0, 1) := by decide +kernel
theorem dX10_stoneOf_17 : decode cX10_stoneOf 17 = .ok (.getfield 12, 3) := by decide +kernel
theorem dX10_stoneOf_20 : decode cX10_stoneOf 20 = .ok (.iload_n 1, 1) := by decide +kernel
theorem dX10_stoneOf_21 : decode cX10_stoneOf 21 = .ok (.invokevirtual 147, 3) := by decide +kernel
theorem dX10_stoneOf_24 : decode cX10_stoneOf 24 = .ok (.ireturn, 1) := by decide +kernel
theorem dX10_stoneOf_25 : decode cX10_stoneOf 25 = .ok (.aload_n 0, 1) := by decide +kernel
theorem dX10_stoneOf_26 : decode cX10_stoneOf 26 = .ok (.getfield 12, 3) := by decide +kernel
theorem dX10_stoneOf_29 : decode cX10_stoneOf 29 = .ok (.getfield 118, 3) := by decide +kernel
theorem dX10_stoneOf_32 : decode cX10_stoneOf 32 = .ok (.iload_n 1, 1) := by decide +kernel
theorem dX10_stoneOf_33 : decode cX10_stoneOf 33 = .ok (.iload_n 2, 1) := by decide +kernel
theorem dX10_stoneOf_34 : decode cX10_stoneOf 34 = .ok (.iconst 4, 1) := by decide +kernel
theorem dX10_stoneOf_35 : decode cX10_stoneOf 35 = .ok (.if_icmp .ne 7, 3) := by decide +kernel
theorem dX10_stoneOf_38 : decode cX10_stoneOf 38 = .ok (.iconst 5, 1) := by decide +kernel
theorem dX10_stoneOf_39 : decode cX10_stoneOf 39 = .ok (.goto 4, 3) := by decide +kernel
theorem dX10_stoneOf_42 : decode cX10_stoneOf 42 = .ok (.iload_n 2, 1) := by decide +kernel
theorem dX10_stoneOf_43 : decode cX10_stoneOf 43 = .ok (.invokevirtual 150, 3) := by decide +kernel
theorem dX10_stoneOf_46 : decode cX10_stoneOf 46 = .ok (.ireturn, 1) := by decide +kernel
set_option maxRecDepth 20000 in
theorem ggX10_scratch_X10_needTwoStones : GoodIn wsX10_scratch wsX10_needTwoStones := goodIn_ca (goodIn_ca (goodIn_r _ [8, 9, 10, 11, 12, 13, 7, 14, 15, 16, 3, 17, 18, 19, 20, 21, 22, 91, 92, 93, 94, 95, 96, 97, 98, 99, 100, 101, 102, 103, 104, 105, 106, 107, 108, 109, 110, 111, 112] rfl (by decide +kernel)) (goodIn_sub (fun _ h => List.mem_cons_of_mem _ (List.mem_append_left _ (List.mem_append_right _ h))) (by decide +kernel))) (goodIn_sub (fun _ h => List.mem_cons_of_mem _ (List.mem_append_right _ h)) (by decide +kernel))
set_option maxRecDepth 20000 in
theorem gX10_scratch_X10_needTwoStones : GoodIn wsX10_scratch (wsV RX10 154 RX10 yX10_needTwoStones wsX10_needTwoStones) := goodIn_app (goodIn_of _ (by decide +kernel)) ggX10_scratch_X10_needTwoStones
set_option maxRecDepth 20000 in
theorem ggX10_scratch_X8_isFull : GoodIn wsX10_scratch wsX8_isFull := goodIn_r _ [26, 22, 27, 28, 110, 111, 112] rfl (by decide +kernel)
set_option maxRecDepth 20000 in
theorem gX10_scratch_X8_isFull : GoodIn wsX10_scratch (wsV RX10 122 RX8 yX8_isFull wsX8_isFull) := goodIn_app (goodIn_of _ (by decide +kernel)) ggX10_scratch_X8_isFull
set_option maxRecDepth 20000 in
theorem ggX10_scratch_X10_keepState : GoodIn wsX10_scratch wsX10_keepState := goodIn_r _ [32, 33, 34, 35, 36, 37, 3, 38, 39, 40, 41, 42, 43, 44, 45, 46, 47, 48, 49, 50, 20, 51, 52, 53, 54, 55, 56, 57, 58, 59, 60, 61, 62, 22, 63, 64, 65, 27, 66, 28, 67, 68, 69, 70, 71, 24, 25, 26, 72, 73, 74, 75, 76, 77, 78, 79, 80, 81, 82, 83, 84, 85, 86, 87, 88, 91, 92, 93, 94, 95, 96, 97, 98, 99, 100, 101, 102, 103, 104, 105, 106, 107, 108, 109, 110, 111, 112] rfl (by decide +kernel)
set_option maxRecDepth 20000 in
theorem gX10_scratch_X10_keepState : GoodIn wsX10_scratch (wsV RX10 130 RX10 yX10_keepState wsX10_keepState) := goodIn_app (goodIn_of _ (by decide +kernel)) ggX10_scratch_X10_keepState
set_option maxRecDepth 20000 in
theorem ggX10_scratch_X8_add : GoodIn wsX10_scratch wsX8_add := goodIn_r _ [70, 22, 27, 71, 24, 25, 20, 26, 28, 72, 73, 74, 75, 110, 111, 112] rfl (by decide +kernel)
set_option maxRecDepth 20000 in
theorem gX10_scratch_X8_add : GoodIn wsX10_scratch (wsV RX10 163 RX8 yX8_add wsX8_add) := goodIn_app (goodIn_of _ (by decide +kernel)) ggX10_scratch_X8_add
set_option maxRecDepth 20000 in
theorem ggX10_scratch_X8_set : GoodIn wsX10_scratch wsX8_set := goodIn_r _ [75, 22, 27, 28, 110, 111, 112] rfl (by decide +kernel)
set_option maxRecDepth 20000 in
theorem gX10_scratch_X8_set : GoodIn wsX10_scratch (wsV RX10 166 RX8 yX8_set wsX8_set) := goodIn_app (goodIn_of _ (by decide +kernel)) ggX10_scratch_X8_set
theorem dX10_scratch_0 : decode cX10_scratch 0 = .ok (.aload_n 0, 1) := by decide +kernel
theorem dX10_scratch_1 : decode cX10_scratch 1 = .ok (.iload_n 1, 1) := by decide +kernel
theorem dX10_scratch_2 : decode cX10_scratch 2 = .ok (.iload_n 2, 1) := by decide +kernel
theorem dX10_scratch_3 : decode cX10_scratch 3 = .ok (.invokevirtual 154, 3) := by decide +kernel
theorem dX10_scratch_6 : decode cX10_scratch 6 = .ok (.aload_n 0, 1) := by decide +kernel
theorem dX10_scratch_7 : decode cX10_scratch 7 = .ok (.getfield 12, 3) := by decide +kernel
theorem dX10_scratch_10 : decode cX10_scratch 10 = .ok (.getfield 158, 3) := by decide +kernel
theorem dX10_scratch_13 : decode cX10_scratch 13 = .ok (.invokevirtual 122, 3) := by decide +kernel
theorem dX10_scratch_16 : decode cX10_scratch 16 = .ok (.ifCond .eq 13, 3) := by decide +kernel
theorem dX10_scratch_19 : decode cX10_scratch 19 = .ok (.new 80, 3) := by decide +kernel
theorem dX10_scratch_22 : decode cX10_scratch 22 = .ok (.dup, 1) := by decide +kernel
theorem dX10_scratch_23 : decode cX10_scratch 23 = .ok (.ldc 161, 2) := by decide +kernel
theorem dX10_scratch_25 : decode cX10_scratch 25 = .ok (.invokespecial 84, 3) := by decide +kernel
theorem dX10_scratch_28 : decode cX10_scratch 28 = .ok (.athrow, 1) := by decide +kernel
theorem dX10_scratch_29 : decode cX10_scratch 29 = .ok (.aload_n 0, 1) := by decide +kernel
theorem dX10_scratch_30 : decode cX10_scratch 30 = .ok (.invokevirtual 130, 3) := by decide +kernel
theorem dX10_scratch_33 : decode cX10_scratch 33 = .ok (.aload_n 0, 1) := by decide +kernel
theorem dX10_scratch_34 : decode cX10_scratch 34 = .ok (.getfield 12, 3) := by decide +kernel
theorem dX10_scratch_37 : decode cX10_scratch 37 = .ok (.getfield 158, 3) := by decide +kernel
theorem dX10_scratch_40 : decode cX10_scratch 40 = .ok (.invokevirtual 163, 3) := by decide +kernel
theorem dX10_scratch_43 : decode cX10_scratch 43 = .ok (.istore_n 3, 1) := by decide +kernel
theorem dX10_scratch_44 : decode cX10_scratch 44 = .ok (.aload_n 0, 1) := by decide +kernel
theorem dX10_scratch_45 : decode cX10_scratch 45 = .ok (.getfield 12, 3) := by decide +kernel
theorem dX10_scratch_48 : decode cX10_scratch 48 = .ok (.getfield 158, 3) := by decide +kernel
theorem dX10_scratch_51 : decode cX10_scratch 51 = .ok (.iload_n 3, 1) := by decide +kernel
theorem dX10_scratch_52 : decode cX10_scratch 52 = .ok (.iconst 0, 1) := by decide +kernel
theorem dX10_scratch_53 : decode cX10_scratch 53 = .ok (.iload_n 1, 1) := by decide +kernel
theorem dX10_scratch_54 : decode cX10_scratch 54 = .ok (.invokevirtual 166, 3) := by decide +kernel
theorem dX10_scratch_57 : decode cX10_scratch 57 = .ok (.aload_n 0, 1) := by decide +kernel
theorem dX10_scratch_58 : decode cX10_scratch 58 = .ok (.getfield 12, 3) := by decide +kernel
theorem dX10_scratch_61 : decode cX10_scratch 61 = .ok (.getfield 158, 3) := by decide +kernel
theorem dX10_scratch_64 : decode cX10_scratch 64 = .ok (.iload_n 3, 1) := by decide +kernel
theorem dX10_scratch_65 : decode cX10_scratch 65 = .ok (.iconst 1, 1) := by decide +kernel
theorem dX10_scratch_66 : decode cX10_scratch 66 = .ok (.iload_n 2, 1) := by decide +kernel
theorem dX10_scratch_67 : decode cX10_scratch 67 = .ok (.invokevirtual 166, 3) := by decide +kernel
theorem dX10_scratch_70 : decode cX10_scratch 70 = .ok (.iload_n 3, 1) := by decide +kernel
theorem dX10_scratch_71 : decode cX10_scratch 71 = .ok (.ireturn, 1) := by decide +kernel
set_option maxRecDepth 20000 in
theorem ggX10_unscratch_X8_has : GoodIn wsX10_unscratch wsX8_has := goodIn_r _ [8, 9, 104, 105, 106] rfl (by decide +kernel)
set_option maxRecDepth 20000 in
theorem gX10_unscratch_X8_has : GoodIn wsX10_unscratch (wsV RX10 169 RX8 yX8_has wsX8_has) := goodIn_app (goodIn_of _ (by decide +kernel)) ggX10_unscratch_X8_has
set_option maxRecDepth 20000 in
theorem ggX10_unscratch_X10_keepState : GoodIn wsX10_unscratch wsX10_keepState := goodIn_r _ [14, 15, 16, 17, 18, 19, 3, 20, 21, 22, 23, 24, 25, 26, 27, 28, 29, 30, 31, 32, 7, 33, 34, 35, 36, 37, 38, 39, 40, 41, 42, 43, 44, 9, 45, 46, 47, 48, 49, 50, 51, 52, 53, 54, 55, 56, 57, 58, 59, 60, 61, 62, 63, 64, 65, 66, 67, 68, 69, 70, 71, 72, 73, 74, 75, 85, 86, 87, 88, 89, 90, 91, 92, 93, 94, 95, 96, 97, 98, 99, 100, 101, 102, 103, 104, 105, 106] rfl (by decide +kernel)
set_option maxRecDepth 20000 in
theorem gX10_unscratch_X10_keepState : GoodIn wsX10_unscratch (wsV RX10 130 RX10 yX10_keepState wsX10_keepState) := goodIn_app (goodIn_of _ (by decide +kernel)) ggX10_unscratch_X10_keepState
set_option maxRecDepth 20000 in
theorem ggX10_unscratch_X8_remove : GoodIn wsX10_unscratch wsX8_remove := goodIn_r _ [79, 48, 50, 9, 72, 73, 74, 75, 80, 5, 6, 7, 8, 104, 105, 106] rfl (by decide +kernel)
set_option maxRecDepth 20000 in
theorem gX10_unscratch_X8_remove : GoodIn wsX10_unscratch (wsV RX10 178 RX8 yX8_remove wsX8_remove) := goodIn_app (goodIn_of _ (by decide +kernel)) ggX10_unscratch_X8_remove
set_option maxRecDepth 20000 in
theorem ggX10_unscratch_X8_size : GoodIn wsX10_unscratch wsX8_size := goodIn_r _ [84, 9, 104, 105, 106] rfl (by decide +kernel)
set_option maxRecDepth 20000 in
theorem gX10_unscratch_X8_size : GoodIn wsX10_unscratch (wsV RX10 137 RX8 yX8_size wsX8_size) := goodIn_app (goodIn_of _ (by decide +kernel)) ggX10_unscratch_X8_size
theorem dX10_unscratch_0 : decode cX10_unscratch 0 = .ok (.aload_n 0, 1) := by decide +kernel
theorem dX10_unscratch_1 : decode cX10_unscratch 1 = .ok (.getfield 12, 3) := by decide +kernel
theorem dX10_unscratch_4 : decode cX10_unscratch 4 = .ok (.getfield 158, 3) := by decide +kernel
theorem dX10_unscratch_7 : decode cX10_unscratch 7 = .ok (.iload_n 1, 1) := by decide +kernel
theorem dX10_unscratch_8 : decode cX10_unscratch 8 = .ok (.invokevirtual 169, 3) := by decide +kernel
theorem dX10_unscratch_11 : decode cX10_unscratch 11 = .ok (.ifCond .ne 13, 3) := by decide +kernel
theorem dX10_unscratch_14 : decode cX10_unscratch 14 = .ok (.new 173, 3) := by decide +kernel
theorem dX10_unscratch_17 : decode cX10_unscratch 17 = .ok (.dup, 1) := by decide +kernel
theorem dX10_unscratch_18 : decode cX10_unscratch 18 = .ok (.ldc 175, 2) := by decide +kernel
theorem dX10_unscratch_20 : decode cX10_unscratch 20 = .ok (.invokespecial 177, 3) := by decide +kernel
theorem dX10_unscratch_23 : decode cX10_unscratch 23 = .ok (.athrow, 1) := by decide +kernel
theorem dX10_unscratch_24 : decode cX10_unscratch 24 = .ok (.aload_n 0, 1) := by decide +kernel
theorem dX10_unscratch_25 : decode cX10_unscratch 25 = .ok (.invokevirtual 130, 3) := by decide +kernel
theorem dX10_unscratch_28 : decode cX10_unscratch 28 = .ok (.aload_n 0, 1) := by decide +kernel
theorem dX10_unscratch_29 : decode cX10_unscratch 29 = .ok (.getfield 12, 3) := by decide +kernel
theorem dX10_unscratch_32 : decode cX10_unscratch 32 = .ok (.getfield 158, 3) := by decide +kernel
theorem dX10_unscratch_35 : decode cX10_unscratch 35 = .ok (.iload_n 1, 1) := by decide +kernel
theorem dX10_unscratch_36 : decode cX10_unscratch 36 = .ok (.invokevirtual 178, 3) := by decide +kernel
theorem dX10_unscratch_39 : decode cX10_unscratch 39 = .ok (.aload_n 0, 1) := by decide +kernel
theorem dX10_unscratch_40 : decode cX10_unscratch 40 = .ok (.getfield 12, 3) := by decide +kernel
theorem dX10_unscratch_43 : decode cX10_unscratch 43 = .ok (.getfield 158, 3) := by decide +kernel
theorem dX10_unscratch_46 : decode cX10_unscratch 46 = .ok (.invokevirtual 137, 3) := by decide +kernel
theorem dX10_unscratch_49 : decode cX10_unscratch 49 = .ok (.ireturn, 1) := by decide +kernel
set_option maxRecDepth 20000 in
theorem ggX10_ring_X5_lookAt : GoodIn wsX10_ring wsX5_lookAt := goodIn_r _ [7, 8, 9, 10, 11, 12, 13, 14, 15, 16, 17, 18, 19, 20, 21, 22, 23, 6, 24, 25, 26, 27, 28, 29, 30, 31, 32, 33, 34, 35, 36, 37, 38, 39, 40, 41, 42, 43, 44, 45, 46, 47, 48, 49, 50, 51, 52, 53, 54, 55, 56, 57, 58, 59, 60, 61, 62, 63, 64, 65, 66, 67, 68, 69, 70, 71, 72, 73, 74, 75, 76, 77, 78, 79, 80, 81, 82, 83, 84, 85, 86, 87, 88, 89, 90, 91, 92, 93, 94, 95, 111, 112, 113, 114, 115, 116, 117, 118, 119, 120, 121, 122, 123, 124, 125, 126, 127, 128, 129, 130, 131, 132] rfl (by decide +kernel)
set_option maxRecDepth 20000 in
theorem gX10_ring_X5_lookAt : GoodIn wsX10_ring (wsV RX10 181 RX5 yX5_lookAt wsX5_lookAt) := goodIn_app (goodIn_of _ (by decide +kernel)) ggX10_ring_X5_lookAt
set_option maxRecDepth 20000 in
theorem ggX10_ring_X5_ringSize : GoodIn wsX10_ring wsX5_ringSize := goodIn_r _ [99, 82, 119, 120, 121, 122, 123, 124, 125, 126, 127, 128, 129] rfl (by decide +kernel)
set_option maxRecDepth 20000 in
theorem gX10_ring_X5_ringSize : GoodIn wsX10_ring (wsV RX10 185 RX5 yX5_ringSize wsX5_ringSize) := goodIn_app (goodIn_of _ (by decide +kernel)) ggX10_ring_X5_ringSize
theorem dX10_ring_0 : decode cX10_ring 0 = .ok (.aload_n 0, 1) := by decide +kernel
theorem dX10_ring_1 : decode cX10_ring 1 = .ok (.getfield 47, 3) := by decide +kernel
theorem dX10_ring_4 : decode cX10_ring 4 = .ok (.aload_n 0, 1) := by decide +kernel
theorem dX10_ring_5 : decode cX10_ring 5 = .ok (.getfield 12, 3) := by decide +kernel
theorem dX10_ring_8 : decode cX10_ring 8 = .ok (.invokevirtual 181, 3) := by decide +kernel
theorem dX10_ring_11 : decode cX10_ring 11 = .ok (.aload_n 0, 1) := by decide +kernel
theorem dX10_ring_12 : decode cX10_ring 12 = .ok (.getfield 47, 3) := by decide +kernel
theorem dX10_ring_15 : decode cX10_ring 15 = .ok (.invokevirtual 185, 3) := by decide +kernel
theorem dX10_ring_18 : decode cX10_ring 18 = .ok (.ireturn, 1) := by decide +kernel
set_option maxRecDepth 20000 in
theorem ggX10_ringAt_X5_lookAt : GoodIn wsX10_ringAt wsX5_lookAt := goodIn_r _ [9, 10, 11, 12, 13, 14, 15, 16, 17, 18, 19, 20, 21, 22, 23, 24, 25, 8, 26, 27, 28, 29, 30, 31, 32, 33, 34, 35, 36, 37, 38, 39, 40, 41, 42, 43, 44, 45, 46, 47, 48, 49, 50, 51, 52, 53, 54, 55, 56, 57, 58, 59, 60, 61, 62, 63, 64, 65, 66, 67, 68, 69, 70, 71, 72, 73, 74, 75, 76, 77, 78, 79, 80, 81, 82, 83, 84, 85, 86, 87, 88, 89, 90, 91, 92, 93, 94, 95, 96, 97, 117, 118, 119, 120, 121, 122, 123, 124, 125, 126, 127, 128, 129, 130, 131, 132, 133, 134, 135, 136, 137, 138] rfl (by decide +kernel)
set_option maxRecDepth 20000 in
theorem gX10_ringAt_X5_lookAt : GoodIn wsX10_ringAt (wsV RX10 181 RX5 yX5_lookAt wsX5_lookAt) := goodIn_app (goodIn_of _ (by decide +kernel)) ggX10_ringAt_X5_lookAt
set_option maxRecDepth 20000 in
theorem ggX10_ringAt_X5_ringSize : GoodIn wsX10_ringAt wsX5_ringSize := goodIn_r _ [101, 84, 125, 126, 127, 128, 129, 130, 131, 132, 133, 134, 135] rfl (by decide +kernel)
set_option maxRecDepth 20000 in
theorem gX10_ringAt_X5_ringSize : GoodIn wsX10_ringAt (wsV RX10 185 RX5 yX5_ringSize wsX5_ringSize) := goodIn_app (goodIn_of _ (by decide +kernel)) ggX10_ringAt_X5_ringSize
set_option maxRecDepth 20000 in
theorem ggX10_ringAt_X5_ringStone : GoodIn wsX10_ringAt wsX5_ringStone := goodIn_r _ [105, 94, 37, 38, 8, 39, 125, 126, 127, 128, 129, 130, 131, 132, 133, 134, 135] rfl (by decide +kernel)
set_option maxRecDepth 20000 in
theorem gX10_ringAt_X5_ringStone : GoodIn wsX10_ringAt (wsV RX10 190 RX5 yX5_ringStone wsX5_ringStone) := goodIn_app (goodIn_of _ (by decide +kernel)) ggX10_ringAt_X5_ringStone
theorem dX10_ringAt_0 : decode cX10_ringAt 0 = .ok (.aload_n 0, 1) := by decide +kernel
theorem dX10_ringAt_1 : decode cX10_ringAt 1 = .ok (.getfield 47, 3) := by decide +kernel
theorem dX10_ringAt_4 : decode cX10_ringAt 4 = .ok (.aload_n 0, 1) := by decide +kernel
theorem dX10_ringAt_5 : decode cX10_ringAt 5 = .ok (.getfield 12, 3) := by decide +kernel
theorem dX10_ringAt_8 : decode cX10_ringAt 8 = .ok (.invokevirtual 181, 3) := by decide +kernel
theorem dX10_ringAt_11 : decode cX10_ringAt 11 = .ok (.iload_n 1, 1) := by decide +kernel
theorem dX10_ringAt_12 : decode cX10_ringAt 12 = .ok (.ifCond .lt 14, 3) := by decide +kernel
theorem dX10_ringAt_15 : decode cX10_ringAt 15 = .ok (.iload_n 1, 1) := by decide +kernel
theorem dX10_ringAt_16 : decode cX10_ringAt 16 = .ok (.aload_n 0, 1) := by decide +kernel
theorem dX10_ringAt_17 : decode cX10_ringAt 17 = .ok (.getfield 47, 3) := by decide +kernel
theorem dX10_ringAt_20 : decode cX10_ringAt 20 = .ok (.invokevirtual 185, 3) := by decide +kernel
theorem dX10_ringAt_23 : decode cX10_ringAt 23 = .ok (.if_icmp .lt 13, 3) := by decide +kernel
theorem dX10_ringAt_26 : decode cX10_ringAt 26 = .ok (.new 173, 3) := by decide +kernel
theorem dX10_ringAt_29 : decode cX10_ringAt 29 = .ok (.dup, 1) := by decide +kernel
theorem dX10_ringAt_30 : decode cX10_ringAt 30 = .ok (.ldc 188, 2) := by decide +kernel
theorem dX10_ringAt_32 : decode cX10_ringAt 32 = .ok (.invokespecial 177, 3) := by decide +kernel
theorem dX10_ringAt_35 : decode cX10_ringAt 35 = .ok (.athrow, 1) := by decide +kernel
theorem dX10_ringAt_36 : decode cX10_ringAt 36 = .ok (.aload_n 0, 1) := by decide +kernel
theorem dX10_ringAt_37 : decode cX10_ringAt 37 = .ok (.getfield 47, 3) := by decide +kernel
theorem dX10_ringAt_40 : decode cX10_ringAt 40 = .ok (.iload_n 1, 1) := by decide +kernel
theorem dX10_ringAt_41 : decode cX10_ringAt 41 = .ok (.invokevirtual 190, 3) := by decide +kernel
theorem dX10_ringAt_44 : decode cX10_ringAt 44 = .ok (.ireturn, 1) := by decide +kernel
set_option maxRecDepth 20000 in
theorem ggX10_orders_X5_lookAt : GoodIn wsX10_orders wsX5_lookAt := goodIn_r _ [7, 8, 9, 10, 11, 12, 13, 14, 15, 16, 17, 18, 19, 20, 21, 22, 23, 6, 24, 25, 26, 27, 28, 29, 30, 31, 32, 33, 34, 35, 36, 37, 38, 39, 40, 41, 42, 43, 44, 45, 46, 47, 48, 49, 50, 51, 52, 53, 54, 55, 56, 57, 58, 59, 60, 61, 62, 63, 64, 65, 66, 67, 68, 69, 70, 71, 72, 73, 74, 75, 76, 77, 78, 79, 80, 81, 82, 83, 84, 85, 86, 87, 88, 89, 90, 91, 92, 93, 94, 95, 111, 112, 113, 114, 115, 116, 117, 118, 119, 120, 121, 122, 123, 124, 125, 126, 127, 128, 129, 130, 131, 132] rfl (by decide +kernel)
set_option maxRecDepth 20000 in
theorem gX10_orders_X5_lookAt : GoodIn wsX10_orders (wsV RX10 181 RX5 yX5_lookAt wsX5_lookAt) := goodIn_app (goodIn_of _ (by decide +kernel)) ggX10_orders_X5_lookAt
set_option maxRecDepth 20000 in
theorem ggX10_orders_X5_total : GoodIn wsX10_orders wsX5_total := goodIn_r _ [99, 47, 48, 49, 50, 6, 51, 12, 119, 120, 121, 122, 123, 124, 125, 126, 127, 128, 129] rfl (by decide +kernel)
set_option maxRecDepth 20000 in
theorem gX10_orders_X5_total : GoodIn wsX10_orders (wsV RX10 193 RX5 yX5_total wsX5_total) := goodIn_app (goodIn_of _ (by decide +kernel)) ggX10_orders_X5_total
theorem dX10_orders_0 : decode cX10_orders 0 = .ok (.aload_n 0, 1) := by decide +kernel
theorem dX10_orders_1 : decode cX10_orders 1 = .ok (.getfield 47, 3) := by decide +kernel
theorem dX10_orders_4 : decode cX10_orders 4 = .ok (.aload_n 0, 1) := by decide +kernel
theorem dX10_orders_5 : decode cX10_orders 5 = .ok (.getfield 12, 3) := by decide +kernel
theorem dX10_orders_8 : decode cX10_orders 8 = .ok (.invokevirtual 181, 3) := by decide +kernel
theorem dX10_orders_11 : decode cX10_orders 11 = .ok (.aload_n 0, 1) := by decide +kernel
theorem dX10_orders_12 : decode cX10_orders 12 = .ok (.getfield 47, 3) := by decide +kernel
theorem dX10_orders_15 : decode cX10_orders 15 = .ok (.invokevirtual 193, 3) := by decide +kernel
theorem dX10_orders_18 : decode cX10_orders 18 = .ok (.ireturn, 1) := by decide +kernel
set_option maxRecDepth 20000 in
theorem ggX10_rank_X10_needStone : GoodIn wsX10_rank wsX10_needStone := goodIn_ca (goodIn_r _ [7, 8, 9, 2, 10, 11, 12, 13, 14, 15, 111, 112, 113, 114, 115, 116, 117, 118, 119, 120, 121, 122, 123, 124, 125, 126, 127, 128, 129, 130, 131, 132] rfl (by decide +kernel)) (goodIn_sub (fun _ h => List.mem_cons_of_mem _ (List.mem_append_right _ h)) (by decide +kernel))
set_option maxRecDepth 20000 in
theorem gX10_rank_X10_needStone : GoodIn wsX10_rank (wsV RX10 140 RX10 yX10_needStone wsX10_needStone) := goodIn_app (goodIn_of _ (by decide +kernel)) ggX10_rank_X10_needStone
set_option maxRecDepth 20000 in
theorem ggX10_rank_X5_lookAt : GoodIn wsX10_rank wsX5_lookAt := goodIn_r _ [20, 21, 22, 23, 24, 25, 26, 27, 28, 29, 30, 13, 31, 15, 32, 33, 34, 19, 35, 36, 37, 38, 39, 40, 41, 42, 43, 44, 45, 46, 47, 48, 49, 50, 51, 52, 53, 54, 55, 56, 57, 58, 59, 60, 61, 62, 63, 64, 65, 66, 67, 68, 69, 70, 71, 72, 73, 74, 75, 76, 77, 78, 79, 80, 81, 82, 83, 84, 85, 86, 87, 88, 89, 90, 91, 92, 93, 94, 95, 96, 97, 98, 99, 100, 101, 102, 103, 104, 105, 106, 122, 123, 124, 125, 126, 127, 128, 129, 133, 134, 135, 136, 137, 138, 139, 140, 141, 142, 143, 130, 131, 132] rfl (by decide +kernel)
set_option maxRecDepth 20000 in
theorem gX10_rank_X5_lookAt : GoodIn wsX10_rank (wsV RX10 181 RX5 yX5_lookAt wsX5_lookAt) := goodIn_app (goodIn_of _ (by decide +kernel)) ggX10_rank_X5_lookAt
set_option maxRecDepth 20000 in
theorem ggX10_rank_X5_countAt : GoodIn wsX10_rank wsX5_countAt := goodIn_r _ [110, 72, 46, 47, 19, 48, 133, 134, 135, 136, 137, 138, 139, 140, 141, 142, 143] rfl (by decide +kernel)
set_option maxRecDepth 20000 in
theorem gX10_rank_X5_countAt : GoodIn wsX10_rank (wsV RX10 196 RX5 yX5_countAt wsX5_countAt) := goodIn_app (goodIn_of _ (by decide +kernel)) ggX10_rank_X5_countAt
theorem dX10_rank_0 : decode cX10_rank 0 = .ok (.aload_n 0, 1) := by decide +kernel
theorem dX10_rank_1 : decode cX10_rank 1 = .ok (.iload_n 1, 1) := by decide +kernel
theorem dX10_rank_2 : decode cX10_rank 2 = .ok (.invokevirtual 140, 3) := by decide +kernel
theorem dX10_rank_5 : decode cX10_rank 5 = .ok (.aload_n 0, 1) := by decide +kernel
theorem dX10_rank_6 : decode cX10_rank 6 = .ok (.getfield 47, 3) := by decide +kernel
theorem dX10_rank_9 : decode cX10_rank 9 = .ok (.aload_n 0, 1) := by decide +kernel
theorem dX10_rank_10 : decode cX10_rank 10 = .ok (.getfield 12, 3) := by decide +kernel
theorem dX10_rank_13 : decode cX10_rank 13 = .ok (.invokevirtual 181, 3) := by decide +kernel
theorem dX10_rank_16 : decode cX10_rank 16 = .ok (.iconst (-1), 1) := by decide +kernel
theorem dX10_rank_17 : decode cX10_rank 17 = .ok (.istore_n 3, 1) := by decide +kernel
theorem dX10_rank_18 : decode cX10_rank 18 = .ok (.iconst 0, 1) := by decide +kernel
theorem dX10_rank_19 : decode cX10_rank 19 = .ok (.istore 4, 2) := by decide +kernel
theorem dX10_rank_21 : decode cX10_rank 21 = .ok (.iload 4, 2) := by decide +kernel
theorem dX10_rank_23 : decode cX10_rank 23 = .ok (.bipush 10, 2) := by decide +kernel
theorem dX10_rank_25 : decode cX10_rank 25 = .ok (.if_icmp .ge 34, 3) := by decide +kernel
theorem dX10_rank_28 : decode cX10_rank 28 = .ok (.aload_n 0, 1) := by decide +kernel
theorem dX10_rank_29 : decode cX10_rank 29 = .ok (.getfield 47, 3) := by decide +kernel
theorem dX10_rank_32 : decode cX10_rank 32 = .ok (.iload_n 1, 1) := by decide +kernel
theorem dX10_rank_33 : decode cX10_rank 33 = .ok (.iload 4, 2) := by decide +kernel
theorem dX10_rank_35 : decode cX10_rank 35 = .ok (.invokevirtual 196, 3) := by decide +kernel
theorem dX10_rank_38 : decode cX10_rank 38 = .ok (.ifCond .le 15, 3) := by decide +kernel
theorem dX10_rank_41 : decode cX10_rank 41 = .ok (.iload_n 2, 1) := by decide +kernel
theorem dX10_rank_42 : decode cX10_rank 42 = .ok (.ifCond .ne 8, 3) := by decide +kernel
theorem dX10_rank_45 : decode cX10_rank 45 = .ok (.iload_n 3, 1) := by decide +kernel
theorem dX10_rank_46 : decode cX10_rank 46 = .ok (.iconst (-1), 1) := by decide +kernel
theorem dX10_rank_47 : decode cX10_rank 47 = .ok (.if_icmp .ne 6, 3) := by decide +kernel
theorem dX10_rank_50 : decode cX10_rank 50 = .ok (.iload 4, 2) := by decide +kernel
theorem dX10_rank_52 : decode cX10_rank 52 = .ok (.istore_n 3, 1) := by decide +kernel
theorem dX10_rank_53 : decode cX10_rank 53 = .ok (.iinc 4 1, 3) := by decide +kernel
theorem dX10_rank_56 : decode cX10_rank 56 = .ok (.goto (-35), 3) := by decide +kernel
theorem dX10_rank_59 : decode cX10_rank 59 = .ok (.iload_n 3, 1) := by decide +kernel
theorem dX10_rank_60 : decode cX10_rank 60 = .ok (.ireturn, 1) := by decide +kernel
set_option maxRecDepth 20000 in
theorem ggX10_withRank_X10_needStone : GoodIn wsX10_withRank wsX10_needStone := goodIn_ca (goodIn_r _ [7, 8, 9, 2, 10, 11, 12, 13, 14, 15, 116, 117, 118, 119, 120, 121, 122, 123, 124, 125, 126, 127, 128, 129, 130, 131, 132, 133, 134, 135, 136, 137] rfl (by decide +kernel)) (goodIn_sub (fun _ h => List.mem_cons_of_mem _ (List.mem_append_left _ (List.mem_append_right _ h))) (by decide +kernel))
set_option maxRecDepth 20000 in
theorem gX10_withRank_X10_needStone : GoodIn wsX10_withRank (wsV RX10 140 RX10 yX10_needStone wsX10_needStone) := goodIn_app (goodIn_of _ (by decide +kernel)) ggX10_withRank_X10_needStone
set_option maxRecDepth 20000 in
theorem ggX10_withRank_X10_needRange : GoodIn wsX10_withRank wsX10_needRange := goodIn_ca (goodIn_r _ [18, 19, 20] rfl (by decide +kernel)) (goodIn_sub (fun _ h => List.mem_cons_of_mem _ (List.mem_append_right _ h)) (by decide +kernel))
set_option maxRecDepth 20000 in
theorem gX10_withRank_X10_needRange : GoodIn wsX10_withRank (va_wsS RX10 143 yX10_needRange wsX10_needRange) := goodIn_app (goodIn_of _ (by decide +kernel)) ggX10_withRank_X10_needRange
set_option maxRecDepth 20000 in
theorem ggX10_withRank_X5_lookAt : GoodIn wsX10_withRank wsX5_lookAt := goodIn_r _ [25, 26, 27, 28, 29, 30, 31, 32, 33, 34, 35, 13, 36, 15, 37, 38, 39, 24, 40, 41, 42, 43, 44, 45, 46, 47, 48, 49, 50, 51, 52, 53, 54, 55, 56, 57, 58, 59, 60, 61, 62, 63, 64, 65, 66, 67, 68, 69, 70, 71, 72, 73, 74, 75, 76, 77, 78, 79, 80, 81, 82, 83, 84, 85, 86, 87, 88, 89, 90, 91, 92, 93, 94, 95, 96, 97, 98, 99, 100, 101, 102, 103, 104, 105, 106, 107, 108, 109, 110, 111, 127, 128, 129, 130, 131, 132, 133, 134, 138, 139, 140, 141, 142, 143, 144, 145, 146, 147, 148, 135, 136, 137] rfl (by decide +kernel)
set_option maxRecDepth 20000 in
theorem gX10_withRank_X5_lookAt : GoodIn wsX10_withRank (wsV RX10 181 RX5 yX5_lookAt wsX5_lookAt) := goodIn_app (goodIn_of _ (by decide +kernel)) ggX10_withRank_X5_lookAt
set_option maxRecDepth 20000 in
theorem ggX10_withRank_X5_countAt : GoodIn wsX10_withRank wsX5_countAt := goodIn_r _ [115, 77, 51, 52, 24, 53, 138, 139, 140, 141, 142, 143, 144, 145, 146, 147, 148] rfl (by decide +kernel)
set_option maxRecDepth 20000 in
theorem gX10_withRank_X5_countAt : GoodIn wsX10_withRank (wsV RX10 196 RX5 yX5_countAt wsX5_countAt) := goodIn_app (goodIn_of _ (by decide +kernel)) ggX10_withRank_X5_countAt
theorem dX10_withRank_0 : decode cX10_withRank 0 = .ok (.aload_n 0, 1) := by decide +kernel
theorem dX10_withRank_1 : decode cX10_withRank 1 = .ok (.iload_n 1, 1) := by decide +kernel
theorem dX10_withRank_2 : decode cX10_withRank 2 = .ok (.invokevirtual 140, 3) := by decide +kernel
theorem dX10_withRank_5 : decode cX10_withRank 5 = .ok (.iload_n 2, 1) := by decide +kernel
theorem dX10_withRank_6 : decode cX10_withRank 6 = .ok (.iconst 0, 1) := by decide +kernel
theorem dX10_withRank_7 : decode cX10_withRank 7 = .ok (.bipush 9, 2) := by decide +kernel
theorem dX10_withRank_9 : decode cX10_withRank 9 = .ok (.invokestatic 143, 3) := by decide +kernel
theorem dX10_withRank_12 : decode cX10_withRank 12 = .ok (.aload_n 0, 1) := by decide +kernel
theorem dX10_withRank_13 : decode cX10_withRank 13 = .ok (.getfield 47, 3) := by decide +kernel
theorem dX10_withRank_16 : decode cX10_withRank 16 = .ok (.aload_n 0, 1) := by decide +kernel
theorem dX10_withRank_17 : decode cX10_withRank 17 = .ok (.getfield 12, 3) := by decide +kernel
theorem dX10_withRank_20 : decode cX10_withRank 20 = .ok (.invokevirtual 181, 3) := by decide +kernel
theorem dX10_withRank_23 : decode cX10_withRank 23 = .ok (.aload_n 0, 1) := by decide +kernel
theorem dX10_withRank_24 : decode cX10_withRank 24 = .ok (.getfield 47, 3) := by decide +kernel
theorem dX10_withRank_27 : decode cX10_withRank 27 = .ok (.iload_n 1, 1) := by decide +kernel
theorem dX10_withRank_28 : decode cX10_withRank 28 = .ok (.iload_n 2, 1) := by decide +kernel
theorem dX10_withRank_29 : decode cX10_withRank 29 = .ok (.invokevirtual 196, 3) := by decide +kernel
theorem dX10_withRank_32 : decode cX10_withRank 32 = .ok (.ireturn, 1) := by decide +kernel
set_option maxRecDepth 20000 in
theorem ggX10_harder_X10_needTwoStones : GoodIn wsX10_harder wsX10_needTwoStones := goodIn_ca (goodIn_ca (goodIn_r _ [7, 8, 9, 10, 11, 12, 6, 13, 14, 15, 2, 16, 17, 18, 19, 20, 21, 117, 118, 119, 120, 121, 122, 123, 124, 125, 126, 127, 128, 129, 130, 131, 132, 133, 134, 135, 136, 137, 138] rfl (by decide +kernel)) (goodIn_sub (fun _ h => List.mem_cons_of_mem _ (List.mem_append_left _ (List.mem_append_right _ h))) (by decide +kernel))) (goodIn_sub (fun _ h => List.mem_cons_of_mem _ (List.mem_append_right _ h)) (by decide +kernel))
set_option maxRecDepth 20000 in
theorem gX10_harder_X10_needTwoStones : GoodIn wsX10_harder (wsV RX10 154 RX10 yX10_needTwoStones wsX10_needTwoStones) := goodIn_app (goodIn_of _ (by decide +kernel)) ggX10_harder_X10_needTwoStones
set_option maxRecDepth 20000 in
theorem ggX10_harder_X5_lookAt : GoodIn wsX10_harder wsX5_lookAt := goodIn_r _ [26, 27, 28, 29, 30, 31, 32, 33, 34, 35, 36, 19, 37, 21, 38, 39, 40, 25, 41, 42, 43, 44, 45, 46, 47, 48, 49, 50, 51, 52, 53, 54, 55, 56, 57, 58, 59, 60, 61, 62, 63, 64, 65, 66, 67, 68, 69, 70, 71, 72, 73, 74, 75, 76, 77, 78, 79, 80, 81, 82, 83, 84, 85, 86, 87, 88, 89, 90, 91, 92, 93, 94, 95, 96, 97, 98, 99, 100, 101, 102, 103, 104, 105, 106, 107, 108, 109, 110, 111, 112, 128, 129, 130, 131, 132, 133, 134, 135, 139, 140, 141, 142, 143, 144, 145, 146, 147, 148, 149, 136, 137, 138] rfl (by decide +kernel)
set_option maxRecDepth 20000 in
theorem gX10_harder_X5_lookAt : GoodIn wsX10_harder (wsV RX10 181 RX5 yX5_lookAt wsX5_lookAt) := goodIn_app (goodIn_of _ (by decide +kernel)) ggX10_harder_X5_lookAt
set_option maxRecDepth 20000 in
theorem ggX10_harder_X5_countAhead : GoodIn wsX10_harder wsX5_countAhead := goodIn_r _ [116, 79, 52, 53, 25, 54, 139, 140, 141, 142, 143, 144, 145, 146, 147, 148, 149] rfl (by decide +kernel)
set_option maxRecDepth 20000 in
theorem gX10_harder_X5_countAhead : GoodIn wsX10_harder (wsV RX10 199 RX5 yX5_countAhead wsX5_countAhead) := goodIn_app (goodIn_of _ (by decide +kernel)) ggX10_harder_X5_countAhead
theorem dX10_harder_0 : decode cX10_harder 0 = .ok (.aload_n 0, 1) := by decide +kernel
theorem dX10_harder_1 : decode cX10_harder 1 = .ok (.iload_n 1, 1) := by decide +kernel
theorem dX10_harder_2 : decode cX10_harder 2 = .ok (.iload_n 2, 1) := by decide +kernel
theorem dX10_harder_3 : decode cX10_harder 3 = .ok (.invokevirtual 154, 3) := by decide +kernel
theorem dX10_harder_6 : decode cX10_harder 6 = .ok (.aload_n 0, 1) := by decide +kernel
theorem dX10_harder_7 : decode cX10_harder 7 = .ok (.getfield 47, 3) := by decide +kernel
theorem dX10_harder_10 : decode cX10_harder 10 = .ok (.aload_n 0, 1) := by decide +kernel
theorem dX10_harder_11 : decode cX10_harder 11 = .ok (.getfield 12, 3) := by decide +kernel
theorem dX10_harder_14 : decode cX10_harder 14 = .ok (.invokevirtual 181, 3) := by decide +kernel
theorem dX10_harder_17 : decode cX10_harder 17 = .ok (.aload_n 0, 1) := by decide +kernel
theorem dX10_harder_18 : decode cX10_harder 18 = .ok (.getfield 47, 3) := by decide +kernel
theorem dX10_harder_21 : decode cX10_harder 21 = .ok (.iload_n 1, 1) := by decide +kernel
theorem dX10_harder_22 : decode cX10_harder 22 = .ok (.iload_n 2, 1) := by decide +kernel
theorem dX10_harder_23 : decode cX10_harder 23 = .ok (.invokevirtual 199, 3) := by decide +kernel
theorem dX10_harder_26 : decode cX10_harder 26 = .ok (.ireturn, 1) := by decide +kernel
set_option maxRecDepth 20000 in
theorem ggX10_shareOf_X10_needTwoStones : GoodIn wsX10_shareOf wsX10_needTwoStones := goodIn_ca (goodIn_ca (goodIn_r _ [7, 8, 9, 10, 11, 12, 6, 13, 14, 15, 2, 16, 17, 18, 19, 20, 21, 124, 125, 126, 127, 128, 129, 130, 131, 132, 133, 134, 135, 136, 137, 138, 139, 140, 141, 142, 143, 144, 145] rfl (by decide +kernel)) (goodIn_sub (fun _ h => List.mem_cons_of_mem _ (List.mem_append_left _ (List.mem_append_right _ h))) (by decide +kernel))) (goodIn_sub (fun _ h => List.mem_cons_of_mem _ (List.mem_append_right _ h)) (by decide +kernel))
set_option maxRecDepth 20000 in
theorem gX10_shareOf_X10_needTwoStones : GoodIn wsX10_shareOf (wsV RX10 154 RX10 yX10_needTwoStones wsX10_needTwoStones) := goodIn_app (goodIn_of _ (by decide +kernel)) ggX10_shareOf_X10_needTwoStones
set_option maxRecDepth 20000 in
theorem ggX10_shareOf_X5_lookAt : GoodIn wsX10_shareOf wsX5_lookAt := goodIn_r _ [26, 27, 28, 29, 30, 31, 32, 33, 34, 35, 36, 19, 37, 21, 38, 39, 40, 25, 41, 42, 43, 44, 45, 46, 47, 48, 49, 50, 51, 52, 53, 54, 55, 56, 57, 58, 59, 60, 61, 62, 63, 64, 65, 66, 67, 68, 69, 70, 71, 72, 73, 74, 75, 76, 77, 78, 79, 80, 81, 82, 83, 84, 85, 86, 87, 88, 89, 90, 91, 92, 93, 94, 95, 96, 97, 98, 99, 100, 101, 102, 103, 104, 105, 106, 107, 108, 109, 110, 111, 112, 135, 136, 137, 138, 139, 140, 141, 142, 146, 147, 148, 149, 150, 151, 152, 153, 154, 155, 156, 143, 144, 145] rfl (by decide +kernel)
set_option maxRecDepth 20000 in
theorem gX10_shareOf_X5_lookAt : GoodIn wsX10_shareOf (wsV RX10 181 RX5 yX5_lookAt wsX5_lookAt) := goodIn_app (goodIn_of _ (by decide +kernel)) ggX10_shareOf_X5_lookAt
set_option maxRecDepth 20000 in
theorem ggX10_shareOf_X5_countAhead : GoodIn wsX10_shareOf wsX5_countAhead := goodIn_r _ [116, 79, 52, 53, 25, 54, 146, 147, 148, 149, 150, 151, 152, 153, 154, 155, 156] rfl (by decide +kernel)
set_option maxRecDepth 20000 in
theorem gX10_shareOf_X5_countAhead : GoodIn wsX10_shareOf (wsV RX10 199 RX5 yX5_countAhead wsX5_countAhead) := goodIn_app (goodIn_of _ (by decide +kernel)) ggX10_shareOf_X5_countAhead
set_option maxRecDepth 20000 in
theorem ggX10_shareOf_X5_total : GoodIn wsX10_shareOf wsX5_total := goodIn_r _ [120, 64, 65, 66, 67, 25, 68, 31, 146, 147, 148, 149, 150, 151, 152, 153, 154, 155, 156] rfl (by decide +kernel)
set_option maxRecDepth 20000 in
theorem gX10_shareOf_X5_total : GoodIn wsX10_shareOf (wsV RX10 193 RX5 yX5_total wsX5_total) := goodIn_app (goodIn_of _ (by decide +kernel)) ggX10_shareOf_X5_total
set_option maxRecDepth 20000 in
theorem ggX10_shareOf_X10_greatestDivisor : GoodIn wsX10_shareOf wsX10_greatestDivisor := goodIn_r _ [123] rfl (by decide +kernel)
set_option maxRecDepth 20000 in
theorem gX10_shareOf_X10_greatestDivisor : GoodIn wsX10_shareOf (va_wsS RX10 202 yX10_greatestDivisor wsX10_greatestDivisor) := goodIn_app (goodIn_of _ (by decide +kernel)) ggX10_shareOf_X10_greatestDivisor
theorem dX10_shareOf_0 : decode cX10_shareOf 0 = .ok (.aload_n 0, 1) := by decide +kernel
theorem dX10_shareOf_1 : decode cX10_shareOf 1 = .ok (.iload_n 1, 1) := by decide +kernel
theorem dX10_shareOf_2 : decode cX10_shareOf 2 = .ok (.iload_n 2, 1) := by decide +kernel
theorem dX10_shareOf_3 : decode cX10_shareOf 3 = .ok (.invokevirtual 154, 3) := by decide +kernel
theorem dX10_shareOf_6 : decode cX10_shareOf 6 = .ok (.aload_n 0, 1) := by decide +kernel
theorem dX10_shareOf_7 : decode cX10_shareOf 7 = .ok (.getfield 47, 3) := by decide +kernel
theorem dX10_shareOf_10 : decode cX10_shareOf 10 = .ok (.aload_n 0, 1) := by decide +kernel
theorem dX10_shareOf_11 : decode cX10_shareOf 11 = .ok (.getfield 12, 3) := by decide +kernel
theorem dX10_shareOf_14 : decode cX10_shareOf 14 = .ok (.invokevirtual 181, 3) := by decide +kernel
theorem dX10_shareOf_17 : decode cX10_shareOf 17 = .ok (.aload_n 0, 1) := by decide +kernel
theorem dX10_shareOf_18 : decode cX10_shareOf 18 = .ok (.getfield 47, 3) := by decide +kernel
theorem dX10_shareOf_21 : decode cX10_shareOf 21 = .ok (.iload_n 1, 1) := by decide +kernel
theorem dX10_shareOf_22 : decode cX10_shareOf 22 = .ok (.iload_n 2, 1) := by decide +kernel
theorem dX10_shareOf_23 : decode cX10_shareOf 23 = .ok (.invokevirtual 199, 3) := by decide +kernel
theorem dX10_shareOf_26 : decode cX10_shareOf 26 = .ok (.istore 4, 2) := by decide +kernel
theorem dX10_shareOf_28 : decode cX10_shareOf 28 = .ok (.aload_n 0, 1) := by decide +kernel
theorem dX10_shareOf_29 : decode cX10_shareOf 29 = .ok (.getfield 47, 3) := by decide +kernel
theorem dX10_shareOf_32 : decode cX10_shareOf 32 = .ok (.invokevirtual 193, 3) := by decide +kernel
theorem dX10_shareOf_35 : decode cX10_shareOf 35 = .ok (.istore 5, 2) := by decide +kernel
theorem dX10_shareOf_37 : decode cX10_shareOf 37 = .ok (.iload 5, 2) := by decide +kernel
theorem dX10_shareOf_39 : decode cX10_shareOf 39 = .ok (.iload 4, 2) := by decide +kernel
theorem dX10_shareOf_41 : decode cX10_shareOf 41 = .ok (.invokestatic 202, 3) := by decide +kernel
theorem dX10_shareOf_44 : decode cX10_shareOf 44 = .ok (.istore 6, 2) := by decide +kernel
theorem dX10_shareOf_46 : decode cX10_shareOf 46 = .ok (.iload 6, 2) := by decide +kernel
theorem dX10_shareOf_48 : decode cX10_shareOf 48 = .ok (.ifCond .gt 13, 3) := by decide +kernel
theorem dX10_shareOf_51 : decode cX10_shareOf 51 = .ok (.iload_n 3, 1) := by decide +kernel
theorem dX10_shareOf_52 : decode cX10_shareOf 52 = .ok (.ifCond .eq 7, 3) := by decide +kernel
theorem dX10_shareOf_55 : decode cX10_shareOf 55 = .ok (.iconst 1, 1) := by decide +kernel
theorem dX10_shareOf_56 : decode cX10_shareOf 56 = .ok (.goto 4, 3) := by decide +kernel
theorem dX10_shareOf_59 : decode cX10_shareOf 59 = .ok (.iconst 0, 1) := by decide +kernel
theorem dX10_shareOf_60 : decode cX10_shareOf 60 = .ok (.ireturn, 1) := by decide +kernel
theorem dX10_shareOf_61 : decode cX10_shareOf 61 = .ok (.iload_n 3, 1) := by decide +kernel
theorem dX10_shareOf_62 : decode cX10_shareOf 62 = .ok (.ifCond .eq 8, 3) := by decide +kernel
theorem dX10_shareOf_65 : decode cX10_shareOf 65 = .ok (.iload 5, 2) := by decide +kernel
theorem dX10_shareOf_67 : decode cX10_shareOf 67 = .ok (.goto 5, 3) := by decide +kernel
theorem dX10_shareOf_70 : decode cX10_shareOf 70 = .ok (.iload 4, 2) := by decide +kernel
theorem dX10_shareOf_72 : decode cX10_shareOf 72 = .ok (.iload 6, 2) := by decide +kernel
theorem dX10_shareOf_74 : decode cX10_shareOf 74 = .ok (.idiv, 1) := by decide +kernel
theorem dX10_shareOf_75 : decode cX10_shareOf 75 = .ok (.ireturn, 1) := by decide +kernel
set_option maxRecDepth 20000 in
theorem ggX10_nextTest_X5_lookAt : GoodIn wsX10_nextTest wsX5_lookAt := goodIn_r _ [7, 8, 9, 10, 11, 12, 13, 14, 15, 16, 17, 18, 19, 20, 21, 22, 23, 6, 24, 25, 26, 27, 28, 29, 30, 31, 32, 33, 34, 35, 36, 37, 38, 39, 40, 41, 42, 43, 44, 45, 46, 47, 48, 49, 50, 51, 52, 53, 54, 55, 56, 57, 58, 59, 60, 61, 62, 63, 64, 65, 66, 67, 68, 69, 70, 71, 72, 73, 74, 75, 76, 77, 78, 79, 80, 81, 82, 83, 84, 85, 86, 87, 88, 89, 90, 91, 92, 93, 94, 95, 122, 123, 124, 125, 126, 127, 128, 129, 130, 131, 132, 133, 134, 135, 136, 137, 138, 139, 140, 141, 142, 143] rfl (by decide +kernel)
set_option maxRecDepth 20000 in
theorem gX10_nextTest_X5_lookAt : GoodIn wsX10_nextTest (wsV RX10 181 RX5 yX5_lookAt wsX5_lookAt) := goodIn_app (goodIn_of _ (by decide +kernel)) ggX10_nextTest_X5_lookAt
set_option maxRecDepth 20000 in
theorem ggX10_nextTest_X5_total : GoodIn wsX10_nextTest wsX5_total := goodIn_r _ [99, 47, 48, 49, 50, 6, 51, 12, 130, 131, 132, 133, 134, 135, 136, 137, 138, 139, 140] rfl (by decide +kernel)
set_option maxRecDepth 20000 in
theorem gX10_nextTest_X5_total : GoodIn wsX10_nextTest (wsV RX10 193 RX5 yX5_total wsX5_total) := goodIn_app (goodIn_of _ (by decide +kernel)) ggX10_nextTest_X5_total
set_option maxRecDepth 20000 in
theorem ggX10_nextTest_X5_bestTest : GoodIn wsX10_nextTest wsX5_bestTest := goodIn_r _ [103, 12, 104, 105, 10, 106, 107, 108, 109, 6, 110, 62, 35, 36, 37, 130, 131, 132, 133, 134, 135, 136, 137, 138, 139, 140] rfl (by decide +kernel)
set_option maxRecDepth 20000 in
theorem gX10_nextTest_X5_bestTest : GoodIn wsX10_nextTest (wsV RX10 205 RX5 yX5_bestTest wsX5_bestTest) := goodIn_app (goodIn_of _ (by decide +kernel)) ggX10_nextTest_X5_bestTest
theorem dX10_nextTest_0 : decode cX10_nextTest 0 = .ok (.aload_n 0, 1) := by decide +kernel
theorem dX10_nextTest_1 : decode cX10_nextTest 1 = .ok (.getfield 47, 3) := by decide +kernel
theorem dX10_nextTest_4 : decode cX10_nextTest 4 = .ok (.aload_n 0, 1) := by decide +kernel
theorem dX10_nextTest_5 : decode cX10_nextTest 5 = .ok (.getfield 12, 3) := by decide +kernel
theorem dX10_nextTest_8 : decode cX10_nextTest 8 = .ok (.invokevirtual 181, 3) := by decide +kernel
theorem dX10_nextTest_11 : decode cX10_nextTest 11 = .ok (.aload_n 0, 1) := by decide +kernel
theorem dX10_nextTest_12 : decode cX10_nextTest 12 = .ok (.getfield 47, 3) := by decide +kernel
theorem dX10_nextTest_15 : decode cX10_nextTest 15 = .ok (.invokevirtual 193, 3) := by decide +kernel
theorem dX10_nextTest_18 : decode cX10_nextTest 18 = .ok (.ifCond .ne 7, 3) := by decide +kernel
theorem dX10_nextTest_21 : decode cX10_nextTest 21 = .ok (.iconst (-1), 1) := by decide +kernel
theorem dX10_nextTest_22 : decode cX10_nextTest 22 = .ok (.goto 11, 3) := by decide +kernel
theorem dX10_nextTest_25 : decode cX10_nextTest 25 = .ok (.aload_n 0, 1) := by decide +kernel
theorem dX10_nextTest_26 : decode cX10_nextTest 26 = .ok (.getfield 47, 3) := by decide +kernel
theorem dX10_nextTest_29 : decode cX10_nextTest 29 = .ok (.iload_n 1, 1) := by decide +kernel
theorem dX10_nextTest_30 : decode cX10_nextTest 30 = .ok (.invokevirtual 205, 3) := by decide +kernel
theorem dX10_nextTest_33 : decode cX10_nextTest 33 = .ok (.ireturn, 1) := by decide +kernel
set_option maxRecDepth 20000 in
theorem ggX10_orderAt_X5_lookAt : GoodIn wsX10_orderAt wsX5_lookAt := goodIn_r _ [9, 10, 11, 12, 13, 14, 15, 16, 17, 18, 19, 20, 21, 22, 23, 24, 25, 8, 26, 27, 28, 29, 30, 31, 32, 33, 34, 35, 36, 37, 38, 39, 40, 41, 42, 43, 44, 45, 46, 47, 48, 49, 50, 51, 52, 53, 54, 55, 56, 57, 58, 59, 60, 61, 62, 63, 64, 65, 66, 67, 68, 69, 70, 71, 72, 73, 74, 75, 76, 77, 78, 79, 80, 81, 82, 83, 84, 85, 86, 87, 88, 89, 90, 91, 92, 93, 94, 95, 96, 97, 118, 119, 120, 121, 122, 123, 124, 125, 126, 127, 128, 129, 130, 131, 132, 133, 134, 135, 136, 137, 138, 139] rfl (by decide +kernel)
set_option maxRecDepth 20000 in
theorem gX10_orderAt_X5_lookAt : GoodIn wsX10_orderAt (wsV RX10 181 RX5 yX5_lookAt wsX5_lookAt) := goodIn_app (goodIn_of _ (by decide +kernel)) ggX10_orderAt_X5_lookAt
set_option maxRecDepth 20000 in
theorem ggX10_orderAt_X8_size : GoodIn wsX10_orderAt wsX8_size := goodIn_r _ [21, 22, 137, 138, 139] rfl (by decide +kernel)
set_option maxRecDepth 20000 in
theorem gX10_orderAt_X8_size : GoodIn wsX10_orderAt (wsV RX10 137 RX8 yX8_size wsX8_size) := goodIn_app (goodIn_of _ (by decide +kernel)) ggX10_orderAt_X8_size
set_option maxRecDepth 20000 in
theorem ggX10_orderAt_X5_total : GoodIn wsX10_orderAt wsX5_total := goodIn_r _ [102, 49, 50, 51, 52, 8, 53, 14, 126, 127, 128, 129, 130, 131, 132, 133, 134, 135, 136] rfl (by decide +kernel)
set_option maxRecDepth 20000 in
theorem gX10_orderAt_X5_total : GoodIn wsX10_orderAt (wsV RX10 193 RX5 yX5_total wsX5_total) := goodIn_app (goodIn_of _ (by decide +kernel)) ggX10_orderAt_X5_total
set_option maxRecDepth 20000 in
theorem ggX10_orderAt_X5_stoneInFirst : GoodIn wsX10_orderAt wsX5_stoneInFirst := goodIn_r _ [106, 14, 54, 55, 56, 8, 57, 44, 126, 127, 128, 129, 130, 131, 132, 133, 134, 135, 136] rfl (by decide +kernel)
set_option maxRecDepth 20000 in
theorem gX10_orderAt_X5_stoneInFirst : GoodIn wsX10_orderAt (wsV RX10 211 RX5 yX5_stoneInFirst wsX5_stoneInFirst) := goodIn_app (goodIn_of _ (by decide +kernel)) ggX10_orderAt_X5_stoneInFirst
theorem dX10_orderAt_0 : decode cX10_orderAt 0 = .ok (.aload_n 0, 1) := by decide +kernel
theorem dX10_orderAt_1 : decode cX10_orderAt 1 = .ok (.getfield 47, 3) := by decide +kernel
theorem dX10_orderAt_4 : decode cX10_orderAt 4 = .ok (.aload_n 0, 1) := by decide +kernel
theorem dX10_orderAt_5 : decode cX10_orderAt 5 = .ok (.getfield 12, 3) := by decide +kernel
theorem dX10_orderAt_8 : decode cX10_orderAt 8 = .ok (.invokevirtual 181, 3) := by decide +kernel
theorem dX10_orderAt_11 : decode cX10_orderAt 11 = .ok (.iload_n 1, 1) := by decide +kernel
theorem dX10_orderAt_12 : decode cX10_orderAt 12 = .ok (.ifCond .lt 27, 3) := by decide +kernel
theorem dX10_orderAt_15 : decode cX10_orderAt 15 = .ok (.iload_n 1, 1) := by decide +kernel
theorem dX10_orderAt_16 : decode cX10_orderAt 16 = .ok (.aload_n 0, 1) := by decide +kernel
theorem dX10_orderAt_17 : decode cX10_orderAt 17 = .ok (.getfield 12, 3) := by decide +kernel
theorem dX10_orderAt_20 : decode cX10_orderAt 20 = .ok (.getfield 118, 3) := by decide +kernel
theorem dX10_orderAt_23 : decode cX10_orderAt 23 = .ok (.invokevirtual 137, 3) := by decide +kernel
theorem dX10_orderAt_26 : decode cX10_orderAt 26 = .ok (.if_icmp .ge 13, 3) := by decide +kernel
theorem dX10_orderAt_29 : decode cX10_orderAt 29 = .ok (.aload_n 0, 1) := by decide +kernel
theorem dX10_orderAt_30 : decode cX10_orderAt 30 = .ok (.getfield 47, 3) := by decide +kernel
theorem dX10_orderAt_33 : decode cX10_orderAt 33 = .ok (.invokevirtual 193, 3) := by decide +kernel
theorem dX10_orderAt_36 : decode cX10_orderAt 36 = .ok (.ifCond .ne 13, 3) := by decide +kernel
theorem dX10_orderAt_39 : decode cX10_orderAt 39 = .ok (.new 173, 3) := by decide +kernel
theorem dX10_orderAt_42 : decode cX10_orderAt 42 = .ok (.dup, 1) := by decide +kernel
theorem dX10_orderAt_43 : decode cX10_orderAt 43 = .ok (.ldc 209, 2) := by decide +kernel
theorem dX10_orderAt_45 : decode cX10_orderAt 45 = .ok (.invokespecial 177, 3) := by decide +kernel
theorem dX10_orderAt_48 : decode cX10_orderAt 48 = .ok (.athrow, 1) := by decide +kernel
theorem dX10_orderAt_49 : decode cX10_orderAt 49 = .ok (.aload_n 0, 1) := by decide +kernel
theorem dX10_orderAt_50 : decode cX10_orderAt 50 = .ok (.getfield 47, 3) := by decide +kernel
theorem dX10_orderAt_53 : decode cX10_orderAt 53 = .ok (.iload_n 1, 1) := by decide +kernel
theorem dX10_orderAt_54 : decode cX10_orderAt 54 = .ok (.invokevirtual 211, 3) := by decide +kernel
theorem dX10_orderAt_57 : decode cX10_orderAt 57 = .ok (.ireturn, 1) := by decide +kernel
set_option maxRecDepth 20000 in
theorem ggX10_setDrawer_X10_needRange : GoodIn wsX10_setDrawer wsX10_needRange := goodIn_ca (goodIn_r _ [7, 8, 9] rfl (by decide +kernel)) (goodIn_sub (fun _ h => List.mem_cons_of_mem _ (List.mem_append_right _ h)) (by decide +kernel))
set_option maxRecDepth 20000 in
theorem gX10_setDrawer_X10_needRange : GoodIn wsX10_setDrawer (va_wsS RX10 143 yX10_needRange wsX10_needRange) := goodIn_app (goodIn_of _ (by decide +kernel)) ggX10_setDrawer_X10_needRange
set_option maxRecDepth 20000 in
theorem ggX10_setDrawer_X6_sumIn : GoodIn wsX10_setDrawer wsX6_sumIn := goodIn_r _ [14, 15, 16, 17, 18, 19, 20, 21, 22, 23, 24, 25, 26, 27, 102, 103, 104, 105, 106, 107, 108, 109, 110, 111, 112] rfl (by decide +kernel)
set_option maxRecDepth 20000 in
theorem gX10_setDrawer_X6_sumIn : GoodIn wsX10_setDrawer (wsV RX10 214 RX6 yX6_sumIn wsX6_sumIn) := goodIn_app (goodIn_of _ (by decide +kernel)) ggX10_setDrawer_X6_sumIn
set_option maxRecDepth 20000 in
theorem ggX10_setDrawer_X10_keepState : GoodIn wsX10_setDrawer wsX10_keepState := goodIn_r _ [31, 32, 33, 34, 35, 13, 3, 36, 37, 38, 39, 40, 41, 42, 43, 44, 45, 46, 47, 48, 19, 15, 49, 50, 51, 52, 53, 54, 55, 56, 57, 58, 59, 21, 60, 61, 62, 26, 63, 27, 64, 65, 66, 67, 68, 69, 70, 71, 72, 73, 74, 75, 76, 77, 78, 79, 80, 81, 82, 83, 84, 85, 86, 87, 88, 91, 92, 93, 94, 95, 96, 97, 98, 99, 100, 101, 102, 103, 104, 105, 106, 107, 108, 109, 110, 111, 112] rfl (by decide +kernel)
set_option maxRecDepth 20000 in
theorem gX10_setDrawer_X10_keepState : GoodIn wsX10_setDrawer (wsV RX10 130 RX10 yX10_keepState wsX10_keepState) := goodIn_app (goodIn_of _ (by decide +kernel)) ggX10_setDrawer_X10_keepState
set_option maxRecDepth 20000 in
theorem ggX10_setDrawer_X8_get : GoodIn wsX10_setDrawer wsX8_get := goodIn_r _ [25, 21, 26, 27, 110, 111, 112] rfl (by decide +kernel)
set_option maxRecDepth 20000 in
theorem gX10_setDrawer_X8_get : GoodIn wsX10_setDrawer (wsV RX10 150 RX8 yX8_get wsX8_get) := goodIn_app (goodIn_of _ (by decide +kernel)) ggX10_setDrawer_X8_get
set_option maxRecDepth 20000 in
theorem ggX10_setDrawer_X8_set : GoodIn wsX10_setDrawer wsX8_set := goodIn_r _ [75, 21, 26, 27, 110, 111, 112] rfl (by decide +kernel)
set_option maxRecDepth 20000 in
theorem gX10_setDrawer_X8_set : GoodIn wsX10_setDrawer (wsV RX10 166 RX8 yX8_set wsX8_set) := goodIn_app (goodIn_of _ (by decide +kernel)) ggX10_setDrawer_X8_set
theorem dX10_setDrawer_0 : decode cX10_setDrawer 0 = .ok (.iload_n 1, 1) := by decide +kernel
theorem dX10_setDrawer_1 : decode cX10_setDrawer 1 = .ok (.iconst 0, 1) := by decide +kernel
theorem dX10_setDrawer_2 : decode cX10_setDrawer 2 = .ok (.iconst 3, 1) := by decide +kernel
theorem dX10_setDrawer_3 : decode cX10_setDrawer 3 = .ok (.invokestatic 143, 3) := by decide +kernel
theorem dX10_setDrawer_6 : decode cX10_setDrawer 6 = .ok (.iload_n 2, 1) := by decide +kernel
theorem dX10_setDrawer_7 : decode cX10_setDrawer 7 = .ok (.iconst 0, 1) := by decide +kernel
theorem dX10_setDrawer_8 : decode cX10_setDrawer 8 = .ok (.bipush 99, 2) := by decide +kernel
theorem dX10_setDrawer_10 : decode cX10_setDrawer 10 = .ok (.invokestatic 143, 3) := by decide +kernel
theorem dX10_setDrawer_13 : decode cX10_setDrawer 13 = .ok (.iload_n 3, 1) := by decide +kernel
theorem dX10_setDrawer_14 : decode cX10_setDrawer 14 = .ok (.iconst 0, 1) := by decide +kernel
theorem dX10_setDrawer_15 : decode cX10_setDrawer 15 = .ok (.sipush 999, 3) := by decide +kernel
theorem dX10_setDrawer_18 : decode cX10_setDrawer 18 = .ok (.invokestatic 143, 3) := by decide +kernel
theorem dX10_setDrawer_21 : decode cX10_setDrawer 21 = .ok (.aload_n 0, 1) := by decide +kernel
theorem dX10_setDrawer_22 : decode cX10_setDrawer 22 = .ok (.getfield 12, 3) := by decide +kernel
theorem dX10_setDrawer_25 : decode cX10_setDrawer 25 = .ok (.iload_n 1, 1) := by decide +kernel
theorem dX10_setDrawer_26 : decode cX10_setDrawer 26 = .ok (.iconst 1, 1) := by decide +kernel
theorem dX10_setDrawer_27 : decode cX10_setDrawer 27 = .ok (.invokevirtual 214, 3) := by decide +kernel
theorem dX10_setDrawer_30 : decode cX10_setDrawer 30 = .ok (.iload_n 2, 1) := by decide +kernel
theorem dX10_setDrawer_31 : decode cX10_setDrawer 31 = .ok (.if_icmp .gt 16, 3) := by decide +kernel
theorem dX10_setDrawer_34 : decode cX10_setDrawer 34 = .ok (.aload_n 0, 1) := by decide +kernel
theorem dX10_setDrawer_35 : decode cX10_setDrawer 35 = .ok (.getfield 12, 3) := by decide +kernel
theorem dX10_setDrawer_38 : decode cX10_setDrawer 38 = .ok (.iload_n 1, 1) := by decide +kernel
theorem dX10_setDrawer_39 : decode cX10_setDrawer 39 = .ok (.iconst 2, 1) := by decide +kernel
theorem dX10_setDrawer_40 : decode cX10_setDrawer 40 = .ok (.invokevirtual 214, 3) := by decide +kernel
theorem dX10_setDrawer_43 : decode cX10_setDrawer 43 = .ok (.iload_n 3, 1) := by decide +kernel
theorem dX10_setDrawer_44 : decode cX10_setDrawer 44 = .ok (.if_icmp .le 13, 3) := by decide +kernel
theorem dX10_setDrawer_47 : decode cX10_setDrawer 47 = .ok (.new 80, 3) := by decide +kernel
theorem dX10_setDrawer_50 : decode cX10_setDrawer 50 = .ok (.dup, 1) := by decide +kernel
theorem dX10_setDrawer_51 : decode cX10_setDrawer 51 = .ok (.ldc 217, 2) := by decide +kernel
theorem dX10_setDrawer_53 : decode cX10_setDrawer 53 = .ok (.invokespecial 84, 3) := by decide +kernel
theorem dX10_setDrawer_56 : decode cX10_setDrawer 56 = .ok (.athrow, 1) := by decide +kernel
theorem dX10_setDrawer_57 : decode cX10_setDrawer 57 = .ok (.aload_n 0, 1) := by decide +kernel
theorem dX10_setDrawer_58 : decode cX10_setDrawer 58 = .ok (.invokevirtual 130, 3) := by decide +kernel
theorem dX10_setDrawer_61 : decode cX10_setDrawer 61 = .ok (.aload_n 0, 1) := by decide +kernel
theorem dX10_setDrawer_62 : decode cX10_setDrawer 62 = .ok (.getfield 12, 3) := by decide +kernel
theorem dX10_setDrawer_65 : decode cX10_setDrawer 65 = .ok (.getfield 219, 3) := by decide +kernel
theorem dX10_setDrawer_68 : decode cX10_setDrawer 68 = .ok (.iload_n 1, 1) := by decide +kernel
theorem dX10_setDrawer_69 : decode cX10_setDrawer 69 = .ok (.iconst 0, 1) := by decide +kernel
theorem dX10_setDrawer_70 : decode cX10_setDrawer 70 = .ok (.invokevirtual 150, 3) := by decide +kernel
theorem dX10_setDrawer_73 : decode cX10_setDrawer 73 = .ok (.istore 4, 2) := by decide +kernel
theorem dX10_setDrawer_75 : decode cX10_setDrawer 75 = .ok (.aload_n 0, 1) := by decide +kernel
theorem dX10_setDrawer_76 : decode cX10_setDrawer 76 = .ok (.getfield 12, 3) := by decide +kernel
theorem dX10_setDrawer_79 : decode cX10_setDrawer 79 = .ok (.getfield 219, 3) := by decide +kernel
theorem dX10_setDrawer_82 : decode cX10_setDrawer 82 = .ok (.iload_n 1, 1) := by decide +kernel
theorem dX10_setDrawer_83 : decode cX10_setDrawer 83 = .ok (.iconst 0, 1) := by decide +kernel
theorem dX10_setDrawer_84 : decode cX10_setDrawer 84 = .ok (.iload_n 2, 1) := by decide +kernel
theorem dX10_setDrawer_85 : decode cX10_setDrawer 85 = .ok (.invokevirtual 166, 3) := by decide +kernel
theorem dX10_setDrawer_88 : decode cX10_setDrawer 88 = .ok (.aload_n 0, 1) := by decide +kernel
theorem dX10_setDrawer_89 : decode cX10_setDrawer 89 = .ok (.getfield 12, 3) := by decide +kernel
theorem dX10_setDrawer_92 : decode cX10_setDrawer 92 = .ok (.getfield 219, 3) := by decide +kernel
theorem dX10_setDrawer_95 : decode cX10_setDrawer 95 = .ok (.iload_n 1, 1) := by decide +kernel
theorem dX10_setDrawer_96 : decode cX10_setDrawer 96 = .ok (.iconst 1, 1) := by decide +kernel
theorem dX10_setDrawer_97 : decode cX10_setDrawer 97 = .ok (.iload_n 3, 1) := by decide +kernel
theorem dX10_setDrawer_98 : decode cX10_setDrawer 98 = .ok (.invokevirtual 166, 3) := by decide +kernel
theorem dX10_setDrawer_101 : decode cX10_setDrawer 101 = .ok (.iload 4, 2) := by decide +kernel
theorem dX10_setDrawer_103 : decode cX10_setDrawer 103 = .ok (.ireturn, 1) := by decide +kernel
set_option maxRecDepth 20000 in
theorem ggX10_part_X10_needRange : GoodIn wsX10_part wsX10_needRange := goodIn_ca (goodIn_r _ [7, 8, 9] rfl (by decide +kernel)) (goodIn_sub (fun _ h => List.mem_cons_of_mem _ (List.mem_append_right _ h)) (by decide +kernel))
set_option maxRecDepth 20000 in
theorem gX10_part_X10_needRange : GoodIn wsX10_part (va_wsS RX10 143 yX10_needRange wsX10_needRange) := goodIn_app (goodIn_of _ (by decide +kernel)) ggX10_part_X10_needRange
set_option maxRecDepth 20000 in
theorem ggX10_part_X6_lieTogether : GoodIn wsX10_part wsX6_lieTogether := goodIn_r _ [14, 15, 16, 17, 18, 19, 20, 21, 22, 23, 24, 13, 25, 26, 27, 28, 29, 30, 31, 112, 113, 114, 115, 116, 117, 118, 119, 120, 121, 122] rfl (by decide +kernel)
set_option maxRecDepth 20000 in
theorem gX10_part_X6_lieTogether : GoodIn wsX10_part (wsV RX10 222 RX6 yX6_lieTogether wsX6_lieTogether) := goodIn_app (goodIn_of _ (by decide +kernel)) ggX10_part_X6_lieTogether
set_option maxRecDepth 20000 in
theorem ggX10_part_X10_keepState : GoodIn wsX10_part wsX10_keepState := goodIn_r _ [35, 36, 37, 38, 39, 13, 3, 40, 41, 42, 43, 44, 45, 46, 47, 48, 49, 50, 51, 52, 19, 15, 53, 54, 55, 56, 57, 58, 59, 60, 61, 62, 63, 21, 64, 65, 66, 30, 67, 31, 68, 69, 70, 71, 72, 73, 74, 75, 76, 77, 78, 79, 80, 81, 82, 83, 84, 85, 86, 87, 88, 89, 90, 91, 92, 101, 102, 103, 104, 105, 106, 107, 108, 109, 110, 111, 112, 113, 114, 115, 116, 117, 118, 119, 120, 121, 122] rfl (by decide +kernel)
set_option maxRecDepth 20000 in
theorem gX10_part_X10_keepState : GoodIn wsX10_part (wsV RX10 130 RX10 yX10_keepState wsX10_keepState) := goodIn_app (goodIn_of _ (by decide +kernel)) ggX10_part_X10_keepState
set_option maxRecDepth 20000 in
theorem ggX10_part_X6_areParted : GoodIn wsX10_part wsX6_areParted := goodIn_r _ [96, 55, 26, 27, 28, 19, 29, 21, 30, 31, 112, 113, 114, 115, 116, 117, 118, 119, 120, 121, 122] rfl (by decide +kernel)
set_option maxRecDepth 20000 in
theorem gX10_part_X6_areParted : GoodIn wsX10_part (wsV RX10 227 RX6 yX6_areParted wsX6_areParted) := goodIn_app (goodIn_of _ (by decide +kernel)) ggX10_part_X6_areParted
set_option maxRecDepth 20000 in
theorem ggX10_part_X6_setParted : GoodIn wsX10_part wsX6_setParted := goodIn_r _ [100, 55, 80, 77, 78, 19, 79, 21, 30, 31, 112, 113, 114, 115, 116, 117, 118, 119, 120, 121, 122] rfl (by decide +kernel)
set_option maxRecDepth 20000 in
theorem gX10_part_X6_setParted : GoodIn wsX10_part (wsV RX10 230 RX6 yX6_setParted wsX6_setParted) := goodIn_app (goodIn_of _ (by decide +kernel)) ggX10_part_X6_setParted
theorem dX10_part_0 : decode cX10_part 0 = .ok (.iload_n 1, 1) := by decide +kernel
theorem dX10_part_1 : decode cX10_part 1 = .ok (.iconst 0, 1) := by decide +kernel
theorem dX10_part_2 : decode cX10_part 2 = .ok (.iconst 5, 1) := by decide +kernel
theorem dX10_part_3 : decode cX10_part 3 = .ok (.invokestatic 143, 3) := by decide +kernel
theorem dX10_part_6 : decode cX10_part 6 = .ok (.iload_n 2, 1) := by decide +kernel
theorem dX10_part_7 : decode cX10_part 7 = .ok (.iconst 0, 1) := by decide +kernel
theorem dX10_part_8 : decode cX10_part 8 = .ok (.iconst 5, 1) := by decide +kernel
theorem dX10_part_9 : decode cX10_part 9 = .ok (.invokestatic 143, 3) := by decide +kernel
theorem dX10_part_12 : decode cX10_part 12 = .ok (.iload_n 3, 1) := by decide +kernel
theorem dX10_part_13 : decode cX10_part 13 = .ok (.ifCond .eq 25, 3) := by decide +kernel
theorem dX10_part_16 : decode cX10_part 16 = .ok (.aload_n 0, 1) := by decide +kernel
theorem dX10_part_17 : decode cX10_part 17 = .ok (.getfield 12, 3) := by decide +kernel
theorem dX10_part_20 : decode cX10_part 20 = .ok (.iload_n 1, 1) := by decide +kernel
theorem dX10_part_21 : decode cX10_part 21 = .ok (.iload_n 2, 1) := by decide +kernel
theorem dX10_part_22 : decode cX10_part 22 = .ok (.invokevirtual 222, 3) := by decide +kernel
theorem dX10_part_25 : decode cX10_part 25 = .ok (.ifCond .eq 13, 3) := by decide +kernel
theorem dX10_part_28 : decode cX10_part 28 = .ok (.new 80, 3) := by decide +kernel
theorem dX10_part_31 : decode cX10_part 31 = .ok (.dup, 1) := by decide +kernel
theorem dX10_part_32 : decode cX10_part 32 = .ok (.ldc 225, 2) := by decide +kernel
theorem dX10_part_34 : decode cX10_part 34 = .ok (.invokespecial 84, 3) := by decide +kernel
theorem dX10_part_37 : decode cX10_part 37 = .ok (.athrow, 1) := by decide +kernel
theorem dX10_part_38 : decode cX10_part 38 = .ok (.aload_n 0, 1) := by decide +kernel
theorem dX10_part_39 : decode cX10_part 39 = .ok (.invokevirtual 130, 3) := by decide +kernel
theorem dX10_part_42 : decode cX10_part 42 = .ok (.aload_n 0, 1) := by decide +kernel
theorem dX10_part_43 : decode cX10_part 43 = .ok (.getfield 12, 3) := by decide +kernel
theorem dX10_part_46 : decode cX10_part 46 = .ok (.iload_n 1, 1) := by decide +kernel
theorem dX10_part_47 : decode cX10_part 47 = .ok (.iload_n 2, 1) := by decide +kernel
theorem dX10_part_48 : decode cX10_part 48 = .ok (.invokevirtual 227, 3) := by decide +kernel
theorem dX10_part_51 : decode cX10_part 51 = .ok (.istore 4, 2) := by decide +kernel
theorem dX10_part_53 : decode cX10_part 53 = .ok (.aload_n 0, 1) := by decide +kernel
theorem dX10_part_54 : decode cX10_part 54 = .ok (.getfield 12, 3) := by decide +kernel
theorem dX10_part_57 : decode cX10_part 57 = .ok (.iload_n 1, 1) := by decide +kernel
theorem dX10_part_58 : decode cX10_part 58 = .ok (.iload_n 2, 1) := by decide +kernel
theorem dX10_part_59 : decode cX10_part 59 = .ok (.iload_n 3, 1) := by decide +kernel
theorem dX10_part_60 : decode cX10_part 60 = .ok (.invokevirtual 230, 3) := by decide +kernel
theorem dX10_part_63 : decode cX10_part 63 = .ok (.iload 4, 2) := by decide +kernel
theorem dX10_part_65 : decode cX10_part 65 = .ok (.ireturn, 1) := by decide +kernel
set_option maxRecDepth 20000 in
theorem ggX10_lay_X10_needStone : GoodIn wsX10_lay wsX10_needStone := goodIn_ca (goodIn_r _ [6, 7, 8, 1, 9, 10, 11, 12, 13, 14, 111, 112, 113, 114, 115, 116, 117, 118, 119, 120, 121, 122, 123, 124, 125, 126, 127, 128, 129, 130, 131, 132] rfl (by decide +kernel)) (goodIn_sub (fun _ h => List.mem_cons_of_mem _ (List.mem_append_left _ (List.mem_append_right _ h))) (by decide +kernel))
set_option maxRecDepth 20000 in
theorem gX10_lay_X10_needStone : GoodIn wsX10_lay (wsV RX10 140 RX10 yX10_needStone wsX10_needStone) := goodIn_app (goodIn_of _ (by decide +kernel)) ggX10_lay_X10_needStone
set_option maxRecDepth 20000 in
theorem ggX10_lay_X10_needRange : GoodIn wsX10_lay wsX10_needRange := goodIn_ca (goodIn_r _ [17, 18, 19] rfl (by decide +kernel)) (goodIn_sub (fun _ h => List.mem_cons_of_mem _ (List.mem_append_right _ h)) (by decide +kernel))
set_option maxRecDepth 20000 in
theorem gX10_lay_X10_needRange : GoodIn wsX10_lay (va_wsS RX10 143 yX10_needRange wsX10_needRange) := goodIn_app (goodIn_of _ (by decide +kernel)) ggX10_lay_X10_needRange
set_option maxRecDepth 20000 in
theorem ggX10_lay_X10_keepState : GoodIn wsX10_lay wsX10_keepState := goodIn_r _ [23, 24, 25, 26, 27, 28, 1, 29, 30, 31, 32, 33, 34, 35, 36, 37, 38, 39, 40, 41, 12, 42, 43, 44, 45, 46, 47, 48, 49, 50, 51, 52, 53, 14, 54, 55, 56, 57, 58, 59, 60, 61, 62, 63, 64, 65, 66, 67, 68, 69, 70, 71, 72, 73, 74, 75, 76, 77, 78, 79, 80, 81, 82, 83, 84, 111, 112, 113, 114, 115, 116, 117, 118, 119, 120, 121, 122, 123, 124, 125, 126, 127, 128, 129, 130, 131, 132] rfl (by decide +kernel)
set_option maxRecDepth 20000 in
theorem gX10_lay_X10_keepState : GoodIn wsX10_lay (wsV RX10 130 RX10 yX10_keepState wsX10_keepState) := goodIn_app (goodIn_of _ (by decide +kernel)) ggX10_lay_X10_keepState
set_option maxRecDepth 20000 in
theorem ggX10_lay_X8_get : GoodIn wsX10_lay wsX8_get := goodIn_r _ [88, 14, 57, 59, 130, 131, 132] rfl (by decide +kernel)
set_option maxRecDepth 20000 in
theorem gX10_lay_X8_get : GoodIn wsX10_lay (wsV RX10 150 RX8 yX8_get wsX8_get) := goodIn_app (goodIn_of _ (by decide +kernel)) ggX10_lay_X8_get
set_option maxRecDepth 20000 in
theorem ggX10_lay_X8_set : GoodIn wsX10_lay wsX8_set := goodIn_r _ [71, 14, 57, 59, 130, 131, 132] rfl (by decide +kernel)
set_option maxRecDepth 20000 in
theorem gX10_lay_X8_set : GoodIn wsX10_lay (wsV RX10 166 RX8 yX8_set wsX8_set) := goodIn_app (goodIn_of _ (by decide +kernel)) ggX10_lay_X8_set
set_option maxRecDepth 20000 in
theorem ggX10_lay_X6_whyNot : GoodIn wsX10_lay wsX6_whyNot := goodIn_r _ [93, 44, 42, 94, 95, 96, 28, 97, 98, 99, 100, 12, 101, 14, 102, 86, 87, 88, 57, 59, 103, 104, 105, 106, 107, 108, 109, 110, 45, 122, 123, 124, 125, 126, 127, 128, 129, 130, 131, 132] rfl (by decide +kernel)
set_option maxRecDepth 20000 in
theorem gX10_lay_X6_whyNot : GoodIn wsX10_lay (wsV RX10 234 RX6 yX6_whyNot wsX6_whyNot) := goodIn_app (goodIn_of _ (by decide +kernel)) ggX10_lay_X6_whyNot
theorem dX10_lay_0 : decode cX10_lay 0 = .ok (.aload_n 0, 1) := by decide +kernel
theorem dX10_lay_1 : decode cX10_lay 1 = .ok (.iload_n 1, 1) := by decide +kernel
theorem dX10_lay_2 : decode cX10_lay 2 = .ok (.invokevirtual 140, 3) := by decide +kernel
theorem dX10_lay_5 : decode cX10_lay 5 = .ok (.iload_n 2, 1) := by decide +kernel
theorem dX10_lay_6 : decode cX10_lay 6 = .ok (.iconst (-1), 1) := by decide +kernel
theorem dX10_lay_7 : decode cX10_lay 7 = .ok (.iconst 3, 1) := by decide +kernel
theorem dX10_lay_8 : decode cX10_lay 8 = .ok (.invokestatic 143, 3) := by decide +kernel
theorem dX10_lay_11 : decode cX10_lay 11 = .ok (.aload_n 0, 1) := by decide +kernel
theorem dX10_lay_12 : decode cX10_lay 12 = .ok (.invokevirtual 130, 3) := by decide +kernel
theorem dX10_lay_15 : decode cX10_lay 15 = .ok (.aload_n 0, 1) := by decide +kernel
theorem dX10_lay_16 : decode cX10_lay 16 = .ok (.getfield 12, 3) := by decide +kernel
theorem dX10_lay_19 : decode cX10_lay 19 = .ok (.getfield 118, 3) := by decide +kernel
theorem dX10_lay_22 : decode cX10_lay 22 = .ok (.iload_n 1, 1) := by decide +kernel
theorem dX10_lay_23 : decode cX10_lay 23 = .ok (.iconst 5, 1) := by decide +kernel
theorem dX10_lay_24 : decode cX10_lay 24 = .ok (.invokevirtual 150, 3) := by decide +kernel
theorem dX10_lay_27 : decode cX10_lay 27 = .ok (.istore_n 3, 1) := by decide +kernel
theorem dX10_lay_28 : decode cX10_lay 28 = .ok (.aload_n 0, 1) := by decide +kernel
theorem dX10_lay_29 : decode cX10_lay 29 = .ok (.getfield 12, 3) := by decide +kernel
theorem dX10_lay_32 : decode cX10_lay 32 = .ok (.getfield 118, 3) := by decide +kernel
theorem dX10_lay_35 : decode cX10_lay 35 = .ok (.iload_n 1, 1) := by decide +kernel
theorem dX10_lay_36 : decode cX10_lay 36 = .ok (.iconst 5, 1) := by decide +kernel
theorem dX10_lay_37 : decode cX10_lay 37 = .ok (.iload_n 2, 1) := by decide +kernel
theorem dX10_lay_38 : decode cX10_lay 38 = .ok (.invokevirtual 166, 3) := by decide +kernel
theorem dX10_lay_41 : decode cX10_lay 41 = .ok (.iload_n 2, 1) := by decide +kernel
theorem dX10_lay_42 : decode cX10_lay 42 = .ok (.iconst (-1), 1) := by decide +kernel
theorem dX10_lay_43 : decode cX10_lay 43 = .ok (.if_icmp .ne 7, 3) := by decide +kernel
theorem dX10_lay_46 : decode cX10_lay 46 = .ok (.iconst 0, 1) := by decide +kernel
theorem dX10_lay_47 : decode cX10_lay 47 = .ok (.goto 11, 3) := by decide +kernel
theorem dX10_lay_50 : decode cX10_lay 50 = .ok (.aload_n 0, 1) := by decide +kernel
theorem dX10_lay_51 : decode cX10_lay 51 = .ok (.getfield 12, 3) := by decide +kernel
theorem dX10_lay_54 : decode cX10_lay 54 = .ok (.iload_n 2, 1) := by decide +kernel
theorem dX10_lay_55 : decode cX10_lay 55 = .ok (.invokevirtual 234, 3) := by decide +kernel
theorem dX10_lay_58 : decode cX10_lay 58 = .ok (.istore 4, 2) := by decide +kernel
theorem dX10_lay_60 : decode cX10_lay 60 = .ok (.iload 4, 2) := by decide +kernel
theorem dX10_lay_62 : decode cX10_lay 62 = .ok (.ifCond .eq 16, 3) := by decide +kernel
theorem dX10_lay_65 : decode cX10_lay 65 = .ok (.aload_n 0, 1) := by decide +kernel
theorem dX10_lay_66 : decode cX10_lay 66 = .ok (.getfield 12, 3) := by decide +kernel
theorem dX10_lay_69 : decode cX10_lay 69 = .ok (.getfield 118, 3) := by decide +kernel
theorem dX10_lay_72 : decode cX10_lay 72 = .ok (.iload_n 1, 1) := by decide +kernel
theorem dX10_lay_73 : decode cX10_lay 73 = .ok (.iconst 5, 1) := by decide +kernel
theorem dX10_lay_74 : decode cX10_lay 74 = .ok (.iload_n 3, 1) := by decide +kernel
theorem dX10_lay_75 : decode cX10_lay 75 = .ok (.invokevirtual 166, 3) := by decide +kernel
theorem dX10_lay_78 : decode cX10_lay 78 = .ok (.iload 4, 2) := by decide +kernel
theorem dX10_lay_80 : decode cX10_lay 80 = .ok (.ireturn, 1) := by decide +kernel
set_option maxRecDepth 20000 in
theorem ggX10_lies_X10_needRange : GoodIn wsX10_lies wsX10_needRange := goodIn_ca (goodIn_r _ [5, 6, 7] rfl (by decide +kernel)) (goodIn_sub (fun _ h => List.mem_cons_of_mem _ (List.mem_append_right _ h)) (by decide +kernel))
set_option maxRecDepth 20000 in
theorem gX10_lies_X10_needRange : GoodIn wsX10_lies (va_wsS RX10 143 yX10_needRange wsX10_needRange) := goodIn_app (goodIn_of _ (by decide +kernel)) ggX10_lies_X10_needRange
set_option maxRecDepth 20000 in
theorem ggX10_lies_X6_countIn : GoodIn wsX10_lies wsX6_countIn := goodIn_r _ [12, 13, 14, 15, 16, 17, 18, 19, 20, 21, 22, 23, 24, 25, 41, 42, 43, 44, 45, 46, 47, 48, 49, 50, 51] rfl (by decide +kernel)
set_option maxRecDepth 20000 in
theorem gX10_lies_X6_countIn : GoodIn wsX10_lies (wsV RX10 237 RX6 yX6_countIn wsX6_countIn) := goodIn_app (goodIn_of _ (by decide +kernel)) ggX10_lies_X6_countIn
set_option maxRecDepth 20000 in
theorem ggX10_lies_X6_sumIn : GoodIn wsX10_lies wsX6_sumIn := goodIn_r _ [29, 13, 14, 15, 16, 17, 18, 19, 20, 21, 22, 23, 24, 25, 41, 42, 43, 44, 45, 46, 47, 48, 49, 50, 51] rfl (by decide +kernel)
set_option maxRecDepth 20000 in
theorem gX10_lies_X6_sumIn : GoodIn wsX10_lies (wsV RX10 214 RX6 yX6_sumIn wsX6_sumIn) := goodIn_app (goodIn_of _ (by decide +kernel)) ggX10_lies_X6_sumIn
theorem dX10_lies_0 : decode cX10_lies 0 = .ok (.iload_n 1, 1) := by decide +kernel
theorem dX10_lies_1 : decode cX10_lies 1 = .ok (.iconst 0, 1) := by decide +kernel
theorem dX10_lies_2 : decode cX10_lies 2 = .ok (.iconst 3, 1) := by decide +kernel
theorem dX10_lies_3 : decode cX10_lies 3 = .ok (.invokestatic 143, 3) := by decide +kernel
theorem dX10_lies_6 : decode cX10_lies 6 = .ok (.iload_n 2, 1) := by decide +kernel
theorem dX10_lies_7 : decode cX10_lies 7 = .ok (.iconst 0, 1) := by decide +kernel
theorem dX10_lies_8 : decode cX10_lies 8 = .ok (.iconst 2, 1) := by decide +kernel
theorem dX10_lies_9 : decode cX10_lies 9 = .ok (.invokestatic 143, 3) := by decide +kernel
theorem dX10_lies_12 : decode cX10_lies 12 = .ok (.iload_n 2, 1) := by decide +kernel
theorem dX10_lies_13 : decode cX10_lies 13 = .ok (.ifCond .ne 12, 3) := by decide +kernel
theorem dX10_lies_16 : decode cX10_lies 16 = .ok (.aload_n 0, 1) := by decide +kernel
theorem dX10_lies_17 : decode cX10_lies 17 = .ok (.getfield 12, 3) := by decide +kernel
theorem dX10_lies_20 : decode cX10_lies 20 = .ok (.iload_n 1, 1) := by decide +kernel
theorem dX10_lies_21 : decode cX10_lies 21 = .ok (.invokevirtual 237, 3) := by decide +kernel
theorem dX10_lies_24 : decode cX10_lies 24 = .ok (.ireturn, 1) := by decide +kernel
theorem dX10_lies_25 : decode cX10_lies 25 = .ok (.aload_n 0, 1) := by decide +kernel
theorem dX10_lies_26 : decode cX10_lies 26 = .ok (.getfield 12, 3) := by decide +kernel
theorem dX10_lies_29 : decode cX10_lies 29 = .ok (.iload_n 1, 1) := by decide +kernel
theorem dX10_lies_30 : decode cX10_lies 30 = .ok (.iload_n 2, 1) := by decide +kernel
theorem dX10_lies_31 : decode cX10_lies 31 = .ok (.iconst 1, 1) := by decide +kernel
theorem dX10_lies_32 : decode cX10_lies 32 = .ok (.if_icmp .ne 7, 3) := by decide +kernel
theorem dX10_lies_35 : decode cX10_lies 35 = .ok (.iconst 1, 1) := by decide +kernel
theorem dX10_lies_36 : decode cX10_lies 36 = .ok (.goto 4, 3) := by decide +kernel
theorem dX10_lies_39 : decode cX10_lies 39 = .ok (.iconst 2, 1) := by decide +kernel
theorem dX10_lies_40 : decode cX10_lies 40 = .ok (.invokevirtual 214, 3) := by decide +kernel
theorem dX10_lies_43 : decode cX10_lies 43 = .ok (.ireturn, 1) := by decide +kernel
set_option maxRecDepth 20000 in
theorem ggX10_layAll_X10_keepState : GoodIn wsX10_layAll wsX10_keepState := goodIn_r _ [7, 8, 9, 10, 11, 12, 2, 13, 14, 15, 16, 17, 18, 19, 20, 21, 22, 23, 24, 25, 26, 27, 28, 29, 30, 31, 32, 33, 34, 35, 36, 37, 38, 39, 40, 41, 42, 43, 44, 45, 46, 47, 48, 49, 50, 51, 52, 53, 54, 55, 56, 57, 58, 59, 60, 61, 62, 63, 64, 65, 66, 67, 68, 69, 70, 129, 130, 131, 132, 133, 134, 135, 136, 137, 138, 139, 140, 141, 142, 143, 144, 145, 146, 147, 148, 149, 150] rfl (by decide +kernel)
set_option maxRecDepth 20000 in
theorem gX10_layAll_X10_keepState : GoodIn wsX10_layAll (wsV RX10 130 RX10 yX10_keepState wsX10_keepState) := goodIn_app (goodIn_of _ (by decide +kernel)) ggX10_layAll_X10_keepState
set_option maxRecDepth 20000 in
theorem ggX10_layAll_X3_isFound : GoodIn wsX10_layAll wsX3_isFound := goodIn_r _ [75, 76, 15, 16, 17, 77, 78, 79, 80, 68, 69, 70, 81, 82, 83, 84, 85, 26, 86, 39, 87, 88, 89, 74, 90, 91, 92, 93, 94, 95, 96, 97, 98, 99, 43, 45, 100, 101, 102, 12, 103, 30, 104, 105, 106, 107, 108, 109, 110, 111, 112, 113, 114, 115, 116, 117, 118, 119, 120, 121, 140, 141, 142, 143, 144, 145, 146, 147, 151, 152, 153, 154, 155, 156, 157, 148, 149, 150] rfl (by decide +kernel)
set_option maxRecDepth 20000 in
theorem gX10_layAll_X3_isFound : GoodIn wsX10_layAll (wsV RX10 240 RX3 yX3_isFound wsX3_isFound) := goodIn_app (goodIn_of _ (by decide +kernel)) ggX10_layAll_X3_isFound
set_option maxRecDepth 20000 in
theorem ggX10_layAll_X8_size : GoodIn wsX10_layAll wsX8_size := goodIn_r _ [86, 39, 148, 149, 150] rfl (by decide +kernel)
set_option maxRecDepth 20000 in
theorem gX10_layAll_X8_size : GoodIn wsX10_layAll (wsV RX10 137 RX8 yX8_size wsX8_size) := goodIn_app (goodIn_of _ (by decide +kernel)) ggX10_layAll_X8_size
set_option maxRecDepth 20000 in
theorem ggX10_layAll_X8_get : GoodIn wsX10_layAll wsX8_get := goodIn_r _ [99, 39, 43, 45, 148, 149, 150] rfl (by decide +kernel)
set_option maxRecDepth 20000 in
theorem gX10_layAll_X8_get : GoodIn wsX10_layAll (wsV RX10 150 RX8 yX8_get wsX8_get) := goodIn_app (goodIn_of _ (by decide +kernel)) ggX10_layAll_X8_get
set_option maxRecDepth 20000 in
theorem ggX10_layAll_X3_drawerFor : GoodIn wsX10_layAll wsX3_drawerFor := goodIn_r _ [127, 81, 111, 112, 74, 113, 151, 152, 153, 154, 155, 156, 157] rfl (by decide +kernel)
set_option maxRecDepth 20000 in
theorem gX10_layAll_X3_drawerFor : GoodIn wsX10_layAll (wsV RX10 244 RX3 yX3_drawerFor wsX3_drawerFor) := goodIn_app (goodIn_of _ (by decide +kernel)) ggX10_layAll_X3_drawerFor
set_option maxRecDepth 20000 in
theorem ggX10_layAll_X8_set : GoodIn wsX10_layAll wsX8_set := goodIn_r _ [57, 39, 43, 45, 148, 149, 150] rfl (by decide +kernel)
set_option maxRecDepth 20000 in
theorem gX10_layAll_X8_set : GoodIn wsX10_layAll (wsV RX10 166 RX8 yX8_set wsX8_set) := goodIn_app (goodIn_of _ (by decide +kernel)) ggX10_layAll_X8_set
theorem dX10_layAll_0 : decode cX10_layAll 0 = .ok (.aload_n 0, 1) := by decide +kernel
theorem dX10_layAll_1 : decode cX10_layAll 1 = .ok (.invokevirtual 130, 3) := by decide +kernel
theorem dX10_layAll_4 : decode cX10_layAll 4 = .ok (.aload_n 0, 1) := by decide +kernel
theorem dX10_layAll_5 : decode cX10_layAll 5 = .ok (.getfield 54, 3) := by decide +kernel
theorem dX10_layAll_8 : decode cX10_layAll 8 = .ok (.aload_n 0, 1) := by decide +kernel
theorem dX10_layAll_9 : decode cX10_layAll 9 = .ok (.getfield 12, 3) := by decide +kernel
theorem dX10_layAll_12 : decode cX10_layAll 12 = .ok (.iload_n 1, 1) := by decide +kernel
theorem dX10_layAll_13 : decode cX10_layAll 13 = .ok (.invokevirtual 240, 3) := by decide +kernel
theorem dX10_layAll_16 : decode cX10_layAll 16 = .ok (.ifCond .ne 5, 3) := by decide +kernel
theorem dX10_layAll_19 : decode cX10_layAll 19 = .ok (.iconst (-1), 1) := by decide +kernel
theorem dX10_layAll_20 : decode cX10_layAll 20 = .ok (.ireturn, 1) := by decide +kernel
theorem dX10_layAll_21 : decode cX10_layAll 21 = .ok (.iconst 0, 1) := by decide +kernel
theorem dX10_layAll_22 : decode cX10_layAll 22 = .ok (.istore_n 2, 1) := by decide +kernel
theorem dX10_layAll_23 : decode cX10_layAll 23 = .ok (.iconst 0, 1) := by decide +kernel
theorem dX10_layAll_24 : decode cX10_layAll 24 = .ok (.istore_n 3, 1) := by decide +kernel
theorem dX10_layAll_25 : decode cX10_layAll 25 = .ok (.iload_n 3, 1) := by decide +kernel
theorem dX10_layAll_26 : decode cX10_layAll 26 = .ok (.aload_n 0, 1) := by decide +kernel
theorem dX10_layAll_27 : decode cX10_layAll 27 = .ok (.getfield 12, 3) := by decide +kernel
theorem dX10_layAll_30 : decode cX10_layAll 30 = .ok (.getfield 118, 3) := by decide +kernel
theorem dX10_layAll_33 : decode cX10_layAll 33 = .ok (.invokevirtual 137, 3) := by decide +kernel
theorem dX10_layAll_36 : decode cX10_layAll 36 = .ok (.if_icmp .ge 63, 3) := by decide +kernel
theorem dX10_layAll_39 : decode cX10_layAll 39 = .ok (.aload_n 0, 1) := by decide +kernel
theorem dX10_layAll_40 : decode cX10_layAll 40 = .ok (.getfield 12, 3) := by decide +kernel
theorem dX10_layAll_43 : decode cX10_layAll 43 = .ok (.getfield 118, 3) := by decide +kernel
theorem dX10_layAll_46 : decode cX10_layAll 46 = .ok (.iload_n 3, 1) := by decide +kernel
theorem dX10_layAll_47 : decode cX10_layAll 47 = .ok (.iconst 5, 1) := by decide +kernel
theorem dX10_layAll_48 : decode cX10_layAll 48 = .ok (.invokevirtual 150, 3) := by decide +kernel
theorem dX10_layAll_51 : decode cX10_layAll 51 = .ok (.istore 4, 2) := by decide +kernel
theorem dX10_layAll_53 : decode cX10_layAll 53 = .ok (.aload_n 0, 1) := by decide +kernel
theorem dX10_layAll_54 : decode cX10_layAll 54 = .ok (.getfield 54, 3) := by decide +kernel
theorem dX10_layAll_57 : decode cX10_layAll 57 = .ok (.iload_n 3, 1) := by decide +kernel
theorem dX10_layAll_58 : decode cX10_layAll 58 = .ok (.invokevirtual 244, 3) := by decide +kernel
theorem dX10_layAll_61 : decode cX10_layAll 61 = .ok (.istore 5, 2) := by decide +kernel
theorem dX10_layAll_63 : decode cX10_layAll 63 = .ok (.iload 4, 2) := by decide +kernel
theorem dX10_layAll_65 : decode cX10_layAll 65 = .ok (.iconst (-1), 1) := by decide +kernel
theorem dX10_layAll_66 : decode cX10_layAll 66 = .ok (.if_icmp .eq 13, 3) := by decide +kernel
theorem dX10_layAll_69 : decode cX10_layAll 69 = .ok (.iload 4, 2) := by decide +kernel
theorem dX10_layAll_71 : decode cX10_layAll 71 = .ok (.iload 5, 2) := by decide +kernel
theorem dX10_layAll_73 : decode cX10_layAll 73 = .ok (.if_icmp .eq 6, 3) := by decide +kernel
theorem dX10_layAll_76 : decode cX10_layAll 76 = .ok (.iinc 2 1, 3) := by decide +kernel
theorem dX10_layAll_79 : decode cX10_layAll 79 = .ok (.aload_n 0, 1) := by decide +kernel
theorem dX10_layAll_80 : decode cX10_layAll 80 = .ok (.getfield 12, 3) := by decide +kernel
theorem dX10_layAll_83 : decode cX10_layAll 83 = .ok (.getfield 118, 3) := by decide +kernel
theorem dX10_layAll_86 : decode cX10_layAll 86 = .ok (.iload_n 3, 1) := by decide +kernel
theorem dX10_layAll_87 : decode cX10_layAll 87 = .ok (.iconst 5, 1) := by decide +kernel
theorem dX10_layAll_88 : decode cX10_layAll 88 = .ok (.iload 5, 2) := by decide +kernel
theorem dX10_layAll_90 : decode cX10_layAll 90 = .ok (.invokevirtual 166, 3) := by decide +kernel
theorem dX10_layAll_93 : decode cX10_layAll 93 = .ok (.iinc 3 1, 3) := by decide +kernel
theorem dX10_layAll_96 : decode cX10_layAll 96 = .ok (.goto (-71), 3) := by decide +kernel
theorem dX10_layAll_99 : decode cX10_layAll 99 = .ok (.iload_n 2, 1) := by decide +kernel
theorem dX10_layAll_100 : decode cX10_layAll 100 = .ok (.ireturn, 1) := by decide +kernel
set_option maxRecDepth 20000 in
theorem ggX10_tell_X10_needStone : GoodIn wsX10_tell wsX10_needStone := goodIn_ca (goodIn_r _ [8, 9, 10, 3, 11, 12, 13, 14, 15, 16, 109, 110, 111, 112, 113, 114, 115, 116, 117, 118, 119, 120, 121, 122, 123, 124, 125, 126, 127, 128, 129, 130] rfl (by decide +kernel)) (goodIn_sub (fun _ h => List.mem_cons_of_mem _ (List.mem_append_left _ (List.mem_append_right _ h))) (by decide +kernel))
set_option maxRecDepth 20000 in
theorem gX10_tell_X10_needStone : GoodIn wsX10_tell (wsV RX10 140 RX10 yX10_needStone wsX10_needStone) := goodIn_app (goodIn_of _ (by decide +kernel)) ggX10_tell_X10_needStone
set_option maxRecDepth 20000 in
theorem ggX10_tell_X10_needDate : GoodIn wsX10_tell wsX10_needDate := goodIn_ca (goodIn_r _ [19, 20, 21, 22, 23, 24, 25, 26, 27, 28, 29, 30, 31, 32, 33, 34, 35, 36, 37, 38, 39, 40, 41, 42] rfl (by decide +kernel)) (goodIn_sub (fun _ h => List.mem_cons_of_mem _ (List.mem_append_right _ h)) (by decide +kernel))
set_option maxRecDepth 20000 in
theorem gX10_tell_X10_needDate : GoodIn wsX10_tell (va_wsS RX10 247 yX10_needDate wsX10_needDate) := goodIn_app (goodIn_of _ (by decide +kernel)) ggX10_tell_X10_needDate
set_option maxRecDepth 20000 in
theorem ggX10_tell_X10_needRange : GoodIn wsX10_tell wsX10_needRange := goodIn_ca (goodIn_r _ [45, 20, 21] rfl (by decide +kernel)) (goodIn_sub (fun _ h => List.mem_cons_of_mem _ (List.mem_append_right _ h)) (by decide +kernel))
set_option maxRecDepth 20000 in
theorem gX10_tell_X10_needRange : GoodIn wsX10_tell (va_wsS RX10 143 yX10_needRange wsX10_needRange) := goodIn_app (goodIn_of _ (by decide +kernel)) ggX10_tell_X10_needRange
set_option maxRecDepth 20000 in
theorem ggX10_tell_X8_isFull : GoodIn wsX10_tell wsX8_isFull := goodIn_r _ [49, 16, 50, 51, 128, 129, 130] rfl (by decide +kernel)
set_option maxRecDepth 20000 in
theorem gX10_tell_X8_isFull : GoodIn wsX10_tell (wsV RX10 122 RX8 yX8_isFull wsX8_isFull) := goodIn_app (goodIn_of _ (by decide +kernel)) ggX10_tell_X8_isFull
set_option maxRecDepth 20000 in
theorem ggX10_tell_X10_keepState : GoodIn wsX10_tell wsX10_keepState := goodIn_r _ [55, 56, 57, 58, 59, 60, 3, 61, 62, 33, 34, 35, 63, 64, 65, 66, 67, 68, 69, 70, 14, 71, 72, 73, 74, 75, 76, 77, 78, 79, 80, 81, 82, 16, 83, 37, 38, 50, 84, 51, 85, 86, 87, 88, 89, 47, 48, 49, 90, 91, 92, 93, 94, 95, 96, 97, 98, 99, 100, 101, 102, 103, 104, 105, 106, 109, 110, 111, 112, 113, 114, 115, 116, 117, 118, 119, 120, 121, 122, 123, 124, 125, 126, 127, 128, 129, 130] rfl (by decide +kernel)
set_option maxRecDepth 20000 in
theorem gX10_tell_X10_keepState : GoodIn wsX10_tell (wsV RX10 130 RX10 yX10_keepState wsX10_keepState) := goodIn_app (goodIn_of _ (by decide +kernel)) ggX10_tell_X10_keepState
set_option maxRecDepth 20000 in
theorem ggX10_tell_X8_add : GoodIn wsX10_tell wsX8_add := goodIn_r _ [88, 16, 50, 89, 47, 48, 14, 49, 51, 90, 91, 92, 93, 128, 129, 130] rfl (by decide +kernel)
set_option maxRecDepth 20000 in
theorem gX10_tell_X8_add : GoodIn wsX10_tell (wsV RX10 163 RX8 yX8_add wsX8_add) := goodIn_app (goodIn_of _ (by decide +kernel)) ggX10_tell_X8_add
set_option maxRecDepth 20000 in
theorem ggX10_tell_X8_set : GoodIn wsX10_tell wsX8_set := goodIn_r _ [93, 16, 50, 51, 128, 129, 130] rfl (by decide +kernel)
set_option maxRecDepth 20000 in
theorem gX10_tell_X8_set : GoodIn wsX10_tell (wsV RX10 166 RX8 yX8_set wsX8_set) := goodIn_app (goodIn_of _ (by decide +kernel)) ggX10_tell_X8_set
theorem dX10_tell_0 : decode cX10_tell 0 = .ok (.aload_n 0, 1) := by decide +kernel
theorem dX10_tell_1 : decode cX10_tell 1 = .ok (.iload_n 1, 1) := by decide +kernel
theorem dX10_tell_2 : decode cX10_tell 2 = .ok (.invokevirtual 140, 3) := by decide +kernel
theorem dX10_tell_5 : decode cX10_tell 5 = .ok (.iload_n 2, 1) := by decide +kernel
theorem dX10_tell_6 : decode cX10_tell 6 = .ok (.invokestatic 247, 3) := by decide +kernel
theorem dX10_tell_9 : decode cX10_tell 9 = .ok (.iload_n 3, 1) := by decide +kernel
theorem dX10_tell_10 : decode cX10_tell 10 = .ok (.iconst 0, 1) := by decide +kernel
theorem dX10_tell_11 : decode cX10_tell 11 = .ok (.bipush 6, 2) := by decide +kernel
theorem dX10_tell_13 : decode cX10_tell 13 = .ok (.invokestatic 143, 3) := by decide +kernel
theorem dX10_tell_16 : decode cX10_tell 16 = .ok (.aload_n 0, 1) := by decide +kernel
theorem dX10_tell_17 : decode cX10_tell 17 = .ok (.getfield 12, 3) := by decide +kernel
theorem dX10_tell_20 : decode cX10_tell 20 = .ok (.getfield 250, 3) := by decide +kernel
theorem dX10_tell_23 : decode cX10_tell 23 = .ok (.invokevirtual 122, 3) := by decide +kernel
theorem dX10_tell_26 : decode cX10_tell 26 = .ok (.ifCond .eq 13, 3) := by decide +kernel
theorem dX10_tell_29 : decode cX10_tell 29 = .ok (.new 80, 3) := by decide +kernel
theorem dX10_tell_32 : decode cX10_tell 32 = .ok (.dup, 1) := by decide +kernel
theorem dX10_tell_33 : decode cX10_tell 33 = .ok (.ldc 253, 2) := by decide +kernel
theorem dX10_tell_35 : decode cX10_tell 35 = .ok (.invokespecial 84, 3) := by decide +kernel
theorem dX10_tell_38 : decode cX10_tell 38 = .ok (.athrow, 1) := by decide +kernel
theorem dX10_tell_39 : decode cX10_tell 39 = .ok (.aload_n 0, 1) := by decide +kernel
theorem dX10_tell_40 : decode cX10_tell 40 = .ok (.invokevirtual 130, 3) := by decide +kernel
theorem dX10_tell_43 : decode cX10_tell 43 = .ok (.aload_n 0, 1) := by decide +kernel
theorem dX10_tell_44 : decode cX10_tell 44 = .ok (.getfield 12, 3) := by decide +kernel
theorem dX10_tell_47 : decode cX10_tell 47 = .ok (.dup, 1) := by decide +kernel
theorem dX10_tell_48 : decode cX10_tell 48 = .ok (.getfield 255, 3) := by decide +kernel
theorem dX10_tell_51 : decode cX10_tell 51 = .ok (.iconst 1, 1) := by decide +kernel
theorem dX10_tell_52 : decode cX10_tell 52 = .ok (.iadd, 1) := by decide +kernel
theorem dX10_tell_53 : decode cX10_tell 53 = .ok (.putfield 255, 3) := by decide +kernel
theorem dX10_tell_56 : decode cX10_tell 56 = .ok (.aload_n 0, 1) := by decide +kernel
theorem dX10_tell_57 : decode cX10_tell 57 = .ok (.getfield 12, 3) := by decide +kernel
theorem dX10_tell_60 : decode cX10_tell 60 = .ok (.getfield 250, 3) := by decide +kernel
theorem dX10_tell_63 : decode cX10_tell 63 = .ok (.invokevirtual 163, 3) := by decide +kernel
theorem dX10_tell_66 : decode cX10_tell 66 = .ok (.istore 4, 2) := by decide +kernel
theorem dX10_tell_68 : decode cX10_tell 68 = .ok (.aload_n 0, 1) := by decide +kernel
theorem dX10_tell_69 : decode cX10_tell 69 = .ok (.getfield 12, 3) := by decide +kernel
theorem dX10_tell_72 : decode cX10_tell 72 = .ok (.getfield 250, 3) := by decide +kernel
theorem dX10_tell_75 : decode cX10_tell 75 = .ok (.iload 4, 2) := by decide +kernel
theorem dX10_tell_77 : decode cX10_tell 77 = .ok (.iconst 0, 1) := by decide +kernel
theorem dX10_tell_78 : decode cX10_tell 78 = .ok (.iload_n 1, 1) := by decide +kernel
theorem dX10_tell_79 : decode cX10_tell 79 = .ok (.invokevirtual 166, 3) := by decide +kernel
theorem dX10_tell_82 : decode cX10_tell 82 = .ok (.aload_n 0, 1) := by decide +kernel
theorem dX10_tell_83 : decode cX10_tell 83 = .ok (.getfield 12, 3) := by decide +kernel
theorem dX10_tell_86 : decode cX10_tell 86 = .ok (.getfield 250, 3) := by decide +kernel
theorem dX10_tell_89 : decode cX10_tell 89 = .ok (.iload 4, 2) := by decide +kernel
theorem dX10_tell_91 : decode cX10_tell 91 = .ok (.iconst 1, 1) := by decide +kernel
theorem dX10_tell_92 : decode cX10_tell 92 = .ok (.iload_n 2, 1) := by decide +kernel
theorem dX10_tell_93 : decode cX10_tell 93 = .ok (.invokevirtual 166, 3) := by decide +kernel
theorem dX10_tell_96 : decode cX10_tell 96 = .ok (.aload_n 0, 1) := by decide +kernel
theorem dX10_tell_97 : decode cX10_tell 97 = .ok (.getfield 12, 3) := by decide +kernel
theorem dX10_tell_100 : decode cX10_tell 100 = .ok (.getfield 250, 3) := by decide +kernel
theorem dX10_tell_103 : decode cX10_tell 103 = .ok (.iload 4, 2) := by decide +kernel
theorem dX10_tell_105 : decode cX10_tell 105 = .ok (.iconst 2, 1) := by decide +kernel
theorem dX10_tell_106 : decode cX10_tell 106 = .ok (.iload_n 3, 1) := by decide +kernel
theorem dX10_tell_107 : decode cX10_tell 107 = .ok (.invokevirtual 166, 3) := by decide +kernel
theorem dX10_tell_110 : decode cX10_tell 110 = .ok (.aload_n 0, 1) := by decide +kernel
theorem dX10_tell_111 : decode cX10_tell 111 = .ok (.getfield 12, 3) := by decide +kernel
theorem dX10_tell_114 : decode cX10_tell 114 = .ok (.getfield 250, 3) := by decide +kernel
theorem dX10_tell_117 : decode cX10_tell 117 = .ok (.iload 4, 2) := by decide +kernel
theorem dX10_tell_119 : decode cX10_tell 119 = .ok (.iconst 3, 1) := by decide +kernel
theorem dX10_tell_120 : decode cX10_tell 120 = .ok (.aload_n 0, 1) := by decide +kernel
theorem dX10_tell_121 : decode cX10_tell 121 = .ok (.getfield 12, 3) := by decide +kernel
theorem dX10_tell_124 : decode cX10_tell 124 = .ok (.getfield 255, 3) := by decide +kernel
theorem dX10_tell_127 : decode cX10_tell 127 = .ok (.invokevirtual 166, 3) := by decide +kernel
theorem dX10_tell_130 : decode cX10_tell 130 = .ok (.aload_n 0, 1) := by decide +kernel
theorem dX10_tell_131 : decode cX10_tell 131 = .ok (.getfield 12, 3) := by decide +kernel
theorem dX10_tell_134 : decode cX10_tell 134 = .ok (.getfield 250, 3) := by decide +kernel
theorem dX10_tell_137 : decode cX10_tell 137 = .ok (.iload 4, 2) := by decide +kernel
theorem dX10_tell_139 : decode cX10_tell 139 = .ok (.iconst 4, 1) := by decide +kernel
theorem dX10_tell_140 : decode cX10_tell 140 = .ok (.iconst (-1), 1) := by decide +kernel
theorem dX10_tell_141 : decode cX10_tell 141 = .ok (.invokevirtual 166, 3) := by decide +kernel
theorem dX10_tell_144 : decode cX10_tell 144 = .ok (.iload 4, 2) := by decide +kernel
theorem dX10_tell_146 : decode cX10_tell 146 = .ok (.ireturn, 1) := by decide +kernel
set_option maxRecDepth 20000 in
theorem ggX10_takeBack_X8_has : GoodIn wsX10_takeBack wsX8_has := goodIn_r _ [10, 11, 102, 103, 104] rfl (by decide +kernel)
set_option maxRecDepth 20000 in
theorem gX10_takeBack_X8_has : GoodIn wsX10_takeBack (wsV RX10 169 RX8 yX8_has wsX8_has) := goodIn_app (goodIn_of _ (by decide +kernel)) ggX10_takeBack_X8_has
set_option maxRecDepth 20000 in
theorem ggX10_takeBack_X8_get : GoodIn wsX10_takeBack wsX8_get := goodIn_r _ [15, 11, 16, 17, 102, 103, 104] rfl (by decide +kernel)
set_option maxRecDepth 20000 in
theorem gX10_takeBack_X8_get : GoodIn wsX10_takeBack (wsV RX10 150 RX8 yX8_get wsX8_get) := goodIn_app (goodIn_of _ (by decide +kernel)) ggX10_takeBack_X8_get
set_option maxRecDepth 20000 in
theorem ggX10_takeBack_X10_keepState : GoodIn wsX10_takeBack wsX10_keepState := goodIn_r _ [22, 23, 24, 25, 26, 27, 5, 28, 29, 30, 31, 32, 33, 34, 35, 36, 37, 38, 39, 40, 9, 41, 42, 43, 44, 45, 46, 47, 48, 49, 50, 51, 52, 11, 53, 54, 55, 16, 56, 17, 57, 58, 59, 60, 61, 62, 63, 64, 65, 66, 67, 68, 69, 70, 71, 72, 73, 74, 75, 76, 77, 78, 79, 80, 81, 83, 84, 85, 86, 87, 88, 89, 90, 91, 92, 93, 94, 95, 96, 97, 98, 99, 100, 101, 102, 103, 104] rfl (by decide +kernel)
set_option maxRecDepth 20000 in
theorem gX10_takeBack_X10_keepState : GoodIn wsX10_takeBack (wsV RX10 130 RX10 yX10_keepState wsX10_keepState) := goodIn_app (goodIn_of _ (by decide +kernel)) ggX10_takeBack_X10_keepState
set_option maxRecDepth 20000 in
theorem ggX10_takeBack_X8_set : GoodIn wsX10_takeBack wsX8_set := goodIn_r _ [68, 11, 16, 17, 102, 103, 104] rfl (by decide +kernel)
set_option maxRecDepth 20000 in
theorem gX10_takeBack_X8_set : GoodIn wsX10_takeBack (wsV RX10 166 RX8 yX8_set wsX8_set) := goodIn_app (goodIn_of _ (by decide +kernel)) ggX10_takeBack_X8_set
theorem dX10_takeBack_0 : decode cX10_takeBack 0 = .ok (.aload_n 0, 1) := by decide +kernel
theorem dX10_takeBack_1 : decode cX10_takeBack 1 = .ok (.getfield 12, 3) := by decide +kernel
theorem dX10_takeBack_4 : decode cX10_takeBack 4 = .ok (.getfield 250, 3) := by decide +kernel
theorem dX10_takeBack_7 : decode cX10_takeBack 7 = .ok (.iload_n 1, 1) := by decide +kernel
theorem dX10_takeBack_8 : decode cX10_takeBack 8 = .ok (.invokevirtual 169, 3) := by decide +kernel
theorem dX10_takeBack_11 : decode cX10_takeBack 11 = .ok (.ifCond .ne 14, 3) := by decide +kernel
theorem dX10_takeBack_14 : decode cX10_takeBack 14 = .ok (.new 173, 3) := by decide +kernel
theorem dX10_takeBack_17 : decode cX10_takeBack 17 = .ok (.dup, 1) := by decide +kernel
theorem dX10_takeBack_18 : decode cX10_takeBack 18 = .ok (.ldc_w 258, 3) := by decide +kernel
theorem dX10_takeBack_21 : decode cX10_takeBack 21 = .ok (.invokespecial 177, 3) := by decide +kernel
theorem dX10_takeBack_24 : decode cX10_takeBack 24 = .ok (.athrow, 1) := by decide +kernel
theorem dX10_takeBack_25 : decode cX10_takeBack 25 = .ok (.aload_n 0, 1) := by decide +kernel
theorem dX10_takeBack_26 : decode cX10_takeBack 26 = .ok (.getfield 12, 3) := by decide +kernel
theorem dX10_takeBack_29 : decode cX10_takeBack 29 = .ok (.getfield 250, 3) := by decide +kernel
theorem dX10_takeBack_32 : decode cX10_takeBack 32 = .ok (.iload_n 1, 1) := by decide +kernel
theorem dX10_takeBack_33 : decode cX10_takeBack 33 = .ok (.iconst 4, 1) := by decide +kernel
theorem dX10_takeBack_34 : decode cX10_takeBack 34 = .ok (.invokevirtual 150, 3) := by decide +kernel
theorem dX10_takeBack_37 : decode cX10_takeBack 37 = .ok (.iconst (-1), 1) := by decide +kernel
theorem dX10_takeBack_38 : decode cX10_takeBack 38 = .ok (.if_icmp .eq 14, 3) := by decide +kernel
theorem dX10_takeBack_41 : decode cX10_takeBack 41 = .ok (.new 80, 3) := by decide +kernel
theorem dX10_takeBack_44 : decode cX10_takeBack 44 = .ok (.dup, 1) := by decide +kernel
theorem dX10_takeBack_45 : decode cX10_takeBack 45 = .ok (.ldc_w 260, 3) := by decide +kernel
theorem dX10_takeBack_48 : decode cX10_takeBack 48 = .ok (.invokespecial 84, 3) := by decide +kernel
theorem dX10_takeBack_51 : decode cX10_takeBack 51 = .ok (.athrow, 1) := by decide +kernel
theorem dX10_takeBack_52 : decode cX10_takeBack 52 = .ok (.aload_n 0, 1) := by decide +kernel
theorem dX10_takeBack_53 : decode cX10_takeBack 53 = .ok (.invokevirtual 130, 3) := by decide +kernel
theorem dX10_takeBack_56 : decode cX10_takeBack 56 = .ok (.aload_n 0, 1) := by decide +kernel
theorem dX10_takeBack_57 : decode cX10_takeBack 57 = .ok (.getfield 12, 3) := by decide +kernel
theorem dX10_takeBack_60 : decode cX10_takeBack 60 = .ok (.dup, 1) := by decide +kernel
theorem dX10_takeBack_61 : decode cX10_takeBack 61 = .ok (.getfield 255, 3) := by decide +kernel
theorem dX10_takeBack_64 : decode cX10_takeBack 64 = .ok (.iconst 1, 1) := by decide +kernel
theorem dX10_takeBack_65 : decode cX10_takeBack 65 = .ok (.iadd, 1) := by decide +kernel
theorem dX10_takeBack_66 : decode cX10_takeBack 66 = .ok (.putfield 255, 3) := by decide +kernel
theorem dX10_takeBack_69 : decode cX10_takeBack 69 = .ok (.aload_n 0, 1) := by decide +kernel
theorem dX10_takeBack_70 : decode cX10_takeBack 70 = .ok (.getfield 12, 3) := by decide +kernel
theorem dX10_takeBack_73 : decode cX10_takeBack 73 = .ok (.getfield 250, 3) := by decide +kernel
theorem dX10_takeBack_76 : decode cX10_takeBack 76 = .ok (.iload_n 1, 1) := by decide +kernel
theorem dX10_takeBack_77 : decode cX10_takeBack 77 = .ok (.iconst 4, 1) := by decide +kernel
theorem dX10_takeBack_78 : decode cX10_takeBack 78 = .ok (.aload_n 0, 1) := by decide +kernel
theorem dX10_takeBack_79 : decode cX10_takeBack 79 = .ok (.getfield 12, 3) := by decide +kernel
theorem dX10_takeBack_82 : decode cX10_takeBack 82 = .ok (.getfield 255, 3) := by decide +kernel
theorem dX10_takeBack_85 : decode cX10_takeBack 85 = .ok (.invokevirtual 166, 3) := by decide +kernel
theorem dX10_takeBack_88 : decode cX10_takeBack 88 = .ok (.aload_n 0, 1) := by decide +kernel
theorem dX10_takeBack_89 : decode cX10_takeBack 89 = .ok (.getfield 12, 3) := by decide +kernel
theorem dX10_takeBack_92 : decode cX10_takeBack 92 = .ok (.getfield 255, 3) := by decide +kernel
theorem dX10_takeBack_95 : decode cX10_takeBack 95 = .ok (.ireturn, 1) := by decide +kernel
theorem dX10_time_0 : decode cX10_time 0 = .ok (.aload_n 0, 1) := by decide +kernel
theorem dX10_time_1 : decode cX10_time 1 = .ok (.getfield 12, 3) := by decide +kernel
theorem dX10_time_4 : decode cX10_time 4 = .ok (.getfield 255, 3) := by decide +kernel
theorem dX10_time_7 : decode cX10_time 7 = .ok (.ireturn, 1) := by decide +kernel
set_option maxRecDepth 20000 in
theorem ggX10_handOn_X10_needStone : GoodIn wsX10_handOn wsX10_needStone := goodIn_ca (goodIn_r _ [7, 8, 9, 1, 10, 11, 12, 13, 14, 15, 82, 83, 84, 85, 86, 87, 88, 89, 90, 91, 92, 93, 94, 95, 96, 97, 98, 99, 100, 101, 102, 103] rfl (by decide +kernel)) (goodIn_sub (fun _ h => List.mem_cons_of_mem _ (List.mem_append_left _ (List.mem_append_right _ h))) (by decide +kernel))
set_option maxRecDepth 20000 in
theorem gX10_handOn_X10_needStone : GoodIn wsX10_handOn (wsV RX10 140 RX10 yX10_needStone wsX10_needStone) := goodIn_app (goodIn_of _ (by decide +kernel)) ggX10_handOn_X10_needStone
set_option maxRecDepth 20000 in
theorem ggX10_handOn_X10_needDate : GoodIn wsX10_handOn wsX10_needDate := goodIn_ca (goodIn_r _ [18, 19, 20, 21, 22, 23, 24, 25, 26, 27, 28, 29, 30, 31, 32, 33, 34, 35, 36, 37, 38, 39, 40, 41] rfl (by decide +kernel)) (goodIn_sub (fun _ h => List.mem_cons_of_mem _ (List.mem_append_right _ h)) (by decide +kernel))
set_option maxRecDepth 20000 in
theorem gX10_handOn_X10_needDate : GoodIn wsX10_handOn (va_wsS RX10 247 yX10_needDate wsX10_needDate) := goodIn_app (goodIn_of _ (by decide +kernel)) ggX10_handOn_X10_needDate
set_option maxRecDepth 20000 in
theorem ggX10_handOn_X10_needRange : GoodIn wsX10_handOn wsX10_needRange := goodIn_ca (goodIn_r _ [44, 19, 20] rfl (by decide +kernel)) (goodIn_sub (fun _ h => List.mem_cons_of_mem _ (List.mem_append_right _ h)) (by decide +kernel))
set_option maxRecDepth 20000 in
theorem gX10_handOn_X10_needRange : GoodIn wsX10_handOn (va_wsS RX10 143 yX10_needRange wsX10_needRange) := goodIn_app (goodIn_of _ (by decide +kernel)) ggX10_handOn_X10_needRange
set_option maxRecDepth 20000 in
theorem ggX10_handOn_X7_lookAt : GoodIn wsX10_handOn wsX7_lookAt := goodIn_r _ [49, 50, 51, 52, 53, 54, 55, 13, 56, 15, 57, 58, 59, 60, 61, 62, 63, 64, 48, 65, 66, 67, 68, 69, 70, 71, 72, 73, 74, 75, 76, 77, 93, 94, 95, 96, 97, 98, 99, 100, 104, 105, 106, 101, 102, 103] rfl (by decide +kernel)
set_option maxRecDepth 20000 in
theorem gX10_handOn_X7_lookAt : GoodIn wsX10_handOn (wsV RX10 262 RX7 yX7_lookAt wsX7_lookAt) := goodIn_app (goodIn_of _ (by decide +kernel)) ggX10_handOn_X7_lookAt
set_option maxRecDepth 20000 in
theorem ggX10_handOn_X7_handAt : GoodIn wsX10_handOn wsX7_handAt := goodIn_r _ [81, 52, 50, 51, 104, 105, 106] rfl (by decide +kernel)
set_option maxRecDepth 20000 in
theorem gX10_handOn_X7_handAt : GoodIn wsX10_handOn (wsV RX10 265 RX7 yX7_handAt wsX7_handAt) := goodIn_app (goodIn_of _ (by decide +kernel)) ggX10_handOn_X7_handAt
theorem dX10_handOn_0 : decode cX10_handOn 0 = .ok (.aload_n 0, 1) := by decide +kernel
theorem dX10_handOn_1 : decode cX10_handOn 1 = .ok (.iload_n 1, 1) := by decide +kernel
theorem dX10_handOn_2 : decode cX10_handOn 2 = .ok (.invokevirtual 140, 3) := by decide +kernel
theorem dX10_handOn_5 : decode cX10_handOn 5 = .ok (.iload_n 2, 1) := by decide +kernel
theorem dX10_handOn_6 : decode cX10_handOn 6 = .ok (.invokestatic 247, 3) := by decide +kernel
theorem dX10_handOn_9 : decode cX10_handOn 9 = .ok (.iload_n 3, 1) := by decide +kernel
theorem dX10_handOn_10 : decode cX10_handOn 10 = .ok (.iconst 0, 1) := by decide +kernel
theorem dX10_handOn_11 : decode cX10_handOn 11 = .ok (.aload_n 0, 1) := by decide +kernel
theorem dX10_handOn_12 : decode cX10_handOn 12 = .ok (.getfield 12, 3) := by decide +kernel
theorem dX10_handOn_15 : decode cX10_handOn 15 = .ok (.getfield 255, 3) := by decide +kernel
theorem dX10_handOn_18 : decode cX10_handOn 18 = .ok (.invokestatic 143, 3) := by decide +kernel
theorem dX10_handOn_21 : decode cX10_handOn 21 = .ok (.aload_n 0, 1) := by decide +kernel
theorem dX10_handOn_22 : decode cX10_handOn 22 = .ok (.getfield 61, 3) := by decide +kernel
theorem dX10_handOn_25 : decode cX10_handOn 25 = .ok (.aload_n 0, 1) := by decide +kernel
theorem dX10_handOn_26 : decode cX10_handOn 26 = .ok (.getfield 12, 3) := by decide +kernel
theorem dX10_handOn_29 : decode cX10_handOn 29 = .ok (.iload_n 1, 1) := by decide +kernel
theorem dX10_handOn_30 : decode cX10_handOn 30 = .ok (.iload_n 3, 1) := by decide +kernel
theorem dX10_handOn_31 : decode cX10_handOn 31 = .ok (.invokevirtual 262, 3) := by decide +kernel
theorem dX10_handOn_34 : decode cX10_handOn 34 = .ok (.aload_n 0, 1) := by decide +kernel
theorem dX10_handOn_35 : decode cX10_handOn 35 = .ok (.getfield 61, 3) := by decide +kernel
theorem dX10_handOn_38 : decode cX10_handOn 38 = .ok (.iload_n 2, 1) := by decide +kernel
theorem dX10_handOn_39 : decode cX10_handOn 39 = .ok (.invokevirtual 265, 3) := by decide +kernel
theorem dX10_handOn_42 : decode cX10_handOn 42 = .ok (.ireturn, 1) := by decide +kernel
set_option maxRecDepth 20000 in
theorem ggX10_stays_X10_needStone : GoodIn wsX10_stays wsX10_needStone := goodIn_ca (goodIn_r _ [7, 8, 9, 1, 10, 11, 12, 13, 14, 15, 58, 59, 60, 61, 62, 63, 64, 65, 66, 67, 68, 69, 70, 71, 72, 73, 74, 75, 76, 77, 78, 79] rfl (by decide +kernel)) (goodIn_sub (fun _ h => List.mem_cons_of_mem _ (List.mem_append_left _ (List.mem_append_right _ h))) (by decide +kernel))
set_option maxRecDepth 20000 in
theorem gX10_stays_X10_needStone : GoodIn wsX10_stays (wsV RX10 140 RX10 yX10_needStone wsX10_needStone) := goodIn_app (goodIn_of _ (by decide +kernel)) ggX10_stays_X10_needStone
set_option maxRecDepth 20000 in
theorem ggX10_stays_X10_needRange : GoodIn wsX10_stays wsX10_needRange := goodIn_ca (goodIn_r _ [18, 19, 20] rfl (by decide +kernel)) (goodIn_sub (fun _ h => List.mem_cons_of_mem _ (List.mem_append_right _ h)) (by decide +kernel))
set_option maxRecDepth 20000 in
theorem gX10_stays_X10_needRange : GoodIn wsX10_stays (va_wsS RX10 143 yX10_needRange wsX10_needRange) := goodIn_app (goodIn_of _ (by decide +kernel)) ggX10_stays_X10_needRange
set_option maxRecDepth 20000 in
theorem ggX10_stays_X7_lookAt : GoodIn wsX10_stays wsX7_lookAt := goodIn_r _ [25, 26, 27, 28, 29, 30, 31, 13, 32, 15, 33, 34, 35, 36, 37, 38, 39, 40, 24, 41, 42, 43, 44, 45, 46, 47, 48, 49, 50, 51, 52, 53, 69, 70, 71, 72, 73, 74, 75, 76, 80, 81, 82, 77, 78, 79] rfl (by decide +kernel)
set_option maxRecDepth 20000 in
theorem gX10_stays_X7_lookAt : GoodIn wsX10_stays (wsV RX10 262 RX7 yX7_lookAt wsX7_lookAt) := goodIn_app (goodIn_of _ (by decide +kernel)) ggX10_stays_X7_lookAt
set_option maxRecDepth 20000 in
theorem ggX10_stays_X7_size : GoodIn wsX10_stays wsX7_size := goodIn_r _ [57, 28, 80, 81, 82] rfl (by decide +kernel)
set_option maxRecDepth 20000 in
theorem gX10_stays_X7_size : GoodIn wsX10_stays (wsV RX10 268 RX7 yX7_size wsX7_size) := goodIn_app (goodIn_of _ (by decide +kernel)) ggX10_stays_X7_size
theorem dX10_stays_0 : decode cX10_stays 0 = .ok (.aload_n 0, 1) := by decide +kernel
theorem dX10_stays_1 : decode cX10_stays 1 = .ok (.iload_n 1, 1) := by decide +kernel
theorem dX10_stays_2 : decode cX10_stays 2 = .ok (.invokevirtual 140, 3) := by decide +kernel
theorem dX10_stays_5 : decode cX10_stays 5 = .ok (.iload_n 2, 1) := by decide +kernel
theorem dX10_stays_6 : decode cX10_stays 6 = .ok (.iconst 0, 1) := by decide +kernel
theorem dX10_stays_7 : decode cX10_stays 7 = .ok (.aload_n 0, 1) := by decide +kernel
theorem dX10_stays_8 : decode cX10_stays 8 = .ok (.getfield 12, 3) := by decide +kernel
theorem dX10_stays_11 : decode cX10_stays 11 = .ok (.getfield 255, 3) := by decide +kernel
theorem dX10_stays_14 : decode cX10_stays 14 = .ok (.invokestatic 143, 3) := by decide +kernel
theorem dX10_stays_17 : decode cX10_stays 17 = .ok (.aload_n 0, 1) := by decide +kernel
theorem dX10_stays_18 : decode cX10_stays 18 = .ok (.getfield 61, 3) := by decide +kernel
theorem dX10_stays_21 : decode cX10_stays 21 = .ok (.aload_n 0, 1) := by decide +kernel
theorem dX10_stays_22 : decode cX10_stays 22 = .ok (.getfield 12, 3) := by decide +kernel
theorem dX10_stays_25 : decode cX10_stays 25 = .ok (.iload_n 1, 1) := by decide +kernel
theorem dX10_stays_26 : decode cX10_stays 26 = .ok (.iload_n 2, 1) := by decide +kernel
theorem dX10_stays_27 : decode cX10_stays 27 = .ok (.invokevirtual 262, 3) := by decide +kernel
theorem dX10_stays_30 : decode cX10_stays 30 = .ok (.aload_n 0, 1) := by decide +kernel
theorem dX10_stays_31 : decode cX10_stays 31 = .ok (.getfield 61, 3) := by decide +kernel
theorem dX10_stays_34 : decode cX10_stays 34 = .ok (.invokevirtual 268, 3) := by decide +kernel
theorem dX10_stays_37 : decode cX10_stays 37 = .ok (.ireturn, 1) := by decide +kernel
set_option maxRecDepth 20000 in
theorem ggX10_stayAt_X10_needStone : GoodIn wsX10_stayAt wsX10_needStone := goodIn_ca (goodIn_r _ [9, 1, 2, 4, 10, 11, 12, 13, 14, 15, 91, 92, 93, 94, 95, 96, 97, 98, 99, 100, 101, 102, 103, 104, 105, 106, 107, 108, 109, 110, 111, 112] rfl (by decide +kernel)) (goodIn_sub (fun _ h => List.mem_cons_of_mem _ (List.mem_append_left _ (List.mem_append_right _ h))) (by decide +kernel))
set_option maxRecDepth 20000 in
theorem gX10_stayAt_X10_needStone : GoodIn wsX10_stayAt (wsV RX10 140 RX10 yX10_needStone wsX10_needStone) := goodIn_app (goodIn_of _ (by decide +kernel)) ggX10_stayAt_X10_needStone
set_option maxRecDepth 20000 in
theorem ggX10_stayAt_X7_lookAt : GoodIn wsX10_stayAt wsX7_lookAt := goodIn_r _ [20, 21, 22, 23, 24, 25, 26, 13, 27, 15, 28, 29, 30, 31, 32, 33, 34, 35, 19, 36, 37, 38, 39, 40, 41, 42, 43, 44, 45, 46, 47, 48, 102, 103, 104, 105, 106, 107, 108, 109, 113, 114, 115, 110, 111, 112] rfl (by decide +kernel)
set_option maxRecDepth 20000 in
theorem gX10_stayAt_X7_lookAt : GoodIn wsX10_stayAt (wsV RX10 262 RX7 yX7_lookAt wsX7_lookAt) := goodIn_app (goodIn_of _ (by decide +kernel)) ggX10_stayAt_X7_lookAt
set_option maxRecDepth 20000 in
theorem ggX10_stayAt_X7_size : GoodIn wsX10_stayAt wsX7_size := goodIn_r _ [52, 23, 113, 114, 115] rfl (by decide +kernel)
set_option maxRecDepth 20000 in
theorem gX10_stayAt_X7_size : GoodIn wsX10_stayAt (wsV RX10 268 RX7 yX7_size wsX7_size) := goodIn_app (goodIn_of _ (by decide +kernel)) ggX10_stayAt_X7_size
set_option maxRecDepth 20000 in
theorem ggX10_stayAt_X10_needRange : GoodIn wsX10_stayAt wsX10_needRange := goodIn_ca (goodIn_r _ [55, 56, 57] rfl (by decide +kernel)) (goodIn_sub (fun _ h => List.mem_cons_of_mem _ (List.mem_append_right _ h)) (by decide +kernel))
set_option maxRecDepth 20000 in
theorem gX10_stayAt_X10_needRange : GoodIn wsX10_stayAt (va_wsS RX10 143 yX10_needRange wsX10_needRange) := goodIn_app (goodIn_of _ (by decide +kernel)) ggX10_stayAt_X10_needRange
set_option maxRecDepth 20000 in
theorem ggX10_stayAt_X7_handOf : GoodIn wsX10_stayAt wsX7_handOf := goodIn_r _ [61, 23, 22, 113, 114, 115] rfl (by decide +kernel)
set_option maxRecDepth 20000 in
theorem gX10_stayAt_X7_handOf : GoodIn wsX10_stayAt (wsV RX10 271 RX7 yX7_handOf wsX7_handOf) := goodIn_app (goodIn_of _ (by decide +kernel)) ggX10_stayAt_X7_handOf
set_option maxRecDepth 20000 in
theorem ggX10_stayAt_X7_firstOf : GoodIn wsX10_stayAt wsX7_firstOf := goodIn_r _ [65, 23, 21, 113, 114, 115] rfl (by decide +kernel)
set_option maxRecDepth 20000 in
theorem gX10_stayAt_X7_firstOf : GoodIn wsX10_stayAt (wsV RX10 274 RX7 yX7_firstOf wsX7_firstOf) := goodIn_app (goodIn_of _ (by decide +kernel)) ggX10_stayAt_X7_firstOf
set_option maxRecDepth 20000 in
theorem ggX10_stayAt_X7_lastOf : GoodIn wsX10_stayAt wsX7_lastOf := goodIn_r _ [69, 23, 21, 70, 71, 72, 73, 74, 75, 76, 77, 78, 79, 80, 81, 82, 83, 84, 85, 86, 87, 88, 89, 90, 113, 114, 115] rfl (by decide +kernel)
set_option maxRecDepth 20000 in
theorem gX10_stayAt_X7_lastOf : GoodIn wsX10_stayAt (wsV RX10 277 RX7 yX7_lastOf wsX7_lastOf) := goodIn_app (goodIn_of _ (by decide +kernel)) ggX10_stayAt_X7_lastOf
theorem dX10_stayAt_0 : decode cX10_stayAt 0 = .ok (.aload_n 0, 1) := by decide +kernel
theorem dX10_stayAt_1 : decode cX10_stayAt 1 = .ok (.iload_n 1, 1) := by decide +kernel
theorem dX10_stayAt_2 : decode cX10_stayAt 2 = .ok (.invokevirtual 140, 3) := by decide +kernel
theorem dX10_stayAt_5 : decode cX10_stayAt 5 = .ok (.aload_n 0, 1) := by decide +kernel
theorem dX10_stayAt_6 : decode cX10_stayAt 6 = .ok (.getfield 61, 3) := by decide +kernel
theorem dX10_stayAt_9 : decode cX10_stayAt 9 = .ok (.aload_n 0, 1) := by decide +kernel
theorem dX10_stayAt_10 : decode cX10_stayAt 10 = .ok (.getfield 12, 3) := by decide +kernel
theorem dX10_stayAt_13 : decode cX10_stayAt 13 = .ok (.iload_n 1, 1) := by decide +kernel
theorem dX10_stayAt_14 : decode cX10_stayAt 14 = .ok (.aload_n 0, 1) := by decide +kernel
theorem dX10_stayAt_15 : decode cX10_stayAt 15 = .ok (.getfield 12, 3) := by decide +kernel
theorem dX10_stayAt_18 : decode cX10_stayAt 18 = .ok (.getfield 255, 3) := by decide +kernel
theorem dX10_stayAt_21 : decode cX10_stayAt 21 = .ok (.invokevirtual 262, 3) := by decide +kernel
theorem dX10_stayAt_24 : decode cX10_stayAt 24 = .ok (.iload_n 2, 1) := by decide +kernel
theorem dX10_stayAt_25 : decode cX10_stayAt 25 = .ok (.ifCond .lt 14, 3) := by decide +kernel
theorem dX10_stayAt_28 : decode cX10_stayAt 28 = .ok (.iload_n 2, 1) := by decide +kernel
theorem dX10_stayAt_29 : decode cX10_stayAt 29 = .ok (.aload_n 0, 1) := by decide +kernel
theorem dX10_stayAt_30 : decode cX10_stayAt 30 = .ok (.getfield 61, 3) := by decide +kernel
theorem dX10_stayAt_33 : decode cX10_stayAt 33 = .ok (.invokevirtual 268, 3) := by decide +kernel
theorem dX10_stayAt_36 : decode cX10_stayAt 36 = .ok (.if_icmp .lt 14, 3) := by decide +kernel
theorem dX10_stayAt_39 : decode cX10_stayAt 39 = .ok (.new 173, 3) := by decide +kernel
theorem dX10_stayAt_42 : decode cX10_stayAt 42 = .ok (.dup, 1) := by decide +kernel
theorem dX10_stayAt_43 : decode cX10_stayAt 43 = .ok (.ldc_w 269, 3) := by decide +kernel
theorem dX10_stayAt_46 : decode cX10_stayAt 46 = .ok (.invokespecial 177, 3) := by decide +kernel
theorem dX10_stayAt_49 : decode cX10_stayAt 49 = .ok (.athrow, 1) := by decide +kernel
theorem dX10_stayAt_50 : decode cX10_stayAt 50 = .ok (.iload_n 3, 1) := by decide +kernel
theorem dX10_stayAt_51 : decode cX10_stayAt 51 = .ok (.iconst 0, 1) := by decide +kernel
theorem dX10_stayAt_52 : decode cX10_stayAt 52 = .ok (.iconst 2, 1) := by decide +kernel
theorem dX10_stayAt_53 : decode cX10_stayAt 53 = .ok (.invokestatic 143, 3) := by decide +kernel
theorem dX10_stayAt_56 : decode cX10_stayAt 56 = .ok (.iload_n 3, 1) := by decide +kernel
theorem dX10_stayAt_57 : decode cX10_stayAt 57 = .ok (.ifCond .ne 12, 3) := by decide +kernel
theorem dX10_stayAt_60 : decode cX10_stayAt 60 = .ok (.aload_n 0, 1) := by decide +kernel
theorem dX10_stayAt_61 : decode cX10_stayAt 61 = .ok (.getfield 61, 3) := by decide +kernel
theorem dX10_stayAt_64 : decode cX10_stayAt 64 = .ok (.iload_n 2, 1) := by decide +kernel
theorem dX10_stayAt_65 : decode cX10_stayAt 65 = .ok (.invokevirtual 271, 3) := by decide +kernel
theorem dX10_stayAt_68 : decode cX10_stayAt 68 = .ok (.ireturn, 1) := by decide +kernel
theorem dX10_stayAt_69 : decode cX10_stayAt 69 = .ok (.iload_n 3, 1) := by decide +kernel
theorem dX10_stayAt_70 : decode cX10_stayAt 70 = .ok (.iconst 1, 1) := by decide +kernel
theorem dX10_stayAt_71 : decode cX10_stayAt 71 = .ok (.if_icmp .ne 14, 3) := by decide +kernel
theorem dX10_stayAt_74 : decode cX10_stayAt 74 = .ok (.aload_n 0, 1) := by decide +kernel
theorem dX10_stayAt_75 : decode cX10_stayAt 75 = .ok (.getfield 61, 3) := by decide +kernel
theorem dX10_stayAt_78 : decode cX10_stayAt 78 = .ok (.iload_n 2, 1) := by decide +kernel
theorem dX10_stayAt_79 : decode cX10_stayAt 79 = .ok (.invokevirtual 274, 3) := by decide +kernel
theorem dX10_stayAt_82 : decode cX10_stayAt 82 = .ok (.goto 11, 3) := by decide +kernel
theorem dX10_stayAt_85 : decode cX10_stayAt 85 = .ok (.aload_n 0, 1) := by decide +kernel
theorem dX10_stayAt_86 : decode cX10_stayAt 86 = .ok (.getfield 61, 3) := by decide +kernel
theorem dX10_stayAt_89 : decode cX10_stayAt 89 = .ok (.iload_n 2, 1) := by decide +kernel
theorem dX10_stayAt_90 : decode cX10_stayAt 90 = .ok (.invokevirtual 277, 3) := by decide +kernel
theorem dX10_stayAt_93 : decode cX10_stayAt 93 = .ok (.ireturn, 1) := by decide +kernel
set_option maxRecDepth 20000 in
theorem ggX10_away_X10_needStone : GoodIn wsX10_away wsX10_needStone := goodIn_ca (goodIn_r _ [7, 8, 9, 2, 10, 11, 12, 13, 14, 15, 113, 114, 115, 116, 117, 118, 119, 120, 121, 122, 123, 124, 125, 126, 127, 128, 129, 130, 131, 132, 133, 134] rfl (by decide +kernel)) (goodIn_sub (fun _ h => List.mem_cons_of_mem _ (List.mem_append_left _ (List.mem_append_right _ h))) (by decide +kernel))
set_option maxRecDepth 20000 in
theorem gX10_away_X10_needStone : GoodIn wsX10_away (wsV RX10 140 RX10 yX10_needStone wsX10_needStone) := goodIn_app (goodIn_of _ (by decide +kernel)) ggX10_away_X10_needStone
set_option maxRecDepth 20000 in
theorem ggX10_away_X10_needDates : GoodIn wsX10_away wsX10_needDates := goodIn_ca (goodIn_r _ [18, 19, 20, 21, 22, 6, 23, 24, 25, 26, 27, 28, 29, 30, 31, 32, 33, 34, 35, 36, 37, 38, 39, 40, 41, 42, 43, 44] rfl (by decide +kernel)) (goodIn_sub (fun _ h => List.mem_cons_of_mem _ (List.mem_append_right _ h)) (by decide +kernel))
set_option maxRecDepth 20000 in
theorem gX10_away_X10_needDates : GoodIn wsX10_away (va_wsS RX10 280 yX10_needDates wsX10_needDates) := goodIn_app (goodIn_of _ (by decide +kernel)) ggX10_away_X10_needDates
set_option maxRecDepth 20000 in
theorem ggX10_away_X7_lookAt : GoodIn wsX10_away wsX7_lookAt := goodIn_r _ [49, 50, 51, 52, 53, 54, 55, 13, 56, 15, 57, 58, 59, 60, 61, 62, 63, 64, 48, 65, 66, 67, 68, 69, 70, 71, 72, 73, 74, 75, 76, 77, 124, 125, 126, 127, 128, 129, 130, 131, 135, 136, 137, 132, 133, 134] rfl (by decide +kernel)
set_option maxRecDepth 20000 in
theorem gX10_away_X7_lookAt : GoodIn wsX10_away (wsV RX10 262 RX7 yX7_lookAt wsX7_lookAt) := goodIn_app (goodIn_of _ (by decide +kernel)) ggX10_away_X7_lookAt
set_option maxRecDepth 20000 in
theorem ggX10_away_X7_size : GoodIn wsX10_away wsX7_size := goodIn_r _ [81, 52, 135, 136, 137] rfl (by decide +kernel)
set_option maxRecDepth 20000 in
theorem gX10_away_X7_size : GoodIn wsX10_away (wsV RX10 268 RX7 yX7_size wsX7_size) := goodIn_app (goodIn_of _ (by decide +kernel)) ggX10_away_X7_size
set_option maxRecDepth 20000 in
theorem ggX10_away_X7_handOf : GoodIn wsX10_away wsX7_handOf := goodIn_r _ [85, 52, 51, 135, 136, 137] rfl (by decide +kernel)
set_option maxRecDepth 20000 in
theorem gX10_away_X7_handOf : GoodIn wsX10_away (wsV RX10 271 RX7 yX7_handOf wsX7_handOf) := goodIn_app (goodIn_of _ (by decide +kernel)) ggX10_away_X7_handOf
set_option maxRecDepth 20000 in
theorem ggX10_away_X0_dayOf : GoodIn wsX10_away wsX0_dayOf := goodIn_r _ [88, 89, 90, 26, 91, 92, 93, 94, 31, 32, 33, 34, 35, 36, 37, 38, 39, 40, 41, 42, 43, 44] rfl (by decide +kernel)
set_option maxRecDepth 20000 in
theorem gX10_away_X0_dayOf : GoodIn wsX10_away (va_wsS RX10 283 yX0_dayOf wsX0_dayOf) := goodIn_app (goodIn_of _ (by decide +kernel)) ggX10_away_X0_dayOf
set_option maxRecDepth 20000 in
theorem ggX10_away_X7_daysWithin : GoodIn wsX10_away wsX7_daysWithin := goodIn_r _ [98, 99, 39, 36, 40, 100, 35, 37, 101, 102, 103, 48, 104, 52, 50, 105, 87, 26, 88, 89, 90, 91, 92, 93, 94, 31, 32, 33, 34, 38, 41, 42, 43, 44, 106, 107, 108, 109, 110, 111, 112, 28, 29, 30, 135, 136, 137] rfl (by decide +kernel)
set_option maxRecDepth 20000 in
theorem gX10_away_X7_daysWithin : GoodIn wsX10_away (wsV RX10 288 RX7 yX7_daysWithin wsX7_daysWithin) := goodIn_app (goodIn_of _ (by decide +kernel)) ggX10_away_X7_daysWithin
theorem dX10_away_0 : decode cX10_away 0 = .ok (.aload_n 0, 1) := by decide +kernel
theorem dX10_away_1 : decode cX10_away 1 = .ok (.iload_n 1, 1) := by decide +kernel
theorem dX10_away_2 : decode cX10_away 2 = .ok (.invokevirtual 140, 3) := by decide +kernel
theorem dX10_away_5 : decode cX10_away 5 = .ok (.iload_n 2, 1) := by decide +kernel
theorem dX10_away_6 : decode cX10_away 6 = .ok (.iload_n 3, 1) := by decide +kernel
theorem dX10_away_7 : decode cX10_away 7 = .ok (.invokestatic 280, 3) := by decide +kernel
theorem dX10_away_10 : decode cX10_away 10 = .ok (.aload_n 0, 1) := by decide +kernel
theorem dX10_away_11 : decode cX10_away 11 = .ok (.getfield 61, 3) := by decide +kernel
theorem dX10_away_14 : decode cX10_away 14 = .ok (.aload_n 0, 1) := by decide +kernel
theorem dX10_away_15 : decode cX10_away 15 = .ok (.getfield 12, 3) := by decide +kernel
theorem dX10_away_18 : decode cX10_away 18 = .ok (.iload_n 1, 1) := by decide +kernel
theorem dX10_away_19 : decode cX10_away 19 = .ok (.aload_n 0, 1) := by decide +kernel
theorem dX10_away_20 : decode cX10_away 20 = .ok (.getfield 12, 3) := by decide +kernel
theorem dX10_away_23 : decode cX10_away 23 = .ok (.getfield 255, 3) := by decide +kernel
theorem dX10_away_26 : decode cX10_away 26 = .ok (.invokevirtual 262, 3) := by decide +kernel
theorem dX10_away_29 : decode cX10_away 29 = .ok (.iconst 0, 1) := by decide +kernel
theorem dX10_away_30 : decode cX10_away 30 = .ok (.istore 4, 2) := by decide +kernel
theorem dX10_away_32 : decode cX10_away 32 = .ok (.iconst 0, 1) := by decide +kernel
theorem dX10_away_33 : decode cX10_away 33 = .ok (.istore 5, 2) := by decide +kernel
theorem dX10_away_35 : decode cX10_away 35 = .ok (.iload 5, 2) := by decide +kernel
theorem dX10_away_37 : decode cX10_away 37 = .ok (.aload_n 0, 1) := by decide +kernel
theorem dX10_away_38 : decode cX10_away 38 = .ok (.getfield 61, 3) := by decide +kernel
theorem dX10_away_41 : decode cX10_away 41 = .ok (.invokevirtual 268, 3) := by decide +kernel
theorem dX10_away_44 : decode cX10_away 44 = .ok (.if_icmp .ge 43, 3) := by decide +kernel
theorem dX10_away_47 : decode cX10_away 47 = .ok (.aload_n 0, 1) := by decide +kernel
theorem dX10_away_48 : decode cX10_away 48 = .ok (.getfield 61, 3) := by decide +kernel
theorem dX10_away_51 : decode cX10_away 51 = .ok (.iload 5, 2) := by decide +kernel
theorem dX10_away_53 : decode cX10_away 53 = .ok (.invokevirtual 271, 3) := by decide +kernel
theorem dX10_away_56 : decode cX10_away 56 = .ok (.ifCond .eq 25, 3) := by decide +kernel
theorem dX10_away_59 : decode cX10_away 59 = .ok (.iload 4, 2) := by decide +kernel
theorem dX10_away_61 : decode cX10_away 61 = .ok (.aload_n 0, 1) := by decide +kernel
theorem dX10_away_62 : decode cX10_away 62 = .ok (.getfield 61, 3) := by decide +kernel
theorem dX10_away_65 : decode cX10_away 65 = .ok (.iload 5, 2) := by decide +kernel
theorem dX10_away_67 : decode cX10_away 67 = .ok (.iload_n 2, 1) := by decide +kernel
theorem dX10_away_68 : decode cX10_away 68 = .ok (.invokestatic 283, 3) := by decide +kernel
theorem dX10_away_71 : decode cX10_away 71 = .ok (.iload_n 3, 1) := by decide +kernel
theorem dX10_away_72 : decode cX10_away 72 = .ok (.invokestatic 283, 3) := by decide +kernel
theorem dX10_away_75 : decode cX10_away 75 = .ok (.invokevirtual 288, 3) := by decide +kernel
theorem dX10_away_78 : decode cX10_away 78 = .ok (.iadd, 1) := by decide +kernel
theorem dX10_away_79 : decode cX10_away 79 = .ok (.istore 4, 2) := by decide +kernel
theorem dX10_away_81 : decode cX10_away 81 = .ok (.iinc 5 1, 3) := by decide +kernel
theorem dX10_away_84 : decode cX10_away 84 = .ok (.goto (-49), 3) := by decide +kernel
theorem dX10_away_87 : decode cX10_away 87 = .ok (.iload 4, 2) := by decide +kernel
theorem dX10_away_89 : decode cX10_away 89 = .ok (.ireturn, 1) := by decide +kernel
set_option maxRecDepth 20000 in
theorem ggX10_fee_X10_needStone : GoodIn wsX10_fee wsX10_needStone := goodIn_ca (goodIn_r _ [8, 9, 10, 2, 11, 12, 13, 14, 15, 16, 115, 116, 117, 118, 119, 120, 121, 122, 123, 124, 125, 126, 127, 128, 129, 130, 131, 132, 133, 134, 135, 136] rfl (by decide +kernel)) (goodIn_sub (fun _ h => List.mem_cons_of_mem _ (List.mem_append_left _ (List.mem_append_right _ h))) (by decide +kernel))
set_option maxRecDepth 20000 in
theorem gX10_fee_X10_needStone : GoodIn wsX10_fee (wsV RX10 140 RX10 yX10_needStone wsX10_needStone) := goodIn_app (goodIn_of _ (by decide +kernel)) ggX10_fee_X10_needStone
set_option maxRecDepth 20000 in
theorem ggX10_fee_X10_needDates : GoodIn wsX10_fee wsX10_needDates := goodIn_ca (goodIn_r _ [19, 20, 21, 22, 23, 7, 24, 25, 26, 27, 28, 29, 30, 31, 32, 33, 34, 35, 36, 37, 38, 39, 40, 41, 42, 43, 44, 45] rfl (by decide +kernel)) (goodIn_sub (fun _ h => List.mem_cons_of_mem _ (List.mem_append_right _ h)) (by decide +kernel))
set_option maxRecDepth 20000 in
theorem gX10_fee_X10_needDates : GoodIn wsX10_fee (va_wsS RX10 280 yX10_needDates wsX10_needDates) := goodIn_app (goodIn_of _ (by decide +kernel)) ggX10_fee_X10_needDates
set_option maxRecDepth 20000 in
theorem ggX10_fee_X7_lookAt : GoodIn wsX10_fee wsX7_lookAt := goodIn_r _ [50, 51, 52, 53, 54, 55, 56, 14, 57, 16, 58, 59, 60, 61, 62, 63, 64, 65, 49, 66, 67, 68, 69, 70, 71, 72, 73, 74, 75, 76, 77, 78, 126, 127, 128, 129, 130, 131, 132, 133, 137, 138, 139, 134, 135, 136] rfl (by decide +kernel)
set_option maxRecDepth 20000 in
theorem gX10_fee_X7_lookAt : GoodIn wsX10_fee (wsV RX10 262 RX7 yX7_lookAt wsX7_lookAt) := goodIn_app (goodIn_of _ (by decide +kernel)) ggX10_fee_X7_lookAt
set_option maxRecDepth 20000 in
theorem ggX10_fee_X7_size : GoodIn wsX10_fee wsX7_size := goodIn_r _ [82, 53, 137, 138, 139] rfl (by decide +kernel)
set_option maxRecDepth 20000 in
theorem gX10_fee_X7_size : GoodIn wsX10_fee (wsV RX10 268 RX7 yX7_size wsX7_size) := goodIn_app (goodIn_of _ (by decide +kernel)) ggX10_fee_X7_size
set_option maxRecDepth 20000 in
theorem ggX10_fee_X7_handOf : GoodIn wsX10_fee wsX7_handOf := goodIn_r _ [86, 53, 52, 137, 138, 139] rfl (by decide +kernel)
set_option maxRecDepth 20000 in
theorem gX10_fee_X7_handOf : GoodIn wsX10_fee (wsV RX10 271 RX7 yX7_handOf wsX7_handOf) := goodIn_app (goodIn_of _ (by decide +kernel)) ggX10_fee_X7_handOf
set_option maxRecDepth 20000 in
theorem ggX10_fee_X0_dayOf : GoodIn wsX10_fee wsX0_dayOf := goodIn_r _ [89, 90, 91, 27, 92, 93, 94, 95, 32, 33, 34, 35, 36, 37, 38, 39, 40, 41, 42, 43, 44, 45] rfl (by decide +kernel)
set_option maxRecDepth 20000 in
theorem gX10_fee_X0_dayOf : GoodIn wsX10_fee (va_wsS RX10 283 yX0_dayOf wsX0_dayOf) := goodIn_app (goodIn_of _ (by decide +kernel)) ggX10_fee_X0_dayOf
set_option maxRecDepth 20000 in
theorem ggX10_fee_X7_daysWithin : GoodIn wsX10_fee wsX7_daysWithin := goodIn_r _ [99, 100, 40, 37, 41, 101, 36, 38, 102, 103, 104, 49, 105, 53, 51, 106, 88, 27, 89, 90, 91, 92, 93, 94, 95, 32, 33, 34, 35, 39, 42, 43, 44, 45, 107, 108, 109, 110, 111, 112, 113, 29, 30, 31, 137, 138, 139] rfl (by decide +kernel)
set_option maxRecDepth 20000 in
theorem gX10_fee_X7_daysWithin : GoodIn wsX10_fee (wsV RX10 288 RX7 yX7_daysWithin wsX7_daysWithin) := goodIn_app (goodIn_of _ (by decide +kernel)) ggX10_fee_X7_daysWithin
set_option maxRecDepth 20000 in
theorem ggX10_fee_X8_get : GoodIn wsX10_fee wsX8_get := goodIn_r _ [61, 16, 62, 63, 134, 135, 136] rfl (by decide +kernel)
set_option maxRecDepth 20000 in
theorem gX10_fee_X8_get : GoodIn wsX10_fee (wsV RX10 150 RX8 yX8_get wsX8_get) := goodIn_app (goodIn_of _ (by decide +kernel)) ggX10_fee_X8_get
theorem dX10_fee_0 : decode cX10_fee 0 = .ok (.aload_n 0, 1) := by decide +kernel
theorem dX10_fee_1 : decode cX10_fee 1 = .ok (.iload_n 1, 1) := by decide +kernel
theorem dX10_fee_2 : decode cX10_fee 2 = .ok (.invokevirtual 140, 3) := by decide +kernel
theorem dX10_fee_5 : decode cX10_fee 5 = .ok (.iload_n 2, 1) := by decide +kernel
theorem dX10_fee_6 : decode cX10_fee 6 = .ok (.iload_n 3, 1) := by decide +kernel
theorem dX10_fee_7 : decode cX10_fee 7 = .ok (.invokestatic 280, 3) := by decide +kernel
theorem dX10_fee_10 : decode cX10_fee 10 = .ok (.aload_n 0, 1) := by decide +kernel
theorem dX10_fee_11 : decode cX10_fee 11 = .ok (.getfield 61, 3) := by decide +kernel
theorem dX10_fee_14 : decode cX10_fee 14 = .ok (.aload_n 0, 1) := by decide +kernel
theorem dX10_fee_15 : decode cX10_fee 15 = .ok (.getfield 12, 3) := by decide +kernel
theorem dX10_fee_18 : decode cX10_fee 18 = .ok (.iload_n 1, 1) := by decide +kernel
theorem dX10_fee_19 : decode cX10_fee 19 = .ok (.aload_n 0, 1) := by decide +kernel
theorem dX10_fee_20 : decode cX10_fee 20 = .ok (.getfield 12, 3) := by decide +kernel
theorem dX10_fee_23 : decode cX10_fee 23 = .ok (.getfield 255, 3) := by decide +kernel
theorem dX10_fee_26 : decode cX10_fee 26 = .ok (.invokevirtual 262, 3) := by decide +kernel
theorem dX10_fee_29 : decode cX10_fee 29 = .ok (.lconst 0, 1) := by decide +kernel
theorem dX10_fee_30 : decode cX10_fee 30 = .ok (.lstore 4, 2) := by decide +kernel
theorem dX10_fee_32 : decode cX10_fee 32 = .ok (.iconst 0, 1) := by decide +kernel
theorem dX10_fee_33 : decode cX10_fee 33 = .ok (.istore 6, 2) := by decide +kernel
theorem dX10_fee_35 : decode cX10_fee 35 = .ok (.iload 6, 2) := by decide +kernel
theorem dX10_fee_37 : decode cX10_fee 37 = .ok (.aload_n 0, 1) := by decide +kernel
theorem dX10_fee_38 : decode cX10_fee 38 = .ok (.getfield 61, 3) := by decide +kernel
theorem dX10_fee_41 : decode cX10_fee 41 = .ok (.invokevirtual 268, 3) := by decide +kernel
theorem dX10_fee_44 : decode cX10_fee 44 = .ok (.if_icmp .ge 54, 3) := by decide +kernel
theorem dX10_fee_47 : decode cX10_fee 47 = .ok (.aload_n 0, 1) := by decide +kernel
theorem dX10_fee_48 : decode cX10_fee 48 = .ok (.getfield 61, 3) := by decide +kernel
theorem dX10_fee_51 : decode cX10_fee 51 = .ok (.iload 6, 2) := by decide +kernel
theorem dX10_fee_53 : decode cX10_fee 53 = .ok (.invokevirtual 271, 3) := by decide +kernel
theorem dX10_fee_56 : decode cX10_fee 56 = .ok (.istore 7, 2) := by decide +kernel
theorem dX10_fee_58 : decode cX10_fee 58 = .ok (.iload 7, 2) := by decide +kernel
theorem dX10_fee_60 : decode cX10_fee 60 = .ok (.bipush 6, 2) := by decide +kernel
theorem dX10_fee_62 : decode cX10_fee 62 = .ok (.if_icmp .eq 30, 3) := by decide +kernel
theorem dX10_fee_65 : decode cX10_fee 65 = .ok (.lload 4, 2) := by decide +kernel
theorem dX10_fee_67 : decode cX10_fee 67 = .ok (.iload 7, 2) := by decide +kernel
theorem dX10_fee_69 : decode cX10_fee 69 = .ok (.i2l, 1) := by decide +kernel
theorem dX10_fee_70 : decode cX10_fee 70 = .ok (.aload_n 0, 1) := by decide +kernel
theorem dX10_fee_71 : decode cX10_fee 71 = .ok (.getfield 61, 3) := by decide +kernel
theorem dX10_fee_74 : decode cX10_fee 74 = .ok (.iload 6, 2) := by decide +kernel
theorem dX10_fee_76 : decode cX10_fee 76 = .ok (.iload_n 2, 1) := by decide +kernel
theorem dX10_fee_77 : decode cX10_fee 77 = .ok (.invokestatic 283, 3) := by decide +kernel
theorem dX10_fee_80 : decode cX10_fee 80 = .ok (.iload_n 3, 1) := by decide +kernel
theorem dX10_fee_81 : decode cX10_fee 81 = .ok (.invokestatic 283, 3) := by decide +kernel
theorem dX10_fee_84 : decode cX10_fee 84 = .ok (.invokevirtual 288, 3) := by decide +kernel
theorem dX10_fee_87 : decode cX10_fee 87 = .ok (.i2l, 1) := by decide +kernel
theorem dX10_fee_88 : decode cX10_fee 88 = .ok (.lmul, 1) := by decide +kernel
theorem dX10_fee_89 : decode cX10_fee 89 = .ok (.ladd, 1) := by decide +kernel
theorem dX10_fee_90 : decode cX10_fee 90 = .ok (.lstore 4, 2) := by decide +kernel
theorem dX10_fee_92 : decode cX10_fee 92 = .ok (.iinc 6 1, 3) := by decide +kernel
theorem dX10_fee_95 : decode cX10_fee 95 = .ok (.goto (-60), 3) := by decide +kernel
theorem dX10_fee_98 : decode cX10_fee 98 = .ok (.lload 4, 2) := by decide +kernel
theorem dX10_fee_100 : decode cX10_fee 100 = .ok (.aload_n 0, 1) := by decide +kernel
theorem dX10_fee_101 : decode cX10_fee 101 = .ok (.getfield 12, 3) := by decide +kernel
theorem dX10_fee_104 : decode cX10_fee 104 = .ok (.getfield 118, 3) := by decide +kernel
theorem dX10_fee_107 : decode cX10_fee 107 = .ok (.iload_n 1, 1) := by decide +kernel
theorem dX10_fee_108 : decode cX10_fee 108 = .ok (.iconst 3, 1) := by decide +kernel
theorem dX10_fee_109 : decode cX10_fee 109 = .ok (.invokevirtual 150, 3) := by decide +kernel
theorem dX10_fee_112 : decode cX10_fee 112 = .ok (.i2l, 1) := by decide +kernel
theorem dX10_fee_113 : decode cX10_fee 113 = .ok (.lmul, 1) := by decide +kernel
theorem dX10_fee_114 : decode cX10_fee 114 = .ok (.ldc2_w 292, 3) := by decide +kernel
theorem dX10_fee_117 : decode cX10_fee 117 = .ok (.ldiv, 1) := by decide +kernel
theorem dX10_fee_118 : decode cX10_fee 118 = .ok (.lreturn, 1) := by decide +kernel
set_option maxRecDepth 20000 in
theorem ggX10_inHand_X10_needRange : GoodIn wsX10_inHand wsX10_needRange := goodIn_ca (goodIn_r _ [6, 7, 8] rfl (by decide +kernel)) (goodIn_sub (fun _ h => List.mem_cons_of_mem _ (List.mem_append_right _ h)) (by decide +kernel))
set_option maxRecDepth 20000 in
theorem gX10_inHand_X10_needRange : GoodIn wsX10_inHand (va_wsS RX10 143 yX10_needRange wsX10_needRange) := goodIn_app (goodIn_of _ (by decide +kernel)) ggX10_inHand_X10_needRange
set_option maxRecDepth 20000 in
theorem ggX10_inHand_X10_needDate : GoodIn wsX10_inHand wsX10_needDate := goodIn_ca (goodIn_r _ [11, 7, 8, 12, 13, 14, 15, 16, 17, 18, 19, 20, 21, 22, 23, 24, 25, 26, 27, 28, 29, 30, 31, 32] rfl (by decide +kernel)) (goodIn_sub (fun _ h => List.mem_cons_of_mem _ (List.mem_append_right _ h)) (by decide +kernel))
set_option maxRecDepth 20000 in
theorem gX10_inHand_X10_needDate : GoodIn wsX10_inHand (va_wsS RX10 247 yX10_needDate wsX10_needDate) := goodIn_app (goodIn_of _ (by decide +kernel)) ggX10_inHand_X10_needDate
set_option maxRecDepth 20000 in
theorem ggX10_inHand_X8_size : GoodIn wsX10_inHand wsX8_size := goodIn_r _ [37, 38, 92, 93, 94] rfl (by decide +kernel)
set_option maxRecDepth 20000 in
theorem gX10_inHand_X8_size : GoodIn wsX10_inHand (wsV RX10 137 RX8 yX8_size wsX8_size) := goodIn_app (goodIn_of _ (by decide +kernel)) ggX10_inHand_X8_size
set_option maxRecDepth 20000 in
theorem ggX10_inHand_X7_lookAt : GoodIn wsX10_inHand wsX7_lookAt := goodIn_r _ [43, 44, 45, 46, 47, 34, 35, 36, 37, 38, 48, 49, 50, 51, 52, 53, 54, 55, 42, 56, 57, 58, 59, 60, 61, 62, 63, 64, 65, 66, 67, 68, 84, 85, 86, 87, 88, 89, 90, 91, 95, 96, 97, 92, 93, 94] rfl (by decide +kernel)
set_option maxRecDepth 20000 in
theorem gX10_inHand_X7_lookAt : GoodIn wsX10_inHand (wsV RX10 262 RX7 yX7_lookAt wsX7_lookAt) := goodIn_app (goodIn_of _ (by decide +kernel)) ggX10_inHand_X7_lookAt
set_option maxRecDepth 20000 in
theorem ggX10_inHand_X7_handAt : GoodIn wsX10_inHand wsX7_handAt := goodIn_r _ [72, 46, 44, 45, 95, 96, 97] rfl (by decide +kernel)
set_option maxRecDepth 20000 in
theorem gX10_inHand_X7_handAt : GoodIn wsX10_inHand (wsV RX10 265 RX7 yX7_handAt wsX7_handAt) := goodIn_app (goodIn_of _ (by decide +kernel)) ggX10_inHand_X7_handAt
theorem dX10_inHand_0 : decode cX10_inHand 0 = .ok (.iload_n 1, 1) := by decide +kernel
theorem dX10_inHand_1 : decode cX10_inHand 1 = .ok (.iconst 0, 1) := by decide +kernel
theorem dX10_inHand_2 : decode cX10_inHand 2 = .ok (.bipush 6, 2) := by decide +kernel
theorem dX10_inHand_4 : decode cX10_inHand 4 = .ok (.invokestatic 143, 3) := by decide +kernel
theorem dX10_inHand_7 : decode cX10_inHand 7 = .ok (.iload_n 2, 1) := by decide +kernel
theorem dX10_inHand_8 : decode cX10_inHand 8 = .ok (.invokestatic 247, 3) := by decide +kernel
theorem dX10_inHand_11 : decode cX10_inHand 11 = .ok (.iconst 0, 1) := by decide +kernel
theorem dX10_inHand_12 : decode cX10_inHand 12 = .ok (.istore_n 3, 1) := by decide +kernel
theorem dX10_inHand_13 : decode cX10_inHand 13 = .ok (.iconst 0, 1) := by decide +kernel
theorem dX10_inHand_14 : decode cX10_inHand 14 = .ok (.istore 4, 2) := by decide +kernel
theorem dX10_inHand_16 : decode cX10_inHand 16 = .ok (.iload 4, 2) := by decide +kernel
theorem dX10_inHand_18 : decode cX10_inHand 18 = .ok (.aload_n 0, 1) := by decide +kernel
theorem dX10_inHand_19 : decode cX10_inHand 19 = .ok (.getfield 12, 3) := by decide +kernel
theorem dX10_inHand_22 : decode cX10_inHand 22 = .ok (.getfield 118, 3) := by decide +kernel
theorem dX10_inHand_25 : decode cX10_inHand 25 = .ok (.invokevirtual 137, 3) := by decide +kernel
theorem dX10_inHand_28 : decode cX10_inHand 28 = .ok (.if_icmp .ge 44, 3) := by decide +kernel
theorem dX10_inHand_31 : decode cX10_inHand 31 = .ok (.aload_n 0, 1) := by decide +kernel
theorem dX10_inHand_32 : decode cX10_inHand 32 = .ok (.getfield 61, 3) := by decide +kernel
theorem dX10_inHand_35 : decode cX10_inHand 35 = .ok (.aload_n 0, 1) := by decide +kernel
theorem dX10_inHand_36 : decode cX10_inHand 36 = .ok (.getfield 12, 3) := by decide +kernel
theorem dX10_inHand_39 : decode cX10_inHand 39 = .ok (.iload 4, 2) := by decide +kernel
theorem dX10_inHand_41 : decode cX10_inHand 41 = .ok (.aload_n 0, 1) := by decide +kernel
theorem dX10_inHand_42 : decode cX10_inHand 42 = .ok (.getfield 12, 3) := by decide +kernel
theorem dX10_inHand_45 : decode cX10_inHand 45 = .ok (.getfield 255, 3) := by decide +kernel
theorem dX10_inHand_48 : decode cX10_inHand 48 = .ok (.invokevirtual 262, 3) := by decide +kernel
theorem dX10_inHand_51 : decode cX10_inHand 51 = .ok (.aload_n 0, 1) := by decide +kernel
theorem dX10_inHand_52 : decode cX10_inHand 52 = .ok (.getfield 61, 3) := by decide +kernel
theorem dX10_inHand_55 : decode cX10_inHand 55 = .ok (.iload_n 2, 1) := by decide +kernel
theorem dX10_inHand_56 : decode cX10_inHand 56 = .ok (.invokevirtual 265, 3) := by decide +kernel
theorem dX10_inHand_59 : decode cX10_inHand 59 = .ok (.iload_n 1, 1) := by decide +kernel
theorem dX10_inHand_60 : decode cX10_inHand 60 = .ok (.if_icmp .ne 6, 3) := by decide +kernel
theorem dX10_inHand_63 : decode cX10_inHand 63 = .ok (.iinc 3 1, 3) := by decide +kernel
theorem dX10_inHand_66 : decode cX10_inHand 66 = .ok (.iinc 4 1, 3) := by decide +kernel
theorem dX10_inHand_69 : decode cX10_inHand 69 = .ok (.goto (-53), 3) := by decide +kernel
theorem dX10_inHand_72 : decode cX10_inHand 72 = .ok (.iload_n 3, 1) := by decide +kernel
theorem dX10_inHand_73 : decode cX10_inHand 73 = .ok (.ireturn, 1) := by decide +kernel
set_option maxRecDepth 20000 in
theorem ggX10_setLight_X10_needStone : GoodIn wsX10_setLight wsX10_needStone := goodIn_ca (goodIn_r _ [9, 10, 11, 4, 12, 13, 14, 15, 16, 17, 130, 131, 132, 133, 134, 135, 136, 137, 138, 139, 140, 141, 142, 143, 144, 145, 146, 147, 148, 149, 150, 151] rfl (by decide +kernel)) (goodIn_sub (fun _ h => List.mem_cons_of_mem _ (List.mem_append_left _ (List.mem_append_right _ h))) (by decide +kernel))
set_option maxRecDepth 20000 in
theorem gX10_setLight_X10_needStone : GoodIn wsX10_setLight (wsV RX10 140 RX10 yX10_needStone wsX10_needStone) := goodIn_app (goodIn_of _ (by decide +kernel)) ggX10_setLight_X10_needStone
set_option maxRecDepth 20000 in
theorem ggX10_setLight_X10_needRange : GoodIn wsX10_setLight wsX10_needRange := goodIn_ca (goodIn_r _ [20, 21, 22] rfl (by decide +kernel)) (goodIn_sub (fun _ h => List.mem_cons_of_mem _ (List.mem_append_right _ h)) (by decide +kernel))
set_option maxRecDepth 20000 in
theorem gX10_setLight_X10_needRange : GoodIn wsX10_setLight (va_wsS RX10 143 yX10_needRange wsX10_needRange) := goodIn_app (goodIn_of _ (by decide +kernel)) ggX10_setLight_X10_needRange
set_option maxRecDepth 20000 in
theorem ggX10_setLight_X4_isOver : GoodIn wsX10_setLight wsX4_isOver := goodIn_r _ [26, 27, 28, 29, 15, 30, 17, 31, 32, 33, 34, 35, 36, 37, 38, 25, 39, 40, 41, 42, 43, 44, 45, 46, 47, 48, 49, 50, 51, 52, 53, 54, 55, 56, 57, 58, 59, 60, 61, 62, 63, 64, 65, 66, 67, 68, 69, 141, 142, 143, 144, 145, 146, 147, 148, 149, 150, 151] rfl (by decide +kernel)
set_option maxRecDepth 20000 in
theorem gX10_setLight_X4_isOver : GoodIn wsX10_setLight (va_wsS RX10 295 yX4_isOver wsX4_isOver) := goodIn_app (goodIn_of _ (by decide +kernel)) ggX10_setLight_X4_isOver
set_option maxRecDepth 20000 in
theorem ggX10_setLight_X10_keepState : GoodIn wsX10_setLight wsX10_keepState := goodIn_r _ [73, 74, 75, 76, 77, 78, 4, 79, 80, 54, 55, 56, 81, 82, 83, 84, 85, 86, 87, 88, 15, 89, 90, 91, 92, 93, 94, 95, 96, 97, 98, 99, 100, 17, 101, 58, 59, 35, 102, 36, 103, 104, 105, 106, 107, 108, 109, 110, 111, 112, 113, 114, 115, 116, 117, 118, 119, 120, 121, 122, 123, 124, 125, 126, 127, 130, 131, 132, 133, 134, 135, 136, 137, 138, 139, 140, 141, 142, 143, 144, 145, 146, 147, 148, 149, 150, 151] rfl (by decide +kernel)
set_option maxRecDepth 20000 in
theorem gX10_setLight_X10_keepState : GoodIn wsX10_setLight (wsV RX10 130 RX10 yX10_keepState wsX10_keepState) := goodIn_app (goodIn_of _ (by decide +kernel)) ggX10_setLight_X10_keepState
set_option maxRecDepth 20000 in
theorem ggX10_setLight_X8_get : GoodIn wsX10_setLight wsX8_get := goodIn_r _ [34, 17, 35, 36, 149, 150, 151] rfl (by decide +kernel)
set_option maxRecDepth 20000 in
theorem gX10_setLight_X8_get : GoodIn wsX10_setLight (wsV RX10 150 RX8 yX8_get wsX8_get) := goodIn_app (goodIn_of _ (by decide +kernel)) ggX10_setLight_X8_get
set_option maxRecDepth 20000 in
theorem ggX10_setLight_X8_set : GoodIn wsX10_setLight wsX8_set := goodIn_r _ [114, 17, 35, 36, 149, 150, 151] rfl (by decide +kernel)
set_option maxRecDepth 20000 in
theorem gX10_setLight_X8_set : GoodIn wsX10_setLight (wsV RX10 166 RX8 yX8_set wsX8_set) := goodIn_app (goodIn_of _ (by decide +kernel)) ggX10_setLight_X8_set
theorem dX10_setLight_0 : decode cX10_setLight 0 = .ok (.aload_n 0, 1) := by decide +kernel
theorem dX10_setLight_1 : decode cX10_setLight 1 = .ok (.iload_n 1, 1) := by decide +kernel
theorem dX10_setLight_2 : decode cX10_setLight 2 = .ok (.invokevirtual 140, 3) := by decide +kernel
theorem dX10_setLight_5 : decode cX10_setLight 5 = .ok (.iload_n 2, 1) := by decide +kernel
theorem dX10_setLight_6 : decode cX10_setLight 6 = .ok (.iconst 0, 1) := by decide +kernel
theorem dX10_setLight_7 : decode cX10_setLight 7 = .ok (.ldc_w 294, 3) := by decide +kernel
theorem dX10_setLight_10 : decode cX10_setLight 10 = .ok (.invokestatic 143, 3) := by decide +kernel
theorem dX10_setLight_13 : decode cX10_setLight 13 = .ok (.aload_n 0, 1) := by decide +kernel
theorem dX10_setLight_14 : decode cX10_setLight 14 = .ok (.getfield 12, 3) := by decide +kernel
theorem dX10_setLight_17 : decode cX10_setLight 17 = .ok (.iload_n 1, 1) := by decide +kernel
theorem dX10_setLight_18 : decode cX10_setLight 18 = .ok (.iload_n 2, 1) := by decide +kernel
theorem dX10_setLight_19 : decode cX10_setLight 19 = .ok (.invokestatic 295, 3) := by decide +kernel
theorem dX10_setLight_22 : decode cX10_setLight 22 = .ok (.ifCond .eq 14, 3) := by decide +kernel
theorem dX10_setLight_25 : decode cX10_setLight 25 = .ok (.new 80, 3) := by decide +kernel
theorem dX10_setLight_28 : decode cX10_setLight 28 = .ok (.dup, 1) := by decide +kernel
theorem dX10_setLight_29 : decode cX10_setLight 29 = .ok (.ldc_w 301, 3) := by decide +kernel
theorem dX10_setLight_32 : decode cX10_setLight 32 = .ok (.invokespecial 84, 3) := by decide +kernel
theorem dX10_setLight_35 : decode cX10_setLight 35 = .ok (.athrow, 1) := by decide +kernel
theorem dX10_setLight_36 : decode cX10_setLight 36 = .ok (.aload_n 0, 1) := by decide +kernel
theorem dX10_setLight_37 : decode cX10_setLight 37 = .ok (.invokevirtual 130, 3) := by decide +kernel
theorem dX10_setLight_40 : decode cX10_setLight 40 = .ok (.aload_n 0, 1) := by decide +kernel
theorem dX10_setLight_41 : decode cX10_setLight 41 = .ok (.getfield 12, 3) := by decide +kernel
theorem dX10_setLight_44 : decode cX10_setLight 44 = .ok (.getfield 118, 3) := by decide +kernel
theorem dX10_setLight_47 : decode cX10_setLight 47 = .ok (.iload_n 1, 1) := by decide +kernel
theorem dX10_setLight_48 : decode cX10_setLight 48 = .ok (.bipush 6, 2) := by decide +kernel
theorem dX10_setLight_50 : decode cX10_setLight 50 = .ok (.invokevirtual 150, 3) := by decide +kernel
theorem dX10_setLight_53 : decode cX10_setLight 53 = .ok (.istore_n 3, 1) := by decide +kernel
theorem dX10_setLight_54 : decode cX10_setLight 54 = .ok (.aload_n 0, 1) := by decide +kernel
theorem dX10_setLight_55 : decode cX10_setLight 55 = .ok (.getfield 12, 3) := by decide +kernel
theorem dX10_setLight_58 : decode cX10_setLight 58 = .ok (.getfield 118, 3) := by decide +kernel
theorem dX10_setLight_61 : decode cX10_setLight 61 = .ok (.iload_n 1, 1) := by decide +kernel
theorem dX10_setLight_62 : decode cX10_setLight 62 = .ok (.bipush 6, 2) := by decide +kernel
theorem dX10_setLight_64 : decode cX10_setLight 64 = .ok (.iload_n 2, 1) := by decide +kernel
theorem dX10_setLight_65 : decode cX10_setLight 65 = .ok (.invokevirtual 166, 3) := by decide +kernel
theorem dX10_setLight_68 : decode cX10_setLight 68 = .ok (.iload_n 3, 1) := by decide +kernel
theorem dX10_setLight_69 : decode cX10_setLight 69 = .ok (.ireturn, 1) := by decide +kernel
set_option maxRecDepth 20000 in
theorem ggX10_show_X10_needStone : GoodIn wsX10_show wsX10_needStone := goodIn_ca (goodIn_r _ [8, 9, 10, 3, 11, 12, 13, 14, 15, 16, 141, 142, 143, 144, 145, 146, 147, 148, 149, 150, 151, 152, 153, 154, 155, 156, 157, 158, 159, 160, 161, 162] rfl (by decide +kernel)) (goodIn_sub (fun _ h => List.mem_cons_of_mem _ (List.mem_append_left _ (List.mem_append_right _ h))) (by decide +kernel))
set_option maxRecDepth 20000 in
theorem gX10_show_X10_needStone : GoodIn wsX10_show (wsV RX10 140 RX10 yX10_needStone wsX10_needStone) := goodIn_app (goodIn_of _ (by decide +kernel)) ggX10_show_X10_needStone
set_option maxRecDepth 20000 in
theorem ggX10_show_X10_needDate : GoodIn wsX10_show wsX10_needDate := goodIn_ca (goodIn_r _ [19, 20, 21, 22, 23, 24, 25, 26, 27, 28, 29, 30, 31, 32, 33, 34, 35, 36, 37, 38, 39, 40, 41, 42] rfl (by decide +kernel)) (goodIn_sub (fun _ h => List.mem_cons_of_mem _ (List.mem_append_right _ h)) (by decide +kernel))
set_option maxRecDepth 20000 in
theorem gX10_show_X10_needDate : GoodIn wsX10_show (va_wsS RX10 247 yX10_needDate wsX10_needDate) := goodIn_app (goodIn_of _ (by decide +kernel)) ggX10_show_X10_needDate
set_option maxRecDepth 20000 in
theorem ggX10_show_X10_needRange : GoodIn wsX10_show wsX10_needRange := goodIn_ca (goodIn_r _ [45, 20, 21] rfl (by decide +kernel)) (goodIn_sub (fun _ h => List.mem_cons_of_mem _ (List.mem_append_right _ h)) (by decide +kernel))
set_option maxRecDepth 20000 in
theorem gX10_show_X10_needRange : GoodIn wsX10_show (va_wsS RX10 143 yX10_needRange wsX10_needRange) := goodIn_app (goodIn_of _ (by decide +kernel)) ggX10_show_X10_needRange
set_option maxRecDepth 20000 in
theorem ggX10_show_X0_daysLeft : GoodIn wsX10_show wsX0_daysLeft := goodIn_r _ [48, 49, 50, 24, 51, 52, 53, 54, 55, 56, 57, 29, 30, 31, 32, 33, 34, 35, 36, 37, 38, 39, 40, 41, 42] rfl (by decide +kernel)
set_option maxRecDepth 20000 in
theorem gX10_show_X0_daysLeft : GoodIn wsX10_show (va_wsS RX10 303 yX0_daysLeft wsX0_daysLeft) := goodIn_app (goodIn_of _ (by decide +kernel)) ggX10_show_X0_daysLeft
set_option maxRecDepth 20000 in
theorem ggX10_show_X8_isFull : GoodIn wsX10_show wsX8_isFull := goodIn_r _ [61, 16, 62, 63, 160, 161, 162] rfl (by decide +kernel)
set_option maxRecDepth 20000 in
theorem gX10_show_X8_isFull : GoodIn wsX10_show (wsV RX10 122 RX8 yX8_isFull wsX8_isFull) := goodIn_app (goodIn_of _ (by decide +kernel)) ggX10_show_X8_isFull
set_option maxRecDepth 20000 in
theorem ggX10_show_X4_daysPossible : GoodIn wsX10_show wsX4_daysPossible := goodIn_r _ [67, 68, 33, 34, 35, 69, 37, 38, 70, 47, 24, 48, 49, 50, 51, 52, 53, 54, 55, 56, 57, 29, 30, 31, 32, 36, 39, 40, 41, 42, 71, 72, 73, 74, 75, 14, 76, 16, 62, 63, 77, 78, 66, 79, 80, 81, 82, 83, 152, 153, 154, 155, 156, 157, 158, 159, 160, 161, 162] rfl (by decide +kernel)
set_option maxRecDepth 20000 in
theorem gX10_show_X4_daysPossible : GoodIn wsX10_show (va_wsS RX10 309 yX4_daysPossible wsX4_daysPossible) := goodIn_app (goodIn_of _ (by decide +kernel)) ggX10_show_X4_daysPossible
set_option maxRecDepth 20000 in
theorem ggX10_show_X10_keepState : GoodIn wsX10_show wsX10_keepState := goodIn_r _ [87, 88, 89, 90, 91, 92, 3, 93, 94, 33, 34, 35, 95, 96, 97, 98, 99, 100, 101, 102, 14, 103, 104, 105, 106, 107, 108, 109, 110, 111, 112, 113, 114, 16, 115, 37, 38, 62, 116, 63, 117, 118, 119, 120, 121, 59, 60, 61, 122, 123, 124, 125, 126, 127, 128, 129, 130, 131, 132, 133, 134, 135, 136, 137, 138, 141, 142, 143, 144, 145, 146, 147, 148, 149, 150, 151, 152, 153, 154, 155, 156, 157, 158, 159, 160, 161, 162] rfl (by decide +kernel)
set_option maxRecDepth 20000 in
theorem gX10_show_X10_keepState : GoodIn wsX10_show (wsV RX10 130 RX10 yX10_keepState wsX10_keepState) := goodIn_app (goodIn_of _ (by decide +kernel)) ggX10_show_X10_keepState
set_option maxRecDepth 20000 in
theorem ggX10_show_X8_add : GoodIn wsX10_show wsX8_add := goodIn_r _ [120, 16, 62, 121, 59, 60, 14, 61, 63, 122, 123, 124, 125, 160, 161, 162] rfl (by decide +kernel)
set_option maxRecDepth 20000 in
theorem gX10_show_X8_add : GoodIn wsX10_show (wsV RX10 163 RX8 yX8_add wsX8_add) := goodIn_app (goodIn_of _ (by decide +kernel)) ggX10_show_X8_add
set_option maxRecDepth 20000 in
theorem ggX10_show_X8_set : GoodIn wsX10_show wsX8_set := goodIn_r _ [125, 16, 62, 63, 160, 161, 162] rfl (by decide +kernel)
set_option maxRecDepth 20000 in
theorem gX10_show_X8_set : GoodIn wsX10_show (wsV RX10 166 RX8 yX8_set wsX8_set) := goodIn_app (goodIn_of _ (by decide +kernel)) ggX10_show_X8_set
theorem dX10_show_0 : decode cX10_show 0 = .ok (.aload_n 0, 1) := by decide +kernel
theorem dX10_show_1 : decode cX10_show 1 = .ok (.iload_n 1, 1) := by decide +kernel
theorem dX10_show_2 : decode cX10_show 2 = .ok (.invokevirtual 140, 3) := by decide +kernel
theorem dX10_show_5 : decode cX10_show 5 = .ok (.iload_n 2, 1) := by decide +kernel
theorem dX10_show_6 : decode cX10_show 6 = .ok (.invokestatic 247, 3) := by decide +kernel
theorem dX10_show_9 : decode cX10_show 9 = .ok (.iload_n 3, 1) := by decide +kernel
theorem dX10_show_10 : decode cX10_show 10 = .ok (.iconst 1, 1) := by decide +kernel
theorem dX10_show_11 : decode cX10_show 11 = .ok (.sipush 400, 3) := by decide +kernel
theorem dX10_show_14 : decode cX10_show 14 = .ok (.invokestatic 143, 3) := by decide +kernel
theorem dX10_show_17 : decode cX10_show 17 = .ok (.iload 4, 2) := by decide +kernel
theorem dX10_show_19 : decode cX10_show 19 = .ok (.iconst 1, 1) := by decide +kernel
theorem dX10_show_20 : decode cX10_show 20 = .ok (.sipush 1000, 3) := by decide +kernel
theorem dX10_show_23 : decode cX10_show 23 = .ok (.invokestatic 143, 3) := by decide +kernel
theorem dX10_show_26 : decode cX10_show 26 = .ok (.iload_n 3, 1) := by decide +kernel
theorem dX10_show_27 : decode cX10_show 27 = .ok (.iconst 1, 1) := by decide +kernel
theorem dX10_show_28 : decode cX10_show 28 = .ok (.iload_n 2, 1) := by decide +kernel
theorem dX10_show_29 : decode cX10_show 29 = .ok (.invokestatic 303, 3) := by decide +kernel
theorem dX10_show_32 : decode cX10_show 32 = .ok (.invokestatic 143, 3) := by decide +kernel
theorem dX10_show_35 : decode cX10_show 35 = .ok (.aload_n 0, 1) := by decide +kernel
theorem dX10_show_36 : decode cX10_show 36 = .ok (.getfield 12, 3) := by decide +kernel
theorem dX10_show_39 : decode cX10_show 39 = .ok (.getfield 306, 3) := by decide +kernel
theorem dX10_show_42 : decode cX10_show 42 = .ok (.invokevirtual 122, 3) := by decide +kernel
theorem dX10_show_45 : decode cX10_show 45 = .ok (.ifCond .ne 18, 3) := by decide +kernel
theorem dX10_show_48 : decode cX10_show 48 = .ok (.iload_n 3, 1) := by decide +kernel
theorem dX10_show_49 : decode cX10_show 49 = .ok (.aload_n 0, 1) := by decide +kernel
theorem dX10_show_50 : decode cX10_show 50 = .ok (.getfield 12, 3) := by decide +kernel
theorem dX10_show_53 : decode cX10_show 53 = .ok (.iload_n 1, 1) := by decide +kernel
theorem dX10_show_54 : decode cX10_show 54 = .ok (.iload_n 2, 1) := by decide +kernel
theorem dX10_show_55 : decode cX10_show 55 = .ok (.iload 4, 2) := by decide +kernel
theorem dX10_show_57 : decode cX10_show 57 = .ok (.invokestatic 309, 3) := by decide +kernel
