theorem dX10_show_60 : decode cX10_show 60 = .ok (.if_icmp .le 14, 3) := by decide +kernel
theorem dX10_show_63 : decode cX10_show 63 = .ok (.new 80, 3) := by decide +kernel
theorem dX10_show_66 : decode cX10_show 66 = .ok (.dup, 1) := by decide +kernel
theorem dX10_show_67 : decode cX10_show 67 = .ok (.ldc_w 313, 3) := by decide +kernel
theorem dX10_show_70 : decode cX10_show 70 = .ok (.invokespecial 84, 3) := by decide +kernel
theorem dX10_show_73 : decode cX10_show 73 = .ok (.athrow, 1) := by decide +kernel
theorem dX10_show_74 : decode cX10_show 74 = .ok (.aload_n 0, 1) := by decide +kernel
theorem dX10_show_75 : decode cX10_show 75 = .ok (.invokevirtual 130, 3) := by decide +kernel
theorem dX10_show_78 : decode cX10_show 78 = .ok (.aload_n 0, 1) := by decide +kernel
theorem dX10_show_79 : decode cX10_show 79 = .ok (.getfield 12, 3) := by decide +kernel
theorem dX10_show_82 : decode cX10_show 82 = .ok (.getfield 306, 3) := by decide +kernel
theorem dX10_show_85 : decode cX10_show 85 = .ok (.invokevirtual 163, 3) := by decide +kernel
theorem dX10_show_88 : decode cX10_show 88 = .ok (.istore 5, 2) := by decide +kernel
theorem dX10_show_90 : decode cX10_show 90 = .ok (.aload_n 0, 1) := by decide +kernel
theorem dX10_show_91 : decode cX10_show 91 = .ok (.getfield 12, 3) := by decide +kernel
theorem dX10_show_94 : decode cX10_show 94 = .ok (.getfield 306, 3) := by decide +kernel
theorem dX10_show_97 : decode cX10_show 97 = .ok (.iload 5, 2) := by decide +kernel
theorem dX10_show_99 : decode cX10_show 99 = .ok (.iconst 0, 1) := by decide +kernel
theorem dX10_show_100 : decode cX10_show 100 = .ok (.iload_n 1, 1) := by decide +kernel
theorem dX10_show_101 : decode cX10_show 101 = .ok (.invokevirtual 166, 3) := by decide +kernel
theorem dX10_show_104 : decode cX10_show 104 = .ok (.aload_n 0, 1) := by decide +kernel
theorem dX10_show_105 : decode cX10_show 105 = .ok (.getfield 12, 3) := by decide +kernel
theorem dX10_show_108 : decode cX10_show 108 = .ok (.getfield 306, 3) := by decide +kernel
theorem dX10_show_111 : decode cX10_show 111 = .ok (.iload 5, 2) := by decide +kernel
theorem dX10_show_113 : decode cX10_show 113 = .ok (.iconst 1, 1) := by decide +kernel
theorem dX10_show_114 : decode cX10_show 114 = .ok (.iload_n 2, 1) := by decide +kernel
theorem dX10_show_115 : decode cX10_show 115 = .ok (.invokevirtual 166, 3) := by decide +kernel
theorem dX10_show_118 : decode cX10_show 118 = .ok (.aload_n 0, 1) := by decide +kernel
theorem dX10_show_119 : decode cX10_show 119 = .ok (.getfield 12, 3) := by decide +kernel
theorem dX10_show_122 : decode cX10_show 122 = .ok (.getfield 306, 3) := by decide +kernel
theorem dX10_show_125 : decode cX10_show 125 = .ok (.iload 5, 2) := by decide +kernel
theorem dX10_show_127 : decode cX10_show 127 = .ok (.iconst 2, 1) := by decide +kernel
theorem dX10_show_128 : decode cX10_show 128 = .ok (.iload_n 3, 1) := by decide +kernel
theorem dX10_show_129 : decode cX10_show 129 = .ok (.invokevirtual 166, 3) := by decide +kernel
theorem dX10_show_132 : decode cX10_show 132 = .ok (.aload_n 0, 1) := by decide +kernel
theorem dX10_show_133 : decode cX10_show 133 = .ok (.getfield 12, 3) := by decide +kernel
theorem dX10_show_136 : decode cX10_show 136 = .ok (.getfield 306, 3) := by decide +kernel
theorem dX10_show_139 : decode cX10_show 139 = .ok (.iload 5, 2) := by decide +kernel
theorem dX10_show_141 : decode cX10_show 141 = .ok (.iconst 3, 1) := by decide +kernel
theorem dX10_show_142 : decode cX10_show 142 = .ok (.iload 4, 2) := by decide +kernel
theorem dX10_show_144 : decode cX10_show 144 = .ok (.invokevirtual 166, 3) := by decide +kernel
theorem dX10_show_147 : decode cX10_show 147 = .ok (.iload 5, 2) := by decide +kernel
theorem dX10_show_149 : decode cX10_show 149 = .ok (.ireturn, 1) := by decide +kernel
set_option maxRecDepth 20000 in
theorem ggX10_light_X10_needStone : GoodIn wsX10_light wsX10_needStone := goodIn_ca (goodIn_r _ [6, 7, 8, 1, 9, 10, 11, 12, 13, 14, 61, 62, 63, 64, 65, 66, 67, 68, 69, 70, 71, 72, 73, 74, 75, 76, 77, 78, 79, 80, 81, 82] rfl (by decide +kernel)) (goodIn_sub (fun _ h => List.mem_cons_of_mem _ (List.mem_append_left _ (List.mem_append_right _ h))) (by decide +kernel))
set_option maxRecDepth 20000 in
theorem gX10_light_X10_needStone : GoodIn wsX10_light (wsV RX10 140 RX10 yX10_needStone wsX10_needStone) := goodIn_app (goodIn_of _ (by decide +kernel)) ggX10_light_X10_needStone
set_option maxRecDepth 20000 in
theorem ggX10_light_X10_needRange : GoodIn wsX10_light wsX10_needRange := goodIn_ca (goodIn_r _ [17, 18, 19] rfl (by decide +kernel)) (goodIn_sub (fun _ h => List.mem_cons_of_mem _ (List.mem_append_right _ h)) (by decide +kernel))
set_option maxRecDepth 20000 in
theorem gX10_light_X10_needRange : GoodIn wsX10_light (va_wsS RX10 143 yX10_needRange wsX10_needRange) := goodIn_app (goodIn_of _ (by decide +kernel)) ggX10_light_X10_needRange
set_option maxRecDepth 20000 in
theorem ggX10_light_X4_inYear : GoodIn wsX10_light wsX4_inYear := goodIn_r _ [23, 24, 25, 26, 27, 28, 29, 30, 31, 32, 33, 12, 34, 14, 35, 36, 37, 38, 39, 40, 41, 42, 43, 44, 45, 46, 47, 48, 49, 50, 51, 52, 53, 54, 55, 56, 57, 58, 59, 60, 72, 73, 74, 75, 76, 77, 78, 79, 80, 81, 82] rfl (by decide +kernel)
set_option maxRecDepth 20000 in
theorem gX10_light_X4_inYear : GoodIn wsX10_light (va_wsS RX10 315 yX4_inYear wsX4_inYear) := goodIn_app (goodIn_of _ (by decide +kernel)) ggX10_light_X4_inYear
theorem dX10_light_0 : decode cX10_light 0 = .ok (.aload_n 0, 1) := by decide +kernel
theorem dX10_light_1 : decode cX10_light 1 = .ok (.iload_n 1, 1) := by decide +kernel
theorem dX10_light_2 : decode cX10_light 2 = .ok (.invokevirtual 140, 3) := by decide +kernel
theorem dX10_light_5 : decode cX10_light 5 = .ok (.iload_n 2, 1) := by decide +kernel
theorem dX10_light_6 : decode cX10_light 6 = .ok (.sipush 1900, 3) := by decide +kernel
theorem dX10_light_9 : decode cX10_light 9 = .ok (.sipush 2199, 3) := by decide +kernel
theorem dX10_light_12 : decode cX10_light 12 = .ok (.invokestatic 143, 3) := by decide +kernel
theorem dX10_light_15 : decode cX10_light 15 = .ok (.aload_n 0, 1) := by decide +kernel
theorem dX10_light_16 : decode cX10_light 16 = .ok (.getfield 12, 3) := by decide +kernel
theorem dX10_light_19 : decode cX10_light 19 = .ok (.iload_n 1, 1) := by decide +kernel
theorem dX10_light_20 : decode cX10_light 20 = .ok (.iload_n 2, 1) := by decide +kernel
theorem dX10_light_21 : decode cX10_light 21 = .ok (.invokestatic 315, 3) := by decide +kernel
theorem dX10_light_24 : decode cX10_light 24 = .ok (.ireturn, 1) := by decide +kernel
set_option maxRecDepth 20000 in
theorem ggX10_mostDays_X10_needStone : GoodIn wsX10_mostDays wsX10_needStone := goodIn_ca (goodIn_r _ [6, 7, 8, 1, 9, 10, 11, 12, 13, 14, 77, 78, 79, 80, 81, 82, 83, 84, 85, 86, 87, 88, 89, 90, 91, 92, 93, 94, 95, 96, 97, 98] rfl (by decide +kernel)) (goodIn_sub (fun _ h => List.mem_cons_of_mem _ (List.mem_append_left _ (List.mem_append_right _ h))) (by decide +kernel))
set_option maxRecDepth 20000 in
theorem gX10_mostDays_X10_needStone : GoodIn wsX10_mostDays (wsV RX10 140 RX10 yX10_needStone wsX10_needStone) := goodIn_app (goodIn_of _ (by decide +kernel)) ggX10_mostDays_X10_needStone
set_option maxRecDepth 20000 in
theorem ggX10_mostDays_X10_needDate : GoodIn wsX10_mostDays wsX10_needDate := goodIn_ca (goodIn_r _ [17, 18, 19, 20, 21, 22, 23, 24, 25, 26, 27, 28, 29, 30, 31, 32, 33, 34, 35, 36, 37, 38, 39, 40] rfl (by decide +kernel)) (goodIn_sub (fun _ h => List.mem_cons_of_mem _ (List.mem_append_right _ h)) (by decide +kernel))
set_option maxRecDepth 20000 in
theorem gX10_mostDays_X10_needDate : GoodIn wsX10_mostDays (va_wsS RX10 247 yX10_needDate wsX10_needDate) := goodIn_app (goodIn_of _ (by decide +kernel)) ggX10_mostDays_X10_needDate
set_option maxRecDepth 20000 in
theorem ggX10_mostDays_X10_needRange : GoodIn wsX10_mostDays wsX10_needRange := goodIn_ca (goodIn_r _ [43, 18, 19] rfl (by decide +kernel)) (goodIn_sub (fun _ h => List.mem_cons_of_mem _ (List.mem_append_right _ h)) (by decide +kernel))
set_option maxRecDepth 20000 in
theorem gX10_mostDays_X10_needRange : GoodIn wsX10_mostDays (va_wsS RX10 143 yX10_needRange wsX10_needRange) := goodIn_app (goodIn_of _ (by decide +kernel)) ggX10_mostDays_X10_needRange
set_option maxRecDepth 20000 in
theorem ggX10_mostDays_X4_daysPossible : GoodIn wsX10_mostDays wsX4_daysPossible := goodIn_r _ [47, 48, 31, 32, 33, 49, 35, 36, 50, 51, 22, 52, 53, 54, 55, 56, 57, 58, 59, 60, 61, 27, 28, 29, 30, 34, 37, 38, 39, 40, 62, 63, 64, 65, 66, 12, 67, 14, 68, 69, 70, 71, 46, 72, 73, 74, 75, 76, 88, 89, 90, 91, 92, 93, 94, 95, 96, 97, 98] rfl (by decide +kernel)
set_option maxRecDepth 20000 in
theorem gX10_mostDays_X4_daysPossible : GoodIn wsX10_mostDays (va_wsS RX10 309 yX4_daysPossible wsX4_daysPossible) := goodIn_app (goodIn_of _ (by decide +kernel)) ggX10_mostDays_X4_daysPossible
theorem dX10_mostDays_0 : decode cX10_mostDays 0 = .ok (.aload_n 0, 1) := by decide +kernel
theorem dX10_mostDays_1 : decode cX10_mostDays 1 = .ok (.iload_n 1, 1) := by decide +kernel
theorem dX10_mostDays_2 : decode cX10_mostDays 2 = .ok (.invokevirtual 140, 3) := by decide +kernel
theorem dX10_mostDays_5 : decode cX10_mostDays 5 = .ok (.iload_n 2, 1) := by decide +kernel
theorem dX10_mostDays_6 : decode cX10_mostDays 6 = .ok (.invokestatic 247, 3) := by decide +kernel
theorem dX10_mostDays_9 : decode cX10_mostDays 9 = .ok (.iload_n 3, 1) := by decide +kernel
theorem dX10_mostDays_10 : decode cX10_mostDays 10 = .ok (.iconst 1, 1) := by decide +kernel
theorem dX10_mostDays_11 : decode cX10_mostDays 11 = .ok (.sipush 1000, 3) := by decide +kernel
theorem dX10_mostDays_14 : decode cX10_mostDays 14 = .ok (.invokestatic 143, 3) := by decide +kernel
theorem dX10_mostDays_17 : decode cX10_mostDays 17 = .ok (.aload_n 0, 1) := by decide +kernel
theorem dX10_mostDays_18 : decode cX10_mostDays 18 = .ok (.getfield 12, 3) := by decide +kernel
theorem dX10_mostDays_21 : decode cX10_mostDays 21 = .ok (.iload_n 1, 1) := by decide +kernel
theorem dX10_mostDays_22 : decode cX10_mostDays 22 = .ok (.iload_n 2, 1) := by decide +kernel
theorem dX10_mostDays_23 : decode cX10_mostDays 23 = .ok (.iload_n 3, 1) := by decide +kernel
theorem dX10_mostDays_24 : decode cX10_mostDays 24 = .ok (.invokestatic 309, 3) := by decide +kernel
theorem dX10_mostDays_27 : decode cX10_mostDays 27 = .ok (.ireturn, 1) := by decide +kernel
set_option maxRecDepth 20000 in
theorem ggX10_offer_X10_needRange : GoodIn wsX10_offer wsX10_needRange := goodIn_ca (goodIn_r _ [9, 1, 2] rfl (by decide +kernel)) (goodIn_sub (fun _ h => List.mem_cons_of_mem _ (List.mem_append_left _ (List.mem_append_right _ h))) (by decide +kernel))
set_option maxRecDepth 20000 in
theorem gX10_offer_X10_needRange : GoodIn wsX10_offer (va_wsS RX10 143 yX10_needRange wsX10_needRange) := goodIn_app (goodIn_of _ (by decide +kernel)) ggX10_offer_X10_needRange
set_option maxRecDepth 20000 in
theorem ggX10_offer_X8_isFull : GoodIn wsX10_offer wsX8_isFull := goodIn_r _ [14, 15, 16, 17, 99, 100, 101] rfl (by decide +kernel)
set_option maxRecDepth 20000 in
theorem gX10_offer_X8_isFull : GoodIn wsX10_offer (wsV RX10 122 RX8 yX8_isFull wsX8_isFull) := goodIn_app (goodIn_of _ (by decide +kernel)) ggX10_offer_X8_isFull
set_option maxRecDepth 20000 in
theorem ggX10_offer_X10_keepState : GoodIn wsX10_offer wsX10_keepState := goodIn_r _ [21, 22, 23, 24, 25, 26, 5, 27, 28, 29, 30, 31, 32, 33, 34, 35, 36, 37, 38, 39, 13, 40, 41, 42, 43, 44, 45, 46, 47, 48, 49, 50, 51, 15, 52, 53, 54, 16, 55, 17, 56, 57, 58, 59, 60, 11, 12, 14, 61, 62, 63, 64, 65, 66, 67, 68, 69, 70, 71, 72, 73, 74, 75, 76, 77, 80, 81, 82, 83, 84, 85, 86, 87, 88, 89, 90, 91, 92, 93, 94, 95, 96, 97, 98, 99, 100, 101] rfl (by decide +kernel)
set_option maxRecDepth 20000 in
theorem gX10_offer_X10_keepState : GoodIn wsX10_offer (wsV RX10 130 RX10 yX10_keepState wsX10_keepState) := goodIn_app (goodIn_of _ (by decide +kernel)) ggX10_offer_X10_keepState
set_option maxRecDepth 20000 in
theorem ggX10_offer_X8_add : GoodIn wsX10_offer wsX8_add := goodIn_r _ [59, 15, 16, 60, 11, 12, 13, 14, 17, 61, 62, 63, 64, 99, 100, 101] rfl (by decide +kernel)
set_option maxRecDepth 20000 in
theorem gX10_offer_X8_add : GoodIn wsX10_offer (wsV RX10 163 RX8 yX8_add wsX8_add) := goodIn_app (goodIn_of _ (by decide +kernel)) ggX10_offer_X8_add
set_option maxRecDepth 20000 in
theorem ggX10_offer_X8_set : GoodIn wsX10_offer wsX8_set := goodIn_r _ [64, 15, 16, 17, 99, 100, 101] rfl (by decide +kernel)
set_option maxRecDepth 20000 in
theorem gX10_offer_X8_set : GoodIn wsX10_offer (wsV RX10 166 RX8 yX8_set wsX8_set) := goodIn_app (goodIn_of _ (by decide +kernel)) ggX10_offer_X8_set
theorem dX10_offer_0 : decode cX10_offer 0 = .ok (.iload_n 1, 1) := by decide +kernel
theorem dX10_offer_1 : decode cX10_offer 1 = .ok (.iconst 0, 1) := by decide +kernel
theorem dX10_offer_2 : decode cX10_offer 2 = .ok (.iconst 4, 1) := by decide +kernel
theorem dX10_offer_3 : decode cX10_offer 3 = .ok (.invokestatic 143, 3) := by decide +kernel
theorem dX10_offer_6 : decode cX10_offer 6 = .ok (.iload_n 2, 1) := by decide +kernel
theorem dX10_offer_7 : decode cX10_offer 7 = .ok (.iconst 0, 1) := by decide +kernel
theorem dX10_offer_8 : decode cX10_offer 8 = .ok (.iconst 5, 1) := by decide +kernel
theorem dX10_offer_9 : decode cX10_offer 9 = .ok (.invokestatic 143, 3) := by decide +kernel
theorem dX10_offer_12 : decode cX10_offer 12 = .ok (.iload_n 3, 1) := by decide +kernel
theorem dX10_offer_13 : decode cX10_offer 13 = .ok (.iconst 0, 1) := by decide +kernel
theorem dX10_offer_14 : decode cX10_offer 14 = .ok (.iconst 5, 1) := by decide +kernel
theorem dX10_offer_15 : decode cX10_offer 15 = .ok (.invokestatic 143, 3) := by decide +kernel
theorem dX10_offer_18 : decode cX10_offer 18 = .ok (.iload_n 2, 1) := by decide +kernel
theorem dX10_offer_19 : decode cX10_offer 19 = .ok (.iload_n 3, 1) := by decide +kernel
theorem dX10_offer_20 : decode cX10_offer 20 = .ok (.if_icmp .ne 14, 3) := by decide +kernel
theorem dX10_offer_23 : decode cX10_offer 23 = .ok (.new 113, 3) := by decide +kernel
theorem dX10_offer_26 : decode cX10_offer 26 = .ok (.dup, 1) := by decide +kernel
theorem dX10_offer_27 : decode cX10_offer 27 = .ok (.ldc_w 319, 3) := by decide +kernel
theorem dX10_offer_30 : decode cX10_offer 30 = .ok (.invokespecial 117, 3) := by decide +kernel
theorem dX10_offer_33 : decode cX10_offer 33 = .ok (.athrow, 1) := by decide +kernel
theorem dX10_offer_34 : decode cX10_offer 34 = .ok (.aload_n 0, 1) := by decide +kernel
theorem dX10_offer_35 : decode cX10_offer 35 = .ok (.getfield 12, 3) := by decide +kernel
theorem dX10_offer_38 : decode cX10_offer 38 = .ok (.getfield 321, 3) := by decide +kernel
theorem dX10_offer_41 : decode cX10_offer 41 = .ok (.invokevirtual 122, 3) := by decide +kernel
theorem dX10_offer_44 : decode cX10_offer 44 = .ok (.ifCond .eq 14, 3) := by decide +kernel
theorem dX10_offer_47 : decode cX10_offer 47 = .ok (.new 80, 3) := by decide +kernel
theorem dX10_offer_50 : decode cX10_offer 50 = .ok (.dup, 1) := by decide +kernel
theorem dX10_offer_51 : decode cX10_offer 51 = .ok (.ldc_w 324, 3) := by decide +kernel
theorem dX10_offer_54 : decode cX10_offer 54 = .ok (.invokespecial 84, 3) := by decide +kernel
theorem dX10_offer_57 : decode cX10_offer 57 = .ok (.athrow, 1) := by decide +kernel
theorem dX10_offer_58 : decode cX10_offer 58 = .ok (.aload_n 0, 1) := by decide +kernel
theorem dX10_offer_59 : decode cX10_offer 59 = .ok (.invokevirtual 130, 3) := by decide +kernel
theorem dX10_offer_62 : decode cX10_offer 62 = .ok (.aload_n 0, 1) := by decide +kernel
theorem dX10_offer_63 : decode cX10_offer 63 = .ok (.getfield 12, 3) := by decide +kernel
theorem dX10_offer_66 : decode cX10_offer 66 = .ok (.getfield 321, 3) := by decide +kernel
theorem dX10_offer_69 : decode cX10_offer 69 = .ok (.invokevirtual 163, 3) := by decide +kernel
theorem dX10_offer_72 : decode cX10_offer 72 = .ok (.istore 4, 2) := by decide +kernel
theorem dX10_offer_74 : decode cX10_offer 74 = .ok (.aload_n 0, 1) := by decide +kernel
theorem dX10_offer_75 : decode cX10_offer 75 = .ok (.getfield 12, 3) := by decide +kernel
theorem dX10_offer_78 : decode cX10_offer 78 = .ok (.getfield 321, 3) := by decide +kernel
theorem dX10_offer_81 : decode cX10_offer 81 = .ok (.iload 4, 2) := by decide +kernel
theorem dX10_offer_83 : decode cX10_offer 83 = .ok (.iconst 0, 1) := by decide +kernel
theorem dX10_offer_84 : decode cX10_offer 84 = .ok (.iload_n 1, 1) := by decide +kernel
theorem dX10_offer_85 : decode cX10_offer 85 = .ok (.invokevirtual 166, 3) := by decide +kernel
theorem dX10_offer_88 : decode cX10_offer 88 = .ok (.aload_n 0, 1) := by decide +kernel
theorem dX10_offer_89 : decode cX10_offer 89 = .ok (.getfield 12, 3) := by decide +kernel
theorem dX10_offer_92 : decode cX10_offer 92 = .ok (.getfield 321, 3) := by decide +kernel
theorem dX10_offer_95 : decode cX10_offer 95 = .ok (.iload 4, 2) := by decide +kernel
theorem dX10_offer_97 : decode cX10_offer 97 = .ok (.iconst 1, 1) := by decide +kernel
theorem dX10_offer_98 : decode cX10_offer 98 = .ok (.iload_n 2, 1) := by decide +kernel
theorem dX10_offer_99 : decode cX10_offer 99 = .ok (.invokevirtual 166, 3) := by decide +kernel
theorem dX10_offer_102 : decode cX10_offer 102 = .ok (.aload_n 0, 1) := by decide +kernel
theorem dX10_offer_103 : decode cX10_offer 103 = .ok (.getfield 12, 3) := by decide +kernel
theorem dX10_offer_106 : decode cX10_offer 106 = .ok (.getfield 321, 3) := by decide +kernel
theorem dX10_offer_109 : decode cX10_offer 109 = .ok (.iload 4, 2) := by decide +kernel
theorem dX10_offer_111 : decode cX10_offer 111 = .ok (.iconst 2, 1) := by decide +kernel
theorem dX10_offer_112 : decode cX10_offer 112 = .ok (.iload_n 3, 1) := by decide +kernel
theorem dX10_offer_113 : decode cX10_offer 113 = .ok (.invokevirtual 166, 3) := by decide +kernel
theorem dX10_offer_116 : decode cX10_offer 116 = .ok (.iload 4, 2) := by decide +kernel
theorem dX10_offer_118 : decode cX10_offer 118 = .ok (.ireturn, 1) := by decide +kernel
set_option maxRecDepth 20000 in
theorem ggX10_clearOffers_X10_keepState : GoodIn wsX10_clearOffers wsX10_keepState := goodIn_r _ [6, 7, 8, 9, 10, 11, 1, 12, 13, 14, 15, 16, 17, 18, 19, 20, 21, 22, 23, 24, 25, 26, 27, 28, 29, 30, 31, 32, 33, 34, 35, 36, 37, 38, 39, 40, 41, 42, 43, 44, 45, 46, 47, 48, 49, 50, 51, 52, 53, 54, 55, 56, 57, 58, 59, 60, 61, 62, 63, 64, 65, 66, 67, 68, 69, 78, 79, 80, 81, 82, 83, 84, 85, 86, 87, 88, 89, 90, 91, 92, 93, 94, 95, 96, 97, 98, 99] rfl (by decide +kernel)
set_option maxRecDepth 20000 in
theorem gX10_clearOffers_X10_keepState : GoodIn wsX10_clearOffers (wsV RX10 130 RX10 yX10_keepState wsX10_keepState) := goodIn_app (goodIn_of _ (by decide +kernel)) ggX10_clearOffers_X10_keepState
set_option maxRecDepth 20000 in
theorem ggX10_clearOffers_X8_size : GoodIn wsX10_clearOffers wsX8_size := goodIn_r _ [73, 38, 97, 98, 99] rfl (by decide +kernel)
set_option maxRecDepth 20000 in
theorem gX10_clearOffers_X8_size : GoodIn wsX10_clearOffers (wsV RX10 137 RX8 yX8_size wsX8_size) := goodIn_app (goodIn_of _ (by decide +kernel)) ggX10_clearOffers_X8_size
set_option maxRecDepth 20000 in
theorem ggX10_clearOffers_X8_clear : GoodIn wsX10_clearOffers wsX8_clear := goodIn_r _ [77, 38, 97, 98, 99] rfl (by decide +kernel)
set_option maxRecDepth 20000 in
theorem gX10_clearOffers_X8_clear : GoodIn wsX10_clearOffers (wsV RX10 326 RX8 yX8_clear wsX8_clear) := goodIn_app (goodIn_of _ (by decide +kernel)) ggX10_clearOffers_X8_clear
theorem dX10_clearOffers_0 : decode cX10_clearOffers 0 = .ok (.aload_n 0, 1) := by decide +kernel
theorem dX10_clearOffers_1 : decode cX10_clearOffers 1 = .ok (.invokevirtual 130, 3) := by decide +kernel
theorem dX10_clearOffers_4 : decode cX10_clearOffers 4 = .ok (.aload_n 0, 1) := by decide +kernel
theorem dX10_clearOffers_5 : decode cX10_clearOffers 5 = .ok (.getfield 12, 3) := by decide +kernel
theorem dX10_clearOffers_8 : decode cX10_clearOffers 8 = .ok (.getfield 321, 3) := by decide +kernel
theorem dX10_clearOffers_11 : decode cX10_clearOffers 11 = .ok (.invokevirtual 137, 3) := by decide +kernel
theorem dX10_clearOffers_14 : decode cX10_clearOffers 14 = .ok (.istore_n 1, 1) := by decide +kernel
theorem dX10_clearOffers_15 : decode cX10_clearOffers 15 = .ok (.aload_n 0, 1) := by decide +kernel
theorem dX10_clearOffers_16 : decode cX10_clearOffers 16 = .ok (.getfield 12, 3) := by decide +kernel
theorem dX10_clearOffers_19 : decode cX10_clearOffers 19 = .ok (.getfield 321, 3) := by decide +kernel
theorem dX10_clearOffers_22 : decode cX10_clearOffers 22 = .ok (.invokevirtual 326, 3) := by decide +kernel
theorem dX10_clearOffers_25 : decode cX10_clearOffers 25 = .ok (.iload_n 1, 1) := by decide +kernel
theorem dX10_clearOffers_26 : decode cX10_clearOffers 26 = .ok (.ireturn, 1) := by decide +kernel
set_option maxRecDepth 20000 in
theorem ggX10_plan_X2_lookAt : GoodIn wsX10_plan wsX2_lookAt := goodIn_r _ [7, 8, 9, 10, 11, 12, 13, 14, 15, 16, 17, 18, 19, 20, 21, 22, 23, 24, 25, 6, 26, 27, 28, 29, 30, 31, 32, 33, 34, 35, 36, 37, 38, 39, 40, 41, 42, 43, 44, 45, 46, 47, 48, 49, 50, 74, 75, 76, 77, 78, 79, 80] rfl (by decide +kernel)
set_option maxRecDepth 20000 in
theorem gX10_plan_X2_lookAt : GoodIn wsX10_plan (wsV RX10 329 RX2 yX2_lookAt wsX2_lookAt) := goodIn_app (goodIn_of _ (by decide +kernel)) ggX10_plan_X2_lookAt
set_option maxRecDepth 20000 in
theorem ggX10_plan_X2_inPlan : GoodIn wsX10_plan wsX2_inPlan := goodIn_r _ [54, 15, 74, 75, 76, 77] rfl (by decide +kernel)
set_option maxRecDepth 20000 in
theorem gX10_plan_X2_inPlan : GoodIn wsX10_plan (wsV RX10 332 RX2 yX2_inPlan wsX2_inPlan) := goodIn_app (goodIn_of _ (by decide +kernel)) ggX10_plan_X2_inPlan
theorem dX10_plan_0 : decode cX10_plan 0 = .ok (.aload_n 0, 1) := by decide +kernel
theorem dX10_plan_1 : decode cX10_plan 1 = .ok (.getfield 68, 3) := by decide +kernel
theorem dX10_plan_4 : decode cX10_plan 4 = .ok (.aload_n 0, 1) := by decide +kernel
theorem dX10_plan_5 : decode cX10_plan 5 = .ok (.getfield 12, 3) := by decide +kernel
theorem dX10_plan_8 : decode cX10_plan 8 = .ok (.getfield 321, 3) := by decide +kernel
theorem dX10_plan_11 : decode cX10_plan 11 = .ok (.invokevirtual 329, 3) := by decide +kernel
theorem dX10_plan_14 : decode cX10_plan 14 = .ok (.aload_n 0, 1) := by decide +kernel
theorem dX10_plan_15 : decode cX10_plan 15 = .ok (.getfield 68, 3) := by decide +kernel
theorem dX10_plan_18 : decode cX10_plan 18 = .ok (.invokevirtual 332, 3) := by decide +kernel
theorem dX10_plan_21 : decode cX10_plan 21 = .ok (.ireturn, 1) := by decide +kernel
set_option maxRecDepth 20000 in
theorem ggX10_getsFrom_X8_has : GoodIn wsX10_getsFrom wsX8_has := goodIn_r _ [9, 10, 80, 81, 82] rfl (by decide +kernel)
set_option maxRecDepth 20000 in
theorem gX10_getsFrom_X8_has : GoodIn wsX10_getsFrom (wsV RX10 169 RX8 yX8_has wsX8_has) := goodIn_app (goodIn_of _ (by decide +kernel)) ggX10_getsFrom_X8_has
set_option maxRecDepth 20000 in
theorem ggX10_getsFrom_X2_lookAt : GoodIn wsX10_getsFrom wsX2_lookAt := goodIn_r _ [15, 16, 17, 18, 19, 20, 21, 22, 23, 24, 25, 26, 27, 8, 28, 10, 29, 30, 31, 14, 32, 33, 34, 35, 36, 37, 38, 39, 40, 41, 42, 43, 44, 45, 46, 47, 48, 49, 50, 51, 52, 53, 54, 55, 56, 83, 84, 85, 86, 80, 81, 82] rfl (by decide +kernel)
set_option maxRecDepth 20000 in
theorem gX10_getsFrom_X2_lookAt : GoodIn wsX10_getsFrom (wsV RX10 329 RX2 yX2_lookAt wsX2_lookAt) := goodIn_app (goodIn_of _ (by decide +kernel)) ggX10_getsFrom_X2_lookAt
set_option maxRecDepth 20000 in
theorem ggX10_getsFrom_X2_giverOf : GoodIn wsX10_getsFrom wsX2_giverOf := goodIn_r _ [60, 20, 24, 83, 84, 85, 86] rfl (by decide +kernel)
set_option maxRecDepth 20000 in
theorem gX10_getsFrom_X2_giverOf : GoodIn wsX10_getsFrom (wsV RX10 337 RX2 yX2_giverOf wsX2_giverOf) := goodIn_app (goodIn_of _ (by decide +kernel)) ggX10_getsFrom_X2_giverOf
theorem dX10_getsFrom_0 : decode cX10_getsFrom 0 = .ok (.aload_n 0, 1) := by decide +kernel
theorem dX10_getsFrom_1 : decode cX10_getsFrom 1 = .ok (.getfield 12, 3) := by decide +kernel
theorem dX10_getsFrom_4 : decode cX10_getsFrom 4 = .ok (.getfield 321, 3) := by decide +kernel
theorem dX10_getsFrom_7 : decode cX10_getsFrom 7 = .ok (.iload_n 1, 1) := by decide +kernel
theorem dX10_getsFrom_8 : decode cX10_getsFrom 8 = .ok (.invokevirtual 169, 3) := by decide +kernel
theorem dX10_getsFrom_11 : decode cX10_getsFrom 11 = .ok (.ifCond .ne 14, 3) := by decide +kernel
theorem dX10_getsFrom_14 : decode cX10_getsFrom 14 = .ok (.new 173, 3) := by decide +kernel
theorem dX10_getsFrom_17 : decode cX10_getsFrom 17 = .ok (.dup, 1) := by decide +kernel
theorem dX10_getsFrom_18 : decode cX10_getsFrom 18 = .ok (.ldc_w 335, 3) := by decide +kernel
theorem dX10_getsFrom_21 : decode cX10_getsFrom 21 = .ok (.invokespecial 177, 3) := by decide +kernel
theorem dX10_getsFrom_24 : decode cX10_getsFrom 24 = .ok (.athrow, 1) := by decide +kernel
theorem dX10_getsFrom_25 : decode cX10_getsFrom 25 = .ok (.aload_n 0, 1) := by decide +kernel
theorem dX10_getsFrom_26 : decode cX10_getsFrom 26 = .ok (.getfield 68, 3) := by decide +kernel
theorem dX10_getsFrom_29 : decode cX10_getsFrom 29 = .ok (.aload_n 0, 1) := by decide +kernel
theorem dX10_getsFrom_30 : decode cX10_getsFrom 30 = .ok (.getfield 12, 3) := by decide +kernel
theorem dX10_getsFrom_33 : decode cX10_getsFrom 33 = .ok (.getfield 321, 3) := by decide +kernel
theorem dX10_getsFrom_36 : decode cX10_getsFrom 36 = .ok (.invokevirtual 329, 3) := by decide +kernel
theorem dX10_getsFrom_39 : decode cX10_getsFrom 39 = .ok (.aload_n 0, 1) := by decide +kernel
theorem dX10_getsFrom_40 : decode cX10_getsFrom 40 = .ok (.getfield 68, 3) := by decide +kernel
theorem dX10_getsFrom_43 : decode cX10_getsFrom 43 = .ok (.iload_n 1, 1) := by decide +kernel
theorem dX10_getsFrom_44 : decode cX10_getsFrom 44 = .ok (.invokevirtual 337, 3) := by decide +kernel
theorem dX10_getsFrom_47 : decode cX10_getsFrom 47 = .ok (.ireturn, 1) := by decide +kernel
set_option maxRecDepth 20000 in
theorem ggX10_rings_X2_lookAt : GoodIn wsX10_rings wsX2_lookAt := goodIn_r _ [7, 8, 9, 10, 11, 12, 13, 14, 15, 16, 17, 18, 19, 20, 21, 22, 23, 24, 25, 6, 26, 27, 28, 29, 30, 31, 32, 33, 34, 35, 36, 37, 38, 39, 40, 41, 42, 43, 44, 45, 46, 47, 48, 49, 50, 78, 79, 80, 81, 82, 83, 84] rfl (by decide +kernel)
set_option maxRecDepth 20000 in
theorem gX10_rings_X2_lookAt : GoodIn wsX10_rings (wsV RX10 329 RX2 yX2_lookAt wsX2_lookAt) := goodIn_app (goodIn_of _ (by decide +kernel)) ggX10_rings_X2_lookAt
set_option maxRecDepth 20000 in
theorem ggX10_rings_X2_countRings : GoodIn wsX10_rings wsX2_countRings := goodIn_r _ [54, 12, 55, 56, 57, 6, 58, 16, 78, 79, 80, 81] rfl (by decide +kernel)
set_option maxRecDepth 20000 in
theorem gX10_rings_X2_countRings : GoodIn wsX10_rings (wsV RX10 340 RX2 yX2_countRings wsX2_countRings) := goodIn_app (goodIn_of _ (by decide +kernel)) ggX10_rings_X2_countRings
theorem dX10_rings_0 : decode cX10_rings 0 = .ok (.aload_n 0, 1) := by decide +kernel
theorem dX10_rings_1 : decode cX10_rings 1 = .ok (.getfield 68, 3) := by decide +kernel
theorem dX10_rings_4 : decode cX10_rings 4 = .ok (.aload_n 0, 1) := by decide +kernel
theorem dX10_rings_5 : decode cX10_rings 5 = .ok (.getfield 12, 3) := by decide +kernel
theorem dX10_rings_8 : decode cX10_rings 8 = .ok (.getfield 321, 3) := by decide +kernel
theorem dX10_rings_11 : decode cX10_rings 11 = .ok (.invokevirtual 329, 3) := by decide +kernel
theorem dX10_rings_14 : decode cX10_rings 14 = .ok (.aload_n 0, 1) := by decide +kernel
theorem dX10_rings_15 : decode cX10_rings 15 = .ok (.getfield 68, 3) := by decide +kernel
theorem dX10_rings_18 : decode cX10_rings 18 = .ok (.invokevirtual 340, 3) := by decide +kernel
theorem dX10_rings_21 : decode cX10_rings 21 = .ok (.ireturn, 1) := by decide +kernel
set_option maxRecDepth 20000 in
theorem ggX10_join_X1_errorOn : GoodIn wsX10_join wsX1_errorOn := goodIn_r _ [13, 14, 15, 16, 17, 18, 19, 20, 21, 22, 23, 24, 25, 26, 12, 27, 28, 29, 30, 31, 32, 33, 34, 35, 36, 37, 38, 39, 40, 41, 42, 43, 44, 45, 46, 47, 48, 49, 50, 51, 52, 53, 54, 55, 56, 57, 58, 59, 60, 61, 62, 63, 64, 65, 66, 67, 68, 69, 70, 71, 72, 73, 74, 75, 76, 77, 78, 79, 80, 81, 82, 83, 84, 85, 86, 87, 88, 89, 90, 91, 92, 93, 94, 95, 96, 97, 218, 219, 220, 221, 222, 223, 224, 225, 226, 227, 228, 229, 230] rfl (by decide +kernel)
set_option maxRecDepth 20000 in
theorem gX10_join_X1_errorOn : GoodIn wsX10_join (wsV RX10 343 RX1 yX1_errorOn wsX1_errorOn) := goodIn_app (goodIn_of _ (by decide +kernel)) ggX10_join_X1_errorOn
set_option maxRecDepth 20000 in
theorem ggX10_join_X9_wasRead : GoodIn wsX10_join wsX9_wasRead := goodIn_r _ [101, 33, 102, 228, 229, 230] rfl (by decide +kernel)
set_option maxRecDepth 20000 in
theorem gX10_join_X9_wasRead : GoodIn wsX10_join (wsV RX10 110 RX9 yX9_wasRead wsX9_wasRead) := goodIn_app (goodIn_of _ (by decide +kernel)) ggX10_join_X9_wasRead
set_option maxRecDepth 20000 in
theorem ggX10_join_X6_copyFrom : GoodIn wsX10_join wsX6_copyFrom := goodIn_r _ [106, 107, 108, 109, 110, 111, 112, 113, 114, 115, 116, 117, 21, 118, 75, 76, 23, 119, 120, 121, 122, 210, 211, 212, 213, 214, 215, 216, 217, 225, 226, 227] rfl (by decide +kernel)
set_option maxRecDepth 20000 in
theorem gX10_join_X6_copyFrom : GoodIn wsX10_join (wsV RX10 349 RX6 yX6_copyFrom wsX6_copyFrom) := goodIn_app (goodIn_of _ (by decide +kernel)) ggX10_join_X6_copyFrom
set_option maxRecDepth 20000 in
theorem ggX10_join_X1_isJoinedTo : GoodIn wsX10_join wsX1_isJoinedTo := goodIn_r _ [126, 14, 67, 68, 69, 21, 70, 23, 127, 128, 12, 129, 71, 72, 73, 74, 75, 76, 130, 131, 132, 79, 133, 107, 134, 135, 136, 90, 91, 92, 137, 138, 139, 140, 141, 86, 87, 88, 89, 93, 94, 95, 96, 142, 143, 144, 145, 146, 147, 148, 149, 150, 97, 218, 219, 220, 221, 222, 223, 224, 210, 211, 212, 213, 214, 215, 216, 217, 225, 226, 227] rfl (by decide +kernel)
set_option maxRecDepth 20000 in
theorem gX10_join_X1_isJoinedTo : GoodIn wsX10_join (wsV RX10 352 RX1 yX1_isJoinedTo wsX1_isJoinedTo) := goodIn_app (goodIn_of _ (by decide +kernel)) ggX10_join_X1_isJoinedTo
set_option maxRecDepth 20000 in
theorem ggX10_join_X6_allLieAsTheyMay : GoodIn wsX10_join wsX6_allLieAsTheyMay := goodIn_r _ [154, 155, 156, 157, 79, 158, 109, 107, 159, 160, 161, 162, 134, 68, 69, 21, 70, 23, 135, 72, 73, 74, 75, 76, 163, 164, 165, 166, 167, 168, 169, 170, 110, 210, 211, 212, 213, 214, 215, 216, 217, 225, 226, 227] rfl (by decide +kernel)
set_option maxRecDepth 20000 in
theorem gX10_join_X6_allLieAsTheyMay : GoodIn wsX10_join (wsV RX10 356 RX6 yX6_allLieAsTheyMay wsX6_allLieAsTheyMay) := goodIn_app (goodIn_of _ (by decide +kernel)) ggX10_join_X6_allLieAsTheyMay
set_option maxRecDepth 20000 in
theorem ggX10_join_X10_keepState : GoodIn wsX10_join wsX10_keepState := goodIn_r _ [175, 176, 177, 178, 179, 79, 8, 180, 181, 182, 149, 183, 184, 185, 186, 187, 188, 189, 190, 191, 21, 107, 108, 109, 110, 111, 112, 113, 114, 192, 193, 194, 195, 23, 196, 148, 150, 75, 197, 76, 141, 86, 87, 88, 89, 90, 91, 92, 93, 94, 95, 96, 142, 103, 104, 105, 106, 115, 116, 117, 118, 119, 120, 121, 122, 199, 200, 201, 202, 203, 204, 205, 206, 207, 208, 209, 210, 211, 212, 213, 214, 215, 216, 217, 225, 226, 227] rfl (by decide +kernel)
set_option maxRecDepth 20000 in
theorem gX10_join_X10_keepState : GoodIn wsX10_join (wsV RX10 130 RX10 yX10_keepState wsX10_keepState) := goodIn_app (goodIn_of _ (by decide +kernel)) ggX10_join_X10_keepState
set_option maxRecDepth 20000 in
theorem ggX10_join_X8_size : GoodIn wsX10_join wsX8_size := goodIn_r _ [70, 23, 225, 226, 227] rfl (by decide +kernel)
set_option maxRecDepth 20000 in
theorem gX10_join_X8_size : GoodIn wsX10_join (wsV RX10 137 RX8 yX8_size wsX8_size) := goodIn_app (goodIn_of _ (by decide +kernel)) ggX10_join_X8_size
theorem dX10_join_0 : decode cX10_join 0 = .ok (.aload_n 0, 1) := by decide +kernel
theorem dX10_join_1 : decode cX10_join 1 = .ok (.getfield 40, 3) := by decide +kernel
theorem dX10_join_4 : decode cX10_join 4 = .ok (.aload_n 0, 1) := by decide +kernel
theorem dX10_join_5 : decode cX10_join 5 = .ok (.getfield 33, 3) := by decide +kernel
theorem dX10_join_8 : decode cX10_join 8 = .ok (.invokevirtual 343, 3) := by decide +kernel
theorem dX10_join_11 : decode cX10_join 11 = .ok (.istore_n 1, 1) := by decide +kernel
theorem dX10_join_12 : decode cX10_join 12 = .ok (.aload_n 0, 1) := by decide +kernel
theorem dX10_join_13 : decode cX10_join 13 = .ok (.getfield 33, 3) := by decide +kernel
theorem dX10_join_16 : decode cX10_join 16 = .ok (.iload_n 1, 1) := by decide +kernel
theorem dX10_join_17 : decode cX10_join 17 = .ok (.invokevirtual 110, 3) := by decide +kernel
theorem dX10_join_20 : decode cX10_join 20 = .ok (.iload_n 1, 1) := by decide +kernel
theorem dX10_join_21 : decode cX10_join 21 = .ok (.iconst (-1), 1) := by decide +kernel
theorem dX10_join_22 : decode cX10_join 22 = .ok (.if_icmp .eq 14, 3) := by decide +kernel
theorem dX10_join_25 : decode cX10_join 25 = .ok (.new 113, 3) := by decide +kernel
theorem dX10_join_28 : decode cX10_join 28 = .ok (.dup, 1) := by decide +kernel
theorem dX10_join_29 : decode cX10_join 29 = .ok (.ldc_w 347, 3) := by decide +kernel
theorem dX10_join_32 : decode cX10_join 32 = .ok (.invokespecial 117, 3) := by decide +kernel
theorem dX10_join_35 : decode cX10_join 35 = .ok (.athrow, 1) := by decide +kernel
theorem dX10_join_36 : decode cX10_join 36 = .ok (.aload_n 0, 1) := by decide +kernel
theorem dX10_join_37 : decode cX10_join 37 = .ok (.getfield 16, 3) := by decide +kernel
theorem dX10_join_40 : decode cX10_join 40 = .ok (.aload_n 0, 1) := by decide +kernel
theorem dX10_join_41 : decode cX10_join 41 = .ok (.getfield 12, 3) := by decide +kernel
theorem dX10_join_44 : decode cX10_join 44 = .ok (.invokevirtual 349, 3) := by decide +kernel
theorem dX10_join_47 : decode cX10_join 47 = .ok (.aload_n 0, 1) := by decide +kernel
theorem dX10_join_48 : decode cX10_join 48 = .ok (.getfield 40, 3) := by decide +kernel
theorem dX10_join_51 : decode cX10_join 51 = .ok (.aload_n 0, 1) := by decide +kernel
theorem dX10_join_52 : decode cX10_join 52 = .ok (.getfield 16, 3) := by decide +kernel
theorem dX10_join_55 : decode cX10_join 55 = .ok (.invokevirtual 352, 3) := by decide +kernel
theorem dX10_join_58 : decode cX10_join 58 = .ok (.ifCond .eq 13, 3) := by decide +kernel
theorem dX10_join_61 : decode cX10_join 61 = .ok (.aload_n 0, 1) := by decide +kernel
theorem dX10_join_62 : decode cX10_join 62 = .ok (.getfield 16, 3) := by decide +kernel
theorem dX10_join_65 : decode cX10_join 65 = .ok (.invokevirtual 356, 3) := by decide +kernel
theorem dX10_join_68 : decode cX10_join 68 = .ok (.ifCond .ne 14, 3) := by decide +kernel
theorem dX10_join_71 : decode cX10_join 71 = .ok (.new 80, 3) := by decide +kernel
theorem dX10_join_74 : decode cX10_join 74 = .ok (.dup, 1) := by decide +kernel
theorem dX10_join_75 : decode cX10_join 75 = .ok (.ldc_w 359, 3) := by decide +kernel
theorem dX10_join_78 : decode cX10_join 78 = .ok (.invokespecial 84, 3) := by decide +kernel
theorem dX10_join_81 : decode cX10_join 81 = .ok (.athrow, 1) := by decide +kernel
theorem dX10_join_82 : decode cX10_join 82 = .ok (.aload_n 0, 1) := by decide +kernel
theorem dX10_join_83 : decode cX10_join 83 = .ok (.invokevirtual 130, 3) := by decide +kernel
theorem dX10_join_86 : decode cX10_join 86 = .ok (.aload_n 0, 1) := by decide +kernel
theorem dX10_join_87 : decode cX10_join 87 = .ok (.getfield 16, 3) := by decide +kernel
theorem dX10_join_90 : decode cX10_join 90 = .ok (.getfield 118, 3) := by decide +kernel
theorem dX10_join_93 : decode cX10_join 93 = .ok (.invokevirtual 137, 3) := by decide +kernel
theorem dX10_join_96 : decode cX10_join 96 = .ok (.aload_n 0, 1) := by decide +kernel
theorem dX10_join_97 : decode cX10_join 97 = .ok (.getfield 12, 3) := by decide +kernel
theorem dX10_join_100 : decode cX10_join 100 = .ok (.getfield 118, 3) := by decide +kernel
theorem dX10_join_103 : decode cX10_join 103 = .ok (.invokevirtual 137, 3) := by decide +kernel
theorem dX10_join_106 : decode cX10_join 106 = .ok (.isub, 1) := by decide +kernel
theorem dX10_join_107 : decode cX10_join 107 = .ok (.istore_n 2, 1) := by decide +kernel
theorem dX10_join_108 : decode cX10_join 108 = .ok (.aload_n 0, 1) := by decide +kernel
theorem dX10_join_109 : decode cX10_join 109 = .ok (.getfield 12, 3) := by decide +kernel
theorem dX10_join_112 : decode cX10_join 112 = .ok (.aload_n 0, 1) := by decide +kernel
theorem dX10_join_113 : decode cX10_join 113 = .ok (.getfield 16, 3) := by decide +kernel
theorem dX10_join_116 : decode cX10_join 116 = .ok (.invokevirtual 349, 3) := by decide +kernel
theorem dX10_join_119 : decode cX10_join 119 = .ok (.iload_n 2, 1) := by decide +kernel
theorem dX10_join_120 : decode cX10_join 120 = .ok (.ireturn, 1) := by decide +kernel
set_option maxRecDepth 20000 in
theorem ggX10_write_X1_writeOut : GoodIn wsX10_write wsX1_writeOut := goodIn_r _ [7, 8, 9, 10, 11, 12, 13, 14, 15, 16, 6, 17, 18, 19, 20, 21, 22, 23, 24, 25, 26, 27, 28, 29, 30, 31, 32, 33, 34, 35, 36, 48, 49, 50, 51, 52, 53, 54, 55, 56, 57, 58, 59, 60, 61, 62, 63, 64, 65] rfl (by decide +kernel)
set_option maxRecDepth 20000 in
theorem gX10_write_X1_writeOut : GoodIn wsX10_write (wsV RX10 361 RX1 yX1_writeOut wsX1_writeOut) := goodIn_app (goodIn_of _ (by decide +kernel)) ggX10_write_X1_writeOut
theorem dX10_write_0 : decode cX10_write 0 = .ok (.aload_n 0, 1) := by decide +kernel
theorem dX10_write_1 : decode cX10_write 1 = .ok (.getfield 40, 3) := by decide +kernel
theorem dX10_write_4 : decode cX10_write 4 = .ok (.aload_n 0, 1) := by decide +kernel
theorem dX10_write_5 : decode cX10_write 5 = .ok (.getfield 12, 3) := by decide +kernel
theorem dX10_write_8 : decode cX10_write 8 = .ok (.invokevirtual 361, 3) := by decide +kernel
theorem dX10_write_11 : decode cX10_write 11 = .ok (.ireturn, 1) := by decide +kernel
set_option maxRecDepth 20000 in
theorem ggX10_writtenAt_X1_signs : GoodIn wsX10_writtenAt wsX1_signs := goodIn_r _ [8, 9, 26, 27, 28, 29, 30, 31, 32] rfl (by decide +kernel)
set_option maxRecDepth 20000 in
theorem gX10_writtenAt_X1_signs : GoodIn wsX10_writtenAt (wsV RX10 365 RX1 yX1_signs wsX1_signs) := goodIn_app (goodIn_of _ (by decide +kernel)) ggX10_writtenAt_X1_signs
set_option maxRecDepth 20000 in
theorem ggX10_writtenAt_X1_signAt : GoodIn wsX10_writtenAt wsX1_signAt := goodIn_r _ [13, 9, 14, 26, 27, 28, 29, 30, 31, 32] rfl (by decide +kernel)
set_option maxRecDepth 20000 in
theorem gX10_writtenAt_X1_signAt : GoodIn wsX10_writtenAt (wsV RX10 370 RX1 yX1_signAt wsX1_signAt) := goodIn_app (goodIn_of _ (by decide +kernel)) ggX10_writtenAt_X1_signAt
theorem dX10_writtenAt_0 : decode cX10_writtenAt 0 = .ok (.iload_n 1, 1) := by decide +kernel
theorem dX10_writtenAt_1 : decode cX10_writtenAt 1 = .ok (.ifCond .lt 14, 3) := by decide +kernel
theorem dX10_writtenAt_4 : decode cX10_writtenAt 4 = .ok (.iload_n 1, 1) := by decide +kernel
theorem dX10_writtenAt_5 : decode cX10_writtenAt 5 = .ok (.aload_n 0, 1) := by decide +kernel
theorem dX10_writtenAt_6 : decode cX10_writtenAt 6 = .ok (.getfield 40, 3) := by decide +kernel
theorem dX10_writtenAt_9 : decode cX10_writtenAt 9 = .ok (.invokevirtual 365, 3) := by decide +kernel
theorem dX10_writtenAt_12 : decode cX10_writtenAt 12 = .ok (.if_icmp .lt 14, 3) := by decide +kernel
theorem dX10_writtenAt_15 : decode cX10_writtenAt 15 = .ok (.new 173, 3) := by decide +kernel
theorem dX10_writtenAt_18 : decode cX10_writtenAt 18 = .ok (.dup, 1) := by decide +kernel
theorem dX10_writtenAt_19 : decode cX10_writtenAt 19 = .ok (.ldc_w 368, 3) := by decide +kernel
theorem dX10_writtenAt_22 : decode cX10_writtenAt 22 = .ok (.invokespecial 177, 3) := by decide +kernel
theorem dX10_writtenAt_25 : decode cX10_writtenAt 25 = .ok (.athrow, 1) := by decide +kernel
theorem dX10_writtenAt_26 : decode cX10_writtenAt 26 = .ok (.aload_n 0, 1) := by decide +kernel
theorem dX10_writtenAt_27 : decode cX10_writtenAt 27 = .ok (.getfield 40, 3) := by decide +kernel
theorem dX10_writtenAt_30 : decode cX10_writtenAt 30 = .ok (.iload_n 1, 1) := by decide +kernel
theorem dX10_writtenAt_31 : decode cX10_writtenAt 31 = .ok (.invokevirtual 370, 3) := by decide +kernel
theorem dX10_writtenAt_34 : decode cX10_writtenAt 34 = .ok (.ireturn, 1) := by decide +kernel
set_option maxRecDepth 20000 in
theorem ggX10_undo_X6_copyFrom : GoodIn wsX10_undo wsX6_copyFrom := goodIn_r _ [9, 10, 11, 12, 13, 14, 15, 16, 17, 18, 19, 20, 21, 22, 23, 24, 25, 26, 27, 28, 29, 41, 42, 43, 44, 45, 46, 47, 48, 49, 50, 51] rfl (by decide +kernel)
set_option maxRecDepth 20000 in
theorem gX10_undo_X6_copyFrom : GoodIn wsX10_undo (wsV RX10 349 RX6 yX6_copyFrom wsX6_copyFrom) := goodIn_app (goodIn_of _ (by decide +kernel)) ggX10_undo_X6_copyFrom
theorem dX10_undo_0 : decode cX10_undo 0 = .ok (.aload_n 0, 1) := by decide +kernel
theorem dX10_undo_1 : decode cX10_undo 1 = .ok (.getfield 23, 3) := by decide +kernel
theorem dX10_undo_4 : decode cX10_undo 4 = .ok (.ifCond .ne 8, 3) := by decide +kernel
theorem dX10_undo_7 : decode cX10_undo 7 = .ok (.bipush 14, 2) := by decide +kernel
theorem dX10_undo_9 : decode cX10_undo 9 = .ok (.goto 9, 3) := by decide +kernel
theorem dX10_undo_12 : decode cX10_undo 12 = .ok (.aload_n 0, 1) := by decide +kernel
theorem dX10_undo_13 : decode cX10_undo 13 = .ok (.getfield 23, 3) := by decide +kernel
theorem dX10_undo_16 : decode cX10_undo 16 = .ok (.iconst 1, 1) := by decide +kernel
theorem dX10_undo_17 : decode cX10_undo 17 = .ok (.isub, 1) := by decide +kernel
theorem dX10_undo_18 : decode cX10_undo 18 = .ok (.istore_n 1, 1) := by decide +kernel
theorem dX10_undo_19 : decode cX10_undo 19 = .ok (.aload_n 0, 1) := by decide +kernel
theorem dX10_undo_20 : decode cX10_undo 20 = .ok (.getfield 27, 3) := by decide +kernel
theorem dX10_undo_23 : decode cX10_undo 23 = .ok (.ifCond .eq 12, 3) := by decide +kernel
theorem dX10_undo_26 : decode cX10_undo 26 = .ok (.aload_n 0, 1) := by decide +kernel
theorem dX10_undo_27 : decode cX10_undo 27 = .ok (.getfield 19, 3) := by decide +kernel
theorem dX10_undo_30 : decode cX10_undo 30 = .ok (.iload_n 1, 1) := by decide +kernel
theorem dX10_undo_31 : decode cX10_undo 31 = .ok (.aaload, 1) := by decide +kernel
theorem dX10_undo_32 : decode cX10_undo 32 = .ok (.ifnonnull 5, 3) := by decide +kernel
theorem dX10_undo_35 : decode cX10_undo 35 = .ok (.iconst (-1), 1) := by decide +kernel
theorem dX10_undo_36 : decode cX10_undo 36 = .ok (.ireturn, 1) := by decide +kernel
theorem dX10_undo_37 : decode cX10_undo 37 = .ok (.aload_n 0, 1) := by decide +kernel
theorem dX10_undo_38 : decode cX10_undo 38 = .ok (.getfield 12, 3) := by decide +kernel
theorem dX10_undo_41 : decode cX10_undo 41 = .ok (.aload_n 0, 1) := by decide +kernel
theorem dX10_undo_42 : decode cX10_undo 42 = .ok (.getfield 19, 3) := by decide +kernel
theorem dX10_undo_45 : decode cX10_undo 45 = .ok (.iload_n 1, 1) := by decide +kernel
theorem dX10_undo_46 : decode cX10_undo 46 = .ok (.aaload, 1) := by decide +kernel
theorem dX10_undo_47 : decode cX10_undo 47 = .ok (.invokevirtual 349, 3) := by decide +kernel
theorem dX10_undo_50 : decode cX10_undo 50 = .ok (.aload_n 0, 1) := by decide +kernel
theorem dX10_undo_51 : decode cX10_undo 51 = .ok (.iload_n 1, 1) := by decide +kernel
theorem dX10_undo_52 : decode cX10_undo 52 = .ok (.putfield 23, 3) := by decide +kernel
theorem dX10_undo_55 : decode cX10_undo 55 = .ok (.aload_n 0, 1) := by decide +kernel
theorem dX10_undo_56 : decode cX10_undo 56 = .ok (.dup, 1) := by decide +kernel
theorem dX10_undo_57 : decode cX10_undo 57 = .ok (.getfield 27, 3) := by decide +kernel
theorem dX10_undo_60 : decode cX10_undo 60 = .ok (.iconst 1, 1) := by decide +kernel
theorem dX10_undo_61 : decode cX10_undo 61 = .ok (.isub, 1) := by decide +kernel
theorem dX10_undo_62 : decode cX10_undo 62 = .ok (.putfield 27, 3) := by decide +kernel
theorem dX10_undo_65 : decode cX10_undo 65 = .ok (.aload_n 0, 1) := by decide +kernel
theorem dX10_undo_66 : decode cX10_undo 66 = .ok (.getfield 27, 3) := by decide +kernel
theorem dX10_undo_69 : decode cX10_undo 69 = .ok (.ireturn, 1) := by decide +kernel
set_option maxRecDepth 20000 in
theorem ggX10_checksum_X8_size : GoodIn wsX10_checksum wsX8_size := goodIn_r _ [6, 7, 33, 34, 35] rfl (by decide +kernel)
set_option maxRecDepth 20000 in
theorem gX10_checksum_X8_size : GoodIn wsX10_checksum (wsV RX10 137 RX8 yX8_size wsX8_size) := goodIn_app (goodIn_of _ (by decide +kernel)) ggX10_checksum_X8_size
set_option maxRecDepth 20000 in
theorem ggX10_checksum_X8_get : GoodIn wsX10_checksum wsX8_get := goodIn_r _ [11, 7, 12, 13, 33, 34, 35] rfl (by decide +kernel)
set_option maxRecDepth 20000 in
theorem gX10_checksum_X8_get : GoodIn wsX10_checksum (wsV RX10 150 RX8 yX8_get wsX8_get) := goodIn_app (goodIn_of _ (by decide +kernel)) ggX10_checksum_X8_get
theorem dX10_checksum_0 : decode cX10_checksum 0 = .ok (.bipush 17, 2) := by decide +kernel
theorem dX10_checksum_2 : decode cX10_checksum 2 = .ok (.istore_n 1, 1) := by decide +kernel
theorem dX10_checksum_3 : decode cX10_checksum 3 = .ok (.iconst 0, 1) := by decide +kernel
theorem dX10_checksum_4 : decode cX10_checksum 4 = .ok (.istore_n 2, 1) := by decide +kernel
theorem dX10_checksum_5 : decode cX10_checksum 5 = .ok (.iload_n 2, 1) := by decide +kernel
theorem dX10_checksum_6 : decode cX10_checksum 6 = .ok (.aload_n 0, 1) := by decide +kernel
theorem dX10_checksum_7 : decode cX10_checksum 7 = .ok (.getfield 12, 3) := by decide +kernel
theorem dX10_checksum_10 : decode cX10_checksum 10 = .ok (.getfield 118, 3) := by decide +kernel
theorem dX10_checksum_13 : decode cX10_checksum 13 = .ok (.invokevirtual 137, 3) := by decide +kernel
theorem dX10_checksum_16 : decode cX10_checksum 16 = .ok (.if_icmp .ge 79, 3) := by decide +kernel
theorem dX10_checksum_19 : decode cX10_checksum 19 = .ok (.bipush 31, 2) := by decide +kernel
theorem dX10_checksum_21 : decode cX10_checksum 21 = .ok (.iload_n 1, 1) := by decide +kernel
theorem dX10_checksum_22 : decode cX10_checksum 22 = .ok (.imul, 1) := by decide +kernel
theorem dX10_checksum_23 : decode cX10_checksum 23 = .ok (.aload_n 0, 1) := by decide +kernel
theorem dX10_checksum_24 : decode cX10_checksum 24 = .ok (.getfield 12, 3) := by decide +kernel
theorem dX10_checksum_27 : decode cX10_checksum 27 = .ok (.getfield 118, 3) := by decide +kernel
theorem dX10_checksum_30 : decode cX10_checksum 30 = .ok (.iload_n 2, 1) := by decide +kernel
theorem dX10_checksum_31 : decode cX10_checksum 31 = .ok (.iconst 0, 1) := by decide +kernel
theorem dX10_checksum_32 : decode cX10_checksum 32 = .ok (.invokevirtual 150, 3) := by decide +kernel
theorem dX10_checksum_35 : decode cX10_checksum 35 = .ok (.iadd, 1) := by decide +kernel
theorem dX10_checksum_36 : decode cX10_checksum 36 = .ok (.aload_n 0, 1) := by decide +kernel
theorem dX10_checksum_37 : decode cX10_checksum 37 = .ok (.getfield 12, 3) := by decide +kernel
theorem dX10_checksum_40 : decode cX10_checksum 40 = .ok (.getfield 118, 3) := by decide +kernel
theorem dX10_checksum_43 : decode cX10_checksum 43 = .ok (.iload_n 2, 1) := by decide +kernel
theorem dX10_checksum_44 : decode cX10_checksum 44 = .ok (.iconst 1, 1) := by decide +kernel
theorem dX10_checksum_45 : decode cX10_checksum 45 = .ok (.invokevirtual 150, 3) := by decide +kernel
theorem dX10_checksum_48 : decode cX10_checksum 48 = .ok (.iadd, 1) := by decide +kernel
theorem dX10_checksum_49 : decode cX10_checksum 49 = .ok (.aload_n 0, 1) := by decide +kernel
theorem dX10_checksum_50 : decode cX10_checksum 50 = .ok (.getfield 12, 3) := by decide +kernel
theorem dX10_checksum_53 : decode cX10_checksum 53 = .ok (.getfield 118, 3) := by decide +kernel
theorem dX10_checksum_56 : decode cX10_checksum 56 = .ok (.iload_n 2, 1) := by decide +kernel
theorem dX10_checksum_57 : decode cX10_checksum 57 = .ok (.iconst 2, 1) := by decide +kernel
theorem dX10_checksum_58 : decode cX10_checksum 58 = .ok (.invokevirtual 150, 3) := by decide +kernel
theorem dX10_checksum_61 : decode cX10_checksum 61 = .ok (.iadd, 1) := by decide +kernel
theorem dX10_checksum_62 : decode cX10_checksum 62 = .ok (.aload_n 0, 1) := by decide +kernel
theorem dX10_checksum_63 : decode cX10_checksum 63 = .ok (.getfield 12, 3) := by decide +kernel
theorem dX10_checksum_66 : decode cX10_checksum 66 = .ok (.getfield 118, 3) := by decide +kernel
theorem dX10_checksum_69 : decode cX10_checksum 69 = .ok (.iload_n 2, 1) := by decide +kernel
theorem dX10_checksum_70 : decode cX10_checksum 70 = .ok (.iconst 3, 1) := by decide +kernel
theorem dX10_checksum_71 : decode cX10_checksum 71 = .ok (.invokevirtual 150, 3) := by decide +kernel
theorem dX10_checksum_74 : decode cX10_checksum 74 = .ok (.iadd, 1) := by decide +kernel
theorem dX10_checksum_75 : decode cX10_checksum 75 = .ok (.aload_n 0, 1) := by decide +kernel
theorem dX10_checksum_76 : decode cX10_checksum 76 = .ok (.getfield 12, 3) := by decide +kernel
theorem dX10_checksum_79 : decode cX10_checksum 79 = .ok (.getfield 118, 3) := by decide +kernel
theorem dX10_checksum_82 : decode cX10_checksum 82 = .ok (.iload_n 2, 1) := by decide +kernel
theorem dX10_checksum_83 : decode cX10_checksum 83 = .ok (.iconst 5, 1) := by decide +kernel
theorem dX10_checksum_84 : decode cX10_checksum 84 = .ok (.invokevirtual 150, 3) := by decide +kernel
theorem dX10_checksum_87 : decode cX10_checksum 87 = .ok (.iadd, 1) := by decide +kernel
theorem dX10_checksum_88 : decode cX10_checksum 88 = .ok (.istore_n 1, 1) := by decide +kernel
theorem dX10_checksum_89 : decode cX10_checksum 89 = .ok (.iinc 2 1, 3) := by decide +kernel
theorem dX10_checksum_92 : decode cX10_checksum 92 = .ok (.goto (-87), 3) := by decide +kernel
theorem dX10_checksum_95 : decode cX10_checksum 95 = .ok (.iload_n 1, 1) := by decide +kernel
theorem dX10_checksum_96 : decode cX10_checksum 96 = .ok (.ireturn, 1) := by decide +kernel
set_option maxRecDepth 20000 in
theorem ggX10_meanValue_X8_size : GoodIn wsX10_meanValue wsX8_size := goodIn_r _ [6, 7, 33, 34, 35] rfl (by decide +kernel)
set_option maxRecDepth 20000 in
theorem gX10_meanValue_X8_size : GoodIn wsX10_meanValue (wsV RX10 137 RX8 yX8_size wsX8_size) := goodIn_app (goodIn_of _ (by decide +kernel)) ggX10_meanValue_X8_size
set_option maxRecDepth 20000 in
theorem ggX10_meanValue_X8_get : GoodIn wsX10_meanValue wsX8_get := goodIn_r _ [11, 7, 12, 13, 33, 34, 35] rfl (by decide +kernel)
set_option maxRecDepth 20000 in
theorem gX10_meanValue_X8_get : GoodIn wsX10_meanValue (wsV RX10 150 RX8 yX8_get wsX8_get) := goodIn_app (goodIn_of _ (by decide +kernel)) ggX10_meanValue_X8_get
theorem dX10_meanValue_0 : decode cX10_meanValue 0 = .ok (.aload_n 0, 1) := by decide +kernel
theorem dX10_meanValue_1 : decode cX10_meanValue 1 = .ok (.getfield 12, 3) := by decide +kernel
theorem dX10_meanValue_4 : decode cX10_meanValue 4 = .ok (.getfield 118, 3) := by decide +kernel
theorem dX10_meanValue_7 : decode cX10_meanValue 7 = .ok (.invokevirtual 137, 3) := by decide +kernel
theorem dX10_meanValue_10 : decode cX10_meanValue 10 = .ok (.istore_n 1, 1) := by decide +kernel
theorem dX10_meanValue_11 : decode cX10_meanValue 11 = .ok (.iload_n 1, 1) := by decide +kernel
theorem dX10_meanValue_12 : decode cX10_meanValue 12 = .ok (.ifCond .gt 5, 3) := by decide +kernel
theorem dX10_meanValue_15 : decode cX10_meanValue 15 = .ok (.dconst 0, 1) := by decide +kernel
theorem dX10_meanValue_16 : decode cX10_meanValue 16 = .ok (.dreturn, 1) := by decide +kernel
theorem dX10_meanValue_17 : decode cX10_meanValue 17 = .ok (.iconst 0, 1) := by decide +kernel
theorem dX10_meanValue_18 : decode cX10_meanValue 18 = .ok (.istore_n 2, 1) := by decide +kernel
theorem dX10_meanValue_19 : decode cX10_meanValue 19 = .ok (.iconst 0, 1) := by decide +kernel
theorem dX10_meanValue_20 : decode cX10_meanValue 20 = .ok (.istore_n 3, 1) := by decide +kernel
theorem dX10_meanValue_21 : decode cX10_meanValue 21 = .ok (.iload_n 3, 1) := by decide +kernel
theorem dX10_meanValue_22 : decode cX10_meanValue 22 = .ok (.iload_n 1, 1) := by decide +kernel
theorem dX10_meanValue_23 : decode cX10_meanValue 23 = .ok (.if_icmp .ge 24, 3) := by decide +kernel
theorem dX10_meanValue_26 : decode cX10_meanValue 26 = .ok (.iload_n 2, 1) := by decide +kernel
theorem dX10_meanValue_27 : decode cX10_meanValue 27 = .ok (.aload_n 0, 1) := by decide +kernel
theorem dX10_meanValue_28 : decode cX10_meanValue 28 = .ok (.getfield 12, 3) := by decide +kernel
theorem dX10_meanValue_31 : decode cX10_meanValue 31 = .ok (.getfield 118, 3) := by decide +kernel
theorem dX10_meanValue_34 : decode cX10_meanValue 34 = .ok (.iload_n 3, 1) := by decide +kernel
theorem dX10_meanValue_35 : decode cX10_meanValue 35 = .ok (.iconst 3, 1) := by decide +kernel
theorem dX10_meanValue_36 : decode cX10_meanValue 36 = .ok (.invokevirtual 150, 3) := by decide +kernel
theorem dX10_meanValue_39 : decode cX10_meanValue 39 = .ok (.iadd, 1) := by decide +kernel
theorem dX10_meanValue_40 : decode cX10_meanValue 40 = .ok (.istore_n 2, 1) := by decide +kernel
theorem dX10_meanValue_41 : decode cX10_meanValue 41 = .ok (.iinc 3 1, 3) := by decide +kernel
theorem dX10_meanValue_44 : decode cX10_meanValue 44 = .ok (.goto (-23), 3) := by decide +kernel
theorem dX10_meanValue_47 : decode cX10_meanValue 47 = .ok (.iload_n 2, 1) := by decide +kernel
theorem dX10_meanValue_48 : decode cX10_meanValue 48 = .ok (.i2d, 1) := by decide +kernel
theorem dX10_meanValue_49 : decode cX10_meanValue 49 = .ok (.iload_n 1, 1) := by decide +kernel
theorem dX10_meanValue_50 : decode cX10_meanValue 50 = .ok (.i2d, 1) := by decide +kernel
theorem dX10_meanValue_51 : decode cX10_meanValue 51 = .ok (.ddiv, 1) := by decide +kernel
theorem dX10_meanValue_52 : decode cX10_meanValue 52 = .ok (.dreturn, 1) := by decide +kernel
set_option maxRecDepth 20000 in
theorem ggX10_laidShare_X8_size : GoodIn wsX10_laidShare wsX8_size := goodIn_r _ [6, 7, 40, 41, 42] rfl (by decide +kernel)
set_option maxRecDepth 20000 in
theorem gX10_laidShare_X8_size : GoodIn wsX10_laidShare (wsV RX10 137 RX8 yX8_size wsX8_size) := goodIn_app (goodIn_of _ (by decide +kernel)) ggX10_laidShare_X8_size
set_option maxRecDepth 20000 in
theorem ggX10_laidShare_X6_countIn : GoodIn wsX10_laidShare wsX6_countIn := goodIn_r _ [12, 13, 14, 3, 4, 5, 6, 7, 15, 16, 17, 18, 19, 20, 32, 33, 34, 35, 36, 37, 38, 39, 40, 41, 42] rfl (by decide +kernel)
set_option maxRecDepth 20000 in
theorem gX10_laidShare_X6_countIn : GoodIn wsX10_laidShare (wsV RX10 237 RX6 yX6_countIn wsX6_countIn) := goodIn_app (goodIn_of _ (by decide +kernel)) ggX10_laidShare_X6_countIn
theorem dX10_laidShare_0 : decode cX10_laidShare 0 = .ok (.aload_n 0, 1) := by decide +kernel
theorem dX10_laidShare_1 : decode cX10_laidShare 1 = .ok (.getfield 12, 3) := by decide +kernel
theorem dX10_laidShare_4 : decode cX10_laidShare 4 = .ok (.getfield 118, 3) := by decide +kernel
theorem dX10_laidShare_7 : decode cX10_laidShare 7 = .ok (.invokevirtual 137, 3) := by decide +kernel
theorem dX10_laidShare_10 : decode cX10_laidShare 10 = .ok (.istore_n 1, 1) := by decide +kernel
theorem dX10_laidShare_11 : decode cX10_laidShare 11 = .ok (.iload_n 1, 1) := by decide +kernel
theorem dX10_laidShare_12 : decode cX10_laidShare 12 = .ok (.ifCond .gt 5, 3) := by decide +kernel
theorem dX10_laidShare_15 : decode cX10_laidShare 15 = .ok (.fconst 0, 1) := by decide +kernel
theorem dX10_laidShare_16 : decode cX10_laidShare 16 = .ok (.freturn, 1) := by decide +kernel
theorem dX10_laidShare_17 : decode cX10_laidShare 17 = .ok (.iconst 0, 1) := by decide +kernel
theorem dX10_laidShare_18 : decode cX10_laidShare 18 = .ok (.istore_n 2, 1) := by decide +kernel
theorem dX10_laidShare_19 : decode cX10_laidShare 19 = .ok (.iconst 0, 1) := by decide +kernel
theorem dX10_laidShare_20 : decode cX10_laidShare 20 = .ok (.istore_n 3, 1) := by decide +kernel
theorem dX10_laidShare_21 : decode cX10_laidShare 21 = .ok (.iload_n 3, 1) := by decide +kernel
theorem dX10_laidShare_22 : decode cX10_laidShare 22 = .ok (.iconst 4, 1) := by decide +kernel
theorem dX10_laidShare_23 : decode cX10_laidShare 23 = .ok (.if_icmp .ge 20, 3) := by decide +kernel
theorem dX10_laidShare_26 : decode cX10_laidShare 26 = .ok (.iload_n 2, 1) := by decide +kernel
theorem dX10_laidShare_27 : decode cX10_laidShare 27 = .ok (.aload_n 0, 1) := by decide +kernel
theorem dX10_laidShare_28 : decode cX10_laidShare 28 = .ok (.getfield 12, 3) := by decide +kernel
theorem dX10_laidShare_31 : decode cX10_laidShare 31 = .ok (.iload_n 3, 1) := by decide +kernel
theorem dX10_laidShare_32 : decode cX10_laidShare 32 = .ok (.invokevirtual 237, 3) := by decide +kernel
theorem dX10_laidShare_35 : decode cX10_laidShare 35 = .ok (.iadd, 1) := by decide +kernel
theorem dX10_laidShare_36 : decode cX10_laidShare 36 = .ok (.istore_n 2, 1) := by decide +kernel
theorem dX10_laidShare_37 : decode cX10_laidShare 37 = .ok (.iinc 3 1, 3) := by decide +kernel
theorem dX10_laidShare_40 : decode cX10_laidShare 40 = .ok (.goto (-19), 3) := by decide +kernel
theorem dX10_laidShare_43 : decode cX10_laidShare 43 = .ok (.iload_n 2, 1) := by decide +kernel
theorem dX10_laidShare_44 : decode cX10_laidShare 44 = .ok (.i2f, 1) := by decide +kernel
theorem dX10_laidShare_45 : decode cX10_laidShare 45 = .ok (.iload_n 1, 1) := by decide +kernel
theorem dX10_laidShare_46 : decode cX10_laidShare 46 = .ok (.i2f, 1) := by decide +kernel
theorem dX10_laidShare_47 : decode cX10_laidShare 47 = .ok (.fdiv, 1) := by decide +kernel
theorem dX10_laidShare_48 : decode cX10_laidShare 48 = .ok (.freturn, 1) := by decide +kernel
set_option maxRecDepth 20000 in
theorem ggX10_errors_X5_lookAt : GoodIn wsX10_errors wsX5_lookAt := goodIn_r _ [8, 9, 10, 11, 12, 13, 14, 15, 16, 17, 18, 19, 20, 21, 22, 23, 24, 7, 25, 26, 27, 28, 29, 30, 31, 32, 33, 34, 35, 36, 37, 38, 39, 40, 41, 42, 43, 44, 45, 46, 47, 48, 49, 50, 51, 52, 53, 54, 55, 56, 57, 58, 59, 60, 61, 62, 63, 64, 65, 66, 67, 68, 69, 70, 71, 72, 73, 74, 75, 76, 77, 78, 79, 80, 81, 82, 83, 84, 85, 86, 87, 88, 89, 90, 91, 92, 93, 94, 95, 96, 224, 225, 226, 227, 228, 229, 230, 231, 232, 233, 234, 235, 236, 237, 238, 239, 240, 241, 242, 243, 244, 245] rfl (by decide +kernel)
set_option maxRecDepth 20000 in
theorem gX10_errors_X5_lookAt : GoodIn wsX10_errors (wsV RX10 181 RX5 yX5_lookAt wsX5_lookAt) := goodIn_app (goodIn_of _ (by decide +kernel)) ggX10_errors_X5_lookAt
set_option maxRecDepth 20000 in
theorem ggX10_errors_X5_miscounts : GoodIn wsX10_errors wsX5_miscounts := goodIn_r _ [100, 83, 13, 101, 102, 103, 7, 104, 48, 49, 50, 51, 52, 105, 106, 107, 108, 62, 36, 37, 38, 109, 110, 111, 112, 63, 232, 233, 234, 235, 236, 237, 238, 239, 240, 241, 242] rfl (by decide +kernel)
set_option maxRecDepth 20000 in
theorem gX10_errors_X5_miscounts : GoodIn wsX10_errors (wsV RX10 374 RX5 yX5_miscounts wsX5_miscounts) := goodIn_app (goodIn_of _ (by decide +kernel)) ggX10_errors_X5_miscounts
set_option maxRecDepth 20000 in
theorem ggX10_errors_X6_whyNot : GoodIn wsX10_errors wsX6_whyNot := goodIn_r _ [117, 118, 119, 120, 121, 122, 116, 123, 124, 17, 18, 19, 20, 21, 125, 31, 32, 33, 34, 35, 126, 127, 128, 129, 130, 131, 132, 133, 134, 224, 225, 226, 227, 228, 229, 230, 231, 243, 244, 245] rfl (by decide +kernel)
set_option maxRecDepth 20000 in
theorem gX10_errors_X6_whyNot : GoodIn wsX10_errors (wsV RX10 234 RX6 yX6_whyNot wsX6_whyNot) := goodIn_app (goodIn_of _ (by decide +kernel)) ggX10_errors_X6_whyNot
set_option maxRecDepth 20000 in
theorem ggX10_errors_X8_size : GoodIn wsX10_errors wsX8_size := goodIn_r _ [20, 21, 243, 244, 245] rfl (by decide +kernel)
set_option maxRecDepth 20000 in
theorem gX10_errors_X8_size : GoodIn wsX10_errors (wsV RX10 137 RX8 yX8_size wsX8_size) := goodIn_app (goodIn_of _ (by decide +kernel)) ggX10_errors_X8_size
set_option maxRecDepth 20000 in
theorem ggX10_errors_X8_get : GoodIn wsX10_errors wsX8_get := goodIn_r _ [33, 21, 34, 35, 243, 244, 245] rfl (by decide +kernel)
set_option maxRecDepth 20000 in
theorem gX10_errors_X8_get : GoodIn wsX10_errors (wsV RX10 150 RX8 yX8_get wsX8_get) := goodIn_app (goodIn_of _ (by decide +kernel)) ggX10_errors_X8_get
set_option maxRecDepth 20000 in
theorem ggX10_errors_X4_isOver : GoodIn wsX10_errors wsX4_isOver := goodIn_r _ [140, 141, 17, 18, 19, 20, 21, 142, 31, 32, 33, 34, 35, 143, 144, 139, 145, 146, 147, 148, 149, 150, 151, 152, 153, 154, 155, 156, 157, 158, 159, 10, 11, 12, 160, 161, 162, 163, 164, 165, 166, 167, 168, 169, 170, 171, 172, 224, 225, 226, 227, 228, 229, 230, 231, 243, 244, 245] rfl (by decide +kernel)
set_option maxRecDepth 20000 in
theorem gX10_errors_X4_isOver : GoodIn wsX10_errors (va_wsS RX10 295 yX4_isOver wsX4_isOver) := goodIn_app (goodIn_of _ (by decide +kernel)) ggX10_errors_X4_isOver
set_option maxRecDepth 20000 in
theorem ggX10_errors_X7_lookAt : GoodIn wsX10_errors wsX7_lookAt := goodIn_r _ [177, 178, 179, 180, 181, 17, 18, 19, 20, 21, 182, 31, 32, 33, 34, 35, 183, 184, 176, 185, 186, 187, 188, 189, 190, 191, 192, 193, 194, 195, 196, 197, 224, 225, 226, 227, 228, 229, 230, 231, 246, 247, 248, 243, 244, 245] rfl (by decide +kernel)
set_option maxRecDepth 20000 in
theorem gX10_errors_X7_lookAt : GoodIn wsX10_errors (wsV RX10 262 RX7 yX7_lookAt wsX7_lookAt) := goodIn_app (goodIn_of _ (by decide +kernel)) ggX10_errors_X7_lookAt
set_option maxRecDepth 20000 in
theorem ggX10_errors_X7_gaps : GoodIn wsX10_errors wsX7_gaps := goodIn_r _ [201, 180, 178, 202, 147, 148, 149, 150, 151, 152, 153, 154, 155, 156, 157, 158, 159, 10, 11, 12, 160, 161, 162, 163, 164, 165, 166, 203, 204, 205, 176, 206, 207, 208, 209, 210, 211, 212, 246, 247, 248] rfl (by decide +kernel)
set_option maxRecDepth 20000 in
theorem gX10_errors_X7_gaps : GoodIn wsX10_errors (wsV RX10 377 RX7 yX7_gaps wsX7_gaps) := goodIn_app (goodIn_of _ (by decide +kernel)) ggX10_errors_X7_gaps
theorem dX10_errors_0 : decode cX10_errors 0 = .ok (.aload_n 0, 1) := by decide +kernel
theorem dX10_errors_1 : decode cX10_errors 1 = .ok (.getfield 47, 3) := by decide +kernel
theorem dX10_errors_4 : decode cX10_errors 4 = .ok (.aload_n 0, 1) := by decide +kernel
theorem dX10_errors_5 : decode cX10_errors 5 = .ok (.getfield 12, 3) := by decide +kernel
theorem dX10_errors_8 : decode cX10_errors 8 = .ok (.invokevirtual 181, 3) := by decide +kernel
theorem dX10_errors_11 : decode cX10_errors 11 = .ok (.aload_n 0, 1) := by decide +kernel
theorem dX10_errors_12 : decode cX10_errors 12 = .ok (.getfield 47, 3) := by decide +kernel
theorem dX10_errors_15 : decode cX10_errors 15 = .ok (.invokevirtual 374, 3) := by decide +kernel
theorem dX10_errors_18 : decode cX10_errors 18 = .ok (.istore_n 1, 1) := by decide +kernel
theorem dX10_errors_19 : decode cX10_errors 19 = .ok (.iconst 0, 1) := by decide +kernel
theorem dX10_errors_20 : decode cX10_errors 20 = .ok (.istore_n 2, 1) := by decide +kernel
theorem dX10_errors_21 : decode cX10_errors 21 = .ok (.iload_n 2, 1) := by decide +kernel
theorem dX10_errors_22 : decode cX10_errors 22 = .ok (.iconst 4, 1) := by decide +kernel
theorem dX10_errors_23 : decode cX10_errors 23 = .ok (.if_icmp .ge 23, 3) := by decide +kernel
theorem dX10_errors_26 : decode cX10_errors 26 = .ok (.aload_n 0, 1) := by decide +kernel
theorem dX10_errors_27 : decode cX10_errors 27 = .ok (.getfield 12, 3) := by decide +kernel
theorem dX10_errors_30 : decode cX10_errors 30 = .ok (.iload_n 2, 1) := by decide +kernel
theorem dX10_errors_31 : decode cX10_errors 31 = .ok (.invokevirtual 234, 3) := by decide +kernel
theorem dX10_errors_34 : decode cX10_errors 34 = .ok (.ifCond .eq 6, 3) := by decide +kernel
theorem dX10_errors_37 : decode cX10_errors 37 = .ok (.iinc 1 1, 3) := by decide +kernel
theorem dX10_errors_40 : decode cX10_errors 40 = .ok (.iinc 2 1, 3) := by decide +kernel
theorem dX10_errors_43 : decode cX10_errors 43 = .ok (.goto (-22), 3) := by decide +kernel
theorem dX10_errors_46 : decode cX10_errors 46 = .ok (.iconst 0, 1) := by decide +kernel
theorem dX10_errors_47 : decode cX10_errors 47 = .ok (.istore_n 2, 1) := by decide +kernel
theorem dX10_errors_48 : decode cX10_errors 48 = .ok (.iload_n 2, 1) := by decide +kernel
theorem dX10_errors_49 : decode cX10_errors 49 = .ok (.aload_n 0, 1) := by decide +kernel
theorem dX10_errors_50 : decode cX10_errors 50 = .ok (.getfield 12, 3) := by decide +kernel
theorem dX10_errors_53 : decode cX10_errors 53 = .ok (.getfield 118, 3) := by decide +kernel
theorem dX10_errors_56 : decode cX10_errors 56 = .ok (.invokevirtual 137, 3) := by decide +kernel
theorem dX10_errors_59 : decode cX10_errors 59 = .ok (.if_icmp .ge 65, 3) := by decide +kernel
theorem dX10_errors_62 : decode cX10_errors 62 = .ok (.aload_n 0, 1) := by decide +kernel
theorem dX10_errors_63 : decode cX10_errors 63 = .ok (.getfield 12, 3) := by decide +kernel
theorem dX10_errors_66 : decode cX10_errors 66 = .ok (.iload_n 2, 1) := by decide +kernel
theorem dX10_errors_67 : decode cX10_errors 67 = .ok (.aload_n 0, 1) := by decide +kernel
theorem dX10_errors_68 : decode cX10_errors 68 = .ok (.getfield 12, 3) := by decide +kernel
theorem dX10_errors_71 : decode cX10_errors 71 = .ok (.getfield 118, 3) := by decide +kernel
theorem dX10_errors_74 : decode cX10_errors 74 = .ok (.iload_n 2, 1) := by decide +kernel
theorem dX10_errors_75 : decode cX10_errors 75 = .ok (.bipush 6, 2) := by decide +kernel
theorem dX10_errors_77 : decode cX10_errors 77 = .ok (.invokevirtual 150, 3) := by decide +kernel
theorem dX10_errors_80 : decode cX10_errors 80 = .ok (.invokestatic 295, 3) := by decide +kernel
theorem dX10_errors_83 : decode cX10_errors 83 = .ok (.ifCond .eq 6, 3) := by decide +kernel
theorem dX10_errors_86 : decode cX10_errors 86 = .ok (.iinc 1 1, 3) := by decide +kernel
theorem dX10_errors_89 : decode cX10_errors 89 = .ok (.aload_n 0, 1) := by decide +kernel
theorem dX10_errors_90 : decode cX10_errors 90 = .ok (.getfield 61, 3) := by decide +kernel
theorem dX10_errors_93 : decode cX10_errors 93 = .ok (.aload_n 0, 1) := by decide +kernel
theorem dX10_errors_94 : decode cX10_errors 94 = .ok (.getfield 12, 3) := by decide +kernel
theorem dX10_errors_97 : decode cX10_errors 97 = .ok (.iload_n 2, 1) := by decide +kernel
theorem dX10_errors_98 : decode cX10_errors 98 = .ok (.aload_n 0, 1) := by decide +kernel
theorem dX10_errors_99 : decode cX10_errors 99 = .ok (.getfield 12, 3) := by decide +kernel
theorem dX10_errors_102 : decode cX10_errors 102 = .ok (.getfield 255, 3) := by decide +kernel
theorem dX10_errors_105 : decode cX10_errors 105 = .ok (.invokevirtual 262, 3) := by decide +kernel
theorem dX10_errors_108 : decode cX10_errors 108 = .ok (.iload_n 1, 1) := by decide +kernel
theorem dX10_errors_109 : decode cX10_errors 109 = .ok (.aload_n 0, 1) := by decide +kernel
theorem dX10_errors_110 : decode cX10_errors 110 = .ok (.getfield 61, 3) := by decide +kernel
theorem dX10_errors_113 : decode cX10_errors 113 = .ok (.invokevirtual 377, 3) := by decide +kernel
theorem dX10_errors_116 : decode cX10_errors 116 = .ok (.iadd, 1) := by decide +kernel
theorem dX10_errors_117 : decode cX10_errors 117 = .ok (.istore_n 1, 1) := by decide +kernel
theorem dX10_errors_118 : decode cX10_errors 118 = .ok (.iinc 2 1, 3) := by decide +kernel
theorem dX10_errors_121 : decode cX10_errors 121 = .ok (.goto (-73), 3) := by decide +kernel
theorem dX10_errors_124 : decode cX10_errors 124 = .ok (.iload_n 1, 1) := by decide +kernel
theorem dX10_errors_125 : decode cX10_errors 125 = .ok (.ireturn, 1) := by decide +kernel
set_option maxRecDepth 20000 in
theorem ggX10_needStone_X8_has : GoodIn wsX10_needStone wsX8_has := goodIn_r _ [8, 9, 29, 30, 31] rfl (by decide +kernel)
set_option maxRecDepth 20000 in
theorem gX10_needStone_X8_has : GoodIn wsX10_needStone (wsV RX10 169 RX8 yX8_has wsX8_has) := goodIn_app (goodIn_of _ (by decide +kernel)) ggX10_needStone_X8_has
theorem dX10_needStone_0 : decode cX10_needStone 0 = .ok (.aload_n 0, 1) := by decide +kernel
theorem dX10_needStone_1 : decode cX10_needStone 1 = .ok (.getfield 12, 3) := by decide +kernel
theorem dX10_needStone_4 : decode cX10_needStone 4 = .ok (.getfield 118, 3) := by decide +kernel
theorem dX10_needStone_7 : decode cX10_needStone 7 = .ok (.iload_n 1, 1) := by decide +kernel
theorem dX10_needStone_8 : decode cX10_needStone 8 = .ok (.invokevirtual 169, 3) := by decide +kernel
theorem dX10_needStone_11 : decode cX10_needStone 11 = .ok (.ifCond .ne 14, 3) := by decide +kernel
theorem dX10_needStone_14 : decode cX10_needStone 14 = .ok (.new 173, 3) := by decide +kernel
theorem dX10_needStone_17 : decode cX10_needStone 17 = .ok (.dup, 1) := by decide +kernel
theorem dX10_needStone_18 : decode cX10_needStone 18 = .ok (.ldc_w 380, 3) := by decide +kernel
theorem dX10_needStone_21 : decode cX10_needStone 21 = .ok (.invokespecial 177, 3) := by decide +kernel
theorem dX10_needStone_24 : decode cX10_needStone 24 = .ok (.athrow, 1) := by decide +kernel
theorem dX10_needStone_25 : decode cX10_needStone 25 = .ok (.return_, 1) := by decide +kernel
set_option maxRecDepth 20000 in
theorem ggX10_needTwoStones_X10_needStone : GoodIn wsX10_needTwoStones wsX10_needStone := goodIn_ca (goodIn_r _ [7, 8, 9, 10, 11, 12, 13, 14, 15, 16, 17, 18, 19, 20, 21, 22, 23, 24, 25, 26, 27, 28, 29, 30, 31, 32, 33, 34, 35, 36, 37, 38] rfl (by decide +kernel)) (goodIn_sub (fun _ h => List.mem_cons_of_mem _ (List.mem_append_right _ h)) (by decide +kernel))
set_option maxRecDepth 20000 in
theorem gX10_needTwoStones_X10_needStone : GoodIn wsX10_needTwoStones (wsV RX10 140 RX10 yX10_needStone wsX10_needStone) := goodIn_app (goodIn_of _ (by decide +kernel)) ggX10_needTwoStones_X10_needStone
theorem dX10_needTwoStones_0 : decode cX10_needTwoStones 0 = .ok (.aload_n 0, 1) := by decide +kernel
theorem dX10_needTwoStones_1 : decode cX10_needTwoStones 1 = .ok (.iload_n 1, 1) := by decide +kernel
theorem dX10_needTwoStones_2 : decode cX10_needTwoStones 2 = .ok (.invokevirtual 140, 3) := by decide +kernel
theorem dX10_needTwoStones_5 : decode cX10_needTwoStones 5 = .ok (.aload_n 0, 1) := by decide +kernel
theorem dX10_needTwoStones_6 : decode cX10_needTwoStones 6 = .ok (.iload_n 2, 1) := by decide +kernel
theorem dX10_needTwoStones_7 : decode cX10_needTwoStones 7 = .ok (.invokevirtual 140, 3) := by decide +kernel
theorem dX10_needTwoStones_10 : decode cX10_needTwoStones 10 = .ok (.iload_n 1, 1) := by decide +kernel
theorem dX10_needTwoStones_11 : decode cX10_needTwoStones 11 = .ok (.iload_n 2, 1) := by decide +kernel
theorem dX10_needTwoStones_12 : decode cX10_needTwoStones 12 = .ok (.if_icmp .ne 14, 3) := by decide +kernel
theorem dX10_needTwoStones_15 : decode cX10_needTwoStones 15 = .ok (.new 113, 3) := by decide +kernel
theorem dX10_needTwoStones_18 : decode cX10_needTwoStones 18 = .ok (.dup, 1) := by decide +kernel
theorem dX10_needTwoStones_19 : decode cX10_needTwoStones 19 = .ok (.ldc_w 382, 3) := by decide +kernel
theorem dX10_needTwoStones_22 : decode cX10_needTwoStones 22 = .ok (.invokespecial 117, 3) := by decide +kernel
theorem dX10_needTwoStones_25 : decode cX10_needTwoStones 25 = .ok (.athrow, 1) := by decide +kernel
theorem dX10_needTwoStones_26 : decode cX10_needTwoStones 26 = .ok (.return_, 1) := by decide +kernel
theorem dX10_needRange_0 : decode cX10_needRange 0 = .ok (.iload_n 0, 1) := by decide +kernel
theorem dX10_needRange_1 : decode cX10_needRange 1 = .ok (.iload_n 1, 1) := by decide +kernel
theorem dX10_needRange_2 : decode cX10_needRange 2 = .ok (.if_icmp .lt 8, 3) := by decide +kernel
theorem dX10_needRange_5 : decode cX10_needRange 5 = .ok (.iload_n 0, 1) := by decide +kernel
theorem dX10_needRange_6 : decode cX10_needRange 6 = .ok (.iload_n 2, 1) := by decide +kernel
theorem dX10_needRange_7 : decode cX10_needRange 7 = .ok (.if_icmp .le 14, 3) := by decide +kernel
theorem dX10_needRange_10 : decode cX10_needRange 10 = .ok (.new 113, 3) := by decide +kernel
theorem dX10_needRange_13 : decode cX10_needRange 13 = .ok (.dup, 1) := by decide +kernel
theorem dX10_needRange_14 : decode cX10_needRange 14 = .ok (.ldc_w 384, 3) := by decide +kernel
theorem dX10_needRange_17 : decode cX10_needRange 17 = .ok (.invokespecial 117, 3) := by decide +kernel
theorem dX10_needRange_20 : decode cX10_needRange 20 = .ok (.athrow, 1) := by decide +kernel
theorem dX10_needRange_21 : decode cX10_needRange 21 = .ok (.return_, 1) := by decide +kernel
set_option maxRecDepth 20000 in
theorem ggX10_needDate_X0_isDate : GoodIn wsX10_needDate wsX0_isDate := goodIn_r _ [6, 7, 8, 5, 9, 10, 11, 12, 13, 14, 15, 16, 17, 18, 19, 20, 21, 22, 23] rfl (by decide +kernel)
set_option maxRecDepth 20000 in
theorem gX10_needDate_X0_isDate : GoodIn wsX10_needDate (va_wsS RX10 386 yX0_isDate wsX0_isDate) := goodIn_app (goodIn_of _ (by decide +kernel)) ggX10_needDate_X0_isDate
theorem dX10_needDate_0 : decode cX10_needDate 0 = .ok (.iload_n 0, 1) := by decide +kernel
theorem dX10_needDate_1 : decode cX10_needDate 1 = .ok (.invokestatic 386, 3) := by decide +kernel
theorem dX10_needDate_4 : decode cX10_needDate 4 = .ok (.ifCond .ne 14, 3) := by decide +kernel
theorem dX10_needDate_7 : decode cX10_needDate 7 = .ok (.new 113, 3) := by decide +kernel
theorem dX10_needDate_10 : decode cX10_needDate 10 = .ok (.dup, 1) := by decide +kernel
theorem dX10_needDate_11 : decode cX10_needDate 11 = .ok (.ldc_w 389, 3) := by decide +kernel
theorem dX10_needDate_14 : decode cX10_needDate 14 = .ok (.invokespecial 117, 3) := by decide +kernel
theorem dX10_needDate_17 : decode cX10_needDate 17 = .ok (.athrow, 1) := by decide +kernel
theorem dX10_needDate_18 : decode cX10_needDate 18 = .ok (.return_, 1) := by decide +kernel
set_option maxRecDepth 20000 in
theorem ggX10_needDates_X10_needDate : GoodIn wsX10_needDates wsX10_needDate := goodIn_ca (goodIn_r _ [6, 1, 2, 7, 8, 9, 10, 11, 12, 13, 14, 15, 16, 17, 18, 19, 20, 21, 22, 23, 24, 25, 26, 27] rfl (by decide +kernel)) (goodIn_sub (fun _ h => List.mem_cons_of_mem _ (List.mem_append_right _ h)) (by decide +kernel))
set_option maxRecDepth 20000 in
theorem gX10_needDates_X10_needDate : GoodIn wsX10_needDates (va_wsS RX10 247 yX10_needDate wsX10_needDate) := goodIn_app (goodIn_of _ (by decide +kernel)) ggX10_needDates_X10_needDate
theorem dX10_needDates_0 : decode cX10_needDates 0 = .ok (.iload_n 0, 1) := by decide +kernel
theorem dX10_needDates_1 : decode cX10_needDates 1 = .ok (.invokestatic 247, 3) := by decide +kernel
theorem dX10_needDates_4 : decode cX10_needDates 4 = .ok (.iload_n 1, 1) := by decide +kernel
theorem dX10_needDates_5 : decode cX10_needDates 5 = .ok (.invokestatic 247, 3) := by decide +kernel
theorem dX10_needDates_8 : decode cX10_needDates 8 = .ok (.iload_n 1, 1) := by decide +kernel
theorem dX10_needDates_9 : decode cX10_needDates 9 = .ok (.iload_n 0, 1) := by decide +kernel
theorem dX10_needDates_10 : decode cX10_needDates 10 = .ok (.if_icmp .ge 14, 3) := by decide +kernel
theorem dX10_needDates_13 : decode cX10_needDates 13 = .ok (.new 113, 3) := by decide +kernel
theorem dX10_needDates_16 : decode cX10_needDates 16 = .ok (.dup, 1) := by decide +kernel
theorem dX10_needDates_17 : decode cX10_needDates 17 = .ok (.ldc_w 391, 3) := by decide +kernel
theorem dX10_needDates_20 : decode cX10_needDates 20 = .ok (.invokespecial 117, 3) := by decide +kernel
theorem dX10_needDates_23 : decode cX10_needDates 23 = .ok (.athrow, 1) := by decide +kernel
theorem dX10_needDates_24 : decode cX10_needDates 24 = .ok (.return_, 1) := by decide +kernel
set_option maxRecDepth 20000 in
theorem ggX10_keepState_X6_init : GoodIn wsX10_keepState wsX6_init := goodIn_r _ [14, 15, 16, 17, 18, 19, 20, 21, 22, 23, 24, 25, 26, 27, 28, 29, 30, 31, 32, 33, 34, 35, 10, 36, 37, 38, 39, 40, 41, 42, 43, 44, 45, 46, 47, 48, 49, 50, 51, 52, 84, 85, 86, 76, 77, 78, 79, 80, 81, 82, 83] rfl (by decide +kernel)
set_option maxRecDepth 20000 in
theorem gX10_keepState_X6_init : GoodIn wsX10_keepState (wsX6_init) := ggX10_keepState_X6_init
set_option maxRecDepth 20000 in
theorem ggX10_keepState_X6_copyFrom : GoodIn wsX10_keepState wsX6_copyFrom := goodIn_r _ [56, 21, 22, 23, 24, 25, 26, 27, 28, 57, 58, 59, 20, 60, 37, 39, 33, 61, 62, 63, 64, 76, 77, 78, 79, 80, 81, 82, 83, 84, 85, 86] rfl (by decide +kernel)
set_option maxRecDepth 20000 in
theorem gX10_keepState_X6_copyFrom : GoodIn wsX10_keepState (wsV RX10 349 RX6 yX6_copyFrom wsX6_copyFrom) := goodIn_app (goodIn_of _ (by decide +kernel)) ggX10_keepState_X6_copyFrom
theorem dX10_keepState_0 : decode cX10_keepState 0 = .ok (.aload_n 0, 1) := by decide +kernel
theorem dX10_keepState_1 : decode cX10_keepState 1 = .ok (.getfield 19, 3) := by decide +kernel
theorem dX10_keepState_4 : decode cX10_keepState 4 = .ok (.aload_n 0, 1) := by decide +kernel
theorem dX10_keepState_5 : decode cX10_keepState 5 = .ok (.getfield 23, 3) := by decide +kernel
theorem dX10_keepState_8 : decode cX10_keepState 8 = .ok (.aaload, 1) := by decide +kernel
theorem dX10_keepState_9 : decode cX10_keepState 9 = .ok (.ifnonnull 19, 3) := by decide +kernel
theorem dX10_keepState_12 : decode cX10_keepState 12 = .ok (.aload_n 0, 1) := by decide +kernel
theorem dX10_keepState_13 : decode cX10_keepState 13 = .ok (.getfield 19, 3) := by decide +kernel
theorem dX10_keepState_16 : decode cX10_keepState 16 = .ok (.aload_n 0, 1) := by decide +kernel
theorem dX10_keepState_17 : decode cX10_keepState 17 = .ok (.getfield 23, 3) := by decide +kernel
theorem dX10_keepState_20 : decode cX10_keepState 20 = .ok (.new 9, 3) := by decide +kernel
theorem dX10_keepState_23 : decode cX10_keepState 23 = .ok (.dup, 1) := by decide +kernel
theorem dX10_keepState_24 : decode cX10_keepState 24 = .ok (.invokespecial 11, 3) := by decide +kernel
theorem dX10_keepState_27 : decode cX10_keepState 27 = .ok (.aastore, 1) := by decide +kernel
theorem dX10_keepState_28 : decode cX10_keepState 28 = .ok (.aload_n 0, 1) := by decide +kernel
theorem dX10_keepState_29 : decode cX10_keepState 29 = .ok (.getfield 19, 3) := by decide +kernel
theorem dX10_keepState_32 : decode cX10_keepState 32 = .ok (.aload_n 0, 1) := by decide +kernel
theorem dX10_keepState_33 : decode cX10_keepState 33 = .ok (.getfield 23, 3) := by decide +kernel
theorem dX10_keepState_36 : decode cX10_keepState 36 = .ok (.aaload, 1) := by decide +kernel
theorem dX10_keepState_37 : decode cX10_keepState 37 = .ok (.aload_n 0, 1) := by decide +kernel
theorem dX10_keepState_38 : decode cX10_keepState 38 = .ok (.getfield 12, 3) := by decide +kernel
theorem dX10_keepState_41 : decode cX10_keepState 41 = .ok (.invokevirtual 349, 3) := by decide +kernel
theorem dX10_keepState_44 : decode cX10_keepState 44 = .ok (.aload_n 0, 1) := by decide +kernel
theorem dX10_keepState_45 : decode cX10_keepState 45 = .ok (.aload_n 0, 1) := by decide +kernel
theorem dX10_keepState_46 : decode cX10_keepState 46 = .ok (.getfield 23, 3) := by decide +kernel
theorem dX10_keepState_49 : decode cX10_keepState 49 = .ok (.bipush 14, 2) := by decide +kernel
theorem dX10_keepState_51 : decode cX10_keepState 51 = .ok (.if_icmp .ne 7, 3) := by decide +kernel
theorem dX10_keepState_54 : decode cX10_keepState 54 = .ok (.iconst 0, 1) := by decide +kernel
theorem dX10_keepState_55 : decode cX10_keepState 55 = .ok (.goto 9, 3) := by decide +kernel
theorem dX10_keepState_58 : decode cX10_keepState 58 = .ok (.aload_n 0, 1) := by decide +kernel
theorem dX10_keepState_59 : decode cX10_keepState 59 = .ok (.getfield 23, 3) := by decide +kernel
theorem dX10_keepState_62 : decode cX10_keepState 62 = .ok (.iconst 1, 1) := by decide +kernel
theorem dX10_keepState_63 : decode cX10_keepState 63 = .ok (.iadd, 1) := by decide +kernel
theorem dX10_keepState_64 : decode cX10_keepState 64 = .ok (.putfield 23, 3) := by decide +kernel
theorem dX10_keepState_67 : decode cX10_keepState 67 = .ok (.aload_n 0, 1) := by decide +kernel
theorem dX10_keepState_68 : decode cX10_keepState 68 = .ok (.bipush 15, 2) := by decide +kernel
theorem dX10_keepState_70 : decode cX10_keepState 70 = .ok (.aload_n 0, 1) := by decide +kernel
theorem dX10_keepState_71 : decode cX10_keepState 71 = .ok (.getfield 27, 3) := by decide +kernel
theorem dX10_keepState_74 : decode cX10_keepState 74 = .ok (.iconst 1, 1) := by decide +kernel
theorem dX10_keepState_75 : decode cX10_keepState 75 = .ok (.iadd, 1) := by decide +kernel
theorem dX10_keepState_76 : decode cX10_keepState 76 = .ok (.invokestatic 393, 3) := by decide +kernel
theorem dX10_keepState_79 : decode cX10_keepState 79 = .ok (.putfield 27, 3) := by decide +kernel
theorem dX10_keepState_82 : decode cX10_keepState 82 = .ok (.return_, 1) := by decide +kernel
theorem dX10_greatestDivisor_0 : decode cX10_greatestDivisor 0 = .ok (.iload_n 0, 1) := by decide +kernel
theorem dX10_greatestDivisor_1 : decode cX10_greatestDivisor 1 = .ok (.istore_n 2, 1) := by decide +kernel
theorem dX10_greatestDivisor_2 : decode cX10_greatestDivisor 2 = .ok (.iload_n 1, 1) := by decide +kernel
theorem dX10_greatestDivisor_3 : decode cX10_greatestDivisor 3 = .ok (.istore_n 3, 1) := by decide +kernel
theorem dX10_greatestDivisor_4 : decode cX10_greatestDivisor 4 = .ok (.iconst 0, 1) := by decide +kernel
theorem dX10_greatestDivisor_5 : decode cX10_greatestDivisor 5 = .ok (.istore 4, 2) := by decide +kernel
theorem dX10_greatestDivisor_7 : decode cX10_greatestDivisor 7 = .ok (.iload 4, 2) := by decide +kernel
theorem dX10_greatestDivisor_9 : decode cX10_greatestDivisor 9 = .ok (.bipush 64, 2) := by decide +kernel
theorem dX10_greatestDivisor_11 : decode cX10_greatestDivisor 11 = .ok (.if_icmp .ge 23, 3) := by decide +kernel
theorem dX10_greatestDivisor_14 : decode cX10_greatestDivisor 14 = .ok (.iload_n 3, 1) := by decide +kernel
theorem dX10_greatestDivisor_15 : decode cX10_greatestDivisor 15 = .ok (.ifCond .le 19, 3) := by decide +kernel
theorem dX10_greatestDivisor_18 : decode cX10_greatestDivisor 18 = .ok (.iload_n 2, 1) := by decide +kernel
theorem dX10_greatestDivisor_19 : decode cX10_greatestDivisor 19 = .ok (.iload_n 3, 1) := by decide +kernel
theorem dX10_greatestDivisor_20 : decode cX10_greatestDivisor 20 = .ok (.irem, 1) := by decide +kernel
theorem dX10_greatestDivisor_21 : decode cX10_greatestDivisor 21 = .ok (.istore 5, 2) := by decide +kernel
theorem dX10_greatestDivisor_23 : decode cX10_greatestDivisor 23 = .ok (.iload_n 3, 1) := by decide +kernel
theorem dX10_greatestDivisor_24 : decode cX10_greatestDivisor 24 = .ok (.istore_n 2, 1) := by decide +kernel
theorem dX10_greatestDivisor_25 : decode cX10_greatestDivisor 25 = .ok (.iload 5, 2) := by decide +kernel
theorem dX10_greatestDivisor_27 : decode cX10_greatestDivisor 27 = .ok (.istore_n 3, 1) := by decide +kernel
theorem dX10_greatestDivisor_28 : decode cX10_greatestDivisor 28 = .ok (.iinc 4 1, 3) := by decide +kernel
theorem dX10_greatestDivisor_31 : decode cX10_greatestDivisor 31 = .ok (.goto (-24), 3) := by decide +kernel
theorem dX10_greatestDivisor_34 : decode cX10_greatestDivisor 34 = .ok (.iload_n 2, 1) := by decide +kernel
theorem dX10_greatestDivisor_35 : decode cX10_greatestDivisor 35 = .ok (.ireturn, 1) := by decide +kernel
theorem dX11_thrown_0 : decode cX11_thrown 0 = .ok (.aload_n 0, 1) := by decide +kernel
theorem dX11_thrown_1 : decode cX11_thrown 1 = .ok (.getfield 1, 3) := by decide +kernel
theorem dX11_thrown_4 : decode cX11_thrown 4 = .ok (.ireturn, 1) := by decide +kernel
theorem dX11_in_0 : decode cX11_in 0 = .ok (.iload_n 0, 1) := by decide +kernel
theorem dX11_in_1 : decode cX11_in 1 = .ok (.iload_n 1, 1) := by decide +kernel
theorem dX11_in_2 : decode cX11_in 2 = .ok (.if_icmp .lt 12, 3) := by decide +kernel
theorem dX11_in_5 : decode cX11_in 5 = .ok (.iload_n 0, 1) := by decide +kernel
theorem dX11_in_6 : decode cX11_in 6 = .ok (.iload_n 2, 1) := by decide +kernel
theorem dX11_in_7 : decode cX11_in 7 = .ok (.if_icmp .gt 7, 3) := by decide +kernel
theorem dX11_in_10 : decode cX11_in 10 = .ok (.iconst 1, 1) := by decide +kernel
theorem dX11_in_11 : decode cX11_in 11 = .ok (.goto 4, 3) := by decide +kernel
theorem dX11_in_14 : decode cX11_in 14 = .ok (.iconst 0, 1) := by decide +kernel
theorem dX11_in_15 : decode cX11_in 15 = .ok (.ireturn, 1) := by decide +kernel
theorem dX11_fails_0 : decode cX11_fails 0 = .ok (.iload_n 1, 1) := by decide +kernel
theorem dX11_fails_1 : decode cX11_fails 1 = .ok (.ifCond .ne 15, 3) := by decide +kernel
theorem dX11_fails_4 : decode cX11_fails 4 = .ok (.aload_n 0, 1) := by decide +kernel
theorem dX11_fails_5 : decode cX11_fails 5 = .ok (.getfield 1, 3) := by decide +kernel
theorem dX11_fails_8 : decode cX11_fails 8 = .ok (.ifCond .ne 8, 3) := by decide +kernel
theorem dX11_fails_11 : decode cX11_fails 11 = .ok (.aload_n 0, 1) := by decide +kernel
theorem dX11_fails_12 : decode cX11_fails 12 = .ok (.iload_n 2, 1) := by decide +kernel
theorem dX11_fails_13 : decode cX11_fails 13 = .ok (.putfield 1, 3) := by decide +kernel
theorem dX11_fails_16 : decode cX11_fails 16 = .ok (.aload_n 0, 1) := by decide +kernel
theorem dX11_fails_17 : decode cX11_fails 17 = .ok (.getfield 1, 3) := by decide +kernel
theorem dX11_fails_20 : decode cX11_fails 20 = .ok (.ifCond .eq 7, 3) := by decide +kernel
theorem dX11_fails_23 : decode cX11_fails 23 = .ok (.iconst 1, 1) := by decide +kernel
theorem dX11_fails_24 : decode cX11_fails 24 = .ok (.goto 4, 3) := by decide +kernel
theorem dX11_fails_27 : decode cX11_fails 27 = .ok (.iconst 0, 1) := by decide +kernel
theorem dX11_fails_28 : decode cX11_fails 28 = .ok (.ireturn, 1) := by decide +kernel
theorem dX11_init_0 : decode cX11_init 0 = .ok (.aload_n 0, 1) := by decide +kernel
theorem dX11_init_1 : decode cX11_init 1 = .ok (.invokespecial 7, 3) := by decide +kernel
theorem dX11_init_4 : decode cX11_init 4 = .ok (.aload_n 0, 1) := by decide +kernel
theorem dX11_init_5 : decode cX11_init 5 = .ok (.sipush 574, 3) := by decide +kernel
theorem dX11_init_8 : decode cX11_init 8 = .ok (.newarray .int, 2) := by decide +kernel
theorem dX11_init_10 : decode cX11_init 10 = .ok (.putfield 13, 3) := by decide +kernel
theorem dX11_init_13 : decode cX11_init 13 = .ok (.aload_n 0, 1) := by decide +kernel
theorem dX11_init_14 : decode cX11_init 14 = .ok (.sipush 8610, 3) := by decide +kernel
theorem dX11_init_17 : decode cX11_init 17 = .ok (.newarray .int, 2) := by decide +kernel
theorem dX11_init_19 : decode cX11_init 19 = .ok (.putfield 17, 3) := by decide +kernel
theorem dX11_init_22 : decode cX11_init 22 = .ok (.aload_n 0, 1) := by decide +kernel
theorem dX11_init_23 : decode cX11_init 23 = .ok (.sipush 300, 3) := by decide +kernel
theorem dX11_init_26 : decode cX11_init 26 = .ok (.newarray .int, 2) := by decide +kernel
theorem dX11_init_28 : decode cX11_init 28 = .ok (.putfield 20, 3) := by decide +kernel
theorem dX11_init_31 : decode cX11_init 31 = .ok (.aload_n 0, 1) := by decide +kernel
theorem dX11_init_32 : decode cX11_init 32 = .ok (.iconst (-1), 1) := by decide +kernel
theorem dX11_init_33 : decode cX11_init 33 = .ok (.putfield 23, 3) := by decide +kernel
theorem dX11_init_36 : decode cX11_init 36 = .ok (.aload_n 0, 1) := by decide +kernel
theorem dX11_init_37 : decode cX11_init 37 = .ok (.bipush 11, 2) := by decide +kernel
theorem dX11_init_39 : decode cX11_init 39 = .ok (.newarray .int, 2) := by decide +kernel
theorem dX11_init_41 : decode cX11_init 41 = .ok (.putfield 26, 3) := by decide +kernel
theorem dX11_init_44 : decode cX11_init 44 = .ok (.aload_n 0, 1) := by decide +kernel
theorem dX11_init_45 : decode cX11_init 45 = .ok (.sipush 1024, 3) := by decide +kernel
theorem dX11_init_48 : decode cX11_init 48 = .ok (.newarray .int, 2) := by decide +kernel
theorem dX11_init_50 : decode cX11_init 50 = .ok (.putfield 29, 3) := by decide +kernel
theorem dX11_init_53 : decode cX11_init 53 = .ok (.aload_n 0, 1) := by decide +kernel
theorem dX11_init_54 : decode cX11_init 54 = .ok (.sipush 1024, 3) := by decide +kernel
theorem dX11_init_57 : decode cX11_init 57 = .ok (.newarray .int, 2) := by decide +kernel
theorem dX11_init_59 : decode cX11_init 59 = .ok (.putfield 32, 3) := by decide +kernel
theorem dX11_init_62 : decode cX11_init 62 = .ok (.aload_n 0, 1) := by decide +kernel
theorem dX11_init_63 : decode cX11_init 63 = .ok (.bipush 10, 2) := by decide +kernel
theorem dX11_init_65 : decode cX11_init 65 = .ok (.newarray .int, 2) := by decide +kernel
theorem dX11_init_67 : decode cX11_init 67 = .ok (.putfield 35, 3) := by decide +kernel
theorem dX11_init_70 : decode cX11_init 70 = .ok (.aload_n 0, 1) := by decide +kernel
theorem dX11_init_71 : decode cX11_init 71 = .ok (.bipush 10, 2) := by decide +kernel
theorem dX11_init_73 : decode cX11_init 73 = .ok (.newarray .int, 2) := by decide +kernel
theorem dX11_init_75 : decode cX11_init 75 = .ok (.putfield 38, 3) := by decide +kernel
theorem dX11_init_78 : decode cX11_init 78 = .ok (.aload_n 0, 1) := by decide +kernel
theorem dX11_init_79 : decode cX11_init 79 = .ok (.bipush 62, 2) := by decide +kernel
theorem dX11_init_81 : decode cX11_init 81 = .ok (.newarray .int, 2) := by decide +kernel
theorem dX11_init_83 : decode cX11_init 83 = .ok (.putfield 41, 3) := by decide +kernel
theorem dX11_init_86 : decode cX11_init 86 = .ok (.aload_n 0, 1) := by decide +kernel
theorem dX11_init_87 : decode cX11_init 87 = .ok (.bipush 8, 2) := by decide +kernel
theorem dX11_init_89 : decode cX11_init 89 = .ok (.newarray .int, 2) := by decide +kernel
theorem dX11_init_91 : decode cX11_init 91 = .ok (.putfield 44, 3) := by decide +kernel
theorem dX11_init_94 : decode cX11_init 94 = .ok (.aload_n 0, 1) := by decide +kernel
theorem dX11_init_95 : decode cX11_init 95 = .ok (.bipush 8, 2) := by decide +kernel
theorem dX11_init_97 : decode cX11_init 97 = .ok (.newarray .int, 2) := by decide +kernel
theorem dX11_init_99 : decode cX11_init 99 = .ok (.putfield 47, 3) := by decide +kernel
theorem dX11_init_102 : decode cX11_init 102 = .ok (.aload_n 0, 1) := by decide +kernel
theorem dX11_init_103 : decode cX11_init 103 = .ok (.bipush 60, 2) := by decide +kernel
theorem dX11_init_105 : decode cX11_init 105 = .ok (.newarray .int, 2) := by decide +kernel
theorem dX11_init_107 : decode cX11_init 107 = .ok (.putfield 50, 3) := by decide +kernel
theorem dX11_init_110 : decode cX11_init 110 = .ok (.aload_n 0, 1) := by decide +kernel
theorem dX11_init_111 : decode cX11_init 111 = .ok (.sipush 240, 3) := by decide +kernel
theorem dX11_init_114 : decode cX11_init 114 = .ok (.newarray .int, 2) := by decide +kernel
theorem dX11_init_116 : decode cX11_init 116 = .ok (.putfield 53, 3) := by decide +kernel
theorem dX11_init_119 : decode cX11_init 119 = .ok (.aload_n 0, 1) := by decide +kernel
theorem dX11_init_120 : decode cX11_init 120 = .ok (.sipush 574, 3) := by decide +kernel
theorem dX11_init_123 : decode cX11_init 123 = .ok (.newarray .int, 2) := by decide +kernel
theorem dX11_init_125 : decode cX11_init 125 = .ok (.putfield 56, 3) := by decide +kernel
theorem dX11_init_128 : decode cX11_init 128 = .ok (.aload_n 0, 1) := by decide +kernel
theorem dX11_init_129 : decode cX11_init 129 = .ok (.sipush 200, 3) := by decide +kernel
theorem dX11_init_132 : decode cX11_init 132 = .ok (.newarray .int, 2) := by decide +kernel
theorem dX11_init_134 : decode cX11_init 134 = .ok (.putfield 59, 3) := by decide +kernel
theorem dX11_init_137 : decode cX11_init 137 = .ok (.iconst 0, 1) := by decide +kernel
theorem dX11_init_138 : decode cX11_init 138 = .ok (.istore_n 1, 1) := by decide +kernel
theorem dX11_init_139 : decode cX11_init 139 = .ok (.iload_n 1, 1) := by decide +kernel
theorem dX11_init_140 : decode cX11_init 140 = .ok (.iconst 4, 1) := by decide +kernel
theorem dX11_init_141 : decode cX11_init 141 = .ok (.if_icmp .ge 34, 3) := by decide +kernel
theorem dX11_init_144 : decode cX11_init 144 = .ok (.aload_n 0, 1) := by decide +kernel
theorem dX11_init_145 : decode cX11_init 145 = .ok (.getfield 13, 3) := by decide +kernel
theorem dX11_init_148 : decode cX11_init 148 = .ok (.sipush 150, 3) := by decide +kernel
theorem dX11_init_151 : decode cX11_init 151 = .ok (.iload_n 1, 1) := by decide +kernel
theorem dX11_init_152 : decode cX11_init 152 = .ok (.iadd, 1) := by decide +kernel
theorem dX11_init_153 : decode cX11_init 153 = .ok (.bipush 20, 2) := by decide +kernel
theorem dX11_init_155 : decode cX11_init 155 = .ok (.iastore, 1) := by decide +kernel
theorem dX11_init_156 : decode cX11_init 156 = .ok (.aload_n 0, 1) := by decide +kernel
theorem dX11_init_157 : decode cX11_init 157 = .ok (.getfield 13, 3) := by decide +kernel
theorem dX11_init_160 : decode cX11_init 160 = .ok (.sipush 154, 3) := by decide +kernel
theorem dX11_init_163 : decode cX11_init 163 = .ok (.iload_n 1, 1) := by decide +kernel
theorem dX11_init_164 : decode cX11_init 164 = .ok (.iadd, 1) := by decide +kernel
theorem dX11_init_165 : decode cX11_init 165 = .ok (.sipush 200, 3) := by decide +kernel
theorem dX11_init_168 : decode cX11_init 168 = .ok (.iastore, 1) := by decide +kernel
theorem dX11_init_169 : decode cX11_init 169 = .ok (.iinc 1 1, 3) := by decide +kernel
theorem dX11_init_172 : decode cX11_init 172 = .ok (.goto (-33), 3) := by decide +kernel
theorem dX11_init_175 : decode cX11_init 175 = .ok (.return_, 1) := by decide +kernel
theorem dX11_keeps_0 : decode cX11_keeps 0 = .ok (.aload_n 0, 1) := by decide +kernel
theorem dX11_keeps_1 : decode cX11_keeps 1 = .ok (.getfield 62, 3) := by decide +kernel
theorem dX11_keeps_4 : decode cX11_keeps 4 = .ok (.bipush 15, 2) := by decide +kernel
theorem dX11_keeps_6 : decode cX11_keeps 6 = .ok (.if_icmp .ne 49, 3) := by decide +kernel
theorem dX11_keeps_9 : decode cX11_keeps 9 = .ok (.aload_n 0, 1) := by decide +kernel
theorem dX11_keeps_10 : decode cX11_keeps 10 = .ok (.dup, 1) := by decide +kernel
theorem dX11_keeps_11 : decode cX11_keeps 11 = .ok (.getfield 62, 3) := by decide +kernel
theorem dX11_keeps_14 : decode cX11_keeps 14 = .ok (.iconst 1, 1) := by decide +kernel
theorem dX11_keeps_15 : decode cX11_keeps 15 = .ok (.isub, 1) := by decide +kernel
theorem dX11_keeps_16 : decode cX11_keeps 16 = .ok (.putfield 62, 3) := by decide +kernel
theorem dX11_keeps_19 : decode cX11_keeps 19 = .ok (.iconst 0, 1) := by decide +kernel
theorem dX11_keeps_20 : decode cX11_keeps 20 = .ok (.istore_n 1, 1) := by decide +kernel
theorem dX11_keeps_21 : decode cX11_keeps 21 = .ok (.iload_n 1, 1) := by decide +kernel
theorem dX11_keeps_22 : decode cX11_keeps 22 = .ok (.sipush 574, 3) := by decide +kernel
theorem dX11_keeps_25 : decode cX11_keeps 25 = .ok (.aload_n 0, 1) := by decide +kernel
theorem dX11_keeps_26 : decode cX11_keeps 26 = .ok (.getfield 62, 3) := by decide +kernel
theorem dX11_keeps_29 : decode cX11_keeps 29 = .ok (.imul, 1) := by decide +kernel
theorem dX11_keeps_30 : decode cX11_keeps 30 = .ok (.if_icmp .ge 25, 3) := by decide +kernel
theorem dX11_keeps_33 : decode cX11_keeps 33 = .ok (.aload_n 0, 1) := by decide +kernel
theorem dX11_keeps_34 : decode cX11_keeps 34 = .ok (.getfield 17, 3) := by decide +kernel
theorem dX11_keeps_37 : decode cX11_keeps 37 = .ok (.iload_n 1, 1) := by decide +kernel
theorem dX11_keeps_38 : decode cX11_keeps 38 = .ok (.aload_n 0, 1) := by decide +kernel
theorem dX11_keeps_39 : decode cX11_keeps 39 = .ok (.getfield 17, 3) := by decide +kernel
theorem dX11_keeps_42 : decode cX11_keeps 42 = .ok (.iload_n 1, 1) := by decide +kernel
theorem dX11_keeps_43 : decode cX11_keeps 43 = .ok (.sipush 574, 3) := by decide +kernel
theorem dX11_keeps_46 : decode cX11_keeps 46 = .ok (.iadd, 1) := by decide +kernel
theorem dX11_keeps_47 : decode cX11_keeps 47 = .ok (.iaload, 1) := by decide +kernel
theorem dX11_keeps_48 : decode cX11_keeps 48 = .ok (.iastore, 1) := by decide +kernel
theorem dX11_keeps_49 : decode cX11_keeps 49 = .ok (.iinc 1 1, 3) := by decide +kernel
theorem dX11_keeps_52 : decode cX11_keeps 52 = .ok (.goto (-31), 3) := by decide +kernel
theorem dX11_keeps_55 : decode cX11_keeps 55 = .ok (.iconst 0, 1) := by decide +kernel
theorem dX11_keeps_56 : decode cX11_keeps 56 = .ok (.istore_n 1, 1) := by decide +kernel
theorem dX11_keeps_57 : decode cX11_keeps 57 = .ok (.iload_n 1, 1) := by decide +kernel
theorem dX11_keeps_58 : decode cX11_keeps 58 = .ok (.sipush 574, 3) := by decide +kernel
theorem dX11_keeps_61 : decode cX11_keeps 61 = .ok (.if_icmp .ge 30, 3) := by decide +kernel
theorem dX11_keeps_64 : decode cX11_keeps 64 = .ok (.aload_n 0, 1) := by decide +kernel
theorem dX11_keeps_65 : decode cX11_keeps 65 = .ok (.getfield 17, 3) := by decide +kernel
theorem dX11_keeps_68 : decode cX11_keeps 68 = .ok (.sipush 574, 3) := by decide +kernel
theorem dX11_keeps_71 : decode cX11_keeps 71 = .ok (.aload_n 0, 1) := by decide +kernel
theorem dX11_keeps_72 : decode cX11_keeps 72 = .ok (.getfield 62, 3) := by decide +kernel
theorem dX11_keeps_75 : decode cX11_keeps 75 = .ok (.imul, 1) := by decide +kernel
theorem dX11_keeps_76 : decode cX11_keeps 76 = .ok (.iload_n 1, 1) := by decide +kernel
theorem dX11_keeps_77 : decode cX11_keeps 77 = .ok (.iadd, 1) := by decide +kernel
theorem dX11_keeps_78 : decode cX11_keeps 78 = .ok (.aload_n 0, 1) := by decide +kernel
theorem dX11_keeps_79 : decode cX11_keeps 79 = .ok (.getfield 13, 3) := by decide +kernel
theorem dX11_keeps_82 : decode cX11_keeps 82 = .ok (.iload_n 1, 1) := by decide +kernel
theorem dX11_keeps_83 : decode cX11_keeps 83 = .ok (.iaload, 1) := by decide +kernel
theorem dX11_keeps_84 : decode cX11_keeps 84 = .ok (.iastore, 1) := by decide +kernel
theorem dX11_keeps_85 : decode cX11_keeps 85 = .ok (.iinc 1 1, 3) := by decide +kernel
theorem dX11_keeps_88 : decode cX11_keeps 88 = .ok (.goto (-31), 3) := by decide +kernel
theorem dX11_keeps_91 : decode cX11_keeps 91 = .ok (.aload_n 0, 1) := by decide +kernel
theorem dX11_keeps_92 : decode cX11_keeps 92 = .ok (.dup, 1) := by decide +kernel
theorem dX11_keeps_93 : decode cX11_keeps 93 = .ok (.getfield 62, 3) := by decide +kernel
theorem dX11_keeps_96 : decode cX11_keeps 96 = .ok (.iconst 1, 1) := by decide +kernel
theorem dX11_keeps_97 : decode cX11_keeps 97 = .ok (.iadd, 1) := by decide +kernel
theorem dX11_keeps_98 : decode cX11_keeps 98 = .ok (.putfield 62, 3) := by decide +kernel
theorem dX11_keeps_101 : decode cX11_keeps 101 = .ok (.return_, 1) := by decide +kernel
theorem dX11_undo_0 : decode cX11_undo 0 = .ok (.aload_n 0, 1) := by decide +kernel
theorem dX11_undo_1 : decode cX11_undo 1 = .ok (.iconst 0, 1) := by decide +kernel
theorem dX11_undo_2 : decode cX11_undo 2 = .ok (.putfield 1, 3) := by decide +kernel
theorem dX11_undo_5 : decode cX11_undo 5 = .ok (.aload_n 0, 1) := by decide +kernel
theorem dX11_undo_6 : decode cX11_undo 6 = .ok (.getfield 62, 3) := by decide +kernel
theorem dX11_undo_9 : decode cX11_undo 9 = .ok (.ifCond .ne 5, 3) := by decide +kernel
theorem dX11_undo_12 : decode cX11_undo 12 = .ok (.iconst (-1), 1) := by decide +kernel
theorem dX11_undo_13 : decode cX11_undo 13 = .ok (.ireturn, 1) := by decide +kernel
theorem dX11_undo_14 : decode cX11_undo 14 = .ok (.aload_n 0, 1) := by decide +kernel
theorem dX11_undo_15 : decode cX11_undo 15 = .ok (.dup, 1) := by decide +kernel
theorem dX11_undo_16 : decode cX11_undo 16 = .ok (.getfield 62, 3) := by decide +kernel
theorem dX11_undo_19 : decode cX11_undo 19 = .ok (.iconst 1, 1) := by decide +kernel
theorem dX11_undo_20 : decode cX11_undo 20 = .ok (.isub, 1) := by decide +kernel
theorem dX11_undo_21 : decode cX11_undo 21 = .ok (.putfield 62, 3) := by decide +kernel
theorem dX11_undo_24 : decode cX11_undo 24 = .ok (.iconst 0, 1) := by decide +kernel
theorem dX11_undo_25 : decode cX11_undo 25 = .ok (.istore_n 1, 1) := by decide +kernel
theorem dX11_undo_26 : decode cX11_undo 26 = .ok (.iload_n 1, 1) := by decide +kernel
theorem dX11_undo_27 : decode cX11_undo 27 = .ok (.sipush 574, 3) := by decide +kernel
theorem dX11_undo_30 : decode cX11_undo 30 = .ok (.if_icmp .ge 30, 3) := by decide +kernel
theorem dX11_undo_33 : decode cX11_undo 33 = .ok (.aload_n 0, 1) := by decide +kernel
theorem dX11_undo_34 : decode cX11_undo 34 = .ok (.getfield 13, 3) := by decide +kernel
theorem dX11_undo_37 : decode cX11_undo 37 = .ok (.iload_n 1, 1) := by decide +kernel
theorem dX11_undo_38 : decode cX11_undo 38 = .ok (.aload_n 0, 1) := by decide +kernel
theorem dX11_undo_39 : decode cX11_undo 39 = .ok (.getfield 17, 3) := by decide +kernel
theorem dX11_undo_42 : decode cX11_undo 42 = .ok (.sipush 574, 3) := by decide +kernel
theorem dX11_undo_45 : decode cX11_undo 45 = .ok (.aload_n 0, 1) := by decide +kernel
theorem dX11_undo_46 : decode cX11_undo 46 = .ok (.getfield 62, 3) := by decide +kernel
theorem dX11_undo_49 : decode cX11_undo 49 = .ok (.imul, 1) := by decide +kernel
theorem dX11_undo_50 : decode cX11_undo 50 = .ok (.iload_n 1, 1) := by decide +kernel
theorem dX11_undo_51 : decode cX11_undo 51 = .ok (.iadd, 1) := by decide +kernel
theorem dX11_undo_52 : decode cX11_undo 52 = .ok (.iaload, 1) := by decide +kernel
theorem dX11_undo_53 : decode cX11_undo 53 = .ok (.iastore, 1) := by decide +kernel
theorem dX11_undo_54 : decode cX11_undo 54 = .ok (.iinc 1 1, 3) := by decide +kernel
theorem dX11_undo_57 : decode cX11_undo 57 = .ok (.goto (-31), 3) := by decide +kernel
theorem dX11_undo_60 : decode cX11_undo 60 = .ok (.aload_n 0, 1) := by decide +kernel
theorem dX11_undo_61 : decode cX11_undo 61 = .ok (.getfield 62, 3) := by decide +kernel
theorem dX11_undo_64 : decode cX11_undo 64 = .ok (.ireturn, 1) := by decide +kernel
theorem dX11_many_0 : decode cX11_many 0 = .ok (.aload_n 0, 1) := by decide +kernel
theorem dX11_many_1 : decode cX11_many 1 = .ok (.getfield 13, 3) := by decide +kernel
theorem dX11_many_4 : decode cX11_many 4 = .ok (.sipush 568, 3) := by decide +kernel
theorem dX11_many_7 : decode cX11_many 7 = .ok (.iaload, 1) := by decide +kernel
theorem dX11_many_8 : decode cX11_many 8 = .ok (.ireturn, 1) := by decide +kernel
set_option maxRecDepth 20000 in
theorem ggX11_noStone_X11_many : GoodIn wsX11_noStone wsX11_many := goodIn_r _ [5, 6, 15, 16, 17, 18, 19, 20, 21, 22, 23, 24, 25, 26, 27, 28, 29, 30, 31, 32, 33, 34, 35, 36] rfl (by decide +kernel)
set_option maxRecDepth 20000 in
theorem gX11_noStone_X11_many : GoodIn wsX11_noStone (wsV RX11 65 RX11 yX11_many wsX11_many) := goodIn_app (goodIn_of _ (by decide +kernel)) ggX11_noStone_X11_many
set_option maxRecDepth 20000 in
theorem ggX11_noStone_X11_in : GoodIn wsX11_noStone wsX11_in := goodIn_r _ [9] rfl (by decide +kernel)
set_option maxRecDepth 20000 in
theorem gX11_noStone_X11_in : GoodIn wsX11_noStone (va_wsS RX11 69 yX11_in wsX11_in) := goodIn_app (goodIn_of _ (by decide +kernel)) ggX11_noStone_X11_in
set_option maxRecDepth 20000 in
theorem ggX11_noStone_X11_fails : GoodIn wsX11_noStone wsX11_fails := goodIn_r _ [13, 14, 15, 16, 17, 18, 19, 20, 21, 22, 23, 24, 25, 26, 27, 28, 29, 30, 31, 32, 33, 34, 35, 36] rfl (by decide +kernel)
set_option maxRecDepth 20000 in
theorem gX11_noStone_X11_fails : GoodIn wsX11_noStone (wsV RX11 73 RX11 yX11_fails wsX11_fails) := goodIn_app (goodIn_of _ (by decide +kernel)) ggX11_noStone_X11_fails
theorem dX11_noStone_0 : decode cX11_noStone 0 = .ok (.aload_n 0, 1) := by decide +kernel
theorem dX11_noStone_1 : decode cX11_noStone 1 = .ok (.iload_n 1, 1) := by decide +kernel
theorem dX11_noStone_2 : decode cX11_noStone 2 = .ok (.iconst 0, 1) := by decide +kernel
theorem dX11_noStone_3 : decode cX11_noStone 3 = .ok (.aload_n 0, 1) := by decide +kernel
theorem dX11_noStone_4 : decode cX11_noStone 4 = .ok (.invokevirtual 65, 3) := by decide +kernel
theorem dX11_noStone_7 : decode cX11_noStone 7 = .ok (.iconst 1, 1) := by decide +kernel
theorem dX11_noStone_8 : decode cX11_noStone 8 = .ok (.isub, 1) := by decide +kernel
theorem dX11_noStone_9 : decode cX11_noStone 9 = .ok (.invokestatic 69, 3) := by decide +kernel
theorem dX11_noStone_12 : decode cX11_noStone 12 = .ok (.iconst 1, 1) := by decide +kernel
theorem dX11_noStone_13 : decode cX11_noStone 13 = .ok (.invokevirtual 73, 3) := by decide +kernel
theorem dX11_noStone_16 : decode cX11_noStone 16 = .ok (.ireturn, 1) := by decide +kernel
theorem dX11_bytesIn_0 : decode cX11_bytesIn 0 = .ok (.iconst 0, 1) := by decide +kernel
theorem dX11_bytesIn_1 : decode cX11_bytesIn 1 = .ok (.istore_n 1, 1) := by decide +kernel
theorem dX11_bytesIn_2 : decode cX11_bytesIn 2 = .ok (.iconst 0, 1) := by decide +kernel
theorem dX11_bytesIn_3 : decode cX11_bytesIn 3 = .ok (.istore_n 2, 1) := by decide +kernel
theorem dX11_bytesIn_4 : decode cX11_bytesIn 4 = .ok (.iload_n 2, 1) := by decide +kernel
theorem dX11_bytesIn_5 : decode cX11_bytesIn 5 = .ok (.bipush 32, 2) := by decide +kernel
theorem dX11_bytesIn_7 : decode cX11_bytesIn 7 = .ok (.if_icmp .ge 27, 3) := by decide +kernel
theorem dX11_bytesIn_10 : decode cX11_bytesIn 10 = .ok (.iload_n 1, 1) := by decide +kernel
theorem dX11_bytesIn_11 : decode cX11_bytesIn 11 = .ok (.iload_n 0, 1) := by decide +kernel
theorem dX11_bytesIn_12 : decode cX11_bytesIn 12 = .ok (.iload_n 2, 1) := by decide +kernel
theorem dX11_bytesIn_13 : decode cX11_bytesIn 13 = .ok (.ishr, 1) := by decide +kernel
theorem dX11_bytesIn_14 : decode cX11_bytesIn 14 = .ok (.sipush 255, 3) := by decide +kernel
theorem dX11_bytesIn_17 : decode cX11_bytesIn 17 = .ok (.iand, 1) := by decide +kernel
theorem dX11_bytesIn_18 : decode cX11_bytesIn 18 = .ok (.ifCond .ne 7, 3) := by decide +kernel
theorem dX11_bytesIn_21 : decode cX11_bytesIn 21 = .ok (.iconst 0, 1) := by decide +kernel
theorem dX11_bytesIn_22 : decode cX11_bytesIn 22 = .ok (.goto 4, 3) := by decide +kernel
theorem dX11_bytesIn_25 : decode cX11_bytesIn 25 = .ok (.iconst 1, 1) := by decide +kernel
theorem dX11_bytesIn_26 : decode cX11_bytesIn 26 = .ok (.iadd, 1) := by decide +kernel
theorem dX11_bytesIn_27 : decode cX11_bytesIn 27 = .ok (.istore_n 1, 1) := by decide +kernel
theorem dX11_bytesIn_28 : decode cX11_bytesIn 28 = .ok (.iinc 2 8, 3) := by decide +kernel
theorem dX11_bytesIn_31 : decode cX11_bytesIn 31 = .ok (.goto (-27), 3) := by decide +kernel
theorem dX11_bytesIn_34 : decode cX11_bytesIn 34 = .ok (.iload_n 1, 1) := by decide +kernel
theorem dX11_bytesIn_35 : decode cX11_bytesIn 35 = .ok (.ireturn, 1) := by decide +kernel
theorem dX11_takesBytes_0 : decode cX11_takesBytes 0 = .ok (.bipush 24, 2) := by decide +kernel
theorem dX11_takesBytes_2 : decode cX11_takesBytes 2 = .ok (.istore_n 2, 1) := by decide +kernel
theorem dX11_takesBytes_3 : decode cX11_takesBytes 3 = .ok (.iload_n 2, 1) := by decide +kernel
theorem dX11_takesBytes_4 : decode cX11_takesBytes 4 = .ok (.ifCond .lt 44, 3) := by decide +kernel
theorem dX11_takesBytes_7 : decode cX11_takesBytes 7 = .ok (.iload_n 1, 1) := by decide +kernel
theorem dX11_takesBytes_8 : decode cX11_takesBytes 8 = .ok (.iload_n 2, 1) := by decide +kernel
theorem dX11_takesBytes_9 : decode cX11_takesBytes 9 = .ok (.ishr, 1) := by decide +kernel
theorem dX11_takesBytes_10 : decode cX11_takesBytes 10 = .ok (.sipush 255, 3) := by decide +kernel
theorem dX11_takesBytes_13 : decode cX11_takesBytes 13 = .ok (.iand, 1) := by decide +kernel
theorem dX11_takesBytes_14 : decode cX11_takesBytes 14 = .ok (.istore_n 3, 1) := by decide +kernel
theorem dX11_takesBytes_15 : decode cX11_takesBytes 15 = .ok (.iload_n 3, 1) := by decide +kernel
theorem dX11_takesBytes_16 : decode cX11_takesBytes 16 = .ok (.ifCond .ne 6, 3) := by decide +kernel
theorem dX11_takesBytes_19 : decode cX11_takesBytes 19 = .ok (.goto 23, 3) := by decide +kernel
theorem dX11_takesBytes_22 : decode cX11_takesBytes 22 = .ok (.aload_n 0, 1) := by decide +kernel
theorem dX11_takesBytes_23 : decode cX11_takesBytes 23 = .ok (.getfield 20, 3) := by decide +kernel
theorem dX11_takesBytes_26 : decode cX11_takesBytes 26 = .ok (.aload_n 0, 1) := by decide +kernel
theorem dX11_takesBytes_27 : decode cX11_takesBytes 27 = .ok (.getfield 77, 3) := by decide +kernel
theorem dX11_takesBytes_30 : decode cX11_takesBytes 30 = .ok (.iload_n 3, 1) := by decide +kernel
theorem dX11_takesBytes_31 : decode cX11_takesBytes 31 = .ok (.iastore, 1) := by decide +kernel
theorem dX11_takesBytes_32 : decode cX11_takesBytes 32 = .ok (.aload_n 0, 1) := by decide +kernel
theorem dX11_takesBytes_33 : decode cX11_takesBytes 33 = .ok (.dup, 1) := by decide +kernel
theorem dX11_takesBytes_34 : decode cX11_takesBytes 34 = .ok (.getfield 77, 3) := by decide +kernel
theorem dX11_takesBytes_37 : decode cX11_takesBytes 37 = .ok (.iconst 1, 1) := by decide +kernel
theorem dX11_takesBytes_38 : decode cX11_takesBytes 38 = .ok (.iadd, 1) := by decide +kernel
theorem dX11_takesBytes_39 : decode cX11_takesBytes 39 = .ok (.putfield 77, 3) := by decide +kernel
theorem dX11_takesBytes_42 : decode cX11_takesBytes 42 = .ok (.iinc 2 (-8), 3) := by decide +kernel
theorem dX11_takesBytes_45 : decode cX11_takesBytes 45 = .ok (.goto (-42), 3) := by decide +kernel
theorem dX11_takesBytes_48 : decode cX11_takesBytes 48 = .ok (.return_, 1) := by decide +kernel
set_option maxRecDepth 20000 in
theorem ggX11_append_X11_bytesIn : GoodIn wsX11_append wsX11_bytesIn := goodIn_r _ [6] rfl (by decide +kernel)
set_option maxRecDepth 20000 in
theorem gX11_append_X11_bytesIn : GoodIn wsX11_append (va_wsS RX11 80 yX11_bytesIn wsX11_bytesIn) := goodIn_app (goodIn_of _ (by decide +kernel)) ggX11_append_X11_bytesIn
set_option maxRecDepth 20000 in
theorem ggX11_append_X11_fails : GoodIn wsX11_append wsX11_fails := goodIn_r _ [10, 1, 16, 17, 18, 19, 20, 21, 22, 23, 24, 25, 26, 27, 28, 29, 30, 31, 32, 33, 34, 35, 36, 37] rfl (by decide +kernel)
set_option maxRecDepth 20000 in
theorem gX11_append_X11_fails : GoodIn wsX11_append (wsV RX11 73 RX11 yX11_fails wsX11_fails) := goodIn_app (goodIn_of _ (by decide +kernel)) ggX11_append_X11_fails
set_option maxRecDepth 20000 in
theorem ggX11_append_X11_takesBytes : GoodIn wsX11_append wsX11_takesBytes := goodIn_r _ [14, 15, 2, 16, 17, 18, 19, 20, 21, 22, 23, 24, 25, 26, 27, 28, 29, 30, 31, 32, 33, 34, 35, 36, 37] rfl (by decide +kernel)
set_option maxRecDepth 20000 in
theorem gX11_append_X11_takesBytes : GoodIn wsX11_append (wsV RX11 84 RX11 yX11_takesBytes wsX11_takesBytes) := goodIn_app (goodIn_of _ (by decide +kernel)) ggX11_append_X11_takesBytes
theorem dX11_append_0 : decode cX11_append 0 = .ok (.aload_n 0, 1) := by decide +kernel
theorem dX11_append_1 : decode cX11_append 1 = .ok (.iconst 0, 1) := by decide +kernel
theorem dX11_append_2 : decode cX11_append 2 = .ok (.putfield 1, 3) := by decide +kernel
theorem dX11_append_5 : decode cX11_append 5 = .ok (.iload_n 1, 1) := by decide +kernel
theorem dX11_append_6 : decode cX11_append 6 = .ok (.invokestatic 80, 3) := by decide +kernel
theorem dX11_append_9 : decode cX11_append 9 = .ok (.iload_n 2, 1) := by decide +kernel
theorem dX11_append_10 : decode cX11_append 10 = .ok (.invokestatic 80, 3) := by decide +kernel
theorem dX11_append_13 : decode cX11_append 13 = .ok (.iadd, 1) := by decide +kernel
theorem dX11_append_14 : decode cX11_append 14 = .ok (.iload_n 3, 1) := by decide +kernel
theorem dX11_append_15 : decode cX11_append 15 = .ok (.invokestatic 80, 3) := by decide +kernel
theorem dX11_append_18 : decode cX11_append 18 = .ok (.iadd, 1) := by decide +kernel
theorem dX11_append_19 : decode cX11_append 19 = .ok (.iload 4, 2) := by decide +kernel
theorem dX11_append_21 : decode cX11_append 21 = .ok (.invokestatic 80, 3) := by decide +kernel
theorem dX11_append_24 : decode cX11_append 24 = .ok (.iadd, 1) := by decide +kernel
theorem dX11_append_25 : decode cX11_append 25 = .ok (.iload 5, 2) := by decide +kernel
theorem dX11_append_27 : decode cX11_append 27 = .ok (.invokestatic 80, 3) := by decide +kernel
theorem dX11_append_30 : decode cX11_append 30 = .ok (.iadd, 1) := by decide +kernel
theorem dX11_append_31 : decode cX11_append 31 = .ok (.istore 6, 2) := by decide +kernel
theorem dX11_append_33 : decode cX11_append 33 = .ok (.aload_n 0, 1) := by decide +kernel
theorem dX11_append_34 : decode cX11_append 34 = .ok (.aload_n 0, 1) := by decide +kernel
theorem dX11_append_35 : decode cX11_append 35 = .ok (.getfield 77, 3) := by decide +kernel
theorem dX11_append_38 : decode cX11_append 38 = .ok (.iload 6, 2) := by decide +kernel
theorem dX11_append_40 : decode cX11_append 40 = .ok (.iadd, 1) := by decide +kernel
theorem dX11_append_41 : decode cX11_append 41 = .ok (.sipush 300, 3) := by decide +kernel
theorem dX11_append_44 : decode cX11_append 44 = .ok (.if_icmp .gt 7, 3) := by decide +kernel
theorem dX11_append_47 : decode cX11_append 47 = .ok (.iconst 1, 1) := by decide +kernel
theorem dX11_append_48 : decode cX11_append 48 = .ok (.goto 4, 3) := by decide +kernel
theorem dX11_append_51 : decode cX11_append 51 = .ok (.iconst 0, 1) := by decide +kernel
theorem dX11_append_52 : decode cX11_append 52 = .ok (.iconst 1, 1) := by decide +kernel
theorem dX11_append_53 : decode cX11_append 53 = .ok (.invokevirtual 73, 3) := by decide +kernel
theorem dX11_append_56 : decode cX11_append 56 = .ok (.ifCond .eq 5, 3) := by decide +kernel
theorem dX11_append_59 : decode cX11_append 59 = .ok (.iconst 0, 1) := by decide +kernel
theorem dX11_append_60 : decode cX11_append 60 = .ok (.ireturn, 1) := by decide +kernel
theorem dX11_append_61 : decode cX11_append 61 = .ok (.aload_n 0, 1) := by decide +kernel
theorem dX11_append_62 : decode cX11_append 62 = .ok (.iload_n 1, 1) := by decide +kernel
theorem dX11_append_63 : decode cX11_append 63 = .ok (.invokevirtual 84, 3) := by decide +kernel
theorem dX11_append_66 : decode cX11_append 66 = .ok (.aload_n 0, 1) := by decide +kernel
theorem dX11_append_67 : decode cX11_append 67 = .ok (.iload_n 2, 1) := by decide +kernel
theorem dX11_append_68 : decode cX11_append 68 = .ok (.invokevirtual 84, 3) := by decide +kernel
theorem dX11_append_71 : decode cX11_append 71 = .ok (.aload_n 0, 1) := by decide +kernel
theorem dX11_append_72 : decode cX11_append 72 = .ok (.iload_n 3, 1) := by decide +kernel
theorem dX11_append_73 : decode cX11_append 73 = .ok (.invokevirtual 84, 3) := by decide +kernel
theorem dX11_append_76 : decode cX11_append 76 = .ok (.aload_n 0, 1) := by decide +kernel
theorem dX11_append_77 : decode cX11_append 77 = .ok (.iload 4, 2) := by decide +kernel
theorem dX11_append_79 : decode cX11_append 79 = .ok (.invokevirtual 84, 3) := by decide +kernel
theorem dX11_append_82 : decode cX11_append 82 = .ok (.aload_n 0, 1) := by decide +kernel
theorem dX11_append_83 : decode cX11_append 83 = .ok (.iload 5, 2) := by decide +kernel
theorem dX11_append_85 : decode cX11_append 85 = .ok (.invokevirtual 84, 3) := by decide +kernel
theorem dX11_append_88 : decode cX11_append 88 = .ok (.aload_n 0, 1) := by decide +kernel
theorem dX11_append_89 : decode cX11_append 89 = .ok (.getfield 77, 3) := by decide +kernel
theorem dX11_append_92 : decode cX11_append 92 = .ok (.ireturn, 1) := by decide +kernel
theorem dX11_clearTape_0 : decode cX11_clearTape 0 = .ok (.aload_n 0, 1) := by decide +kernel
theorem dX11_clearTape_1 : decode cX11_clearTape 1 = .ok (.iconst 0, 1) := by decide +kernel
theorem dX11_clearTape_2 : decode cX11_clearTape 2 = .ok (.putfield 1, 3) := by decide +kernel
theorem dX11_clearTape_5 : decode cX11_clearTape 5 = .ok (.aload_n 0, 1) := by decide +kernel
theorem dX11_clearTape_6 : decode cX11_clearTape 6 = .ok (.getfield 77, 3) := by decide +kernel
theorem dX11_clearTape_9 : decode cX11_clearTape 9 = .ok (.istore_n 1, 1) := by decide +kernel
theorem dX11_clearTape_10 : decode cX11_clearTape 10 = .ok (.aload_n 0, 1) := by decide +kernel
theorem dX11_clearTape_11 : decode cX11_clearTape 11 = .ok (.iconst 0, 1) := by decide +kernel
theorem dX11_clearTape_12 : decode cX11_clearTape 12 = .ok (.putfield 77, 3) := by decide +kernel
theorem dX11_clearTape_15 : decode cX11_clearTape 15 = .ok (.iload_n 1, 1) := by decide +kernel
theorem dX11_clearTape_16 : decode cX11_clearTape 16 = .ok (.ireturn, 1) := by decide +kernel
theorem dX11_errorPosition_0 : decode cX11_errorPosition 0 = .ok (.aload_n 0, 1) := by decide +kernel
theorem dX11_errorPosition_1 : decode cX11_errorPosition 1 = .ok (.iconst 0, 1) := by decide +kernel
theorem dX11_errorPosition_2 : decode cX11_errorPosition 2 = .ok (.putfield 1, 3) := by decide +kernel
theorem dX11_errorPosition_5 : decode cX11_errorPosition 5 = .ok (.aload_n 0, 1) := by decide +kernel
theorem dX11_errorPosition_6 : decode cX11_errorPosition 6 = .ok (.getfield 23, 3) := by decide +kernel
theorem dX11_errorPosition_9 : decode cX11_errorPosition 9 = .ok (.ireturn, 1) := by decide +kernel
theorem dX11_isLetter_0 : decode cX11_isLetter 0 = .ok (.iload_n 1, 1) := by decide +kernel
theorem dX11_isLetter_1 : decode cX11_isLetter 1 = .ok (.aload_n 0, 1) := by decide +kernel
theorem dX11_isLetter_2 : decode cX11_isLetter 2 = .ok (.getfield 77, 3) := by decide +kernel
theorem dX11_isLetter_5 : decode cX11_isLetter 5 = .ok (.if_icmp .ge 29, 3) := by decide +kernel
theorem dX11_isLetter_8 : decode cX11_isLetter 8 = .ok (.aload_n 0, 1) := by decide +kernel
theorem dX11_isLetter_9 : decode cX11_isLetter 9 = .ok (.getfield 20, 3) := by decide +kernel
theorem dX11_isLetter_12 : decode cX11_isLetter 12 = .ok (.iload_n 1, 1) := by decide +kernel
theorem dX11_isLetter_13 : decode cX11_isLetter 13 = .ok (.iaload, 1) := by decide +kernel
theorem dX11_isLetter_14 : decode cX11_isLetter 14 = .ok (.bipush 97, 2) := by decide +kernel
theorem dX11_isLetter_16 : decode cX11_isLetter 16 = .ok (.if_icmp .lt 18, 3) := by decide +kernel
theorem dX11_isLetter_19 : decode cX11_isLetter 19 = .ok (.aload_n 0, 1) := by decide +kernel
theorem dX11_isLetter_20 : decode cX11_isLetter 20 = .ok (.getfield 20, 3) := by decide +kernel
theorem dX11_isLetter_23 : decode cX11_isLetter 23 = .ok (.iload_n 1, 1) := by decide +kernel
theorem dX11_isLetter_24 : decode cX11_isLetter 24 = .ok (.iaload, 1) := by decide +kernel
theorem dX11_isLetter_25 : decode cX11_isLetter 25 = .ok (.bipush 122, 2) := by decide +kernel
theorem dX11_isLetter_27 : decode cX11_isLetter 27 = .ok (.if_icmp .gt 7, 3) := by decide +kernel
theorem dX11_isLetter_30 : decode cX11_isLetter 30 = .ok (.iconst 1, 1) := by decide +kernel
theorem dX11_isLetter_31 : decode cX11_isLetter 31 = .ok (.goto 4, 3) := by decide +kernel
theorem dX11_isLetter_34 : decode cX11_isLetter 34 = .ok (.iconst 0, 1) := by decide +kernel
theorem dX11_isLetter_35 : decode cX11_isLetter 35 = .ok (.ireturn, 1) := by decide +kernel
theorem dX11_isDigit_0 : decode cX11_isDigit 0 = .ok (.iload_n 1, 1) := by decide +kernel
theorem dX11_isDigit_1 : decode cX11_isDigit 1 = .ok (.aload_n 0, 1) := by decide +kernel
theorem dX11_isDigit_2 : decode cX11_isDigit 2 = .ok (.getfield 77, 3) := by decide +kernel
theorem dX11_isDigit_5 : decode cX11_isDigit 5 = .ok (.if_icmp .ge 29, 3) := by decide +kernel
theorem dX11_isDigit_8 : decode cX11_isDigit 8 = .ok (.aload_n 0, 1) := by decide +kernel
theorem dX11_isDigit_9 : decode cX11_isDigit 9 = .ok (.getfield 20, 3) := by decide +kernel
theorem dX11_isDigit_12 : decode cX11_isDigit 12 = .ok (.iload_n 1, 1) := by decide +kernel
theorem dX11_isDigit_13 : decode cX11_isDigit 13 = .ok (.iaload, 1) := by decide +kernel
theorem dX11_isDigit_14 : decode cX11_isDigit 14 = .ok (.bipush 48, 2) := by decide +kernel
theorem dX11_isDigit_16 : decode cX11_isDigit 16 = .ok (.if_icmp .lt 18, 3) := by decide +kernel
theorem dX11_isDigit_19 : decode cX11_isDigit 19 = .ok (.aload_n 0, 1) := by decide +kernel
theorem dX11_isDigit_20 : decode cX11_isDigit 20 = .ok (.getfield 20, 3) := by decide +kernel
theorem dX11_isDigit_23 : decode cX11_isDigit 23 = .ok (.iload_n 1, 1) := by decide +kernel
theorem dX11_isDigit_24 : decode cX11_isDigit 24 = .ok (.iaload, 1) := by decide +kernel
theorem dX11_isDigit_25 : decode cX11_isDigit 25 = .ok (.bipush 57, 2) := by decide +kernel
theorem dX11_isDigit_27 : decode cX11_isDigit 27 = .ok (.if_icmp .gt 7, 3) := by decide +kernel
theorem dX11_isDigit_30 : decode cX11_isDigit 30 = .ok (.iconst 1, 1) := by decide +kernel
theorem dX11_isDigit_31 : decode cX11_isDigit 31 = .ok (.goto 4, 3) := by decide +kernel
theorem dX11_isDigit_34 : decode cX11_isDigit 34 = .ok (.iconst 0, 1) := by decide +kernel
theorem dX11_isDigit_35 : decode cX11_isDigit 35 = .ok (.ireturn, 1) := by decide +kernel
set_option maxRecDepth 20000 in
theorem ggX11_codeAt_X11_isLetter : GoodIn wsX11_codeAt wsX11_isLetter := goodIn_r _ [6, 7, 1, 8, 9, 10, 11, 12, 13, 14, 15, 16, 17, 18, 19, 20, 21, 22, 23, 24, 25, 26, 27, 28, 29] rfl (by decide +kernel)
set_option maxRecDepth 20000 in
theorem gX11_codeAt_X11_isLetter : GoodIn wsX11_codeAt (wsV RX11 88 RX11 yX11_isLetter wsX11_isLetter) := goodIn_app (goodIn_of _ (by decide +kernel)) ggX11_codeAt_X11_isLetter
theorem dX11_codeAt_0 : decode cX11_codeAt 0 = .ok (.iconst 0, 1) := by decide +kernel
theorem dX11_codeAt_1 : decode cX11_codeAt 1 = .ok (.istore_n 2, 1) := by decide +kernel
theorem dX11_codeAt_2 : decode cX11_codeAt 2 = .ok (.iconst 0, 1) := by decide +kernel
theorem dX11_codeAt_3 : decode cX11_codeAt 3 = .ok (.istore_n 3, 1) := by decide +kernel
theorem dX11_codeAt_4 : decode cX11_codeAt 4 = .ok (.iload_n 3, 1) := by decide +kernel
theorem dX11_codeAt_5 : decode cX11_codeAt 5 = .ok (.iconst 4, 1) := by decide +kernel
theorem dX11_codeAt_6 : decode cX11_codeAt 6 = .ok (.if_icmp .ge 68, 3) := by decide +kernel
theorem dX11_codeAt_9 : decode cX11_codeAt 9 = .ok (.iconst 1, 1) := by decide +kernel
theorem dX11_codeAt_10 : decode cX11_codeAt 10 = .ok (.istore 4, 2) := by decide +kernel
theorem dX11_codeAt_12 : decode cX11_codeAt 12 = .ok (.iload_n 1, 1) := by decide +kernel
theorem dX11_codeAt_13 : decode cX11_codeAt 13 = .ok (.istore 5, 2) := by decide +kernel
theorem dX11_codeAt_15 : decode cX11_codeAt 15 = .ok (.iload 5, 2) := by decide +kernel
theorem dX11_codeAt_17 : decode cX11_codeAt 17 = .ok (.iload_n 1, 1) := by decide +kernel
theorem dX11_codeAt_18 : decode cX11_codeAt 18 = .ok (.iload_n 3, 1) := by decide +kernel
theorem dX11_codeAt_19 : decode cX11_codeAt 19 = .ok (.iadd, 1) := by decide +kernel
theorem dX11_codeAt_20 : decode cX11_codeAt 20 = .ok (.if_icmp .gt 20, 3) := by decide +kernel
theorem dX11_codeAt_23 : decode cX11_codeAt 23 = .ok (.iload 4, 2) := by decide +kernel
theorem dX11_codeAt_25 : decode cX11_codeAt 25 = .ok (.aload_n 0, 1) := by decide +kernel
theorem dX11_codeAt_26 : decode cX11_codeAt 26 = .ok (.iload 5, 2) := by decide +kernel
theorem dX11_codeAt_28 : decode cX11_codeAt 28 = .ok (.invokevirtual 88, 3) := by decide +kernel
theorem dX11_codeAt_31 : decode cX11_codeAt 31 = .ok (.iand, 1) := by decide +kernel
theorem dX11_codeAt_32 : decode cX11_codeAt 32 = .ok (.istore 4, 2) := by decide +kernel
theorem dX11_codeAt_34 : decode cX11_codeAt 34 = .ok (.iinc 5 1, 3) := by decide +kernel
theorem dX11_codeAt_37 : decode cX11_codeAt 37 = .ok (.goto (-22), 3) := by decide +kernel
theorem dX11_codeAt_40 : decode cX11_codeAt 40 = .ok (.bipush 27, 2) := by decide +kernel
theorem dX11_codeAt_42 : decode cX11_codeAt 42 = .ok (.iload_n 2, 1) := by decide +kernel
theorem dX11_codeAt_43 : decode cX11_codeAt 43 = .ok (.imul, 1) := by decide +kernel
theorem dX11_codeAt_44 : decode cX11_codeAt 44 = .ok (.iload 4, 2) := by decide +kernel
theorem dX11_codeAt_46 : decode cX11_codeAt 46 = .ok (.ifCond .eq 19, 3) := by decide +kernel
theorem dX11_codeAt_49 : decode cX11_codeAt 49 = .ok (.aload_n 0, 1) := by decide +kernel
theorem dX11_codeAt_50 : decode cX11_codeAt 50 = .ok (.getfield 20, 3) := by decide +kernel
theorem dX11_codeAt_53 : decode cX11_codeAt 53 = .ok (.iload_n 1, 1) := by decide +kernel
theorem dX11_codeAt_54 : decode cX11_codeAt 54 = .ok (.iload_n 3, 1) := by decide +kernel
theorem dX11_codeAt_55 : decode cX11_codeAt 55 = .ok (.iadd, 1) := by decide +kernel
theorem dX11_codeAt_56 : decode cX11_codeAt 56 = .ok (.iaload, 1) := by decide +kernel
theorem dX11_codeAt_57 : decode cX11_codeAt 57 = .ok (.bipush 97, 2) := by decide +kernel
theorem dX11_codeAt_59 : decode cX11_codeAt 59 = .ok (.isub, 1) := by decide +kernel
theorem dX11_codeAt_60 : decode cX11_codeAt 60 = .ok (.iconst 1, 1) := by decide +kernel
theorem dX11_codeAt_61 : decode cX11_codeAt 61 = .ok (.iadd, 1) := by decide +kernel
theorem dX11_codeAt_62 : decode cX11_codeAt 62 = .ok (.goto 4, 3) := by decide +kernel
theorem dX11_codeAt_65 : decode cX11_codeAt 65 = .ok (.iconst 0, 1) := by decide +kernel
theorem dX11_codeAt_66 : decode cX11_codeAt 66 = .ok (.iadd, 1) := by decide +kernel
theorem dX11_codeAt_67 : decode cX11_codeAt 67 = .ok (.istore_n 2, 1) := by decide +kernel
theorem dX11_codeAt_68 : decode cX11_codeAt 68 = .ok (.iinc 3 1, 3) := by decide +kernel
theorem dX11_codeAt_71 : decode cX11_codeAt 71 = .ok (.goto (-67), 3) := by decide +kernel
theorem dX11_codeAt_74 : decode cX11_codeAt 74 = .ok (.iload_n 2, 1) := by decide +kernel
theorem dX11_codeAt_75 : decode cX11_codeAt 75 = .ok (.ireturn, 1) := by decide +kernel
set_option maxRecDepth 20000 in
theorem ggX11_withCode_X11_many : GoodIn wsX11_withCode wsX11_many := goodIn_r _ [6, 1, 7, 8, 9, 10, 11, 12, 13, 14, 15, 16, 17, 18, 19, 20, 21, 22, 23, 24, 25, 26, 27, 28] rfl (by decide +kernel)
set_option maxRecDepth 20000 in
theorem gX11_withCode_X11_many : GoodIn wsX11_withCode (wsV RX11 65 RX11 yX11_many wsX11_many) := goodIn_app (goodIn_of _ (by decide +kernel)) ggX11_withCode_X11_many
theorem dX11_withCode_0 : decode cX11_withCode 0 = .ok (.iconst 0, 1) := by decide +kernel
theorem dX11_withCode_1 : decode cX11_withCode 1 = .ok (.istore_n 2, 1) := by decide +kernel
theorem dX11_withCode_2 : decode cX11_withCode 2 = .ok (.iload_n 2, 1) := by decide +kernel
theorem dX11_withCode_3 : decode cX11_withCode 3 = .ok (.aload_n 0, 1) := by decide +kernel
theorem dX11_withCode_4 : decode cX11_withCode 4 = .ok (.invokevirtual 65, 3) := by decide +kernel
theorem dX11_withCode_7 : decode cX11_withCode 7 = .ok (.if_icmp .ge 23, 3) := by decide +kernel
theorem dX11_withCode_10 : decode cX11_withCode 10 = .ok (.aload_n 0, 1) := by decide +kernel
theorem dX11_withCode_11 : decode cX11_withCode 11 = .ok (.getfield 13, 3) := by decide +kernel
theorem dX11_withCode_14 : decode cX11_withCode 14 = .ok (.iconst 0, 1) := by decide +kernel
theorem dX11_withCode_15 : decode cX11_withCode 15 = .ok (.iload_n 2, 1) := by decide +kernel
theorem dX11_withCode_16 : decode cX11_withCode 16 = .ok (.iadd, 1) := by decide +kernel
theorem dX11_withCode_17 : decode cX11_withCode 17 = .ok (.iaload, 1) := by decide +kernel
theorem dX11_withCode_18 : decode cX11_withCode 18 = .ok (.iload_n 1, 1) := by decide +kernel
theorem dX11_withCode_19 : decode cX11_withCode 19 = .ok (.if_icmp .ne 5, 3) := by decide +kernel
theorem dX11_withCode_22 : decode cX11_withCode 22 = .ok (.iload_n 2, 1) := by decide +kernel
theorem dX11_withCode_23 : decode cX11_withCode 23 = .ok (.ireturn, 1) := by decide +kernel
theorem dX11_withCode_24 : decode cX11_withCode 24 = .ok (.iinc 2 1, 3) := by decide +kernel
theorem dX11_withCode_27 : decode cX11_withCode 27 = .ok (.goto (-25), 3) := by decide +kernel
theorem dX11_withCode_30 : decode cX11_withCode 30 = .ok (.iconst (-1), 1) := by decide +kernel
theorem dX11_withCode_31 : decode cX11_withCode 31 = .ok (.ireturn, 1) := by decide +kernel
set_option maxRecDepth 20000 in
theorem ggX11_areNumbers_X11_in : GoodIn wsX11_areNumbers wsX11_in := goodIn_r _ [4] rfl (by decide +kernel)
set_option maxRecDepth 20000 in
theorem gX11_areNumbers_X11_in : GoodIn wsX11_areNumbers (va_wsS RX11 69 yX11_in wsX11_in) := goodIn_app (goodIn_of _ (by decide +kernel)) ggX11_areNumbers_X11_in
theorem dX11_areNumbers_0 : decode cX11_areNumbers 0 = .ok (.iload_n 0, 1) := by decide +kernel
theorem dX11_areNumbers_1 : decode cX11_areNumbers 1 = .ok (.iconst 0, 1) := by decide +kernel
theorem dX11_areNumbers_2 : decode cX11_areNumbers 2 = .ok (.iconst 5, 1) := by decide +kernel
theorem dX11_areNumbers_3 : decode cX11_areNumbers 3 = .ok (.invokestatic 69, 3) := by decide +kernel
theorem dX11_areNumbers_6 : decode cX11_areNumbers 6 = .ok (.ifCond .eq 38, 3) := by decide +kernel
theorem dX11_areNumbers_9 : decode cX11_areNumbers 9 = .ok (.iload_n 1, 1) := by decide +kernel
theorem dX11_areNumbers_10 : decode cX11_areNumbers 10 = .ok (.iconst 1, 1) := by decide +kernel
theorem dX11_areNumbers_11 : decode cX11_areNumbers 11 = .ok (.bipush 9, 2) := by decide +kernel
theorem dX11_areNumbers_13 : decode cX11_areNumbers 13 = .ok (.invokestatic 69, 3) := by decide +kernel
theorem dX11_areNumbers_16 : decode cX11_areNumbers 16 = .ok (.ifCond .eq 28, 3) := by decide +kernel
theorem dX11_areNumbers_19 : decode cX11_areNumbers 19 = .ok (.iload_n 2, 1) := by decide +kernel
theorem dX11_areNumbers_20 : decode cX11_areNumbers 20 = .ok (.iconst 1, 1) := by decide +kernel
theorem dX11_areNumbers_21 : decode cX11_areNumbers 21 = .ok (.bipush 99, 2) := by decide +kernel
theorem dX11_areNumbers_23 : decode cX11_areNumbers 23 = .ok (.invokestatic 69, 3) := by decide +kernel
theorem dX11_areNumbers_26 : decode cX11_areNumbers 26 = .ok (.ifCond .eq 18, 3) := by decide +kernel
theorem dX11_areNumbers_29 : decode cX11_areNumbers 29 = .ok (.iload_n 3, 1) := by decide +kernel
theorem dX11_areNumbers_30 : decode cX11_areNumbers 30 = .ok (.iconst 0, 1) := by decide +kernel
theorem dX11_areNumbers_31 : decode cX11_areNumbers 31 = .ok (.sipush 10000, 3) := by decide +kernel
theorem dX11_areNumbers_34 : decode cX11_areNumbers 34 = .ok (.invokestatic 69, 3) := by decide +kernel
theorem dX11_areNumbers_37 : decode cX11_areNumbers 37 = .ok (.ifCond .eq 7, 3) := by decide +kernel
theorem dX11_areNumbers_40 : decode cX11_areNumbers 40 = .ok (.iconst 1, 1) := by decide +kernel
theorem dX11_areNumbers_41 : decode cX11_areNumbers 41 = .ok (.goto 4, 3) := by decide +kernel
theorem dX11_areNumbers_44 : decode cX11_areNumbers 44 = .ok (.iconst 0, 1) := by decide +kernel
theorem dX11_areNumbers_45 : decode cX11_areNumbers 45 = .ok (.ireturn, 1) := by decide +kernel
set_option maxRecDepth 20000 in
theorem ggX11_comes_X11_many : GoodIn wsX11_comes wsX11_many := goodIn_r _ [6, 1, 7, 8, 9, 10, 11, 12, 13, 14, 15, 16, 17, 18, 19, 20, 21, 22, 23, 24, 25, 26, 27, 28] rfl (by decide +kernel)
set_option maxRecDepth 20000 in
theorem gX11_comes_X11_many : GoodIn wsX11_comes (wsV RX11 65 RX11 yX11_many wsX11_many) := goodIn_app (goodIn_of _ (by decide +kernel)) ggX11_comes_X11_many
theorem dX11_comes_0 : decode cX11_comes 0 = .ok (.aload_n 0, 1) := by decide +kernel
theorem dX11_comes_1 : decode cX11_comes 1 = .ok (.invokevirtual 65, 3) := by decide +kernel
theorem dX11_comes_4 : decode cX11_comes 4 = .ok (.istore 6, 2) := by decide +kernel
theorem dX11_comes_6 : decode cX11_comes 6 = .ok (.aload_n 0, 1) := by decide +kernel
theorem dX11_comes_7 : decode cX11_comes 7 = .ok (.getfield 13, 3) := by decide +kernel
theorem dX11_comes_10 : decode cX11_comes 10 = .ok (.iconst 0, 1) := by decide +kernel
theorem dX11_comes_11 : decode cX11_comes 11 = .ok (.iload 6, 2) := by decide +kernel
theorem dX11_comes_13 : decode cX11_comes 13 = .ok (.iadd, 1) := by decide +kernel
theorem dX11_comes_14 : decode cX11_comes 14 = .ok (.iload_n 1, 1) := by decide +kernel
theorem dX11_comes_15 : decode cX11_comes 15 = .ok (.iastore, 1) := by decide +kernel
theorem dX11_comes_16 : decode cX11_comes 16 = .ok (.aload_n 0, 1) := by decide +kernel
theorem dX11_comes_17 : decode cX11_comes 17 = .ok (.getfield 13, 3) := by decide +kernel
theorem dX11_comes_20 : decode cX11_comes 20 = .ok (.bipush 10, 2) := by decide +kernel
theorem dX11_comes_22 : decode cX11_comes 22 = .ok (.iload 6, 2) := by decide +kernel
theorem dX11_comes_24 : decode cX11_comes 24 = .ok (.iadd, 1) := by decide +kernel
theorem dX11_comes_25 : decode cX11_comes 25 = .ok (.iload_n 2, 1) := by decide +kernel
theorem dX11_comes_26 : decode cX11_comes 26 = .ok (.iastore, 1) := by decide +kernel
theorem dX11_comes_27 : decode cX11_comes 27 = .ok (.aload_n 0, 1) := by decide +kernel
theorem dX11_comes_28 : decode cX11_comes 28 = .ok (.getfield 13, 3) := by decide +kernel
theorem dX11_comes_31 : decode cX11_comes 31 = .ok (.bipush 20, 2) := by decide +kernel
theorem dX11_comes_33 : decode cX11_comes 33 = .ok (.iload 6, 2) := by decide +kernel
theorem dX11_comes_35 : decode cX11_comes 35 = .ok (.iadd, 1) := by decide +kernel
theorem dX11_comes_36 : decode cX11_comes 36 = .ok (.iload_n 3, 1) := by decide +kernel
theorem dX11_comes_37 : decode cX11_comes 37 = .ok (.iastore, 1) := by decide +kernel
theorem dX11_comes_38 : decode cX11_comes 38 = .ok (.aload_n 0, 1) := by decide +kernel
theorem dX11_comes_39 : decode cX11_comes 39 = .ok (.getfield 13, 3) := by decide +kernel
theorem dX11_comes_42 : decode cX11_comes 42 = .ok (.bipush 30, 2) := by decide +kernel
theorem dX11_comes_44 : decode cX11_comes 44 = .ok (.iload 6, 2) := by decide +kernel
theorem dX11_comes_46 : decode cX11_comes 46 = .ok (.iadd, 1) := by decide +kernel
theorem dX11_comes_47 : decode cX11_comes 47 = .ok (.iload 4, 2) := by decide +kernel
theorem dX11_comes_49 : decode cX11_comes 49 = .ok (.iastore, 1) := by decide +kernel
theorem dX11_comes_50 : decode cX11_comes 50 = .ok (.aload_n 0, 1) := by decide +kernel
theorem dX11_comes_51 : decode cX11_comes 51 = .ok (.getfield 13, 3) := by decide +kernel
theorem dX11_comes_54 : decode cX11_comes 54 = .ok (.bipush 40, 2) := by decide +kernel
theorem dX11_comes_56 : decode cX11_comes 56 = .ok (.iload 6, 2) := by decide +kernel
theorem dX11_comes_58 : decode cX11_comes 58 = .ok (.iadd, 1) := by decide +kernel
theorem dX11_comes_59 : decode cX11_comes 59 = .ok (.iload 5, 2) := by decide +kernel
theorem dX11_comes_61 : decode cX11_comes 61 = .ok (.iastore, 1) := by decide +kernel
theorem dX11_comes_62 : decode cX11_comes 62 = .ok (.aload_n 0, 1) := by decide +kernel
theorem dX11_comes_63 : decode cX11_comes 63 = .ok (.getfield 13, 3) := by decide +kernel
theorem dX11_comes_66 : decode cX11_comes 66 = .ok (.bipush 50, 2) := by decide +kernel
theorem dX11_comes_68 : decode cX11_comes 68 = .ok (.iload 6, 2) := by decide +kernel
theorem dX11_comes_70 : decode cX11_comes 70 = .ok (.iadd, 1) := by decide +kernel
theorem dX11_comes_71 : decode cX11_comes 71 = .ok (.iconst (-1), 1) := by decide +kernel
theorem dX11_comes_72 : decode cX11_comes 72 = .ok (.iastore, 1) := by decide +kernel
theorem dX11_comes_73 : decode cX11_comes 73 = .ok (.aload_n 0, 1) := by decide +kernel
theorem dX11_comes_74 : decode cX11_comes 74 = .ok (.getfield 13, 3) := by decide +kernel
theorem dX11_comes_77 : decode cX11_comes 77 = .ok (.bipush 60, 2) := by decide +kernel
theorem dX11_comes_79 : decode cX11_comes 79 = .ok (.iload 6, 2) := by decide +kernel
theorem dX11_comes_81 : decode cX11_comes 81 = .ok (.iadd, 1) := by decide +kernel
theorem dX11_comes_82 : decode cX11_comes 82 = .ok (.sipush 5000, 3) := by decide +kernel
theorem dX11_comes_85 : decode cX11_comes 85 = .ok (.iastore, 1) := by decide +kernel
theorem dX11_comes_86 : decode cX11_comes 86 = .ok (.aload_n 0, 1) := by decide +kernel
theorem dX11_comes_87 : decode cX11_comes 87 = .ok (.getfield 13, 3) := by decide +kernel
theorem dX11_comes_90 : decode cX11_comes 90 = .ok (.sipush 568, 3) := by decide +kernel
theorem dX11_comes_93 : decode cX11_comes 93 = .ok (.dup2, 1) := by decide +kernel
theorem dX11_comes_94 : decode cX11_comes 94 = .ok (.iaload, 1) := by decide +kernel
theorem dX11_comes_95 : decode cX11_comes 95 = .ok (.iconst 1, 1) := by decide +kernel
theorem dX11_comes_96 : decode cX11_comes 96 = .ok (.iadd, 1) := by decide +kernel
theorem dX11_comes_97 : decode cX11_comes 97 = .ok (.iastore, 1) := by decide +kernel
theorem dX11_comes_98 : decode cX11_comes 98 = .ok (.iload 6, 2) := by decide +kernel
theorem dX11_comes_100 : decode cX11_comes 100 = .ok (.ireturn, 1) := by decide +kernel
set_option maxRecDepth 20000 in
theorem ggX11_stone_X11_isLetter : GoodIn wsX11_stone wsX11_isLetter := goodIn_r _ [8, 2, 9, 43, 44, 45, 46, 47, 48, 49, 50, 51, 52, 53, 54, 55, 56, 57, 58, 59, 60, 61, 62, 63, 64] rfl (by decide +kernel)
set_option maxRecDepth 20000 in
theorem gX11_stone_X11_isLetter : GoodIn wsX11_stone (wsV RX11 88 RX11 yX11_isLetter wsX11_isLetter) := goodIn_app (goodIn_of _ (by decide +kernel)) ggX11_stone_X11_isLetter
set_option maxRecDepth 20000 in
theorem ggX11_stone_X11_codeAt : GoodIn wsX11_stone wsX11_codeAt := goodIn_r _ [13, 9, 4, 5, 6, 7, 8, 2, 43, 44, 45, 46, 47, 48, 49, 50, 51, 52, 53, 54, 55, 56, 57, 58, 59, 60, 61, 62, 63, 64] rfl (by decide +kernel)
set_option maxRecDepth 20000 in
theorem gX11_stone_X11_codeAt : GoodIn wsX11_stone (wsV RX11 92 RX11 yX11_codeAt wsX11_codeAt) := goodIn_app (goodIn_of _ (by decide +kernel)) ggX11_stone_X11_codeAt
set_option maxRecDepth 20000 in
theorem ggX11_stone_X11_areNumbers : GoodIn wsX11_stone wsX11_areNumbers := goodIn_r _ [16, 17, 18, 7, 19] rfl (by decide +kernel)
set_option maxRecDepth 20000 in
theorem gX11_stone_X11_areNumbers : GoodIn wsX11_stone (va_wsS RX11 95 yX11_areNumbers wsX11_areNumbers) := goodIn_app (goodIn_of _ (by decide +kernel)) ggX11_stone_X11_areNumbers
set_option maxRecDepth 20000 in
theorem ggX11_stone_X11_withCode : GoodIn wsX11_stone wsX11_withCode := goodIn_r _ [23, 24, 25, 26, 27, 7, 28, 43, 44, 45, 46, 47, 48, 49, 50, 51, 52, 53, 54, 55, 56, 57, 58, 59, 60, 61, 62, 63, 64] rfl (by decide +kernel)
set_option maxRecDepth 20000 in
theorem gX11_stone_X11_withCode : GoodIn wsX11_stone (wsV RX11 99 RX11 yX11_withCode wsX11_withCode) := goodIn_app (goodIn_of _ (by decide +kernel)) ggX11_stone_X11_withCode
set_option maxRecDepth 20000 in
theorem ggX11_stone_X11_fails : GoodIn wsX11_stone wsX11_fails := goodIn_r _ [32, 1, 43, 44, 45, 46, 47, 48, 49, 50, 51, 52, 53, 54, 55, 56, 57, 58, 59, 60, 61, 62, 63, 64] rfl (by decide +kernel)
set_option maxRecDepth 20000 in
theorem gX11_stone_X11_fails : GoodIn wsX11_stone (wsV RX11 73 RX11 yX11_fails wsX11_fails) := goodIn_app (goodIn_of _ (by decide +kernel)) ggX11_stone_X11_fails
set_option maxRecDepth 20000 in
theorem ggX11_stone_X11_many : GoodIn wsX11_stone wsX11_many := goodIn_r _ [28, 24, 43, 44, 45, 46, 47, 48, 49, 50, 51, 52, 53, 54, 55, 56, 57, 58, 59, 60, 61, 62, 63, 64] rfl (by decide +kernel)
set_option maxRecDepth 20000 in
theorem gX11_stone_X11_many : GoodIn wsX11_stone (wsV RX11 65 RX11 yX11_many wsX11_many) := goodIn_app (goodIn_of _ (by decide +kernel)) ggX11_stone_X11_many
set_option maxRecDepth 20000 in
theorem ggX11_stone_X11_keeps : GoodIn wsX11_stone wsX11_keeps := goodIn_r _ [36, 37, 38, 24, 43, 44, 45, 46, 47, 48, 49, 50, 51, 52, 53, 54, 55, 56, 57, 58, 59, 60, 61, 62, 63, 64] rfl (by decide +kernel)
set_option maxRecDepth 20000 in
theorem gX11_stone_X11_keeps : GoodIn wsX11_stone (wsV RX11 102 RX11 yX11_keeps wsX11_keeps) := goodIn_app (goodIn_of _ (by decide +kernel)) ggX11_stone_X11_keeps
set_option maxRecDepth 20000 in
theorem ggX11_stone_X11_comes : GoodIn wsX11_stone wsX11_comes := goodIn_r _ [42, 24, 25, 26, 27, 7, 28, 43, 44, 45, 46, 47, 48, 49, 50, 51, 52, 53, 54, 55, 56, 57, 58, 59, 60, 61, 62, 63, 64] rfl (by decide +kernel)
set_option maxRecDepth 20000 in
theorem gX11_stone_X11_comes : GoodIn wsX11_stone (wsV RX11 105 RX11 yX11_comes wsX11_comes) := goodIn_app (goodIn_of _ (by decide +kernel)) ggX11_stone_X11_comes
theorem dX11_stone_0 : decode cX11_stone 0 = .ok (.aload_n 0, 1) := by decide +kernel
theorem dX11_stone_1 : decode cX11_stone 1 = .ok (.iconst 0, 1) := by decide +kernel
theorem dX11_stone_2 : decode cX11_stone 2 = .ok (.putfield 1, 3) := by decide +kernel
theorem dX11_stone_5 : decode cX11_stone 5 = .ok (.iconst 0, 1) := by decide +kernel
theorem dX11_stone_6 : decode cX11_stone 6 = .ok (.istore 5, 2) := by decide +kernel
theorem dX11_stone_8 : decode cX11_stone 8 = .ok (.iload 5, 2) := by decide +kernel
theorem dX11_stone_10 : decode cX11_stone 10 = .ok (.iconst 4, 1) := by decide +kernel
theorem dX11_stone_11 : decode cX11_stone 11 = .ok (.if_icmp .ge 18, 3) := by decide +kernel
theorem dX11_stone_14 : decode cX11_stone 14 = .ok (.aload_n 0, 1) := by decide +kernel
theorem dX11_stone_15 : decode cX11_stone 15 = .ok (.iload 5, 2) := by decide +kernel
theorem dX11_stone_17 : decode cX11_stone 17 = .ok (.invokevirtual 88, 3) := by decide +kernel
theorem dX11_stone_20 : decode cX11_stone 20 = .ok (.ifCond .eq 9, 3) := by decide +kernel
theorem dX11_stone_23 : decode cX11_stone 23 = .ok (.iinc 5 1, 3) := by decide +kernel
theorem dX11_stone_26 : decode cX11_stone 26 = .ok (.goto (-18), 3) := by decide +kernel
theorem dX11_stone_29 : decode cX11_stone 29 = .ok (.aload_n 0, 1) := by decide +kernel
theorem dX11_stone_30 : decode cX11_stone 30 = .ok (.iconst 0, 1) := by decide +kernel
theorem dX11_stone_31 : decode cX11_stone 31 = .ok (.invokevirtual 92, 3) := by decide +kernel
theorem dX11_stone_34 : decode cX11_stone 34 = .ok (.istore 6, 2) := by decide +kernel
theorem dX11_stone_36 : decode cX11_stone 36 = .ok (.iload 5, 2) := by decide +kernel
theorem dX11_stone_38 : decode cX11_stone 38 = .ok (.ifCond .le 16, 3) := by decide +kernel
theorem dX11_stone_41 : decode cX11_stone 41 = .ok (.iload 5, 2) := by decide +kernel
theorem dX11_stone_43 : decode cX11_stone 43 = .ok (.aload_n 0, 1) := by decide +kernel
theorem dX11_stone_44 : decode cX11_stone 44 = .ok (.getfield 77, 3) := by decide +kernel
theorem dX11_stone_47 : decode cX11_stone 47 = .ok (.if_icmp .ne 7, 3) := by decide +kernel
theorem dX11_stone_50 : decode cX11_stone 50 = .ok (.iconst 1, 1) := by decide +kernel
theorem dX11_stone_51 : decode cX11_stone 51 = .ok (.goto 4, 3) := by decide +kernel
theorem dX11_stone_54 : decode cX11_stone 54 = .ok (.iconst 0, 1) := by decide +kernel
theorem dX11_stone_55 : decode cX11_stone 55 = .ok (.istore 7, 2) := by decide +kernel
theorem dX11_stone_57 : decode cX11_stone 57 = .ok (.iload_n 1, 1) := by decide +kernel
theorem dX11_stone_58 : decode cX11_stone 58 = .ok (.iload_n 2, 1) := by decide +kernel
theorem dX11_stone_59 : decode cX11_stone 59 = .ok (.iload_n 3, 1) := by decide +kernel
theorem dX11_stone_60 : decode cX11_stone 60 = .ok (.iload 4, 2) := by decide +kernel
theorem dX11_stone_62 : decode cX11_stone 62 = .ok (.invokestatic 95, 3) := by decide +kernel
theorem dX11_stone_65 : decode cX11_stone 65 = .ok (.istore 8, 2) := by decide +kernel
theorem dX11_stone_67 : decode cX11_stone 67 = .ok (.aload_n 0, 1) := by decide +kernel
theorem dX11_stone_68 : decode cX11_stone 68 = .ok (.iconst 0, 1) := by decide +kernel
theorem dX11_stone_69 : decode cX11_stone 69 = .ok (.putfield 77, 3) := by decide +kernel
theorem dX11_stone_72 : decode cX11_stone 72 = .ok (.aload_n 0, 1) := by decide +kernel
theorem dX11_stone_73 : decode cX11_stone 73 = .ok (.iload 8, 2) := by decide +kernel
theorem dX11_stone_75 : decode cX11_stone 75 = .ok (.ifCond .ne 7, 3) := by decide +kernel
theorem dX11_stone_78 : decode cX11_stone 78 = .ok (.iconst (-1), 1) := by decide +kernel
theorem dX11_stone_79 : decode cX11_stone 79 = .ok (.goto 28, 3) := by decide +kernel
theorem dX11_stone_82 : decode cX11_stone 82 = .ok (.iload 7, 2) := by decide +kernel
theorem dX11_stone_84 : decode cX11_stone 84 = .ok (.ifCond .ne 8, 3) := by decide +kernel
theorem dX11_stone_87 : decode cX11_stone 87 = .ok (.iload 5, 2) := by decide +kernel
theorem dX11_stone_89 : decode cX11_stone 89 = .ok (.goto 18, 3) := by decide +kernel
theorem dX11_stone_92 : decode cX11_stone 92 = .ok (.aload_n 0, 1) := by decide +kernel
theorem dX11_stone_93 : decode cX11_stone 93 = .ok (.iload 6, 2) := by decide +kernel
theorem dX11_stone_95 : decode cX11_stone 95 = .ok (.invokevirtual 99, 3) := by decide +kernel
theorem dX11_stone_98 : decode cX11_stone 98 = .ok (.iconst (-1), 1) := by decide +kernel
theorem dX11_stone_99 : decode cX11_stone 99 = .ok (.if_icmp .eq 7, 3) := by decide +kernel
theorem dX11_stone_102 : decode cX11_stone 102 = .ok (.iconst 0, 1) := by decide +kernel
theorem dX11_stone_103 : decode cX11_stone 103 = .ok (.goto 4, 3) := by decide +kernel
theorem dX11_stone_106 : decode cX11_stone 106 = .ok (.iconst (-1), 1) := by decide +kernel
theorem dX11_stone_107 : decode cX11_stone 107 = .ok (.putfield 23, 3) := by decide +kernel
theorem dX11_stone_110 : decode cX11_stone 110 = .ok (.aload_n 0, 1) := by decide +kernel
theorem dX11_stone_111 : decode cX11_stone 111 = .ok (.iload 8, 2) := by decide +kernel
theorem dX11_stone_113 : decode cX11_stone 113 = .ok (.ifCond .eq 15, 3) := by decide +kernel
theorem dX11_stone_116 : decode cX11_stone 116 = .ok (.aload_n 0, 1) := by decide +kernel
theorem dX11_stone_117 : decode cX11_stone 117 = .ok (.getfield 23, 3) := by decide +kernel
theorem dX11_stone_120 : decode cX11_stone 120 = .ok (.iconst (-1), 1) := by decide +kernel
theorem dX11_stone_121 : decode cX11_stone 121 = .ok (.if_icmp .ne 7, 3) := by decide +kernel
theorem dX11_stone_124 : decode cX11_stone 124 = .ok (.iconst 1, 1) := by decide +kernel
theorem dX11_stone_125 : decode cX11_stone 125 = .ok (.goto 4, 3) := by decide +kernel
theorem dX11_stone_128 : decode cX11_stone 128 = .ok (.iconst 0, 1) := by decide +kernel
theorem dX11_stone_129 : decode cX11_stone 129 = .ok (.iconst 1, 1) := by decide +kernel
theorem dX11_stone_130 : decode cX11_stone 130 = .ok (.invokevirtual 73, 3) := by decide +kernel
theorem dX11_stone_133 : decode cX11_stone 133 = .ok (.ifCond .ne 25, 3) := by decide +kernel
