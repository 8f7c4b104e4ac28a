theorem dX11_stone_136 : decode cX11_stone 136 = .ok (.aload_n 0, 1) := by decide +kernel
theorem dX11_stone_137 : decode cX11_stone 137 = .ok (.aload_n 0, 1) := by decide +kernel
theorem dX11_stone_138 : decode cX11_stone 138 = .ok (.invokevirtual 65, 3) := by decide +kernel
theorem dX11_stone_141 : decode cX11_stone 141 = .ok (.bipush 10, 2) := by decide +kernel
theorem dX11_stone_143 : decode cX11_stone 143 = .ok (.if_icmp .ge 7, 3) := by decide +kernel
theorem dX11_stone_146 : decode cX11_stone 146 = .ok (.iconst 1, 1) := by decide +kernel
theorem dX11_stone_147 : decode cX11_stone 147 = .ok (.goto 4, 3) := by decide +kernel
theorem dX11_stone_150 : decode cX11_stone 150 = .ok (.iconst 0, 1) := by decide +kernel
theorem dX11_stone_151 : decode cX11_stone 151 = .ok (.iconst 2, 1) := by decide +kernel
theorem dX11_stone_152 : decode cX11_stone 152 = .ok (.invokevirtual 73, 3) := by decide +kernel
theorem dX11_stone_155 : decode cX11_stone 155 = .ok (.ifCond .eq 5, 3) := by decide +kernel
theorem dX11_stone_158 : decode cX11_stone 158 = .ok (.iconst 0, 1) := by decide +kernel
theorem dX11_stone_159 : decode cX11_stone 159 = .ok (.ireturn, 1) := by decide +kernel
theorem dX11_stone_160 : decode cX11_stone 160 = .ok (.aload_n 0, 1) := by decide +kernel
theorem dX11_stone_161 : decode cX11_stone 161 = .ok (.invokevirtual 102, 3) := by decide +kernel
theorem dX11_stone_164 : decode cX11_stone 164 = .ok (.aload_n 0, 1) := by decide +kernel
theorem dX11_stone_165 : decode cX11_stone 165 = .ok (.iload 6, 2) := by decide +kernel
theorem dX11_stone_167 : decode cX11_stone 167 = .ok (.iload_n 1, 1) := by decide +kernel
theorem dX11_stone_168 : decode cX11_stone 168 = .ok (.iload_n 2, 1) := by decide +kernel
theorem dX11_stone_169 : decode cX11_stone 169 = .ok (.iload_n 3, 1) := by decide +kernel
theorem dX11_stone_170 : decode cX11_stone 170 = .ok (.iload 4, 2) := by decide +kernel
theorem dX11_stone_172 : decode cX11_stone 172 = .ok (.invokevirtual 105, 3) := by decide +kernel
theorem dX11_stone_175 : decode cX11_stone 175 = .ok (.ireturn, 1) := by decide +kernel
set_option maxRecDepth 20000 in
theorem ggX11_stones_X11_many : GoodIn wsX11_stones wsX11_many := goodIn_r _ [6, 7, 8, 9, 10, 11, 12, 13, 14, 15, 16, 17, 18, 19, 20, 21, 22, 23, 24, 25, 26, 27, 28, 29] rfl (by decide +kernel)
set_option maxRecDepth 20000 in
theorem gX11_stones_X11_many : GoodIn wsX11_stones (wsV RX11 65 RX11 yX11_many wsX11_many) := goodIn_app (goodIn_of _ (by decide +kernel)) ggX11_stones_X11_many
theorem dX11_stones_0 : decode cX11_stones 0 = .ok (.aload_n 0, 1) := by decide +kernel
theorem dX11_stones_1 : decode cX11_stones 1 = .ok (.iconst 0, 1) := by decide +kernel
theorem dX11_stones_2 : decode cX11_stones 2 = .ok (.putfield 1, 3) := by decide +kernel
theorem dX11_stones_5 : decode cX11_stones 5 = .ok (.aload_n 0, 1) := by decide +kernel
theorem dX11_stones_6 : decode cX11_stones 6 = .ok (.invokevirtual 65, 3) := by decide +kernel
theorem dX11_stones_9 : decode cX11_stones 9 = .ok (.ireturn, 1) := by decide +kernel
set_option maxRecDepth 20000 in
theorem ggX11_placeOf_X11_many : GoodIn wsX11_placeOf wsX11_many := goodIn_r _ [6, 1, 7, 8, 9, 10, 11, 12, 13, 14, 15, 16, 17, 18, 19, 20, 21, 22, 23, 24, 25, 26, 27, 28] rfl (by decide +kernel)
set_option maxRecDepth 20000 in
theorem gX11_placeOf_X11_many : GoodIn wsX11_placeOf (wsV RX11 65 RX11 yX11_many wsX11_many) := goodIn_app (goodIn_of _ (by decide +kernel)) ggX11_placeOf_X11_many
theorem dX11_placeOf_0 : decode cX11_placeOf 0 = .ok (.iconst 0, 1) := by decide +kernel
theorem dX11_placeOf_1 : decode cX11_placeOf 1 = .ok (.istore_n 2, 1) := by decide +kernel
theorem dX11_placeOf_2 : decode cX11_placeOf 2 = .ok (.iconst 0, 1) := by decide +kernel
theorem dX11_placeOf_3 : decode cX11_placeOf 3 = .ok (.istore_n 3, 1) := by decide +kernel
theorem dX11_placeOf_4 : decode cX11_placeOf 4 = .ok (.iload_n 3, 1) := by decide +kernel
theorem dX11_placeOf_5 : decode cX11_placeOf 5 = .ok (.aload_n 0, 1) := by decide +kernel
theorem dX11_placeOf_6 : decode cX11_placeOf 6 = .ok (.invokevirtual 65, 3) := by decide +kernel
theorem dX11_placeOf_9 : decode cX11_placeOf 9 = .ok (.if_icmp .ge 36, 3) := by decide +kernel
theorem dX11_placeOf_12 : decode cX11_placeOf 12 = .ok (.iload_n 2, 1) := by decide +kernel
theorem dX11_placeOf_13 : decode cX11_placeOf 13 = .ok (.aload_n 0, 1) := by decide +kernel
theorem dX11_placeOf_14 : decode cX11_placeOf 14 = .ok (.getfield 13, 3) := by decide +kernel
theorem dX11_placeOf_17 : decode cX11_placeOf 17 = .ok (.iconst 0, 1) := by decide +kernel
theorem dX11_placeOf_18 : decode cX11_placeOf 18 = .ok (.iload_n 3, 1) := by decide +kernel
theorem dX11_placeOf_19 : decode cX11_placeOf 19 = .ok (.iadd, 1) := by decide +kernel
theorem dX11_placeOf_20 : decode cX11_placeOf 20 = .ok (.iaload, 1) := by decide +kernel
theorem dX11_placeOf_21 : decode cX11_placeOf 21 = .ok (.aload_n 0, 1) := by decide +kernel
theorem dX11_placeOf_22 : decode cX11_placeOf 22 = .ok (.getfield 13, 3) := by decide +kernel
theorem dX11_placeOf_25 : decode cX11_placeOf 25 = .ok (.iconst 0, 1) := by decide +kernel
theorem dX11_placeOf_26 : decode cX11_placeOf 26 = .ok (.iload_n 1, 1) := by decide +kernel
theorem dX11_placeOf_27 : decode cX11_placeOf 27 = .ok (.iadd, 1) := by decide +kernel
theorem dX11_placeOf_28 : decode cX11_placeOf 28 = .ok (.iaload, 1) := by decide +kernel
theorem dX11_placeOf_29 : decode cX11_placeOf 29 = .ok (.if_icmp .ge 7, 3) := by decide +kernel
theorem dX11_placeOf_32 : decode cX11_placeOf 32 = .ok (.iconst 1, 1) := by decide +kernel
theorem dX11_placeOf_33 : decode cX11_placeOf 33 = .ok (.goto 4, 3) := by decide +kernel
theorem dX11_placeOf_36 : decode cX11_placeOf 36 = .ok (.iconst 0, 1) := by decide +kernel
theorem dX11_placeOf_37 : decode cX11_placeOf 37 = .ok (.iadd, 1) := by decide +kernel
theorem dX11_placeOf_38 : decode cX11_placeOf 38 = .ok (.istore_n 2, 1) := by decide +kernel
theorem dX11_placeOf_39 : decode cX11_placeOf 39 = .ok (.iinc 3 1, 3) := by decide +kernel
theorem dX11_placeOf_42 : decode cX11_placeOf 42 = .ok (.goto (-38), 3) := by decide +kernel
theorem dX11_placeOf_45 : decode cX11_placeOf 45 = .ok (.iload_n 2, 1) := by decide +kernel
theorem dX11_placeOf_46 : decode cX11_placeOf 46 = .ok (.ireturn, 1) := by decide +kernel
set_option maxRecDepth 20000 in
theorem ggX11_stoneOf_X11_noStone : GoodIn wsX11_stoneOf wsX11_noStone := goodIn_r _ [7, 8, 9, 10, 6, 11, 2, 12, 13, 14, 15, 16, 17, 18, 1, 23, 24, 25, 26, 27, 28, 29, 30, 31, 32, 33, 34, 35, 36, 37, 38, 39, 40, 41, 42, 43, 44] rfl (by decide +kernel)
set_option maxRecDepth 20000 in
theorem gX11_stoneOf_X11_noStone : GoodIn wsX11_stoneOf (wsV RX11 109 RX11 yX11_noStone wsX11_noStone) := goodIn_app (goodIn_of _ (by decide +kernel)) ggX11_stoneOf_X11_noStone
set_option maxRecDepth 20000 in
theorem ggX11_stoneOf_X11_in : GoodIn wsX11_stoneOf wsX11_in := goodIn_r _ [14] rfl (by decide +kernel)
set_option maxRecDepth 20000 in
theorem gX11_stoneOf_X11_in : GoodIn wsX11_stoneOf (va_wsS RX11 69 yX11_in wsX11_in) := goodIn_app (goodIn_of _ (by decide +kernel)) ggX11_stoneOf_X11_in
set_option maxRecDepth 20000 in
theorem ggX11_stoneOf_X11_fails : GoodIn wsX11_stoneOf wsX11_fails := goodIn_r _ [18, 1, 23, 24, 25, 26, 27, 28, 29, 30, 31, 32, 33, 34, 35, 36, 37, 38, 39, 40, 41, 42, 43, 44] rfl (by decide +kernel)
set_option maxRecDepth 20000 in
theorem gX11_stoneOf_X11_fails : GoodIn wsX11_stoneOf (wsV RX11 73 RX11 yX11_fails wsX11_fails) := goodIn_app (goodIn_of _ (by decide +kernel)) ggX11_stoneOf_X11_fails
set_option maxRecDepth 20000 in
theorem ggX11_stoneOf_X11_placeOf : GoodIn wsX11_stoneOf wsX11_placeOf := goodIn_r _ [22, 2, 8, 9, 10, 6, 11, 23, 24, 25, 26, 27, 28, 29, 30, 31, 32, 33, 34, 35, 36, 37, 38, 39, 40, 41, 42, 43, 44] rfl (by decide +kernel)
set_option maxRecDepth 20000 in
theorem gX11_stoneOf_X11_placeOf : GoodIn wsX11_stoneOf (wsV RX11 112 RX11 yX11_placeOf wsX11_placeOf) := goodIn_app (goodIn_of _ (by decide +kernel)) ggX11_stoneOf_X11_placeOf
theorem dX11_stoneOf_0 : decode cX11_stoneOf 0 = .ok (.aload_n 0, 1) := by decide +kernel
theorem dX11_stoneOf_1 : decode cX11_stoneOf 1 = .ok (.iconst 0, 1) := by decide +kernel
theorem dX11_stoneOf_2 : decode cX11_stoneOf 2 = .ok (.putfield 1, 3) := by decide +kernel
theorem dX11_stoneOf_5 : decode cX11_stoneOf 5 = .ok (.aload_n 0, 1) := by decide +kernel
theorem dX11_stoneOf_6 : decode cX11_stoneOf 6 = .ok (.iload_n 1, 1) := by decide +kernel
theorem dX11_stoneOf_7 : decode cX11_stoneOf 7 = .ok (.invokevirtual 109, 3) := by decide +kernel
theorem dX11_stoneOf_10 : decode cX11_stoneOf 10 = .ok (.ifCond .ne 17, 3) := by decide +kernel
theorem dX11_stoneOf_13 : decode cX11_stoneOf 13 = .ok (.aload_n 0, 1) := by decide +kernel
theorem dX11_stoneOf_14 : decode cX11_stoneOf 14 = .ok (.iload_n 2, 1) := by decide +kernel
theorem dX11_stoneOf_15 : decode cX11_stoneOf 15 = .ok (.iconst 0, 1) := by decide +kernel
theorem dX11_stoneOf_16 : decode cX11_stoneOf 16 = .ok (.iconst 5, 1) := by decide +kernel
theorem dX11_stoneOf_17 : decode cX11_stoneOf 17 = .ok (.invokestatic 69, 3) := by decide +kernel
theorem dX11_stoneOf_20 : decode cX11_stoneOf 20 = .ok (.iconst 2, 1) := by decide +kernel
theorem dX11_stoneOf_21 : decode cX11_stoneOf 21 = .ok (.invokevirtual 73, 3) := by decide +kernel
theorem dX11_stoneOf_24 : decode cX11_stoneOf 24 = .ok (.ifCond .eq 5, 3) := by decide +kernel
theorem dX11_stoneOf_27 : decode cX11_stoneOf 27 = .ok (.iconst 0, 1) := by decide +kernel
theorem dX11_stoneOf_28 : decode cX11_stoneOf 28 = .ok (.ireturn, 1) := by decide +kernel
theorem dX11_stoneOf_29 : decode cX11_stoneOf 29 = .ok (.iload_n 2, 1) := by decide +kernel
theorem dX11_stoneOf_30 : decode cX11_stoneOf 30 = .ok (.iconst 5, 1) := by decide +kernel
theorem dX11_stoneOf_31 : decode cX11_stoneOf 31 = .ok (.if_icmp .ne 11, 3) := by decide +kernel
theorem dX11_stoneOf_34 : decode cX11_stoneOf 34 = .ok (.aload_n 0, 1) := by decide +kernel
theorem dX11_stoneOf_35 : decode cX11_stoneOf 35 = .ok (.iload_n 1, 1) := by decide +kernel
theorem dX11_stoneOf_36 : decode cX11_stoneOf 36 = .ok (.invokevirtual 112, 3) := by decide +kernel
theorem dX11_stoneOf_39 : decode cX11_stoneOf 39 = .ok (.goto 17, 3) := by decide +kernel
theorem dX11_stoneOf_42 : decode cX11_stoneOf 42 = .ok (.aload_n 0, 1) := by decide +kernel
theorem dX11_stoneOf_43 : decode cX11_stoneOf 43 = .ok (.getfield 13, 3) := by decide +kernel
theorem dX11_stoneOf_46 : decode cX11_stoneOf 46 = .ok (.bipush 10, 2) := by decide +kernel
theorem dX11_stoneOf_48 : decode cX11_stoneOf 48 = .ok (.bipush 10, 2) := by decide +kernel
theorem dX11_stoneOf_50 : decode cX11_stoneOf 50 = .ok (.iload_n 2, 1) := by decide +kernel
theorem dX11_stoneOf_51 : decode cX11_stoneOf 51 = .ok (.imul, 1) := by decide +kernel
theorem dX11_stoneOf_52 : decode cX11_stoneOf 52 = .ok (.iadd, 1) := by decide +kernel
theorem dX11_stoneOf_53 : decode cX11_stoneOf 53 = .ok (.iload_n 1, 1) := by decide +kernel
theorem dX11_stoneOf_54 : decode cX11_stoneOf 54 = .ok (.iadd, 1) := by decide +kernel
theorem dX11_stoneOf_55 : decode cX11_stoneOf 55 = .ok (.iaload, 1) := by decide +kernel
theorem dX11_stoneOf_56 : decode cX11_stoneOf 56 = .ok (.ireturn, 1) := by decide +kernel
set_option maxRecDepth 20000 in
theorem ggX11_scratch_X11_noStone : GoodIn wsX11_scratch wsX11_noStone := goodIn_r _ [7, 8, 9, 10, 6, 11, 2, 12, 13, 14, 15, 16, 17, 18, 1, 25, 26, 27, 28, 29, 30, 31, 32, 33, 34, 35, 36, 37, 38, 39, 40, 41, 42, 43, 44, 45, 46] rfl (by decide +kernel)
set_option maxRecDepth 20000 in
theorem gX11_scratch_X11_noStone : GoodIn wsX11_scratch (wsV RX11 109 RX11 yX11_noStone wsX11_noStone) := goodIn_app (goodIn_of _ (by decide +kernel)) ggX11_scratch_X11_noStone
set_option maxRecDepth 20000 in
theorem ggX11_scratch_X11_fails : GoodIn wsX11_scratch wsX11_fails := goodIn_r _ [18, 1, 25, 26, 27, 28, 29, 30, 31, 32, 33, 34, 35, 36, 37, 38, 39, 40, 41, 42, 43, 44, 45, 46] rfl (by decide +kernel)
set_option maxRecDepth 20000 in
theorem gX11_scratch_X11_fails : GoodIn wsX11_scratch (wsV RX11 73 RX11 yX11_fails wsX11_fails) := goodIn_app (goodIn_of _ (by decide +kernel)) ggX11_scratch_X11_fails
set_option maxRecDepth 20000 in
theorem ggX11_scratch_X11_keeps : GoodIn wsX11_scratch wsX11_keeps := goodIn_r _ [22, 23, 24, 2, 25, 26, 27, 28, 29, 30, 31, 32, 33, 34, 35, 36, 37, 38, 39, 40, 41, 42, 43, 44, 45, 46] rfl (by decide +kernel)
set_option maxRecDepth 20000 in
theorem gX11_scratch_X11_keeps : GoodIn wsX11_scratch (wsV RX11 102 RX11 yX11_keeps wsX11_keeps) := goodIn_app (goodIn_of _ (by decide +kernel)) ggX11_scratch_X11_keeps
theorem dX11_scratch_0 : decode cX11_scratch 0 = .ok (.aload_n 0, 1) := by decide +kernel
theorem dX11_scratch_1 : decode cX11_scratch 1 = .ok (.iconst 0, 1) := by decide +kernel
theorem dX11_scratch_2 : decode cX11_scratch 2 = .ok (.putfield 1, 3) := by decide +kernel
theorem dX11_scratch_5 : decode cX11_scratch 5 = .ok (.aload_n 0, 1) := by decide +kernel
theorem dX11_scratch_6 : decode cX11_scratch 6 = .ok (.iload_n 1, 1) := by decide +kernel
theorem dX11_scratch_7 : decode cX11_scratch 7 = .ok (.invokevirtual 109, 3) := by decide +kernel
theorem dX11_scratch_10 : decode cX11_scratch 10 = .ok (.ifCond .ne 55, 3) := by decide +kernel
theorem dX11_scratch_13 : decode cX11_scratch 13 = .ok (.aload_n 0, 1) := by decide +kernel
theorem dX11_scratch_14 : decode cX11_scratch 14 = .ok (.iload_n 2, 1) := by decide +kernel
theorem dX11_scratch_15 : decode cX11_scratch 15 = .ok (.invokevirtual 109, 3) := by decide +kernel
theorem dX11_scratch_18 : decode cX11_scratch 18 = .ok (.ifCond .ne 47, 3) := by decide +kernel
theorem dX11_scratch_21 : decode cX11_scratch 21 = .ok (.aload_n 0, 1) := by decide +kernel
theorem dX11_scratch_22 : decode cX11_scratch 22 = .ok (.iload_n 1, 1) := by decide +kernel
theorem dX11_scratch_23 : decode cX11_scratch 23 = .ok (.iload_n 2, 1) := by decide +kernel
theorem dX11_scratch_24 : decode cX11_scratch 24 = .ok (.if_icmp .eq 7, 3) := by decide +kernel
theorem dX11_scratch_27 : decode cX11_scratch 27 = .ok (.iconst 1, 1) := by decide +kernel
theorem dX11_scratch_28 : decode cX11_scratch 28 = .ok (.goto 4, 3) := by decide +kernel
theorem dX11_scratch_31 : decode cX11_scratch 31 = .ok (.iconst 0, 1) := by decide +kernel
theorem dX11_scratch_32 : decode cX11_scratch 32 = .ok (.iconst 2, 1) := by decide +kernel
theorem dX11_scratch_33 : decode cX11_scratch 33 = .ok (.invokevirtual 73, 3) := by decide +kernel
theorem dX11_scratch_36 : decode cX11_scratch 36 = .ok (.ifCond .ne 29, 3) := by decide +kernel
theorem dX11_scratch_39 : decode cX11_scratch 39 = .ok (.aload_n 0, 1) := by decide +kernel
theorem dX11_scratch_40 : decode cX11_scratch 40 = .ok (.aload_n 0, 1) := by decide +kernel
theorem dX11_scratch_41 : decode cX11_scratch 41 = .ok (.getfield 13, 3) := by decide +kernel
theorem dX11_scratch_44 : decode cX11_scratch 44 = .ok (.sipush 569, 3) := by decide +kernel
theorem dX11_scratch_47 : decode cX11_scratch 47 = .ok (.iaload, 1) := by decide +kernel
theorem dX11_scratch_48 : decode cX11_scratch 48 = .ok (.bipush 40, 2) := by decide +kernel
theorem dX11_scratch_50 : decode cX11_scratch 50 = .ok (.if_icmp .ge 7, 3) := by decide +kernel
theorem dX11_scratch_53 : decode cX11_scratch 53 = .ok (.iconst 1, 1) := by decide +kernel
theorem dX11_scratch_54 : decode cX11_scratch 54 = .ok (.goto 4, 3) := by decide +kernel
theorem dX11_scratch_57 : decode cX11_scratch 57 = .ok (.iconst 0, 1) := by decide +kernel
theorem dX11_scratch_58 : decode cX11_scratch 58 = .ok (.iconst 3, 1) := by decide +kernel
theorem dX11_scratch_59 : decode cX11_scratch 59 = .ok (.invokevirtual 73, 3) := by decide +kernel
theorem dX11_scratch_62 : decode cX11_scratch 62 = .ok (.ifCond .eq 5, 3) := by decide +kernel
theorem dX11_scratch_65 : decode cX11_scratch 65 = .ok (.iconst 0, 1) := by decide +kernel
theorem dX11_scratch_66 : decode cX11_scratch 66 = .ok (.ireturn, 1) := by decide +kernel
theorem dX11_scratch_67 : decode cX11_scratch 67 = .ok (.aload_n 0, 1) := by decide +kernel
theorem dX11_scratch_68 : decode cX11_scratch 68 = .ok (.invokevirtual 102, 3) := by decide +kernel
theorem dX11_scratch_71 : decode cX11_scratch 71 = .ok (.aload_n 0, 1) := by decide +kernel
theorem dX11_scratch_72 : decode cX11_scratch 72 = .ok (.getfield 13, 3) := by decide +kernel
theorem dX11_scratch_75 : decode cX11_scratch 75 = .ok (.sipush 569, 3) := by decide +kernel
theorem dX11_scratch_78 : decode cX11_scratch 78 = .ok (.iaload, 1) := by decide +kernel
theorem dX11_scratch_79 : decode cX11_scratch 79 = .ok (.istore_n 3, 1) := by decide +kernel
theorem dX11_scratch_80 : decode cX11_scratch 80 = .ok (.aload_n 0, 1) := by decide +kernel
theorem dX11_scratch_81 : decode cX11_scratch 81 = .ok (.getfield 13, 3) := by decide +kernel
theorem dX11_scratch_84 : decode cX11_scratch 84 = .ok (.bipush 70, 2) := by decide +kernel
theorem dX11_scratch_86 : decode cX11_scratch 86 = .ok (.iload_n 3, 1) := by decide +kernel
theorem dX11_scratch_87 : decode cX11_scratch 87 = .ok (.iadd, 1) := by decide +kernel
theorem dX11_scratch_88 : decode cX11_scratch 88 = .ok (.iload_n 1, 1) := by decide +kernel
theorem dX11_scratch_89 : decode cX11_scratch 89 = .ok (.iastore, 1) := by decide +kernel
theorem dX11_scratch_90 : decode cX11_scratch 90 = .ok (.aload_n 0, 1) := by decide +kernel
theorem dX11_scratch_91 : decode cX11_scratch 91 = .ok (.getfield 13, 3) := by decide +kernel
theorem dX11_scratch_94 : decode cX11_scratch 94 = .ok (.bipush 110, 2) := by decide +kernel
theorem dX11_scratch_96 : decode cX11_scratch 96 = .ok (.iload_n 3, 1) := by decide +kernel
theorem dX11_scratch_97 : decode cX11_scratch 97 = .ok (.iadd, 1) := by decide +kernel
theorem dX11_scratch_98 : decode cX11_scratch 98 = .ok (.iload_n 2, 1) := by decide +kernel
theorem dX11_scratch_99 : decode cX11_scratch 99 = .ok (.iastore, 1) := by decide +kernel
theorem dX11_scratch_100 : decode cX11_scratch 100 = .ok (.aload_n 0, 1) := by decide +kernel
theorem dX11_scratch_101 : decode cX11_scratch 101 = .ok (.getfield 13, 3) := by decide +kernel
theorem dX11_scratch_104 : decode cX11_scratch 104 = .ok (.sipush 569, 3) := by decide +kernel
theorem dX11_scratch_107 : decode cX11_scratch 107 = .ok (.dup2, 1) := by decide +kernel
theorem dX11_scratch_108 : decode cX11_scratch 108 = .ok (.iaload, 1) := by decide +kernel
theorem dX11_scratch_109 : decode cX11_scratch 109 = .ok (.iconst 1, 1) := by decide +kernel
theorem dX11_scratch_110 : decode cX11_scratch 110 = .ok (.iadd, 1) := by decide +kernel
theorem dX11_scratch_111 : decode cX11_scratch 111 = .ok (.iastore, 1) := by decide +kernel
theorem dX11_scratch_112 : decode cX11_scratch 112 = .ok (.iload_n 3, 1) := by decide +kernel
theorem dX11_scratch_113 : decode cX11_scratch 113 = .ok (.ireturn, 1) := by decide +kernel
set_option maxRecDepth 20000 in
theorem ggX11_unscratch_X11_in : GoodIn wsX11_unscratch wsX11_in := goodIn_r _ [6] rfl (by decide +kernel)
set_option maxRecDepth 20000 in
theorem gX11_unscratch_X11_in : GoodIn wsX11_unscratch (va_wsS RX11 69 yX11_in wsX11_in) := goodIn_app (goodIn_of _ (by decide +kernel)) ggX11_unscratch_X11_in
set_option maxRecDepth 20000 in
theorem ggX11_unscratch_X11_fails : GoodIn wsX11_unscratch wsX11_fails := goodIn_r _ [10, 1, 17, 18, 19, 20, 21, 22, 23, 24, 25, 26, 27, 28, 29, 30, 31, 32, 33, 34, 35, 36, 37, 38] rfl (by decide +kernel)
set_option maxRecDepth 20000 in
theorem gX11_unscratch_X11_fails : GoodIn wsX11_unscratch (wsV RX11 73 RX11 yX11_fails wsX11_fails) := goodIn_app (goodIn_of _ (by decide +kernel)) ggX11_unscratch_X11_fails
set_option maxRecDepth 20000 in
theorem ggX11_unscratch_X11_keeps : GoodIn wsX11_unscratch wsX11_keeps := goodIn_r _ [14, 15, 16, 2, 17, 18, 19, 20, 21, 22, 23, 24, 25, 26, 27, 28, 29, 30, 31, 32, 33, 34, 35, 36, 37, 38] rfl (by decide +kernel)
set_option maxRecDepth 20000 in
theorem gX11_unscratch_X11_keeps : GoodIn wsX11_unscratch (wsV RX11 102 RX11 yX11_keeps wsX11_keeps) := goodIn_app (goodIn_of _ (by decide +kernel)) ggX11_unscratch_X11_keeps
theorem dX11_unscratch_0 : decode cX11_unscratch 0 = .ok (.aload_n 0, 1) := by decide +kernel
theorem dX11_unscratch_1 : decode cX11_unscratch 1 = .ok (.iconst 0, 1) := by decide +kernel
theorem dX11_unscratch_2 : decode cX11_unscratch 2 = .ok (.putfield 1, 3) := by decide +kernel
theorem dX11_unscratch_5 : decode cX11_unscratch 5 = .ok (.aload_n 0, 1) := by decide +kernel
theorem dX11_unscratch_6 : decode cX11_unscratch 6 = .ok (.iload_n 1, 1) := by decide +kernel
theorem dX11_unscratch_7 : decode cX11_unscratch 7 = .ok (.iconst 0, 1) := by decide +kernel
theorem dX11_unscratch_8 : decode cX11_unscratch 8 = .ok (.aload_n 0, 1) := by decide +kernel
theorem dX11_unscratch_9 : decode cX11_unscratch 9 = .ok (.getfield 13, 3) := by decide +kernel
theorem dX11_unscratch_12 : decode cX11_unscratch 12 = .ok (.sipush 569, 3) := by decide +kernel
theorem dX11_unscratch_15 : decode cX11_unscratch 15 = .ok (.iaload, 1) := by decide +kernel
theorem dX11_unscratch_16 : decode cX11_unscratch 16 = .ok (.iconst 1, 1) := by decide +kernel
theorem dX11_unscratch_17 : decode cX11_unscratch 17 = .ok (.isub, 1) := by decide +kernel
theorem dX11_unscratch_18 : decode cX11_unscratch 18 = .ok (.invokestatic 69, 3) := by decide +kernel
theorem dX11_unscratch_21 : decode cX11_unscratch 21 = .ok (.iconst 1, 1) := by decide +kernel
theorem dX11_unscratch_22 : decode cX11_unscratch 22 = .ok (.invokevirtual 73, 3) := by decide +kernel
theorem dX11_unscratch_25 : decode cX11_unscratch 25 = .ok (.ifCond .eq 5, 3) := by decide +kernel
theorem dX11_unscratch_28 : decode cX11_unscratch 28 = .ok (.iconst 0, 1) := by decide +kernel
theorem dX11_unscratch_29 : decode cX11_unscratch 29 = .ok (.ireturn, 1) := by decide +kernel
theorem dX11_unscratch_30 : decode cX11_unscratch 30 = .ok (.aload_n 0, 1) := by decide +kernel
theorem dX11_unscratch_31 : decode cX11_unscratch 31 = .ok (.invokevirtual 102, 3) := by decide +kernel
theorem dX11_unscratch_34 : decode cX11_unscratch 34 = .ok (.aload_n 0, 1) := by decide +kernel
theorem dX11_unscratch_35 : decode cX11_unscratch 35 = .ok (.getfield 13, 3) := by decide +kernel
theorem dX11_unscratch_38 : decode cX11_unscratch 38 = .ok (.sipush 569, 3) := by decide +kernel
theorem dX11_unscratch_41 : decode cX11_unscratch 41 = .ok (.dup2, 1) := by decide +kernel
theorem dX11_unscratch_42 : decode cX11_unscratch 42 = .ok (.iaload, 1) := by decide +kernel
theorem dX11_unscratch_43 : decode cX11_unscratch 43 = .ok (.iconst 1, 1) := by decide +kernel
theorem dX11_unscratch_44 : decode cX11_unscratch 44 = .ok (.isub, 1) := by decide +kernel
theorem dX11_unscratch_45 : decode cX11_unscratch 45 = .ok (.iastore, 1) := by decide +kernel
theorem dX11_unscratch_46 : decode cX11_unscratch 46 = .ok (.iload_n 1, 1) := by decide +kernel
theorem dX11_unscratch_47 : decode cX11_unscratch 47 = .ok (.istore_n 2, 1) := by decide +kernel
theorem dX11_unscratch_48 : decode cX11_unscratch 48 = .ok (.iload_n 2, 1) := by decide +kernel
theorem dX11_unscratch_49 : decode cX11_unscratch 49 = .ok (.aload_n 0, 1) := by decide +kernel
theorem dX11_unscratch_50 : decode cX11_unscratch 50 = .ok (.getfield 13, 3) := by decide +kernel
theorem dX11_unscratch_53 : decode cX11_unscratch 53 = .ok (.sipush 569, 3) := by decide +kernel
theorem dX11_unscratch_56 : decode cX11_unscratch 56 = .ok (.iaload, 1) := by decide +kernel
theorem dX11_unscratch_57 : decode cX11_unscratch 57 = .ok (.if_icmp .ge 49, 3) := by decide +kernel
theorem dX11_unscratch_60 : decode cX11_unscratch 60 = .ok (.aload_n 0, 1) := by decide +kernel
theorem dX11_unscratch_61 : decode cX11_unscratch 61 = .ok (.getfield 13, 3) := by decide +kernel
theorem dX11_unscratch_64 : decode cX11_unscratch 64 = .ok (.bipush 70, 2) := by decide +kernel
theorem dX11_unscratch_66 : decode cX11_unscratch 66 = .ok (.iload_n 2, 1) := by decide +kernel
theorem dX11_unscratch_67 : decode cX11_unscratch 67 = .ok (.iadd, 1) := by decide +kernel
theorem dX11_unscratch_68 : decode cX11_unscratch 68 = .ok (.aload_n 0, 1) := by decide +kernel
theorem dX11_unscratch_69 : decode cX11_unscratch 69 = .ok (.getfield 13, 3) := by decide +kernel
theorem dX11_unscratch_72 : decode cX11_unscratch 72 = .ok (.bipush 70, 2) := by decide +kernel
theorem dX11_unscratch_74 : decode cX11_unscratch 74 = .ok (.iload_n 2, 1) := by decide +kernel
theorem dX11_unscratch_75 : decode cX11_unscratch 75 = .ok (.iadd, 1) := by decide +kernel
theorem dX11_unscratch_76 : decode cX11_unscratch 76 = .ok (.iconst 1, 1) := by decide +kernel
theorem dX11_unscratch_77 : decode cX11_unscratch 77 = .ok (.iadd, 1) := by decide +kernel
theorem dX11_unscratch_78 : decode cX11_unscratch 78 = .ok (.iaload, 1) := by decide +kernel
theorem dX11_unscratch_79 : decode cX11_unscratch 79 = .ok (.iastore, 1) := by decide +kernel
theorem dX11_unscratch_80 : decode cX11_unscratch 80 = .ok (.aload_n 0, 1) := by decide +kernel
theorem dX11_unscratch_81 : decode cX11_unscratch 81 = .ok (.getfield 13, 3) := by decide +kernel
theorem dX11_unscratch_84 : decode cX11_unscratch 84 = .ok (.bipush 110, 2) := by decide +kernel
theorem dX11_unscratch_86 : decode cX11_unscratch 86 = .ok (.iload_n 2, 1) := by decide +kernel
theorem dX11_unscratch_87 : decode cX11_unscratch 87 = .ok (.iadd, 1) := by decide +kernel
theorem dX11_unscratch_88 : decode cX11_unscratch 88 = .ok (.aload_n 0, 1) := by decide +kernel
theorem dX11_unscratch_89 : decode cX11_unscratch 89 = .ok (.getfield 13, 3) := by decide +kernel
theorem dX11_unscratch_92 : decode cX11_unscratch 92 = .ok (.bipush 110, 2) := by decide +kernel
theorem dX11_unscratch_94 : decode cX11_unscratch 94 = .ok (.iload_n 2, 1) := by decide +kernel
theorem dX11_unscratch_95 : decode cX11_unscratch 95 = .ok (.iadd, 1) := by decide +kernel
theorem dX11_unscratch_96 : decode cX11_unscratch 96 = .ok (.iconst 1, 1) := by decide +kernel
theorem dX11_unscratch_97 : decode cX11_unscratch 97 = .ok (.iadd, 1) := by decide +kernel
theorem dX11_unscratch_98 : decode cX11_unscratch 98 = .ok (.iaload, 1) := by decide +kernel
theorem dX11_unscratch_99 : decode cX11_unscratch 99 = .ok (.iastore, 1) := by decide +kernel
theorem dX11_unscratch_100 : decode cX11_unscratch 100 = .ok (.iinc 2 1, 3) := by decide +kernel
theorem dX11_unscratch_103 : decode cX11_unscratch 103 = .ok (.goto (-55), 3) := by decide +kernel
theorem dX11_unscratch_106 : decode cX11_unscratch 106 = .ok (.aload_n 0, 1) := by decide +kernel
theorem dX11_unscratch_107 : decode cX11_unscratch 107 = .ok (.getfield 13, 3) := by decide +kernel
theorem dX11_unscratch_110 : decode cX11_unscratch 110 = .ok (.sipush 569, 3) := by decide +kernel
theorem dX11_unscratch_113 : decode cX11_unscratch 113 = .ok (.iaload, 1) := by decide +kernel
theorem dX11_unscratch_114 : decode cX11_unscratch 114 = .ok (.ireturn, 1) := by decide +kernel
theorem dX11_does_0 : decode cX11_does 0 = .ok (.iconst 0, 1) := by decide +kernel
theorem dX11_does_1 : decode cX11_does 1 = .ok (.istore_n 3, 1) := by decide +kernel
theorem dX11_does_2 : decode cX11_does 2 = .ok (.iload_n 3, 1) := by decide +kernel
theorem dX11_does_3 : decode cX11_does 3 = .ok (.aload_n 0, 1) := by decide +kernel
theorem dX11_does_4 : decode cX11_does 4 = .ok (.getfield 13, 3) := by decide +kernel
theorem dX11_does_7 : decode cX11_does 7 = .ok (.sipush 569, 3) := by decide +kernel
theorem dX11_does_10 : decode cX11_does 10 = .ok (.iaload, 1) := by decide +kernel
theorem dX11_does_11 : decode cX11_does 11 = .ok (.if_icmp .ge 37, 3) := by decide +kernel
theorem dX11_does_14 : decode cX11_does 14 = .ok (.aload_n 0, 1) := by decide +kernel
theorem dX11_does_15 : decode cX11_does 15 = .ok (.getfield 13, 3) := by decide +kernel
theorem dX11_does_18 : decode cX11_does 18 = .ok (.bipush 70, 2) := by decide +kernel
theorem dX11_does_20 : decode cX11_does 20 = .ok (.iload_n 3, 1) := by decide +kernel
theorem dX11_does_21 : decode cX11_does 21 = .ok (.iadd, 1) := by decide +kernel
theorem dX11_does_22 : decode cX11_does 22 = .ok (.iaload, 1) := by decide +kernel
theorem dX11_does_23 : decode cX11_does 23 = .ok (.iload_n 1, 1) := by decide +kernel
theorem dX11_does_24 : decode cX11_does 24 = .ok (.if_icmp .ne 18, 3) := by decide +kernel
theorem dX11_does_27 : decode cX11_does 27 = .ok (.aload_n 0, 1) := by decide +kernel
theorem dX11_does_28 : decode cX11_does 28 = .ok (.getfield 13, 3) := by decide +kernel
theorem dX11_does_31 : decode cX11_does 31 = .ok (.bipush 110, 2) := by decide +kernel
theorem dX11_does_33 : decode cX11_does 33 = .ok (.iload_n 3, 1) := by decide +kernel
theorem dX11_does_34 : decode cX11_does 34 = .ok (.iadd, 1) := by decide +kernel
theorem dX11_does_35 : decode cX11_does 35 = .ok (.iaload, 1) := by decide +kernel
theorem dX11_does_36 : decode cX11_does 36 = .ok (.iload_n 2, 1) := by decide +kernel
theorem dX11_does_37 : decode cX11_does 37 = .ok (.if_icmp .ne 5, 3) := by decide +kernel
theorem dX11_does_40 : decode cX11_does 40 = .ok (.iconst 1, 1) := by decide +kernel
theorem dX11_does_41 : decode cX11_does 41 = .ok (.ireturn, 1) := by decide +kernel
theorem dX11_does_42 : decode cX11_does 42 = .ok (.iinc 3 1, 3) := by decide +kernel
theorem dX11_does_45 : decode cX11_does 45 = .ok (.goto (-43), 3) := by decide +kernel
theorem dX11_does_48 : decode cX11_does 48 = .ok (.iconst 0, 1) := by decide +kernel
theorem dX11_does_49 : decode cX11_does 49 = .ok (.ireturn, 1) := by decide +kernel
theorem dX11_isInRow_0 : decode cX11_isInRow 0 = .ok (.iconst 0, 1) := by decide +kernel
theorem dX11_isInRow_1 : decode cX11_isInRow 1 = .ok (.istore_n 3, 1) := by decide +kernel
theorem dX11_isInRow_2 : decode cX11_isInRow 2 = .ok (.iload_n 3, 1) := by decide +kernel
theorem dX11_isInRow_3 : decode cX11_isInRow 3 = .ok (.iload_n 2, 1) := by decide +kernel
theorem dX11_isInRow_4 : decode cX11_isInRow 4 = .ok (.if_icmp .ge 21, 3) := by decide +kernel
theorem dX11_isInRow_7 : decode cX11_isInRow 7 = .ok (.aload_n 0, 1) := by decide +kernel
theorem dX11_isInRow_8 : decode cX11_isInRow 8 = .ok (.getfield 26, 3) := by decide +kernel
theorem dX11_isInRow_11 : decode cX11_isInRow 11 = .ok (.iload_n 3, 1) := by decide +kernel
theorem dX11_isInRow_12 : decode cX11_isInRow 12 = .ok (.iaload, 1) := by decide +kernel
theorem dX11_isInRow_13 : decode cX11_isInRow 13 = .ok (.iload_n 1, 1) := by decide +kernel
theorem dX11_isInRow_14 : decode cX11_isInRow 14 = .ok (.if_icmp .ne 5, 3) := by decide +kernel
theorem dX11_isInRow_17 : decode cX11_isInRow 17 = .ok (.iconst 1, 1) := by decide +kernel
theorem dX11_isInRow_18 : decode cX11_isInRow 18 = .ok (.ireturn, 1) := by decide +kernel
theorem dX11_isInRow_19 : decode cX11_isInRow 19 = .ok (.iinc 3 1, 3) := by decide +kernel
theorem dX11_isInRow_22 : decode cX11_isInRow 22 = .ok (.goto (-20), 3) := by decide +kernel
theorem dX11_isInRow_25 : decode cX11_isInRow 25 = .ok (.iconst 0, 1) := by decide +kernel
theorem dX11_isInRow_26 : decode cX11_isInRow 26 = .ok (.ireturn, 1) := by decide +kernel
set_option maxRecDepth 20000 in
theorem ggX11_isRing_X11_many : GoodIn wsX11_isRing wsX11_many := goodIn_r _ [6, 7, 16, 17, 18, 19, 20, 21, 22, 23, 24, 25, 26, 27, 28, 29, 30, 31, 32, 33, 34, 35, 36, 37] rfl (by decide +kernel)
set_option maxRecDepth 20000 in
theorem gX11_isRing_X11_many : GoodIn wsX11_isRing (wsV RX11 65 RX11 yX11_many wsX11_many) := goodIn_app (goodIn_of _ (by decide +kernel)) ggX11_isRing_X11_many
set_option maxRecDepth 20000 in
theorem ggX11_isRing_X11_isInRow : GoodIn wsX11_isRing wsX11_isInRow := goodIn_r _ [11, 1, 16, 17, 18, 19, 20, 21, 22, 23, 24, 25, 26, 27, 28, 29, 30, 31, 32, 33, 34, 35, 36, 37] rfl (by decide +kernel)
set_option maxRecDepth 20000 in
theorem gX11_isRing_X11_isInRow : GoodIn wsX11_isRing (wsV RX11 115 RX11 yX11_isInRow wsX11_isInRow) := goodIn_app (goodIn_of _ (by decide +kernel)) ggX11_isRing_X11_isInRow
set_option maxRecDepth 20000 in
theorem ggX11_isRing_X11_does : GoodIn wsX11_isRing wsX11_does := goodIn_r _ [15, 7, 16, 17, 18, 19, 20, 21, 22, 23, 24, 25, 26, 27, 28, 29, 30, 31, 32, 33, 34, 35, 36, 37] rfl (by decide +kernel)
set_option maxRecDepth 20000 in
theorem gX11_isRing_X11_does : GoodIn wsX11_isRing (wsV RX11 119 RX11 yX11_does wsX11_does) := goodIn_app (goodIn_of _ (by decide +kernel)) ggX11_isRing_X11_does
theorem dX11_isRing_0 : decode cX11_isRing 0 = .ok (.iconst 1, 1) := by decide +kernel
theorem dX11_isRing_1 : decode cX11_isRing 1 = .ok (.istore_n 3, 1) := by decide +kernel
theorem dX11_isRing_2 : decode cX11_isRing 2 = .ok (.aload_n 0, 1) := by decide +kernel
theorem dX11_isRing_3 : decode cX11_isRing 3 = .ok (.getfield 26, 3) := by decide +kernel
theorem dX11_isRing_6 : decode cX11_isRing 6 = .ok (.iconst 0, 1) := by decide +kernel
theorem dX11_isRing_7 : decode cX11_isRing 7 = .ok (.iload_n 2, 1) := by decide +kernel
theorem dX11_isRing_8 : decode cX11_isRing 8 = .ok (.iastore, 1) := by decide +kernel
theorem dX11_isRing_9 : decode cX11_isRing 9 = .ok (.aload_n 0, 1) := by decide +kernel
theorem dX11_isRing_10 : decode cX11_isRing 10 = .ok (.getfield 26, 3) := by decide +kernel
theorem dX11_isRing_13 : decode cX11_isRing 13 = .ok (.iconst 1, 1) := by decide +kernel
theorem dX11_isRing_14 : decode cX11_isRing 14 = .ok (.iload_n 2, 1) := by decide +kernel
theorem dX11_isRing_15 : decode cX11_isRing 15 = .ok (.iastore, 1) := by decide +kernel
theorem dX11_isRing_16 : decode cX11_isRing 16 = .ok (.iload_n 3, 1) := by decide +kernel
theorem dX11_isRing_17 : decode cX11_isRing 17 = .ok (.ifCond .le 106, 3) := by decide +kernel
theorem dX11_isRing_20 : decode cX11_isRing 20 = .ok (.aload_n 0, 1) := by decide +kernel
theorem dX11_isRing_21 : decode cX11_isRing 21 = .ok (.getfield 26, 3) := by decide +kernel
theorem dX11_isRing_24 : decode cX11_isRing 24 = .ok (.iload_n 3, 1) := by decide +kernel
theorem dX11_isRing_25 : decode cX11_isRing 25 = .ok (.dup2, 1) := by decide +kernel
theorem dX11_isRing_26 : decode cX11_isRing 26 = .ok (.iaload, 1) := by decide +kernel
theorem dX11_isRing_27 : decode cX11_isRing 27 = .ok (.iconst 1, 1) := by decide +kernel
theorem dX11_isRing_28 : decode cX11_isRing 28 = .ok (.iadd, 1) := by decide +kernel
theorem dX11_isRing_29 : decode cX11_isRing 29 = .ok (.iastore, 1) := by decide +kernel
theorem dX11_isRing_30 : decode cX11_isRing 30 = .ok (.aload_n 0, 1) := by decide +kernel
theorem dX11_isRing_31 : decode cX11_isRing 31 = .ok (.getfield 26, 3) := by decide +kernel
theorem dX11_isRing_34 : decode cX11_isRing 34 = .ok (.iload_n 3, 1) := by decide +kernel
theorem dX11_isRing_35 : decode cX11_isRing 35 = .ok (.iaload, 1) := by decide +kernel
theorem dX11_isRing_36 : decode cX11_isRing 36 = .ok (.aload_n 0, 1) := by decide +kernel
theorem dX11_isRing_37 : decode cX11_isRing 37 = .ok (.invokevirtual 65, 3) := by decide +kernel
theorem dX11_isRing_40 : decode cX11_isRing 40 = .ok (.if_icmp .lt 9, 3) := by decide +kernel
theorem dX11_isRing_43 : decode cX11_isRing 43 = .ok (.iinc 3 (-1), 3) := by decide +kernel
theorem dX11_isRing_46 : decode cX11_isRing 46 = .ok (.goto (-30), 3) := by decide +kernel
theorem dX11_isRing_49 : decode cX11_isRing 49 = .ok (.aload_n 0, 1) := by decide +kernel
theorem dX11_isRing_50 : decode cX11_isRing 50 = .ok (.aload_n 0, 1) := by decide +kernel
theorem dX11_isRing_51 : decode cX11_isRing 51 = .ok (.getfield 26, 3) := by decide +kernel
theorem dX11_isRing_54 : decode cX11_isRing 54 = .ok (.iload_n 3, 1) := by decide +kernel
theorem dX11_isRing_55 : decode cX11_isRing 55 = .ok (.iaload, 1) := by decide +kernel
theorem dX11_isRing_56 : decode cX11_isRing 56 = .ok (.iload_n 3, 1) := by decide +kernel
theorem dX11_isRing_57 : decode cX11_isRing 57 = .ok (.invokevirtual 115, 3) := by decide +kernel
theorem dX11_isRing_60 : decode cX11_isRing 60 = .ok (.ifCond .ne (-44), 3) := by decide +kernel
theorem dX11_isRing_63 : decode cX11_isRing 63 = .ok (.aload_n 0, 1) := by decide +kernel
theorem dX11_isRing_64 : decode cX11_isRing 64 = .ok (.aload_n 0, 1) := by decide +kernel
theorem dX11_isRing_65 : decode cX11_isRing 65 = .ok (.getfield 26, 3) := by decide +kernel
theorem dX11_isRing_68 : decode cX11_isRing 68 = .ok (.iload_n 3, 1) := by decide +kernel
theorem dX11_isRing_69 : decode cX11_isRing 69 = .ok (.iconst 1, 1) := by decide +kernel
theorem dX11_isRing_70 : decode cX11_isRing 70 = .ok (.isub, 1) := by decide +kernel
theorem dX11_isRing_71 : decode cX11_isRing 71 = .ok (.iaload, 1) := by decide +kernel
theorem dX11_isRing_72 : decode cX11_isRing 72 = .ok (.aload_n 0, 1) := by decide +kernel
theorem dX11_isRing_73 : decode cX11_isRing 73 = .ok (.getfield 26, 3) := by decide +kernel
theorem dX11_isRing_76 : decode cX11_isRing 76 = .ok (.iload_n 3, 1) := by decide +kernel
theorem dX11_isRing_77 : decode cX11_isRing 77 = .ok (.iaload, 1) := by decide +kernel
theorem dX11_isRing_78 : decode cX11_isRing 78 = .ok (.invokevirtual 119, 3) := by decide +kernel
theorem dX11_isRing_81 : decode cX11_isRing 81 = .ok (.ifCond .ne 6, 3) := by decide +kernel
theorem dX11_isRing_84 : decode cX11_isRing 84 = .ok (.goto (-68), 3) := by decide +kernel
theorem dX11_isRing_87 : decode cX11_isRing 87 = .ok (.iload_n 3, 1) := by decide +kernel
theorem dX11_isRing_88 : decode cX11_isRing 88 = .ok (.iload_n 1, 1) := by decide +kernel
theorem dX11_isRing_89 : decode cX11_isRing 89 = .ok (.iconst 1, 1) := by decide +kernel
theorem dX11_isRing_90 : decode cX11_isRing 90 = .ok (.isub, 1) := by decide +kernel
theorem dX11_isRing_91 : decode cX11_isRing 91 = .ok (.if_icmp .ge 16, 3) := by decide +kernel
theorem dX11_isRing_94 : decode cX11_isRing 94 = .ok (.iinc 3 1, 3) := by decide +kernel
theorem dX11_isRing_97 : decode cX11_isRing 97 = .ok (.aload_n 0, 1) := by decide +kernel
theorem dX11_isRing_98 : decode cX11_isRing 98 = .ok (.getfield 26, 3) := by decide +kernel
theorem dX11_isRing_101 : decode cX11_isRing 101 = .ok (.iload_n 3, 1) := by decide +kernel
theorem dX11_isRing_102 : decode cX11_isRing 102 = .ok (.iload_n 2, 1) := by decide +kernel
theorem dX11_isRing_103 : decode cX11_isRing 103 = .ok (.iastore, 1) := by decide +kernel
theorem dX11_isRing_104 : decode cX11_isRing 104 = .ok (.goto (-88), 3) := by decide +kernel
theorem dX11_isRing_107 : decode cX11_isRing 107 = .ok (.aload_n 0, 1) := by decide +kernel
theorem dX11_isRing_108 : decode cX11_isRing 108 = .ok (.aload_n 0, 1) := by decide +kernel
theorem dX11_isRing_109 : decode cX11_isRing 109 = .ok (.getfield 26, 3) := by decide +kernel
theorem dX11_isRing_112 : decode cX11_isRing 112 = .ok (.iload_n 3, 1) := by decide +kernel
theorem dX11_isRing_113 : decode cX11_isRing 113 = .ok (.iaload, 1) := by decide +kernel
theorem dX11_isRing_114 : decode cX11_isRing 114 = .ok (.iload_n 2, 1) := by decide +kernel
theorem dX11_isRing_115 : decode cX11_isRing 115 = .ok (.invokevirtual 119, 3) := by decide +kernel
theorem dX11_isRing_118 : decode cX11_isRing 118 = .ok (.ifCond .eq (-102), 3) := by decide +kernel
theorem dX11_isRing_121 : decode cX11_isRing 121 = .ok (.iconst 1, 1) := by decide +kernel
theorem dX11_isRing_122 : decode cX11_isRing 122 = .ok (.ireturn, 1) := by decide +kernel
theorem dX11_isRing_123 : decode cX11_isRing 123 = .ok (.iconst 0, 1) := by decide +kernel
theorem dX11_isRing_124 : decode cX11_isRing 124 = .ok (.ireturn, 1) := by decide +kernel
set_option maxRecDepth 20000 in
theorem ggX11_findsRing_X11_many : GoodIn wsX11_findsRing wsX11_many := goodIn_r _ [5, 6, 20, 21, 22, 23, 24, 25, 26, 27, 28, 29, 30, 31, 32, 33, 34, 35, 36, 37, 38, 39, 40, 41] rfl (by decide +kernel)
set_option maxRecDepth 20000 in
theorem gX11_findsRing_X11_many : GoodIn wsX11_findsRing (wsV RX11 65 RX11 yX11_many wsX11_many) := goodIn_app (goodIn_of _ (by decide +kernel)) ggX11_findsRing_X11_many
set_option maxRecDepth 20000 in
theorem ggX11_findsRing_X11_isRing : GoodIn wsX11_findsRing wsX11_isRing := goodIn_r _ [10, 11, 1, 2, 3, 4, 5, 6, 12, 13, 14, 15, 16, 17, 18, 19, 20, 21, 22, 23, 24, 25, 26, 27, 28, 29, 30, 31, 32, 33, 34, 35, 36, 37, 38, 39, 40, 41] rfl (by decide +kernel)
set_option maxRecDepth 20000 in
theorem gX11_findsRing_X11_isRing : GoodIn wsX11_findsRing (wsV RX11 122 RX11 yX11_isRing wsX11_isRing) := goodIn_app (goodIn_of _ (by decide +kernel)) ggX11_findsRing_X11_isRing
theorem dX11_findsRing_0 : decode cX11_findsRing 0 = .ok (.iconst 2, 1) := by decide +kernel
theorem dX11_findsRing_1 : decode cX11_findsRing 1 = .ok (.istore_n 1, 1) := by decide +kernel
theorem dX11_findsRing_2 : decode cX11_findsRing 2 = .ok (.iload_n 1, 1) := by decide +kernel
theorem dX11_findsRing_3 : decode cX11_findsRing 3 = .ok (.aload_n 0, 1) := by decide +kernel
theorem dX11_findsRing_4 : decode cX11_findsRing 4 = .ok (.invokevirtual 65, 3) := by decide +kernel
theorem dX11_findsRing_7 : decode cX11_findsRing 7 = .ok (.if_icmp .gt 36, 3) := by decide +kernel
theorem dX11_findsRing_10 : decode cX11_findsRing 10 = .ok (.iconst 0, 1) := by decide +kernel
theorem dX11_findsRing_11 : decode cX11_findsRing 11 = .ok (.istore_n 2, 1) := by decide +kernel
theorem dX11_findsRing_12 : decode cX11_findsRing 12 = .ok (.iload_n 2, 1) := by decide +kernel
theorem dX11_findsRing_13 : decode cX11_findsRing 13 = .ok (.aload_n 0, 1) := by decide +kernel
theorem dX11_findsRing_14 : decode cX11_findsRing 14 = .ok (.invokevirtual 65, 3) := by decide +kernel
theorem dX11_findsRing_17 : decode cX11_findsRing 17 = .ok (.if_icmp .ge 20, 3) := by decide +kernel
theorem dX11_findsRing_20 : decode cX11_findsRing 20 = .ok (.aload_n 0, 1) := by decide +kernel
theorem dX11_findsRing_21 : decode cX11_findsRing 21 = .ok (.iload_n 1, 1) := by decide +kernel
theorem dX11_findsRing_22 : decode cX11_findsRing 22 = .ok (.iload_n 2, 1) := by decide +kernel
theorem dX11_findsRing_23 : decode cX11_findsRing 23 = .ok (.invokevirtual 122, 3) := by decide +kernel
theorem dX11_findsRing_26 : decode cX11_findsRing 26 = .ok (.ifCond .eq 5, 3) := by decide +kernel
theorem dX11_findsRing_29 : decode cX11_findsRing 29 = .ok (.iload_n 1, 1) := by decide +kernel
theorem dX11_findsRing_30 : decode cX11_findsRing 30 = .ok (.ireturn, 1) := by decide +kernel
theorem dX11_findsRing_31 : decode cX11_findsRing 31 = .ok (.iinc 2 1, 3) := by decide +kernel
theorem dX11_findsRing_34 : decode cX11_findsRing 34 = .ok (.goto (-22), 3) := by decide +kernel
theorem dX11_findsRing_37 : decode cX11_findsRing 37 = .ok (.iinc 1 1, 3) := by decide +kernel
theorem dX11_findsRing_40 : decode cX11_findsRing 40 = .ok (.goto (-38), 3) := by decide +kernel
theorem dX11_findsRing_43 : decode cX11_findsRing 43 = .ok (.iconst 0, 1) := by decide +kernel
theorem dX11_findsRing_44 : decode cX11_findsRing 44 = .ok (.ireturn, 1) := by decide +kernel
set_option maxRecDepth 20000 in
theorem ggX11_ring_X11_findsRing : GoodIn wsX11_ring wsX11_findsRing := goodIn_r _ [6, 7, 8, 9, 5, 10, 11, 12, 13, 14, 15, 16, 17, 18, 19, 20, 21, 22, 23, 24, 25, 26, 27, 28, 29, 30, 31, 32, 33, 34, 35, 36, 37, 38, 39, 40, 41, 42, 43, 44, 45, 46] rfl (by decide +kernel)
set_option maxRecDepth 20000 in
theorem gX11_ring_X11_findsRing : GoodIn wsX11_ring (wsV RX11 125 RX11 yX11_findsRing wsX11_findsRing) := goodIn_app (goodIn_of _ (by decide +kernel)) ggX11_ring_X11_findsRing
theorem dX11_ring_0 : decode cX11_ring 0 = .ok (.aload_n 0, 1) := by decide +kernel
theorem dX11_ring_1 : decode cX11_ring 1 = .ok (.iconst 0, 1) := by decide +kernel
theorem dX11_ring_2 : decode cX11_ring 2 = .ok (.putfield 1, 3) := by decide +kernel
theorem dX11_ring_5 : decode cX11_ring 5 = .ok (.aload_n 0, 1) := by decide +kernel
theorem dX11_ring_6 : decode cX11_ring 6 = .ok (.invokevirtual 125, 3) := by decide +kernel
theorem dX11_ring_9 : decode cX11_ring 9 = .ok (.ireturn, 1) := by decide +kernel
set_option maxRecDepth 20000 in
theorem ggX11_ringAt_X11_findsRing : GoodIn wsX11_ringAt wsX11_findsRing := goodIn_r _ [7, 8, 9, 10, 6, 11, 12, 13, 14, 15, 16, 2, 17, 18, 19, 20, 21, 22, 23, 24, 32, 33, 34, 35, 36, 37, 38, 39, 40, 41, 42, 43, 44, 45, 46, 47, 48, 49, 50, 51, 52, 53] rfl (by decide +kernel)
set_option maxRecDepth 20000 in
theorem gX11_ringAt_X11_findsRing : GoodIn wsX11_ringAt (wsV RX11 125 RX11 yX11_findsRing wsX11_findsRing) := goodIn_app (goodIn_of _ (by decide +kernel)) ggX11_ringAt_X11_findsRing
set_option maxRecDepth 20000 in
theorem ggX11_ringAt_X11_in : GoodIn wsX11_ringAt wsX11_in := goodIn_r _ [27] rfl (by decide +kernel)
set_option maxRecDepth 20000 in
theorem gX11_ringAt_X11_in : GoodIn wsX11_ringAt (va_wsS RX11 69 yX11_in wsX11_in) := goodIn_app (goodIn_of _ (by decide +kernel)) ggX11_ringAt_X11_in
set_option maxRecDepth 20000 in
theorem ggX11_ringAt_X11_fails : GoodIn wsX11_ringAt wsX11_fails := goodIn_r _ [31, 1, 32, 33, 34, 35, 36, 37, 38, 39, 40, 41, 42, 43, 44, 45, 46, 47, 48, 49, 50, 51, 52, 53] rfl (by decide +kernel)
set_option maxRecDepth 20000 in
theorem gX11_ringAt_X11_fails : GoodIn wsX11_ringAt (wsV RX11 73 RX11 yX11_fails wsX11_fails) := goodIn_app (goodIn_of _ (by decide +kernel)) ggX11_ringAt_X11_fails
theorem dX11_ringAt_0 : decode cX11_ringAt 0 = .ok (.aload_n 0, 1) := by decide +kernel
theorem dX11_ringAt_1 : decode cX11_ringAt 1 = .ok (.iconst 0, 1) := by decide +kernel
theorem dX11_ringAt_2 : decode cX11_ringAt 2 = .ok (.putfield 1, 3) := by decide +kernel
theorem dX11_ringAt_5 : decode cX11_ringAt 5 = .ok (.aload_n 0, 1) := by decide +kernel
theorem dX11_ringAt_6 : decode cX11_ringAt 6 = .ok (.iload_n 1, 1) := by decide +kernel
theorem dX11_ringAt_7 : decode cX11_ringAt 7 = .ok (.iconst 0, 1) := by decide +kernel
theorem dX11_ringAt_8 : decode cX11_ringAt 8 = .ok (.aload_n 0, 1) := by decide +kernel
theorem dX11_ringAt_9 : decode cX11_ringAt 9 = .ok (.invokevirtual 125, 3) := by decide +kernel
theorem dX11_ringAt_12 : decode cX11_ringAt 12 = .ok (.iconst 1, 1) := by decide +kernel
theorem dX11_ringAt_13 : decode cX11_ringAt 13 = .ok (.isub, 1) := by decide +kernel
theorem dX11_ringAt_14 : decode cX11_ringAt 14 = .ok (.invokestatic 69, 3) := by decide +kernel
theorem dX11_ringAt_17 : decode cX11_ringAt 17 = .ok (.iconst 1, 1) := by decide +kernel
theorem dX11_ringAt_18 : decode cX11_ringAt 18 = .ok (.invokevirtual 73, 3) := by decide +kernel
theorem dX11_ringAt_21 : decode cX11_ringAt 21 = .ok (.ifCond .eq 7, 3) := by decide +kernel
theorem dX11_ringAt_24 : decode cX11_ringAt 24 = .ok (.iconst 0, 1) := by decide +kernel
theorem dX11_ringAt_25 : decode cX11_ringAt 25 = .ok (.goto 9, 3) := by decide +kernel
theorem dX11_ringAt_28 : decode cX11_ringAt 28 = .ok (.aload_n 0, 1) := by decide +kernel
theorem dX11_ringAt_29 : decode cX11_ringAt 29 = .ok (.getfield 26, 3) := by decide +kernel
theorem dX11_ringAt_32 : decode cX11_ringAt 32 = .ok (.iload_n 1, 1) := by decide +kernel
theorem dX11_ringAt_33 : decode cX11_ringAt 33 = .ok (.iaload, 1) := by decide +kernel
theorem dX11_ringAt_34 : decode cX11_ringAt 34 = .ok (.ireturn, 1) := by decide +kernel
theorem dX11_canBeNext_0 : decode cX11_canBeNext 0 = .ok (.iload_n 1, 1) := by decide +kernel
theorem dX11_canBeNext_1 : decode cX11_canBeNext 1 = .ok (.iload_n 2, 1) := by decide +kernel
theorem dX11_canBeNext_2 : decode cX11_canBeNext 2 = .ok (.ishr, 1) := by decide +kernel
theorem dX11_canBeNext_3 : decode cX11_canBeNext 3 = .ok (.iconst 1, 1) := by decide +kernel
theorem dX11_canBeNext_4 : decode cX11_canBeNext 4 = .ok (.iand, 1) := by decide +kernel
theorem dX11_canBeNext_5 : decode cX11_canBeNext 5 = .ok (.ifCond .ne 24, 3) := by decide +kernel
theorem dX11_canBeNext_8 : decode cX11_canBeNext 8 = .ok (.aload_n 0, 1) := by decide +kernel
theorem dX11_canBeNext_9 : decode cX11_canBeNext 9 = .ok (.getfield 35, 3) := by decide +kernel
theorem dX11_canBeNext_12 : decode cX11_canBeNext 12 = .ok (.iload_n 2, 1) := by decide +kernel
theorem dX11_canBeNext_13 : decode cX11_canBeNext 13 = .ok (.iaload, 1) := by decide +kernel
theorem dX11_canBeNext_14 : decode cX11_canBeNext 14 = .ok (.iload_n 1, 1) := by decide +kernel
theorem dX11_canBeNext_15 : decode cX11_canBeNext 15 = .ok (.iand, 1) := by decide +kernel
theorem dX11_canBeNext_16 : decode cX11_canBeNext 16 = .ok (.aload_n 0, 1) := by decide +kernel
theorem dX11_canBeNext_17 : decode cX11_canBeNext 17 = .ok (.getfield 35, 3) := by decide +kernel
theorem dX11_canBeNext_20 : decode cX11_canBeNext 20 = .ok (.iload_n 2, 1) := by decide +kernel
theorem dX11_canBeNext_21 : decode cX11_canBeNext 21 = .ok (.iaload, 1) := by decide +kernel
theorem dX11_canBeNext_22 : decode cX11_canBeNext 22 = .ok (.if_icmp .ne 7, 3) := by decide +kernel
theorem dX11_canBeNext_25 : decode cX11_canBeNext 25 = .ok (.iconst 1, 1) := by decide +kernel
theorem dX11_canBeNext_26 : decode cX11_canBeNext 26 = .ok (.goto 4, 3) := by decide +kernel
theorem dX11_canBeNext_29 : decode cX11_canBeNext 29 = .ok (.iconst 0, 1) := by decide +kernel
theorem dX11_canBeNext_30 : decode cX11_canBeNext 30 = .ok (.ireturn, 1) := by decide +kernel
set_option maxRecDepth 20000 in
theorem ggX11_counts_X11_many : GoodIn wsX11_counts wsX11_many := goodIn_r _ [8, 9, 18, 19, 20, 21, 22, 23, 24, 25, 26, 27, 28, 29, 30, 31, 32, 33, 34, 35, 36, 37, 38, 39] rfl (by decide +kernel)
set_option maxRecDepth 20000 in
theorem gX11_counts_X11_many : GoodIn wsX11_counts (wsV RX11 65 RX11 yX11_many wsX11_many) := goodIn_app (goodIn_of _ (by decide +kernel)) ggX11_counts_X11_many
set_option maxRecDepth 20000 in
theorem ggX11_counts_X11_does : GoodIn wsX11_counts wsX11_does := goodIn_r _ [13, 9, 18, 19, 20, 21, 22, 23, 24, 25, 26, 27, 28, 29, 30, 31, 32, 33, 34, 35, 36, 37, 38, 39] rfl (by decide +kernel)
set_option maxRecDepth 20000 in
theorem gX11_counts_X11_does : GoodIn wsX11_counts (wsV RX11 119 RX11 yX11_does wsX11_does) := goodIn_app (goodIn_of _ (by decide +kernel)) ggX11_counts_X11_does
set_option maxRecDepth 20000 in
theorem ggX11_counts_X11_canBeNext : GoodIn wsX11_counts wsX11_canBeNext := goodIn_r _ [17, 1, 18, 19, 20, 21, 22, 23, 24, 25, 26, 27, 28, 29, 30, 31, 32, 33, 34, 35, 36, 37, 38, 39] rfl (by decide +kernel)
set_option maxRecDepth 20000 in
theorem gX11_counts_X11_canBeNext : GoodIn wsX11_counts (wsV RX11 128 RX11 yX11_canBeNext wsX11_canBeNext) := goodIn_app (goodIn_of _ (by decide +kernel)) ggX11_counts_X11_canBeNext
theorem dX11_counts_0 : decode cX11_counts 0 = .ok (.iconst 1, 1) := by decide +kernel
theorem dX11_counts_1 : decode cX11_counts 1 = .ok (.aload_n 0, 1) := by decide +kernel
theorem dX11_counts_2 : decode cX11_counts 2 = .ok (.invokevirtual 65, 3) := by decide +kernel
theorem dX11_counts_5 : decode cX11_counts 5 = .ok (.ishl, 1) := by decide +kernel
theorem dX11_counts_6 : decode cX11_counts 6 = .ok (.iconst 1, 1) := by decide +kernel
theorem dX11_counts_7 : decode cX11_counts 7 = .ok (.isub, 1) := by decide +kernel
theorem dX11_counts_8 : decode cX11_counts 8 = .ok (.istore_n 1, 1) := by decide +kernel
theorem dX11_counts_9 : decode cX11_counts 9 = .ok (.iconst 0, 1) := by decide +kernel
theorem dX11_counts_10 : decode cX11_counts 10 = .ok (.istore_n 2, 1) := by decide +kernel
theorem dX11_counts_11 : decode cX11_counts 11 = .ok (.iload_n 2, 1) := by decide +kernel
theorem dX11_counts_12 : decode cX11_counts 12 = .ok (.aload_n 0, 1) := by decide +kernel
theorem dX11_counts_13 : decode cX11_counts 13 = .ok (.invokevirtual 65, 3) := by decide +kernel
theorem dX11_counts_16 : decode cX11_counts 16 = .ok (.if_icmp .ge 57, 3) := by decide +kernel
theorem dX11_counts_19 : decode cX11_counts 19 = .ok (.aload_n 0, 1) := by decide +kernel
theorem dX11_counts_20 : decode cX11_counts 20 = .ok (.getfield 35, 3) := by decide +kernel
theorem dX11_counts_23 : decode cX11_counts 23 = .ok (.iload_n 2, 1) := by decide +kernel
theorem dX11_counts_24 : decode cX11_counts 24 = .ok (.iconst 0, 1) := by decide +kernel
theorem dX11_counts_25 : decode cX11_counts 25 = .ok (.iastore, 1) := by decide +kernel
theorem dX11_counts_26 : decode cX11_counts 26 = .ok (.iconst 0, 1) := by decide +kernel
theorem dX11_counts_27 : decode cX11_counts 27 = .ok (.istore_n 3, 1) := by decide +kernel
theorem dX11_counts_28 : decode cX11_counts 28 = .ok (.iload_n 3, 1) := by decide +kernel
theorem dX11_counts_29 : decode cX11_counts 29 = .ok (.aload_n 0, 1) := by decide +kernel
theorem dX11_counts_30 : decode cX11_counts 30 = .ok (.invokevirtual 65, 3) := by decide +kernel
theorem dX11_counts_33 : decode cX11_counts 33 = .ok (.if_icmp .ge 34, 3) := by decide +kernel
theorem dX11_counts_36 : decode cX11_counts 36 = .ok (.aload_n 0, 1) := by decide +kernel
theorem dX11_counts_37 : decode cX11_counts 37 = .ok (.getfield 35, 3) := by decide +kernel
theorem dX11_counts_40 : decode cX11_counts 40 = .ok (.iload_n 2, 1) := by decide +kernel
theorem dX11_counts_41 : decode cX11_counts 41 = .ok (.dup2, 1) := by decide +kernel
theorem dX11_counts_42 : decode cX11_counts 42 = .ok (.iaload, 1) := by decide +kernel
theorem dX11_counts_43 : decode cX11_counts 43 = .ok (.aload_n 0, 1) := by decide +kernel
theorem dX11_counts_44 : decode cX11_counts 44 = .ok (.iload_n 3, 1) := by decide +kernel
theorem dX11_counts_45 : decode cX11_counts 45 = .ok (.iload_n 2, 1) := by decide +kernel
theorem dX11_counts_46 : decode cX11_counts 46 = .ok (.invokevirtual 119, 3) := by decide +kernel
theorem dX11_counts_49 : decode cX11_counts 49 = .ok (.ifCond .eq 9, 3) := by decide +kernel
theorem dX11_counts_52 : decode cX11_counts 52 = .ok (.iconst 1, 1) := by decide +kernel
theorem dX11_counts_53 : decode cX11_counts 53 = .ok (.iload_n 3, 1) := by decide +kernel
theorem dX11_counts_54 : decode cX11_counts 54 = .ok (.ishl, 1) := by decide +kernel
theorem dX11_counts_55 : decode cX11_counts 55 = .ok (.goto 4, 3) := by decide +kernel
theorem dX11_counts_58 : decode cX11_counts 58 = .ok (.iconst 0, 1) := by decide +kernel
theorem dX11_counts_59 : decode cX11_counts 59 = .ok (.ior, 1) := by decide +kernel
theorem dX11_counts_60 : decode cX11_counts 60 = .ok (.iastore, 1) := by decide +kernel
theorem dX11_counts_61 : decode cX11_counts 61 = .ok (.iinc 3 1, 3) := by decide +kernel
theorem dX11_counts_64 : decode cX11_counts 64 = .ok (.goto (-36), 3) := by decide +kernel
theorem dX11_counts_67 : decode cX11_counts 67 = .ok (.iinc 2 1, 3) := by decide +kernel
theorem dX11_counts_70 : decode cX11_counts 70 = .ok (.goto (-59), 3) := by decide +kernel
theorem dX11_counts_73 : decode cX11_counts 73 = .ok (.iconst 0, 1) := by decide +kernel
theorem dX11_counts_74 : decode cX11_counts 74 = .ok (.istore_n 2, 1) := by decide +kernel
theorem dX11_counts_75 : decode cX11_counts 75 = .ok (.iload_n 2, 1) := by decide +kernel
theorem dX11_counts_76 : decode cX11_counts 76 = .ok (.iload_n 1, 1) := by decide +kernel
theorem dX11_counts_77 : decode cX11_counts 77 = .ok (.if_icmp .gt 24, 3) := by decide +kernel
theorem dX11_counts_80 : decode cX11_counts 80 = .ok (.aload_n 0, 1) := by decide +kernel
theorem dX11_counts_81 : decode cX11_counts 81 = .ok (.getfield 29, 3) := by decide +kernel
theorem dX11_counts_84 : decode cX11_counts 84 = .ok (.iload_n 2, 1) := by decide +kernel
theorem dX11_counts_85 : decode cX11_counts 85 = .ok (.iload_n 2, 1) := by decide +kernel
theorem dX11_counts_86 : decode cX11_counts 86 = .ok (.ifCond .ne 7, 3) := by decide +kernel
theorem dX11_counts_89 : decode cX11_counts 89 = .ok (.iconst 1, 1) := by decide +kernel
theorem dX11_counts_90 : decode cX11_counts 90 = .ok (.goto 4, 3) := by decide +kernel
theorem dX11_counts_93 : decode cX11_counts 93 = .ok (.iconst 0, 1) := by decide +kernel
theorem dX11_counts_94 : decode cX11_counts 94 = .ok (.iastore, 1) := by decide +kernel
theorem dX11_counts_95 : decode cX11_counts 95 = .ok (.iinc 2 1, 3) := by decide +kernel
theorem dX11_counts_98 : decode cX11_counts 98 = .ok (.goto (-23), 3) := by decide +kernel
theorem dX11_counts_101 : decode cX11_counts 101 = .ok (.iconst 0, 1) := by decide +kernel
theorem dX11_counts_102 : decode cX11_counts 102 = .ok (.istore_n 2, 1) := by decide +kernel
theorem dX11_counts_103 : decode cX11_counts 103 = .ok (.iload_n 2, 1) := by decide +kernel
theorem dX11_counts_104 : decode cX11_counts 104 = .ok (.iload_n 1, 1) := by decide +kernel
theorem dX11_counts_105 : decode cX11_counts 105 = .ok (.if_icmp .gt 53, 3) := by decide +kernel
theorem dX11_counts_108 : decode cX11_counts 108 = .ok (.iconst 0, 1) := by decide +kernel
theorem dX11_counts_109 : decode cX11_counts 109 = .ok (.istore_n 3, 1) := by decide +kernel
theorem dX11_counts_110 : decode cX11_counts 110 = .ok (.iload_n 3, 1) := by decide +kernel
theorem dX11_counts_111 : decode cX11_counts 111 = .ok (.aload_n 0, 1) := by decide +kernel
theorem dX11_counts_112 : decode cX11_counts 112 = .ok (.invokevirtual 65, 3) := by decide +kernel
theorem dX11_counts_115 : decode cX11_counts 115 = .ok (.if_icmp .ge 37, 3) := by decide +kernel
theorem dX11_counts_118 : decode cX11_counts 118 = .ok (.aload_n 0, 1) := by decide +kernel
theorem dX11_counts_119 : decode cX11_counts 119 = .ok (.iload_n 2, 1) := by decide +kernel
theorem dX11_counts_120 : decode cX11_counts 120 = .ok (.iload_n 3, 1) := by decide +kernel
theorem dX11_counts_121 : decode cX11_counts 121 = .ok (.invokevirtual 128, 3) := by decide +kernel
theorem dX11_counts_124 : decode cX11_counts 124 = .ok (.ifCond .eq 22, 3) := by decide +kernel
theorem dX11_counts_127 : decode cX11_counts 127 = .ok (.aload_n 0, 1) := by decide +kernel
theorem dX11_counts_128 : decode cX11_counts 128 = .ok (.getfield 29, 3) := by decide +kernel
theorem dX11_counts_131 : decode cX11_counts 131 = .ok (.iload_n 2, 1) := by decide +kernel
theorem dX11_counts_132 : decode cX11_counts 132 = .ok (.iconst 1, 1) := by decide +kernel
theorem dX11_counts_133 : decode cX11_counts 133 = .ok (.iload_n 3, 1) := by decide +kernel
theorem dX11_counts_134 : decode cX11_counts 134 = .ok (.ishl, 1) := by decide +kernel
theorem dX11_counts_135 : decode cX11_counts 135 = .ok (.ior, 1) := by decide +kernel
theorem dX11_counts_136 : decode cX11_counts 136 = .ok (.dup2, 1) := by decide +kernel
theorem dX11_counts_137 : decode cX11_counts 137 = .ok (.iaload, 1) := by decide +kernel
theorem dX11_counts_138 : decode cX11_counts 138 = .ok (.aload_n 0, 1) := by decide +kernel
theorem dX11_counts_139 : decode cX11_counts 139 = .ok (.getfield 29, 3) := by decide +kernel
theorem dX11_counts_142 : decode cX11_counts 142 = .ok (.iload_n 2, 1) := by decide +kernel
theorem dX11_counts_143 : decode cX11_counts 143 = .ok (.iaload, 1) := by decide +kernel
theorem dX11_counts_144 : decode cX11_counts 144 = .ok (.iadd, 1) := by decide +kernel
theorem dX11_counts_145 : decode cX11_counts 145 = .ok (.iastore, 1) := by decide +kernel
theorem dX11_counts_146 : decode cX11_counts 146 = .ok (.iinc 3 1, 3) := by decide +kernel
theorem dX11_counts_149 : decode cX11_counts 149 = .ok (.goto (-39), 3) := by decide +kernel
theorem dX11_counts_152 : decode cX11_counts 152 = .ok (.iinc 2 1, 3) := by decide +kernel
theorem dX11_counts_155 : decode cX11_counts 155 = .ok (.goto (-52), 3) := by decide +kernel
theorem dX11_counts_158 : decode cX11_counts 158 = .ok (.iload_n 1, 1) := by decide +kernel
theorem dX11_counts_159 : decode cX11_counts 159 = .ok (.istore_n 2, 1) := by decide +kernel
theorem dX11_counts_160 : decode cX11_counts 160 = .ok (.iload_n 2, 1) := by decide +kernel
theorem dX11_counts_161 : decode cX11_counts 161 = .ok (.ifCond .lt 69, 3) := by decide +kernel
theorem dX11_counts_164 : decode cX11_counts 164 = .ok (.aload_n 0, 1) := by decide +kernel
theorem dX11_counts_165 : decode cX11_counts 165 = .ok (.getfield 32, 3) := by decide +kernel
theorem dX11_counts_168 : decode cX11_counts 168 = .ok (.iload_n 2, 1) := by decide +kernel
theorem dX11_counts_169 : decode cX11_counts 169 = .ok (.iload_n 2, 1) := by decide +kernel
theorem dX11_counts_170 : decode cX11_counts 170 = .ok (.iload_n 1, 1) := by decide +kernel
theorem dX11_counts_171 : decode cX11_counts 171 = .ok (.if_icmp .ne 7, 3) := by decide +kernel
theorem dX11_counts_174 : decode cX11_counts 174 = .ok (.iconst 1, 1) := by decide +kernel
theorem dX11_counts_175 : decode cX11_counts 175 = .ok (.goto 4, 3) := by decide +kernel
theorem dX11_counts_178 : decode cX11_counts 178 = .ok (.iconst 0, 1) := by decide +kernel
theorem dX11_counts_179 : decode cX11_counts 179 = .ok (.iastore, 1) := by decide +kernel
theorem dX11_counts_180 : decode cX11_counts 180 = .ok (.iconst 0, 1) := by decide +kernel
theorem dX11_counts_181 : decode cX11_counts 181 = .ok (.istore_n 3, 1) := by decide +kernel
theorem dX11_counts_182 : decode cX11_counts 182 = .ok (.iload_n 3, 1) := by decide +kernel
theorem dX11_counts_183 : decode cX11_counts 183 = .ok (.aload_n 0, 1) := by decide +kernel
theorem dX11_counts_184 : decode cX11_counts 184 = .ok (.invokevirtual 65, 3) := by decide +kernel
theorem dX11_counts_187 : decode cX11_counts 187 = .ok (.if_icmp .ge 37, 3) := by decide +kernel
theorem dX11_counts_190 : decode cX11_counts 190 = .ok (.aload_n 0, 1) := by decide +kernel
theorem dX11_counts_191 : decode cX11_counts 191 = .ok (.iload_n 2, 1) := by decide +kernel
theorem dX11_counts_192 : decode cX11_counts 192 = .ok (.iload_n 3, 1) := by decide +kernel
theorem dX11_counts_193 : decode cX11_counts 193 = .ok (.invokevirtual 128, 3) := by decide +kernel
theorem dX11_counts_196 : decode cX11_counts 196 = .ok (.ifCond .eq 22, 3) := by decide +kernel
theorem dX11_counts_199 : decode cX11_counts 199 = .ok (.aload_n 0, 1) := by decide +kernel
theorem dX11_counts_200 : decode cX11_counts 200 = .ok (.getfield 32, 3) := by decide +kernel
theorem dX11_counts_203 : decode cX11_counts 203 = .ok (.iload_n 2, 1) := by decide +kernel
theorem dX11_counts_204 : decode cX11_counts 204 = .ok (.dup2, 1) := by decide +kernel
theorem dX11_counts_205 : decode cX11_counts 205 = .ok (.iaload, 1) := by decide +kernel
theorem dX11_counts_206 : decode cX11_counts 206 = .ok (.aload_n 0, 1) := by decide +kernel
theorem dX11_counts_207 : decode cX11_counts 207 = .ok (.getfield 32, 3) := by decide +kernel
theorem dX11_counts_210 : decode cX11_counts 210 = .ok (.iload_n 2, 1) := by decide +kernel
theorem dX11_counts_211 : decode cX11_counts 211 = .ok (.iconst 1, 1) := by decide +kernel
theorem dX11_counts_212 : decode cX11_counts 212 = .ok (.iload_n 3, 1) := by decide +kernel
theorem dX11_counts_213 : decode cX11_counts 213 = .ok (.ishl, 1) := by decide +kernel
theorem dX11_counts_214 : decode cX11_counts 214 = .ok (.ior, 1) := by decide +kernel
theorem dX11_counts_215 : decode cX11_counts 215 = .ok (.iaload, 1) := by decide +kernel
theorem dX11_counts_216 : decode cX11_counts 216 = .ok (.iadd, 1) := by decide +kernel
theorem dX11_counts_217 : decode cX11_counts 217 = .ok (.iastore, 1) := by decide +kernel
theorem dX11_counts_218 : decode cX11_counts 218 = .ok (.iinc 3 1, 3) := by decide +kernel
theorem dX11_counts_221 : decode cX11_counts 221 = .ok (.goto (-39), 3) := by decide +kernel
theorem dX11_counts_224 : decode cX11_counts 224 = .ok (.iinc 2 (-1), 3) := by decide +kernel
theorem dX11_counts_227 : decode cX11_counts 227 = .ok (.goto (-67), 3) := by decide +kernel
theorem dX11_counts_230 : decode cX11_counts 230 = .ok (.aload_n 0, 1) := by decide +kernel
theorem dX11_counts_231 : decode cX11_counts 231 = .ok (.getfield 29, 3) := by decide +kernel
theorem dX11_counts_234 : decode cX11_counts 234 = .ok (.iload_n 1, 1) := by decide +kernel
theorem dX11_counts_235 : decode cX11_counts 235 = .ok (.iaload, 1) := by decide +kernel
theorem dX11_counts_236 : decode cX11_counts 236 = .ok (.ireturn, 1) := by decide +kernel
theorem dX11_bits_0 : decode cX11_bits 0 = .ok (.iconst 0, 1) := by decide +kernel
theorem dX11_bits_1 : decode cX11_bits 1 = .ok (.istore_n 1, 1) := by decide +kernel
theorem dX11_bits_2 : decode cX11_bits 2 = .ok (.iload_n 0, 1) := by decide +kernel
theorem dX11_bits_3 : decode cX11_bits 3 = .ok (.istore_n 2, 1) := by decide +kernel
theorem dX11_bits_4 : decode cX11_bits 4 = .ok (.iload_n 2, 1) := by decide +kernel
theorem dX11_bits_5 : decode cX11_bits 5 = .ok (.ifCond .le 16, 3) := by decide +kernel
theorem dX11_bits_8 : decode cX11_bits 8 = .ok (.iload_n 1, 1) := by decide +kernel
theorem dX11_bits_9 : decode cX11_bits 9 = .ok (.iload_n 2, 1) := by decide +kernel
theorem dX11_bits_10 : decode cX11_bits 10 = .ok (.iconst 1, 1) := by decide +kernel
theorem dX11_bits_11 : decode cX11_bits 11 = .ok (.iand, 1) := by decide +kernel
theorem dX11_bits_12 : decode cX11_bits 12 = .ok (.iadd, 1) := by decide +kernel
theorem dX11_bits_13 : decode cX11_bits 13 = .ok (.istore_n 1, 1) := by decide +kernel
theorem dX11_bits_14 : decode cX11_bits 14 = .ok (.iload_n 2, 1) := by decide +kernel
theorem dX11_bits_15 : decode cX11_bits 15 = .ok (.iconst 1, 1) := by decide +kernel
theorem dX11_bits_16 : decode cX11_bits 16 = .ok (.ishr, 1) := by decide +kernel
theorem dX11_bits_17 : decode cX11_bits 17 = .ok (.istore_n 2, 1) := by decide +kernel
theorem dX11_bits_18 : decode cX11_bits 18 = .ok (.goto (-14), 3) := by decide +kernel
theorem dX11_bits_21 : decode cX11_bits 21 = .ok (.iload_n 1, 1) := by decide +kernel
theorem dX11_bits_22 : decode cX11_bits 22 = .ok (.ireturn, 1) := by decide +kernel
set_option maxRecDepth 20000 in
theorem ggX11_ranked_X11_many : GoodIn wsX11_ranked wsX11_many := goodIn_r _ [7, 8, 17, 18, 19, 20, 21, 22, 23, 24, 25, 26, 27, 28, 29, 30, 31, 32, 33, 34, 35, 36, 37, 38] rfl (by decide +kernel)
set_option maxRecDepth 20000 in
theorem gX11_ranked_X11_many : GoodIn wsX11_ranked (wsV RX11 65 RX11 yX11_many wsX11_many) := goodIn_app (goodIn_of _ (by decide +kernel)) ggX11_ranked_X11_many
set_option maxRecDepth 20000 in
theorem ggX11_ranked_X11_bits : GoodIn wsX11_ranked wsX11_bits := goodIn_r _ [11] rfl (by decide +kernel)
set_option maxRecDepth 20000 in
theorem gX11_ranked_X11_bits : GoodIn wsX11_ranked (va_wsS RX11 131 yX11_bits wsX11_bits) := goodIn_app (goodIn_of _ (by decide +kernel)) ggX11_ranked_X11_bits
set_option maxRecDepth 20000 in
theorem ggX11_ranked_X11_canBeNext : GoodIn wsX11_ranked wsX11_canBeNext := goodIn_r _ [15, 16, 17, 18, 19, 20, 21, 22, 23, 24, 25, 26, 27, 28, 29, 30, 31, 32, 33, 34, 35, 36, 37, 38] rfl (by decide +kernel)
set_option maxRecDepth 20000 in
theorem gX11_ranked_X11_canBeNext : GoodIn wsX11_ranked (wsV RX11 128 RX11 yX11_canBeNext wsX11_canBeNext) := goodIn_app (goodIn_of _ (by decide +kernel)) ggX11_ranked_X11_canBeNext
theorem dX11_ranked_0 : decode cX11_ranked 0 = .ok (.iconst 0, 1) := by decide +kernel
theorem dX11_ranked_1 : decode cX11_ranked 1 = .ok (.istore_n 3, 1) := by decide +kernel
theorem dX11_ranked_2 : decode cX11_ranked 2 = .ok (.iconst 0, 1) := by decide +kernel
theorem dX11_ranked_3 : decode cX11_ranked 3 = .ok (.istore 4, 2) := by decide +kernel
theorem dX11_ranked_5 : decode cX11_ranked 5 = .ok (.iload 4, 2) := by decide +kernel
theorem dX11_ranked_7 : decode cX11_ranked 7 = .ok (.iconst 1, 1) := by decide +kernel
theorem dX11_ranked_8 : decode cX11_ranked 8 = .ok (.aload_n 0, 1) := by decide +kernel
theorem dX11_ranked_9 : decode cX11_ranked 9 = .ok (.invokevirtual 65, 3) := by decide +kernel
theorem dX11_ranked_12 : decode cX11_ranked 12 = .ok (.ishl, 1) := by decide +kernel
theorem dX11_ranked_13 : decode cX11_ranked 13 = .ok (.if_icmp .ge 50, 3) := by decide +kernel
theorem dX11_ranked_16 : decode cX11_ranked 16 = .ok (.iload 4, 2) := by decide +kernel
theorem dX11_ranked_18 : decode cX11_ranked 18 = .ok (.invokestatic 131, 3) := by decide +kernel
theorem dX11_ranked_21 : decode cX11_ranked 21 = .ok (.iload_n 2, 1) := by decide +kernel
theorem dX11_ranked_22 : decode cX11_ranked 22 = .ok (.if_icmp .ne 35, 3) := by decide +kernel
theorem dX11_ranked_25 : decode cX11_ranked 25 = .ok (.aload_n 0, 1) := by decide +kernel
theorem dX11_ranked_26 : decode cX11_ranked 26 = .ok (.iload 4, 2) := by decide +kernel
theorem dX11_ranked_28 : decode cX11_ranked 28 = .ok (.iload_n 1, 1) := by decide +kernel
theorem dX11_ranked_29 : decode cX11_ranked 29 = .ok (.invokevirtual 128, 3) := by decide +kernel
theorem dX11_ranked_32 : decode cX11_ranked 32 = .ok (.ifCond .eq 25, 3) := by decide +kernel
theorem dX11_ranked_35 : decode cX11_ranked 35 = .ok (.iload_n 3, 1) := by decide +kernel
theorem dX11_ranked_36 : decode cX11_ranked 36 = .ok (.aload_n 0, 1) := by decide +kernel
theorem dX11_ranked_37 : decode cX11_ranked 37 = .ok (.getfield 29, 3) := by decide +kernel
theorem dX11_ranked_40 : decode cX11_ranked 40 = .ok (.iload 4, 2) := by decide +kernel
theorem dX11_ranked_42 : decode cX11_ranked 42 = .ok (.iaload, 1) := by decide +kernel
theorem dX11_ranked_43 : decode cX11_ranked 43 = .ok (.aload_n 0, 1) := by decide +kernel
theorem dX11_ranked_44 : decode cX11_ranked 44 = .ok (.getfield 32, 3) := by decide +kernel
theorem dX11_ranked_47 : decode cX11_ranked 47 = .ok (.iload 4, 2) := by decide +kernel
theorem dX11_ranked_49 : decode cX11_ranked 49 = .ok (.iconst 1, 1) := by decide +kernel
theorem dX11_ranked_50 : decode cX11_ranked 50 = .ok (.iload_n 1, 1) := by decide +kernel
theorem dX11_ranked_51 : decode cX11_ranked 51 = .ok (.ishl, 1) := by decide +kernel
theorem dX11_ranked_52 : decode cX11_ranked 52 = .ok (.ior, 1) := by decide +kernel
theorem dX11_ranked_53 : decode cX11_ranked 53 = .ok (.iaload, 1) := by decide +kernel
theorem dX11_ranked_54 : decode cX11_ranked 54 = .ok (.imul, 1) := by decide +kernel
theorem dX11_ranked_55 : decode cX11_ranked 55 = .ok (.iadd, 1) := by decide +kernel
theorem dX11_ranked_56 : decode cX11_ranked 56 = .ok (.istore_n 3, 1) := by decide +kernel
theorem dX11_ranked_57 : decode cX11_ranked 57 = .ok (.iinc 4 1, 3) := by decide +kernel
theorem dX11_ranked_60 : decode cX11_ranked 60 = .ok (.goto (-55), 3) := by decide +kernel
theorem dX11_ranked_63 : decode cX11_ranked 63 = .ok (.iload_n 3, 1) := by decide +kernel
theorem dX11_ranked_64 : decode cX11_ranked 64 = .ok (.ireturn, 1) := by decide +kernel
set_option maxRecDepth 20000 in
theorem ggX11_above_X11_many : GoodIn wsX11_above wsX11_many := goodIn_r _ [7, 8, 14, 15, 16, 17, 18, 19, 20, 21, 22, 23, 24, 25, 26, 27, 28, 29, 30, 31, 32, 33, 34, 35] rfl (by decide +kernel)
set_option maxRecDepth 20000 in
theorem gX11_above_X11_many : GoodIn wsX11_above (wsV RX11 65 RX11 yX11_many wsX11_many) := goodIn_app (goodIn_of _ (by decide +kernel)) ggX11_above_X11_many
set_option maxRecDepth 20000 in
theorem ggX11_above_X11_canBeNext : GoodIn wsX11_above wsX11_canBeNext := goodIn_r _ [12, 13, 14, 15, 16, 17, 18, 19, 20, 21, 22, 23, 24, 25, 26, 27, 28, 29, 30, 31, 32, 33, 34, 35] rfl (by decide +kernel)
set_option maxRecDepth 20000 in
theorem gX11_above_X11_canBeNext : GoodIn wsX11_above (wsV RX11 128 RX11 yX11_canBeNext wsX11_canBeNext) := goodIn_app (goodIn_of _ (by decide +kernel)) ggX11_above_X11_canBeNext
theorem dX11_above_0 : decode cX11_above 0 = .ok (.iconst 0, 1) := by decide +kernel
theorem dX11_above_1 : decode cX11_above 1 = .ok (.istore_n 3, 1) := by decide +kernel
theorem dX11_above_2 : decode cX11_above 2 = .ok (.iconst 0, 1) := by decide +kernel
theorem dX11_above_3 : decode cX11_above 3 = .ok (.istore 4, 2) := by decide +kernel
theorem dX11_above_5 : decode cX11_above 5 = .ok (.iload 4, 2) := by decide +kernel
theorem dX11_above_7 : decode cX11_above 7 = .ok (.iconst 1, 1) := by decide +kernel
theorem dX11_above_8 : decode cX11_above 8 = .ok (.aload_n 0, 1) := by decide +kernel
theorem dX11_above_9 : decode cX11_above 9 = .ok (.invokevirtual 65, 3) := by decide +kernel
theorem dX11_above_12 : decode cX11_above 12 = .ok (.ishl, 1) := by decide +kernel
theorem dX11_above_13 : decode cX11_above 13 = .ok (.if_icmp .ge 50, 3) := by decide +kernel
theorem dX11_above_16 : decode cX11_above 16 = .ok (.iload 4, 2) := by decide +kernel
theorem dX11_above_18 : decode cX11_above 18 = .ok (.iload_n 2, 1) := by decide +kernel
theorem dX11_above_19 : decode cX11_above 19 = .ok (.ishr, 1) := by decide +kernel
theorem dX11_above_20 : decode cX11_above 20 = .ok (.iconst 1, 1) := by decide +kernel
theorem dX11_above_21 : decode cX11_above 21 = .ok (.iand, 1) := by decide +kernel
theorem dX11_above_22 : decode cX11_above 22 = .ok (.ifCond .ne 35, 3) := by decide +kernel
theorem dX11_above_25 : decode cX11_above 25 = .ok (.aload_n 0, 1) := by decide +kernel
theorem dX11_above_26 : decode cX11_above 26 = .ok (.iload 4, 2) := by decide +kernel
theorem dX11_above_28 : decode cX11_above 28 = .ok (.iload_n 1, 1) := by decide +kernel
theorem dX11_above_29 : decode cX11_above 29 = .ok (.invokevirtual 128, 3) := by decide +kernel
theorem dX11_above_32 : decode cX11_above 32 = .ok (.ifCond .eq 25, 3) := by decide +kernel
theorem dX11_above_35 : decode cX11_above 35 = .ok (.iload_n 3, 1) := by decide +kernel
theorem dX11_above_36 : decode cX11_above 36 = .ok (.aload_n 0, 1) := by decide +kernel
theorem dX11_above_37 : decode cX11_above 37 = .ok (.getfield 29, 3) := by decide +kernel
theorem dX11_above_40 : decode cX11_above 40 = .ok (.iload 4, 2) := by decide +kernel
theorem dX11_above_42 : decode cX11_above 42 = .ok (.iaload, 1) := by decide +kernel
theorem dX11_above_43 : decode cX11_above 43 = .ok (.aload_n 0, 1) := by decide +kernel
theorem dX11_above_44 : decode cX11_above 44 = .ok (.getfield 32, 3) := by decide +kernel
theorem dX11_above_47 : decode cX11_above 47 = .ok (.iload 4, 2) := by decide +kernel
theorem dX11_above_49 : decode cX11_above 49 = .ok (.iconst 1, 1) := by decide +kernel
theorem dX11_above_50 : decode cX11_above 50 = .ok (.iload_n 1, 1) := by decide +kernel
theorem dX11_above_51 : decode cX11_above 51 = .ok (.ishl, 1) := by decide +kernel
theorem dX11_above_52 : decode cX11_above 52 = .ok (.ior, 1) := by decide +kernel
theorem dX11_above_53 : decode cX11_above 53 = .ok (.iaload, 1) := by decide +kernel
theorem dX11_above_54 : decode cX11_above 54 = .ok (.imul, 1) := by decide +kernel
theorem dX11_above_55 : decode cX11_above 55 = .ok (.iadd, 1) := by decide +kernel
theorem dX11_above_56 : decode cX11_above 56 = .ok (.istore_n 3, 1) := by decide +kernel
theorem dX11_above_57 : decode cX11_above 57 = .ok (.iinc 4 1, 3) := by decide +kernel
theorem dX11_above_60 : decode cX11_above 60 = .ok (.goto (-55), 3) := by decide +kernel
theorem dX11_above_63 : decode cX11_above 63 = .ok (.iload_n 3, 1) := by decide +kernel
theorem dX11_above_64 : decode cX11_above 64 = .ok (.ireturn, 1) := by decide +kernel
set_option maxRecDepth 20000 in
theorem ggX11_orders_X11_counts : GoodIn wsX11_orders wsX11_counts := goodIn_r _ [6, 7, 8, 9, 10, 11, 12, 5, 13, 14, 15, 16, 17, 18, 19, 20, 21, 22, 23, 24, 25, 26, 27, 28, 29, 30, 31, 32, 33, 34, 35, 36, 37, 38, 39, 40, 41, 42, 43, 44] rfl (by decide +kernel)
set_option maxRecDepth 20000 in
theorem gX11_orders_X11_counts : GoodIn wsX11_orders (wsV RX11 134 RX11 yX11_counts wsX11_counts) := goodIn_app (goodIn_of _ (by decide +kernel)) ggX11_orders_X11_counts
theorem dX11_orders_0 : decode cX11_orders 0 = .ok (.aload_n 0, 1) := by decide +kernel
theorem dX11_orders_1 : decode cX11_orders 1 = .ok (.iconst 0, 1) := by decide +kernel
theorem dX11_orders_2 : decode cX11_orders 2 = .ok (.putfield 1, 3) := by decide +kernel
theorem dX11_orders_5 : decode cX11_orders 5 = .ok (.aload_n 0, 1) := by decide +kernel
theorem dX11_orders_6 : decode cX11_orders 6 = .ok (.invokevirtual 134, 3) := by decide +kernel
theorem dX11_orders_9 : decode cX11_orders 9 = .ok (.ireturn, 1) := by decide +kernel
set_option maxRecDepth 20000 in
theorem ggX11_rank_X11_noStone : GoodIn wsX11_rank wsX11_noStone := goodIn_r _ [6, 7, 8, 9, 5, 10, 11, 12, 13, 14, 15, 16, 17, 18, 1, 41, 42, 43, 44, 45, 46, 47, 48, 49, 50, 51, 52, 53, 54, 55, 56, 57, 58, 59, 60, 61, 62] rfl (by decide +kernel)
set_option maxRecDepth 20000 in
theorem gX11_rank_X11_noStone : GoodIn wsX11_rank (wsV RX11 109 RX11 yX11_noStone wsX11_noStone) := goodIn_app (goodIn_of _ (by decide +kernel)) ggX11_rank_X11_noStone
set_option maxRecDepth 20000 in
theorem ggX11_rank_X11_counts : GoodIn wsX11_rank wsX11_counts := goodIn_r _ [22, 23, 24, 25, 7, 8, 9, 5, 10, 11, 26, 27, 28, 29, 30, 31, 32, 33, 41, 42, 43, 44, 45, 46, 47, 48, 49, 50, 51, 52, 53, 54, 55, 56, 57, 58, 59, 60, 61, 62] rfl (by decide +kernel)
set_option maxRecDepth 20000 in
theorem gX11_rank_X11_counts : GoodIn wsX11_rank (wsV RX11 134 RX11 yX11_counts wsX11_counts) := goodIn_app (goodIn_of _ (by decide +kernel)) ggX11_rank_X11_counts
set_option maxRecDepth 20000 in
theorem ggX11_rank_X11_many : GoodIn wsX11_rank wsX11_many := goodIn_r _ [10, 11, 41, 42, 43, 44, 45, 46, 47, 48, 49, 50, 51, 52, 53, 54, 55, 56, 57, 58, 59, 60, 61, 62] rfl (by decide +kernel)
set_option maxRecDepth 20000 in
theorem gX11_rank_X11_many : GoodIn wsX11_rank (wsV RX11 65 RX11 yX11_many wsX11_many) := goodIn_app (goodIn_of _ (by decide +kernel)) ggX11_rank_X11_many
set_option maxRecDepth 20000 in
theorem ggX11_rank_X11_ranked : GoodIn wsX11_rank wsX11_ranked := goodIn_r _ [37, 24, 25, 7, 8, 9, 5, 10, 11, 38, 39, 40, 30, 31, 32, 33, 23, 41, 42, 43, 44, 45, 46, 47, 48, 49, 50, 51, 52, 53, 54, 55, 56, 57, 58, 59, 60, 61, 62] rfl (by decide +kernel)
set_option maxRecDepth 20000 in
theorem gX11_rank_X11_ranked : GoodIn wsX11_rank (wsV RX11 137 RX11 yX11_ranked wsX11_ranked) := goodIn_app (goodIn_of _ (by decide +kernel)) ggX11_rank_X11_ranked
theorem dX11_rank_0 : decode cX11_rank 0 = .ok (.aload_n 0, 1) := by decide +kernel
theorem dX11_rank_1 : decode cX11_rank 1 = .ok (.iconst 0, 1) := by decide +kernel
theorem dX11_rank_2 : decode cX11_rank 2 = .ok (.putfield 1, 3) := by decide +kernel
theorem dX11_rank_5 : decode cX11_rank 5 = .ok (.aload_n 0, 1) := by decide +kernel
theorem dX11_rank_6 : decode cX11_rank 6 = .ok (.iload_n 1, 1) := by decide +kernel
theorem dX11_rank_7 : decode cX11_rank 7 = .ok (.invokevirtual 109, 3) := by decide +kernel
theorem dX11_rank_10 : decode cX11_rank 10 = .ok (.ifCond .eq 5, 3) := by decide +kernel
theorem dX11_rank_13 : decode cX11_rank 13 = .ok (.iconst 0, 1) := by decide +kernel
theorem dX11_rank_14 : decode cX11_rank 14 = .ok (.ireturn, 1) := by decide +kernel
theorem dX11_rank_15 : decode cX11_rank 15 = .ok (.aload_n 0, 1) := by decide +kernel
theorem dX11_rank_16 : decode cX11_rank 16 = .ok (.invokevirtual 134, 3) := by decide +kernel
theorem dX11_rank_19 : decode cX11_rank 19 = .ok (.istore_n 3, 1) := by decide +kernel
theorem dX11_rank_20 : decode cX11_rank 20 = .ok (.iconst (-1), 1) := by decide +kernel
theorem dX11_rank_21 : decode cX11_rank 21 = .ok (.istore 4, 2) := by decide +kernel
theorem dX11_rank_23 : decode cX11_rank 23 = .ok (.iconst 0, 1) := by decide +kernel
theorem dX11_rank_24 : decode cX11_rank 24 = .ok (.istore 5, 2) := by decide +kernel
theorem dX11_rank_26 : decode cX11_rank 26 = .ok (.iload 5, 2) := by decide +kernel
theorem dX11_rank_28 : decode cX11_rank 28 = .ok (.aload_n 0, 1) := by decide +kernel
theorem dX11_rank_29 : decode cX11_rank 29 = .ok (.invokevirtual 65, 3) := by decide +kernel
theorem dX11_rank_32 : decode cX11_rank 32 = .ok (.if_icmp .ge 33, 3) := by decide +kernel
theorem dX11_rank_35 : decode cX11_rank 35 = .ok (.iload 4, 2) := by decide +kernel
theorem dX11_rank_37 : decode cX11_rank 37 = .ok (.iconst (-1), 1) := by decide +kernel
theorem dX11_rank_38 : decode cX11_rank 38 = .ok (.if_icmp .eq 7, 3) := by decide +kernel
theorem dX11_rank_41 : decode cX11_rank 41 = .ok (.iload_n 2, 1) := by decide +kernel
theorem dX11_rank_42 : decode cX11_rank 42 = .ok (.ifCond .eq 17, 3) := by decide +kernel
theorem dX11_rank_45 : decode cX11_rank 45 = .ok (.aload_n 0, 1) := by decide +kernel
theorem dX11_rank_46 : decode cX11_rank 46 = .ok (.iload_n 1, 1) := by decide +kernel
theorem dX11_rank_47 : decode cX11_rank 47 = .ok (.iload 5, 2) := by decide +kernel
theorem dX11_rank_49 : decode cX11_rank 49 = .ok (.invokevirtual 137, 3) := by decide +kernel
theorem dX11_rank_52 : decode cX11_rank 52 = .ok (.ifCond .le 7, 3) := by decide +kernel
theorem dX11_rank_55 : decode cX11_rank 55 = .ok (.iload 5, 2) := by decide +kernel
theorem dX11_rank_57 : decode cX11_rank 57 = .ok (.istore 4, 2) := by decide +kernel
theorem dX11_rank_59 : decode cX11_rank 59 = .ok (.iinc 5 1, 3) := by decide +kernel
theorem dX11_rank_62 : decode cX11_rank 62 = .ok (.goto (-36), 3) := by decide +kernel
theorem dX11_rank_65 : decode cX11_rank 65 = .ok (.iload 4, 2) := by decide +kernel
theorem dX11_rank_67 : decode cX11_rank 67 = .ok (.ireturn, 1) := by decide +kernel
set_option maxRecDepth 20000 in
theorem ggX11_withRank_X11_noStone : GoodIn wsX11_withRank wsX11_noStone := goodIn_r _ [6, 7, 8, 9, 5, 10, 11, 12, 13, 14, 15, 16, 17, 18, 1, 41, 42, 43, 44, 45, 46, 47, 48, 49, 50, 51, 52, 53, 54, 55, 56, 57, 58, 59, 60, 61, 62] rfl (by decide +kernel)
set_option maxRecDepth 20000 in
theorem gX11_withRank_X11_noStone : GoodIn wsX11_withRank (wsV RX11 109 RX11 yX11_noStone wsX11_noStone) := goodIn_app (goodIn_of _ (by decide +kernel)) ggX11_withRank_X11_noStone
set_option maxRecDepth 20000 in
theorem ggX11_withRank_X11_in : GoodIn wsX11_withRank wsX11_in := goodIn_r _ [14] rfl (by decide +kernel)
set_option maxRecDepth 20000 in
theorem gX11_withRank_X11_in : GoodIn wsX11_withRank (va_wsS RX11 69 yX11_in wsX11_in) := goodIn_app (goodIn_of _ (by decide +kernel)) ggX11_withRank_X11_in
set_option maxRecDepth 20000 in
theorem ggX11_withRank_X11_fails : GoodIn wsX11_withRank wsX11_fails := goodIn_r _ [18, 1, 41, 42, 43, 44, 45, 46, 47, 48, 49, 50, 51, 52, 53, 54, 55, 56, 57, 58, 59, 60, 61, 62] rfl (by decide +kernel)
set_option maxRecDepth 20000 in
theorem gX11_withRank_X11_fails : GoodIn wsX11_withRank (wsV RX11 73 RX11 yX11_fails wsX11_fails) := goodIn_app (goodIn_of _ (by decide +kernel)) ggX11_withRank_X11_fails
set_option maxRecDepth 20000 in
theorem ggX11_withRank_X11_counts : GoodIn wsX11_withRank wsX11_counts := goodIn_r _ [22, 23, 24, 25, 7, 8, 9, 5, 10, 11, 26, 27, 28, 29, 30, 31, 32, 33, 41, 42, 43, 44, 45, 46, 47, 48, 49, 50, 51, 52, 53, 54, 55, 56, 57, 58, 59, 60, 61, 62] rfl (by decide +kernel)
set_option maxRecDepth 20000 in
theorem gX11_withRank_X11_counts : GoodIn wsX11_withRank (wsV RX11 134 RX11 yX11_counts wsX11_counts) := goodIn_app (goodIn_of _ (by decide +kernel)) ggX11_withRank_X11_counts
set_option maxRecDepth 20000 in
theorem ggX11_withRank_X11_ranked : GoodIn wsX11_withRank wsX11_ranked := goodIn_r _ [37, 24, 25, 7, 8, 9, 5, 10, 11, 38, 39, 40, 30, 31, 32, 33, 23, 41, 42, 43, 44, 45, 46, 47, 48, 49, 50, 51, 52, 53, 54, 55, 56, 57, 58, 59, 60, 61, 62] rfl (by decide +kernel)
set_option maxRecDepth 20000 in
theorem gX11_withRank_X11_ranked : GoodIn wsX11_withRank (wsV RX11 137 RX11 yX11_ranked wsX11_ranked) := goodIn_app (goodIn_of _ (by decide +kernel)) ggX11_withRank_X11_ranked
theorem dX11_withRank_0 : decode cX11_withRank 0 = .ok (.aload_n 0, 1) := by decide +kernel
theorem dX11_withRank_1 : decode cX11_withRank 1 = .ok (.iconst 0, 1) := by decide +kernel
theorem dX11_withRank_2 : decode cX11_withRank 2 = .ok (.putfield 1, 3) := by decide +kernel
theorem dX11_withRank_5 : decode cX11_withRank 5 = .ok (.aload_n 0, 1) := by decide +kernel
theorem dX11_withRank_6 : decode cX11_withRank 6 = .ok (.iload_n 1, 1) := by decide +kernel
theorem dX11_withRank_7 : decode cX11_withRank 7 = .ok (.invokevirtual 109, 3) := by decide +kernel
theorem dX11_withRank_10 : decode cX11_withRank 10 = .ok (.ifCond .ne 18, 3) := by decide +kernel
theorem dX11_withRank_13 : decode cX11_withRank 13 = .ok (.aload_n 0, 1) := by decide +kernel
theorem dX11_withRank_14 : decode cX11_withRank 14 = .ok (.iload_n 2, 1) := by decide +kernel
theorem dX11_withRank_15 : decode cX11_withRank 15 = .ok (.iconst 0, 1) := by decide +kernel
theorem dX11_withRank_16 : decode cX11_withRank 16 = .ok (.bipush 9, 2) := by decide +kernel
theorem dX11_withRank_18 : decode cX11_withRank 18 = .ok (.invokestatic 69, 3) := by decide +kernel
theorem dX11_withRank_21 : decode cX11_withRank 21 = .ok (.iconst 2, 1) := by decide +kernel
theorem dX11_withRank_22 : decode cX11_withRank 22 = .ok (.invokevirtual 73, 3) := by decide +kernel
theorem dX11_withRank_25 : decode cX11_withRank 25 = .ok (.ifCond .eq 5, 3) := by decide +kernel
theorem dX11_withRank_28 : decode cX11_withRank 28 = .ok (.iconst 0, 1) := by decide +kernel
theorem dX11_withRank_29 : decode cX11_withRank 29 = .ok (.ireturn, 1) := by decide +kernel
theorem dX11_withRank_30 : decode cX11_withRank 30 = .ok (.aload_n 0, 1) := by decide +kernel
theorem dX11_withRank_31 : decode cX11_withRank 31 = .ok (.invokevirtual 134, 3) := by decide +kernel
theorem dX11_withRank_34 : decode cX11_withRank 34 = .ok (.istore_n 3, 1) := by decide +kernel
theorem dX11_withRank_35 : decode cX11_withRank 35 = .ok (.aload_n 0, 1) := by decide +kernel
theorem dX11_withRank_36 : decode cX11_withRank 36 = .ok (.iload_n 1, 1) := by decide +kernel
theorem dX11_withRank_37 : decode cX11_withRank 37 = .ok (.iload_n 2, 1) := by decide +kernel
theorem dX11_withRank_38 : decode cX11_withRank 38 = .ok (.invokevirtual 137, 3) := by decide +kernel
theorem dX11_withRank_41 : decode cX11_withRank 41 = .ok (.ireturn, 1) := by decide +kernel
set_option maxRecDepth 20000 in
theorem ggX11_noTwo_X11_noStone : GoodIn wsX11_noTwo wsX11_noStone := goodIn_r _ [5, 6, 7, 8, 4, 9, 10, 11, 12, 13, 14, 15, 16, 17, 18, 19, 20, 21, 22, 23, 24, 25, 26, 27, 28, 29, 30, 31, 32, 33, 34, 35, 36, 37, 38, 39, 40] rfl (by decide +kernel)
set_option maxRecDepth 20000 in
theorem gX11_noTwo_X11_noStone : GoodIn wsX11_noTwo (wsV RX11 109 RX11 yX11_noStone wsX11_noStone) := goodIn_app (goodIn_of _ (by decide +kernel)) ggX11_noTwo_X11_noStone
set_option maxRecDepth 20000 in
theorem ggX11_noTwo_X11_fails : GoodIn wsX11_noTwo wsX11_fails := goodIn_r _ [17, 18, 19, 20, 21, 22, 23, 24, 25, 26, 27, 28, 29, 30, 31, 32, 33, 34, 35, 36, 37, 38, 39, 40] rfl (by decide +kernel)
set_option maxRecDepth 20000 in
theorem gX11_noTwo_X11_fails : GoodIn wsX11_noTwo (wsV RX11 73 RX11 yX11_fails wsX11_fails) := goodIn_app (goodIn_of _ (by decide +kernel)) ggX11_noTwo_X11_fails
theorem dX11_noTwo_0 : decode cX11_noTwo 0 = .ok (.aload_n 0, 1) := by decide +kernel
theorem dX11_noTwo_1 : decode cX11_noTwo 1 = .ok (.iload_n 1, 1) := by decide +kernel
theorem dX11_noTwo_2 : decode cX11_noTwo 2 = .ok (.invokevirtual 109, 3) := by decide +kernel
theorem dX11_noTwo_5 : decode cX11_noTwo 5 = .ok (.ifCond .ne 29, 3) := by decide +kernel
theorem dX11_noTwo_8 : decode cX11_noTwo 8 = .ok (.aload_n 0, 1) := by decide +kernel
theorem dX11_noTwo_9 : decode cX11_noTwo 9 = .ok (.iload_n 2, 1) := by decide +kernel
theorem dX11_noTwo_10 : decode cX11_noTwo 10 = .ok (.invokevirtual 109, 3) := by decide +kernel
theorem dX11_noTwo_13 : decode cX11_noTwo 13 = .ok (.ifCond .ne 21, 3) := by decide +kernel
theorem dX11_noTwo_16 : decode cX11_noTwo 16 = .ok (.aload_n 0, 1) := by decide +kernel
theorem dX11_noTwo_17 : decode cX11_noTwo 17 = .ok (.iload_n 1, 1) := by decide +kernel
theorem dX11_noTwo_18 : decode cX11_noTwo 18 = .ok (.iload_n 2, 1) := by decide +kernel
theorem dX11_noTwo_19 : decode cX11_noTwo 19 = .ok (.if_icmp .eq 7, 3) := by decide +kernel
theorem dX11_noTwo_22 : decode cX11_noTwo 22 = .ok (.iconst 1, 1) := by decide +kernel
theorem dX11_noTwo_23 : decode cX11_noTwo 23 = .ok (.goto 4, 3) := by decide +kernel
theorem dX11_noTwo_26 : decode cX11_noTwo 26 = .ok (.iconst 0, 1) := by decide +kernel
theorem dX11_noTwo_27 : decode cX11_noTwo 27 = .ok (.iconst 2, 1) := by decide +kernel
theorem dX11_noTwo_28 : decode cX11_noTwo 28 = .ok (.invokevirtual 73, 3) := by decide +kernel
theorem dX11_noTwo_31 : decode cX11_noTwo 31 = .ok (.ifCond .eq 7, 3) := by decide +kernel
theorem dX11_noTwo_34 : decode cX11_noTwo 34 = .ok (.iconst 1, 1) := by decide +kernel
theorem dX11_noTwo_35 : decode cX11_noTwo 35 = .ok (.goto 4, 3) := by decide +kernel
theorem dX11_noTwo_38 : decode cX11_noTwo 38 = .ok (.iconst 0, 1) := by decide +kernel
theorem dX11_noTwo_39 : decode cX11_noTwo 39 = .ok (.ireturn, 1) := by decide +kernel
set_option maxRecDepth 20000 in
theorem ggX11_harder_X11_noTwo : GoodIn wsX11_harder wsX11_noTwo := goodIn_r _ [6, 7, 8, 9, 5, 10, 11, 12, 13, 14, 15, 16, 17, 18, 19, 20, 21, 22, 1, 42, 43, 44, 45, 46, 47, 48, 49, 50, 51, 52, 53, 54, 55, 56, 57, 58, 59, 60, 61, 62, 63] rfl (by decide +kernel)
set_option maxRecDepth 20000 in
theorem gX11_harder_X11_noTwo : GoodIn wsX11_harder (wsV RX11 141 RX11 yX11_noTwo wsX11_noTwo) := goodIn_app (goodIn_of _ (by decide +kernel)) ggX11_harder_X11_noTwo
set_option maxRecDepth 20000 in
theorem ggX11_harder_X11_counts : GoodIn wsX11_harder wsX11_counts := goodIn_r _ [26, 27, 28, 29, 11, 12, 13, 5, 14, 15, 30, 31, 32, 33, 34, 35, 36, 37, 42, 43, 44, 45, 46, 47, 48, 49, 50, 51, 52, 53, 54, 55, 56, 57, 58, 59, 60, 61, 62, 63] rfl (by decide +kernel)
set_option maxRecDepth 20000 in
theorem gX11_harder_X11_counts : GoodIn wsX11_harder (wsV RX11 134 RX11 yX11_counts wsX11_counts) := goodIn_app (goodIn_of _ (by decide +kernel)) ggX11_harder_X11_counts
set_option maxRecDepth 20000 in
theorem ggX11_harder_X11_above : GoodIn wsX11_harder wsX11_above := goodIn_r _ [41, 28, 29, 11, 12, 13, 5, 14, 15, 34, 35, 36, 37, 27, 42, 43, 44, 45, 46, 47, 48, 49, 50, 51, 52, 53, 54, 55, 56, 57, 58, 59, 60, 61, 62, 63] rfl (by decide +kernel)
set_option maxRecDepth 20000 in
theorem gX11_harder_X11_above : GoodIn wsX11_harder (wsV RX11 144 RX11 yX11_above wsX11_above) := goodIn_app (goodIn_of _ (by decide +kernel)) ggX11_harder_X11_above
theorem dX11_harder_0 : decode cX11_harder 0 = .ok (.aload_n 0, 1) := by decide +kernel
theorem dX11_harder_1 : decode cX11_harder 1 = .ok (.iconst 0, 1) := by decide +kernel
theorem dX11_harder_2 : decode cX11_harder 2 = .ok (.putfield 1, 3) := by decide +kernel
theorem dX11_harder_5 : decode cX11_harder 5 = .ok (.aload_n 0, 1) := by decide +kernel
theorem dX11_harder_6 : decode cX11_harder 6 = .ok (.iload_n 1, 1) := by decide +kernel
theorem dX11_harder_7 : decode cX11_harder 7 = .ok (.iload_n 2, 1) := by decide +kernel
theorem dX11_harder_8 : decode cX11_harder 8 = .ok (.invokevirtual 141, 3) := by decide +kernel
theorem dX11_harder_11 : decode cX11_harder 11 = .ok (.ifCond .eq 5, 3) := by decide +kernel
theorem dX11_harder_14 : decode cX11_harder 14 = .ok (.iconst 0, 1) := by decide +kernel
theorem dX11_harder_15 : decode cX11_harder 15 = .ok (.ireturn, 1) := by decide +kernel
theorem dX11_harder_16 : decode cX11_harder 16 = .ok (.aload_n 0, 1) := by decide +kernel
theorem dX11_harder_17 : decode cX11_harder 17 = .ok (.invokevirtual 134, 3) := by decide +kernel
theorem dX11_harder_20 : decode cX11_harder 20 = .ok (.istore_n 3, 1) := by decide +kernel
theorem dX11_harder_21 : decode cX11_harder 21 = .ok (.aload_n 0, 1) := by decide +kernel
theorem dX11_harder_22 : decode cX11_harder 22 = .ok (.iload_n 1, 1) := by decide +kernel
theorem dX11_harder_23 : decode cX11_harder 23 = .ok (.iload_n 2, 1) := by decide +kernel
theorem dX11_harder_24 : decode cX11_harder 24 = .ok (.invokevirtual 144, 3) := by decide +kernel
theorem dX11_harder_27 : decode cX11_harder 27 = .ok (.ireturn, 1) := by decide +kernel
theorem dX11_common_0 : decode cX11_common 0 = .ok (.iload_n 0, 1) := by decide +kernel
theorem dX11_common_1 : decode cX11_common 1 = .ok (.istore_n 2, 1) := by decide +kernel
theorem dX11_common_2 : decode cX11_common 2 = .ok (.iload_n 1, 1) := by decide +kernel
theorem dX11_common_3 : decode cX11_common 3 = .ok (.istore_n 3, 1) := by decide +kernel
theorem dX11_common_4 : decode cX11_common 4 = .ok (.iload_n 3, 1) := by decide +kernel
theorem dX11_common_5 : decode cX11_common 5 = .ok (.ifCond .le 16, 3) := by decide +kernel
theorem dX11_common_8 : decode cX11_common 8 = .ok (.iload_n 2, 1) := by decide +kernel
theorem dX11_common_9 : decode cX11_common 9 = .ok (.iload_n 3, 1) := by decide +kernel
theorem dX11_common_10 : decode cX11_common 10 = .ok (.irem, 1) := by decide +kernel
theorem dX11_common_11 : decode cX11_common 11 = .ok (.istore 4, 2) := by decide +kernel
theorem dX11_common_13 : decode cX11_common 13 = .ok (.iload_n 3, 1) := by decide +kernel
theorem dX11_common_14 : decode cX11_common 14 = .ok (.istore_n 2, 1) := by decide +kernel
theorem dX11_common_15 : decode cX11_common 15 = .ok (.iload 4, 2) := by decide +kernel
theorem dX11_common_17 : decode cX11_common 17 = .ok (.istore_n 3, 1) := by decide +kernel
theorem dX11_common_18 : decode cX11_common 18 = .ok (.goto (-14), 3) := by decide +kernel
theorem dX11_common_21 : decode cX11_common 21 = .ok (.iload_n 2, 1) := by decide +kernel
theorem dX11_common_22 : decode cX11_common 22 = .ok (.ireturn, 1) := by decide +kernel
set_option maxRecDepth 20000 in
theorem ggX11_shareOf_X11_noTwo : GoodIn wsX11_shareOf wsX11_noTwo := goodIn_r _ [6, 7, 8, 9, 5, 10, 11, 12, 13, 14, 15, 16, 17, 18, 19, 20, 21, 22, 1, 45, 46, 47, 48, 49, 50, 51, 52, 53, 54, 55, 56, 57, 58, 59, 60, 61, 62, 63, 64, 65, 66] rfl (by decide +kernel)
set_option maxRecDepth 20000 in
theorem gX11_shareOf_X11_noTwo : GoodIn wsX11_shareOf (wsV RX11 141 RX11 yX11_noTwo wsX11_noTwo) := goodIn_app (goodIn_of _ (by decide +kernel)) ggX11_shareOf_X11_noTwo
set_option maxRecDepth 20000 in
theorem ggX11_shareOf_X11_counts : GoodIn wsX11_shareOf wsX11_counts := goodIn_r _ [26, 27, 28, 29, 11, 12, 13, 5, 14, 15, 30, 31, 32, 33, 34, 35, 36, 37, 45, 46, 47, 48, 49, 50, 51, 52, 53, 54, 55, 56, 57, 58, 59, 60, 61, 62, 63, 64, 65, 66] rfl (by decide +kernel)
set_option maxRecDepth 20000 in
theorem gX11_shareOf_X11_counts : GoodIn wsX11_shareOf (wsV RX11 134 RX11 yX11_counts wsX11_counts) := goodIn_app (goodIn_of _ (by decide +kernel)) ggX11_shareOf_X11_counts
set_option maxRecDepth 20000 in
theorem ggX11_shareOf_X11_above : GoodIn wsX11_shareOf wsX11_above := goodIn_r _ [41, 28, 29, 11, 12, 13, 5, 14, 15, 34, 35, 36, 37, 27, 45, 46, 47, 48, 49, 50, 51, 52, 53, 54, 55, 56, 57, 58, 59, 60, 61, 62, 63, 64, 65, 66] rfl (by decide +kernel)
set_option maxRecDepth 20000 in
theorem gX11_shareOf_X11_above : GoodIn wsX11_shareOf (wsV RX11 144 RX11 yX11_above wsX11_above) := goodIn_app (goodIn_of _ (by decide +kernel)) ggX11_shareOf_X11_above
set_option maxRecDepth 20000 in
theorem ggX11_shareOf_X11_common : GoodIn wsX11_shareOf wsX11_common := goodIn_r _ [44] rfl (by decide +kernel)
set_option maxRecDepth 20000 in
theorem gX11_shareOf_X11_common : GoodIn wsX11_shareOf (va_wsS RX11 147 yX11_common wsX11_common) := goodIn_app (goodIn_of _ (by decide +kernel)) ggX11_shareOf_X11_common
theorem dX11_shareOf_0 : decode cX11_shareOf 0 = .ok (.aload_n 0, 1) := by decide +kernel
theorem dX11_shareOf_1 : decode cX11_shareOf 1 = .ok (.iconst 0, 1) := by decide +kernel
theorem dX11_shareOf_2 : decode cX11_shareOf 2 = .ok (.putfield 1, 3) := by decide +kernel
theorem dX11_shareOf_5 : decode cX11_shareOf 5 = .ok (.aload_n 0, 1) := by decide +kernel
theorem dX11_shareOf_6 : decode cX11_shareOf 6 = .ok (.iload_n 1, 1) := by decide +kernel
theorem dX11_shareOf_7 : decode cX11_shareOf 7 = .ok (.iload_n 2, 1) := by decide +kernel
theorem dX11_shareOf_8 : decode cX11_shareOf 8 = .ok (.invokevirtual 141, 3) := by decide +kernel
theorem dX11_shareOf_11 : decode cX11_shareOf 11 = .ok (.ifCond .eq 5, 3) := by decide +kernel
theorem dX11_shareOf_14 : decode cX11_shareOf 14 = .ok (.iconst 0, 1) := by decide +kernel
theorem dX11_shareOf_15 : decode cX11_shareOf 15 = .ok (.ireturn, 1) := by decide +kernel
theorem dX11_shareOf_16 : decode cX11_shareOf 16 = .ok (.aload_n 0, 1) := by decide +kernel
theorem dX11_shareOf_17 : decode cX11_shareOf 17 = .ok (.invokevirtual 134, 3) := by decide +kernel
theorem dX11_shareOf_20 : decode cX11_shareOf 20 = .ok (.istore 4, 2) := by decide +kernel
theorem dX11_shareOf_22 : decode cX11_shareOf 22 = .ok (.iload 4, 2) := by decide +kernel
theorem dX11_shareOf_24 : decode cX11_shareOf 24 = .ok (.ifCond .ne 13, 3) := by decide +kernel
theorem dX11_shareOf_27 : decode cX11_shareOf 27 = .ok (.iload_n 3, 1) := by decide +kernel
theorem dX11_shareOf_28 : decode cX11_shareOf 28 = .ok (.ifCond .eq 7, 3) := by decide +kernel
theorem dX11_shareOf_31 : decode cX11_shareOf 31 = .ok (.iconst 1, 1) := by decide +kernel
theorem dX11_shareOf_32 : decode cX11_shareOf 32 = .ok (.goto 4, 3) := by decide +kernel
theorem dX11_shareOf_35 : decode cX11_shareOf 35 = .ok (.iconst 0, 1) := by decide +kernel
theorem dX11_shareOf_36 : decode cX11_shareOf 36 = .ok (.ireturn, 1) := by decide +kernel
theorem dX11_shareOf_37 : decode cX11_shareOf 37 = .ok (.aload_n 0, 1) := by decide +kernel
theorem dX11_shareOf_38 : decode cX11_shareOf 38 = .ok (.iload_n 1, 1) := by decide +kernel
theorem dX11_shareOf_39 : decode cX11_shareOf 39 = .ok (.iload_n 2, 1) := by decide +kernel
theorem dX11_shareOf_40 : decode cX11_shareOf 40 = .ok (.invokevirtual 144, 3) := by decide +kernel
theorem dX11_shareOf_43 : decode cX11_shareOf 43 = .ok (.istore 5, 2) := by decide +kernel
theorem dX11_shareOf_45 : decode cX11_shareOf 45 = .ok (.iload_n 3, 1) := by decide +kernel
theorem dX11_shareOf_46 : decode cX11_shareOf 46 = .ok (.ifCond .eq 8, 3) := by decide +kernel
theorem dX11_shareOf_49 : decode cX11_shareOf 49 = .ok (.iload 4, 2) := by decide +kernel
theorem dX11_shareOf_51 : decode cX11_shareOf 51 = .ok (.goto 5, 3) := by decide +kernel
theorem dX11_shareOf_54 : decode cX11_shareOf 54 = .ok (.iload 5, 2) := by decide +kernel
theorem dX11_shareOf_56 : decode cX11_shareOf 56 = .ok (.iload 4, 2) := by decide +kernel
theorem dX11_shareOf_58 : decode cX11_shareOf 58 = .ok (.iload 5, 2) := by decide +kernel
theorem dX11_shareOf_60 : decode cX11_shareOf 60 = .ok (.invokestatic 147, 3) := by decide +kernel
theorem dX11_shareOf_63 : decode cX11_shareOf 63 = .ok (.idiv, 1) := by decide +kernel
theorem dX11_shareOf_64 : decode cX11_shareOf 64 = .ok (.ireturn, 1) := by decide +kernel
set_option maxRecDepth 20000 in
theorem ggX11_nextTest_X11_counts : GoodIn wsX11_nextTest wsX11_counts := goodIn_r _ [6, 7, 8, 9, 10, 11, 12, 5, 13, 14, 15, 16, 17, 18, 19, 20, 21, 22, 27, 28, 29, 30, 31, 32, 33, 34, 35, 36, 37, 38, 39, 40, 41, 42, 43, 44, 45, 46, 47, 48] rfl (by decide +kernel)
set_option maxRecDepth 20000 in
theorem gX11_nextTest_X11_counts : GoodIn wsX11_nextTest (wsV RX11 134 RX11 yX11_counts wsX11_counts) := goodIn_app (goodIn_of _ (by decide +kernel)) ggX11_nextTest_X11_counts
set_option maxRecDepth 20000 in
theorem ggX11_nextTest_X11_many : GoodIn wsX11_nextTest wsX11_many := goodIn_r _ [13, 14, 27, 28, 29, 30, 31, 32, 33, 34, 35, 36, 37, 38, 39, 40, 41, 42, 43, 44, 45, 46, 47, 48] rfl (by decide +kernel)
set_option maxRecDepth 20000 in
theorem gX11_nextTest_X11_many : GoodIn wsX11_nextTest (wsV RX11 65 RX11 yX11_many wsX11_many) := goodIn_app (goodIn_of _ (by decide +kernel)) ggX11_nextTest_X11_many
set_option maxRecDepth 20000 in
theorem ggX11_nextTest_X11_above : GoodIn wsX11_nextTest wsX11_above := goodIn_r _ [26, 8, 9, 10, 11, 12, 5, 13, 14, 19, 20, 21, 22, 7, 27, 28, 29, 30, 31, 32, 33, 34, 35, 36, 37, 38, 39, 40, 41, 42, 43, 44, 45, 46, 47, 48] rfl (by decide +kernel)
set_option maxRecDepth 20000 in
theorem gX11_nextTest_X11_above : GoodIn wsX11_nextTest (wsV RX11 144 RX11 yX11_above wsX11_above) := goodIn_app (goodIn_of _ (by decide +kernel)) ggX11_nextTest_X11_above
theorem dX11_nextTest_0 : decode cX11_nextTest 0 = .ok (.aload_n 0, 1) := by decide +kernel
theorem dX11_nextTest_1 : decode cX11_nextTest 1 = .ok (.iconst 0, 1) := by decide +kernel
theorem dX11_nextTest_2 : decode cX11_nextTest 2 = .ok (.putfield 1, 3) := by decide +kernel
theorem dX11_nextTest_5 : decode cX11_nextTest 5 = .ok (.aload_n 0, 1) := by decide +kernel
theorem dX11_nextTest_6 : decode cX11_nextTest 6 = .ok (.invokevirtual 134, 3) := by decide +kernel
theorem dX11_nextTest_9 : decode cX11_nextTest 9 = .ok (.ifCond .eq 11, 3) := by decide +kernel
theorem dX11_nextTest_12 : decode cX11_nextTest 12 = .ok (.aload_n 0, 1) := by decide +kernel
theorem dX11_nextTest_13 : decode cX11_nextTest 13 = .ok (.invokevirtual 65, 3) := by decide +kernel
theorem dX11_nextTest_16 : decode cX11_nextTest 16 = .ok (.iconst 2, 1) := by decide +kernel
theorem dX11_nextTest_17 : decode cX11_nextTest 17 = .ok (.if_icmp .ge 5, 3) := by decide +kernel
theorem dX11_nextTest_20 : decode cX11_nextTest 20 = .ok (.iconst (-1), 1) := by decide +kernel
theorem dX11_nextTest_21 : decode cX11_nextTest 21 = .ok (.ireturn, 1) := by decide +kernel
theorem dX11_nextTest_22 : decode cX11_nextTest 22 = .ok (.iconst (-1), 1) := by decide +kernel
theorem dX11_nextTest_23 : decode cX11_nextTest 23 = .ok (.istore_n 2, 1) := by decide +kernel
theorem dX11_nextTest_24 : decode cX11_nextTest 24 = .ok (.iconst (-1), 1) := by decide +kernel
theorem dX11_nextTest_25 : decode cX11_nextTest 25 = .ok (.istore_n 3, 1) := by decide +kernel
theorem dX11_nextTest_26 : decode cX11_nextTest 26 = .ok (.iconst 0, 1) := by decide +kernel
theorem dX11_nextTest_27 : decode cX11_nextTest 27 = .ok (.istore 4, 2) := by decide +kernel
theorem dX11_nextTest_29 : decode cX11_nextTest 29 = .ok (.iload 4, 2) := by decide +kernel
theorem dX11_nextTest_31 : decode cX11_nextTest 31 = .ok (.aload_n 0, 1) := by decide +kernel
theorem dX11_nextTest_32 : decode cX11_nextTest 32 = .ok (.invokevirtual 65, 3) := by decide +kernel
theorem dX11_nextTest_35 : decode cX11_nextTest 35 = .ok (.if_icmp .ge 92, 3) := by decide +kernel
theorem dX11_nextTest_38 : decode cX11_nextTest 38 = .ok (.iload 4, 2) := by decide +kernel
theorem dX11_nextTest_40 : decode cX11_nextTest 40 = .ok (.iconst 1, 1) := by decide +kernel
theorem dX11_nextTest_41 : decode cX11_nextTest 41 = .ok (.iadd, 1) := by decide +kernel
theorem dX11_nextTest_42 : decode cX11_nextTest 42 = .ok (.istore 5, 2) := by decide +kernel
theorem dX11_nextTest_44 : decode cX11_nextTest 44 = .ok (.iload 5, 2) := by decide +kernel
theorem dX11_nextTest_46 : decode cX11_nextTest 46 = .ok (.aload_n 0, 1) := by decide +kernel
theorem dX11_nextTest_47 : decode cX11_nextTest 47 = .ok (.invokevirtual 65, 3) := by decide +kernel
theorem dX11_nextTest_50 : decode cX11_nextTest 50 = .ok (.if_icmp .ge 71, 3) := by decide +kernel
theorem dX11_nextTest_53 : decode cX11_nextTest 53 = .ok (.aload_n 0, 1) := by decide +kernel
theorem dX11_nextTest_54 : decode cX11_nextTest 54 = .ok (.iload 4, 2) := by decide +kernel
theorem dX11_nextTest_56 : decode cX11_nextTest 56 = .ok (.iload 5, 2) := by decide +kernel
theorem dX11_nextTest_58 : decode cX11_nextTest 58 = .ok (.invokevirtual 144, 3) := by decide +kernel
theorem dX11_nextTest_61 : decode cX11_nextTest 61 = .ok (.istore 6, 2) := by decide +kernel
theorem dX11_nextTest_63 : decode cX11_nextTest 63 = .ok (.aload_n 0, 1) := by decide +kernel
theorem dX11_nextTest_64 : decode cX11_nextTest 64 = .ok (.iload 5, 2) := by decide +kernel
theorem dX11_nextTest_66 : decode cX11_nextTest 66 = .ok (.iload 4, 2) := by decide +kernel
theorem dX11_nextTest_68 : decode cX11_nextTest 68 = .ok (.invokevirtual 144, 3) := by decide +kernel
theorem dX11_nextTest_71 : decode cX11_nextTest 71 = .ok (.istore 7, 2) := by decide +kernel
theorem dX11_nextTest_73 : decode cX11_nextTest 73 = .ok (.iload 6, 2) := by decide +kernel
theorem dX11_nextTest_75 : decode cX11_nextTest 75 = .ok (.iload 7, 2) := by decide +kernel
theorem dX11_nextTest_77 : decode cX11_nextTest 77 = .ok (.if_icmp .le 8, 3) := by decide +kernel
theorem dX11_nextTest_80 : decode cX11_nextTest 80 = .ok (.iload 6, 2) := by decide +kernel
theorem dX11_nextTest_82 : decode cX11_nextTest 82 = .ok (.goto 5, 3) := by decide +kernel
theorem dX11_nextTest_85 : decode cX11_nextTest 85 = .ok (.iload 7, 2) := by decide +kernel
theorem dX11_nextTest_87 : decode cX11_nextTest 87 = .ok (.istore 8, 2) := by decide +kernel
theorem dX11_nextTest_89 : decode cX11_nextTest 89 = .ok (.iload_n 2, 1) := by decide +kernel
theorem dX11_nextTest_90 : decode cX11_nextTest 90 = .ok (.iconst (-1), 1) := by decide +kernel
theorem dX11_nextTest_91 : decode cX11_nextTest 91 = .ok (.if_icmp .eq 12, 3) := by decide +kernel
theorem dX11_nextTest_94 : decode cX11_nextTest 94 = .ok (.iload 8, 2) := by decide +kernel
theorem dX11_nextTest_96 : decode cX11_nextTest 96 = .ok (.iload_n 2, 1) := by decide +kernel
theorem dX11_nextTest_97 : decode cX11_nextTest 97 = .ok (.if_icmp .lt 6, 3) := by decide +kernel
theorem dX11_nextTest_100 : decode cX11_nextTest 100 = .ok (.goto 15, 3) := by decide +kernel
theorem dX11_nextTest_103 : decode cX11_nextTest 103 = .ok (.iload 8, 2) := by decide +kernel
theorem dX11_nextTest_105 : decode cX11_nextTest 105 = .ok (.istore_n 2, 1) := by decide +kernel
theorem dX11_nextTest_106 : decode cX11_nextTest 106 = .ok (.bipush 10, 2) := by decide +kernel
theorem dX11_nextTest_108 : decode cX11_nextTest 108 = .ok (.iload 4, 2) := by decide +kernel
theorem dX11_nextTest_110 : decode cX11_nextTest 110 = .ok (.imul, 1) := by decide +kernel
theorem dX11_nextTest_111 : decode cX11_nextTest 111 = .ok (.iload 5, 2) := by decide +kernel
theorem dX11_nextTest_113 : decode cX11_nextTest 113 = .ok (.iadd, 1) := by decide +kernel
theorem dX11_nextTest_114 : decode cX11_nextTest 114 = .ok (.istore_n 3, 1) := by decide +kernel
theorem dX11_nextTest_115 : decode cX11_nextTest 115 = .ok (.iinc 5 1, 3) := by decide +kernel
theorem dX11_nextTest_118 : decode cX11_nextTest 118 = .ok (.goto (-74), 3) := by decide +kernel
theorem dX11_nextTest_121 : decode cX11_nextTest 121 = .ok (.iinc 4 1, 3) := by decide +kernel
theorem dX11_nextTest_124 : decode cX11_nextTest 124 = .ok (.goto (-95), 3) := by decide +kernel
theorem dX11_nextTest_127 : decode cX11_nextTest 127 = .ok (.iload_n 1, 1) := by decide +kernel
theorem dX11_nextTest_128 : decode cX11_nextTest 128 = .ok (.ifCond .eq 7, 3) := by decide +kernel
theorem dX11_nextTest_131 : decode cX11_nextTest 131 = .ok (.iload_n 2, 1) := by decide +kernel
theorem dX11_nextTest_132 : decode cX11_nextTest 132 = .ok (.goto 4, 3) := by decide +kernel
theorem dX11_nextTest_135 : decode cX11_nextTest 135 = .ok (.iload_n 3, 1) := by decide +kernel
theorem dX11_nextTest_136 : decode cX11_nextTest 136 = .ok (.ireturn, 1) := by decide +kernel
set_option maxRecDepth 20000 in
theorem ggX11_orderAt_X11_many : GoodIn wsX11_orderAt wsX11_many := goodIn_r _ [6, 7, 30, 31, 32, 33, 34, 35, 36, 37, 38, 39, 40, 41, 42, 43, 44, 45, 46, 47, 48, 49, 50, 51] rfl (by decide +kernel)
set_option maxRecDepth 20000 in
theorem gX11_orderAt_X11_many : GoodIn wsX11_orderAt (wsV RX11 65 RX11 yX11_many wsX11_many) := goodIn_app (goodIn_of _ (by decide +kernel)) ggX11_orderAt_X11_many
set_option maxRecDepth 20000 in
theorem ggX11_orderAt_X11_in : GoodIn wsX11_orderAt wsX11_in := goodIn_r _ [10] rfl (by decide +kernel)
set_option maxRecDepth 20000 in
theorem gX11_orderAt_X11_in : GoodIn wsX11_orderAt (va_wsS RX11 69 yX11_in wsX11_in) := goodIn_app (goodIn_of _ (by decide +kernel)) ggX11_orderAt_X11_in
set_option maxRecDepth 20000 in
theorem ggX11_orderAt_X11_counts : GoodIn wsX11_orderAt wsX11_counts := goodIn_r _ [14, 15, 16, 17, 2, 3, 4, 5, 6, 7, 18, 19, 20, 21, 22, 23, 24, 25, 30, 31, 32, 33, 34, 35, 36, 37, 38, 39, 40, 41, 42, 43, 44, 45, 46, 47, 48, 49, 50, 51] rfl (by decide +kernel)
set_option maxRecDepth 20000 in
theorem gX11_orderAt_X11_counts : GoodIn wsX11_orderAt (wsV RX11 134 RX11 yX11_counts wsX11_counts) := goodIn_app (goodIn_of _ (by decide +kernel)) ggX11_orderAt_X11_counts
set_option maxRecDepth 20000 in
theorem ggX11_orderAt_X11_fails : GoodIn wsX11_orderAt wsX11_fails := goodIn_r _ [29, 1, 30, 31, 32, 33, 34, 35, 36, 37, 38, 39, 40, 41, 42, 43, 44, 45, 46, 47, 48, 49, 50, 51] rfl (by decide +kernel)
set_option maxRecDepth 20000 in
theorem gX11_orderAt_X11_fails : GoodIn wsX11_orderAt (wsV RX11 73 RX11 yX11_fails wsX11_fails) := goodIn_app (goodIn_of _ (by decide +kernel)) ggX11_orderAt_X11_fails
set_option maxRecDepth 20000 in
theorem ggX11_orderAt_X11_canBeNext : GoodIn wsX11_orderAt wsX11_canBeNext := goodIn_r _ [25, 15, 30, 31, 32, 33, 34, 35, 36, 37, 38, 39, 40, 41, 42, 43, 44, 45, 46, 47, 48, 49, 50, 51] rfl (by decide +kernel)
set_option maxRecDepth 20000 in
theorem gX11_orderAt_X11_canBeNext : GoodIn wsX11_orderAt (wsV RX11 128 RX11 yX11_canBeNext wsX11_canBeNext) := goodIn_app (goodIn_of _ (by decide +kernel)) ggX11_orderAt_X11_canBeNext
theorem dX11_orderAt_0 : decode cX11_orderAt 0 = .ok (.aload_n 0, 1) := by decide +kernel
theorem dX11_orderAt_1 : decode cX11_orderAt 1 = .ok (.iconst 0, 1) := by decide +kernel
theorem dX11_orderAt_2 : decode cX11_orderAt 2 = .ok (.putfield 1, 3) := by decide +kernel
theorem dX11_orderAt_5 : decode cX11_orderAt 5 = .ok (.aload_n 0, 1) := by decide +kernel
theorem dX11_orderAt_6 : decode cX11_orderAt 6 = .ok (.iload_n 1, 1) := by decide +kernel
theorem dX11_orderAt_7 : decode cX11_orderAt 7 = .ok (.iconst 0, 1) := by decide +kernel
theorem dX11_orderAt_8 : decode cX11_orderAt 8 = .ok (.aload_n 0, 1) := by decide +kernel
theorem dX11_orderAt_9 : decode cX11_orderAt 9 = .ok (.invokevirtual 65, 3) := by decide +kernel
theorem dX11_orderAt_12 : decode cX11_orderAt 12 = .ok (.iconst 1, 1) := by decide +kernel
theorem dX11_orderAt_13 : decode cX11_orderAt 13 = .ok (.isub, 1) := by decide +kernel
theorem dX11_orderAt_14 : decode cX11_orderAt 14 = .ok (.invokestatic 69, 3) := by decide +kernel
theorem dX11_orderAt_17 : decode cX11_orderAt 17 = .ok (.ifCond .eq 14, 3) := by decide +kernel
theorem dX11_orderAt_20 : decode cX11_orderAt 20 = .ok (.aload_n 0, 1) := by decide +kernel
theorem dX11_orderAt_21 : decode cX11_orderAt 21 = .ok (.invokevirtual 134, 3) := by decide +kernel
theorem dX11_orderAt_24 : decode cX11_orderAt 24 = .ok (.ifCond .le 7, 3) := by decide +kernel
theorem dX11_orderAt_27 : decode cX11_orderAt 27 = .ok (.iconst 1, 1) := by decide +kernel
theorem dX11_orderAt_28 : decode cX11_orderAt 28 = .ok (.goto 4, 3) := by decide +kernel
theorem dX11_orderAt_31 : decode cX11_orderAt 31 = .ok (.iconst 0, 1) := by decide +kernel
theorem dX11_orderAt_32 : decode cX11_orderAt 32 = .ok (.iconst 1, 1) := by decide +kernel
theorem dX11_orderAt_33 : decode cX11_orderAt 33 = .ok (.invokevirtual 73, 3) := by decide +kernel
theorem dX11_orderAt_36 : decode cX11_orderAt 36 = .ok (.ifCond .eq 5, 3) := by decide +kernel
theorem dX11_orderAt_39 : decode cX11_orderAt 39 = .ok (.iconst 0, 1) := by decide +kernel
theorem dX11_orderAt_40 : decode cX11_orderAt 40 = .ok (.ireturn, 1) := by decide +kernel
theorem dX11_orderAt_41 : decode cX11_orderAt 41 = .ok (.iconst 0, 1) := by decide +kernel
theorem dX11_orderAt_42 : decode cX11_orderAt 42 = .ok (.istore_n 2, 1) := by decide +kernel
theorem dX11_orderAt_43 : decode cX11_orderAt 43 = .ok (.iconst 0, 1) := by decide +kernel
theorem dX11_orderAt_44 : decode cX11_orderAt 44 = .ok (.istore_n 3, 1) := by decide +kernel
theorem dX11_orderAt_45 : decode cX11_orderAt 45 = .ok (.iconst 0, 1) := by decide +kernel
theorem dX11_orderAt_46 : decode cX11_orderAt 46 = .ok (.istore 4, 2) := by decide +kernel
theorem dX11_orderAt_48 : decode cX11_orderAt 48 = .ok (.iload 4, 2) := by decide +kernel
theorem dX11_orderAt_50 : decode cX11_orderAt 50 = .ok (.iload_n 1, 1) := by decide +kernel
theorem dX11_orderAt_51 : decode cX11_orderAt 51 = .ok (.if_icmp .gt 32, 3) := by decide +kernel
theorem dX11_orderAt_54 : decode cX11_orderAt 54 = .ok (.iconst 0, 1) := by decide +kernel
theorem dX11_orderAt_55 : decode cX11_orderAt 55 = .ok (.istore_n 3, 1) := by decide +kernel
theorem dX11_orderAt_56 : decode cX11_orderAt 56 = .ok (.aload_n 0, 1) := by decide +kernel
theorem dX11_orderAt_57 : decode cX11_orderAt 57 = .ok (.iload_n 2, 1) := by decide +kernel
theorem dX11_orderAt_58 : decode cX11_orderAt 58 = .ok (.iload_n 3, 1) := by decide +kernel
theorem dX11_orderAt_59 : decode cX11_orderAt 59 = .ok (.invokevirtual 128, 3) := by decide +kernel
theorem dX11_orderAt_62 : decode cX11_orderAt 62 = .ok (.ifCond .ne 9, 3) := by decide +kernel
theorem dX11_orderAt_65 : decode cX11_orderAt 65 = .ok (.iinc 3 1, 3) := by decide +kernel
theorem dX11_orderAt_68 : decode cX11_orderAt 68 = .ok (.goto (-12), 3) := by decide +kernel
theorem dX11_orderAt_71 : decode cX11_orderAt 71 = .ok (.iload_n 2, 1) := by decide +kernel
theorem dX11_orderAt_72 : decode cX11_orderAt 72 = .ok (.iconst 1, 1) := by decide +kernel
theorem dX11_orderAt_73 : decode cX11_orderAt 73 = .ok (.iload_n 3, 1) := by decide +kernel
theorem dX11_orderAt_74 : decode cX11_orderAt 74 = .ok (.ishl, 1) := by decide +kernel
theorem dX11_orderAt_75 : decode cX11_orderAt 75 = .ok (.ior, 1) := by decide +kernel
theorem dX11_orderAt_76 : decode cX11_orderAt 76 = .ok (.istore_n 2, 1) := by decide +kernel
theorem dX11_orderAt_77 : decode cX11_orderAt 77 = .ok (.iinc 4 1, 3) := by decide +kernel
theorem dX11_orderAt_80 : decode cX11_orderAt 80 = .ok (.goto (-32), 3) := by decide +kernel
theorem dX11_orderAt_83 : decode cX11_orderAt 83 = .ok (.iload_n 3, 1) := by decide +kernel
theorem dX11_orderAt_84 : decode cX11_orderAt 84 = .ok (.ireturn, 1) := by decide +kernel
theorem dX11_areParted_0 : decode cX11_areParted 0 = .ok (.aload_n 0, 1) := by decide +kernel
theorem dX11_areParted_1 : decode cX11_areParted 1 = .ok (.getfield 13, 3) := by decide +kernel
theorem dX11_areParted_4 : decode cX11_areParted 4 = .ok (.sipush 158, 3) := by decide +kernel
theorem dX11_areParted_7 : decode cX11_areParted 7 = .ok (.iload_n 1, 1) := by decide +kernel
theorem dX11_areParted_8 : decode cX11_areParted 8 = .ok (.iadd, 1) := by decide +kernel
theorem dX11_areParted_9 : decode cX11_areParted 9 = .ok (.iaload, 1) := by decide +kernel
theorem dX11_areParted_10 : decode cX11_areParted 10 = .ok (.iload_n 2, 1) := by decide +kernel
theorem dX11_areParted_11 : decode cX11_areParted 11 = .ok (.ishr, 1) := by decide +kernel
theorem dX11_areParted_12 : decode cX11_areParted 12 = .ok (.iconst 1, 1) := by decide +kernel
theorem dX11_areParted_13 : decode cX11_areParted 13 = .ok (.iand, 1) := by decide +kernel
theorem dX11_areParted_14 : decode cX11_areParted 14 = .ok (.iconst 1, 1) := by decide +kernel
theorem dX11_areParted_15 : decode cX11_areParted 15 = .ok (.if_icmp .ne 7, 3) := by decide +kernel
theorem dX11_areParted_18 : decode cX11_areParted 18 = .ok (.iconst 1, 1) := by decide +kernel
theorem dX11_areParted_19 : decode cX11_areParted 19 = .ok (.goto 4, 3) := by decide +kernel
theorem dX11_areParted_22 : decode cX11_areParted 22 = .ok (.iconst 0, 1) := by decide +kernel
theorem dX11_areParted_23 : decode cX11_areParted 23 = .ok (.ireturn, 1) := by decide +kernel
set_option maxRecDepth 20000 in
theorem ggX11_why_X11_areParted : GoodIn wsX11_why wsX11_areParted := goodIn_r _ [7, 2, 8, 9, 10, 11, 12, 13, 14, 15, 16, 17, 18, 19, 20, 21, 22, 23, 24, 25, 26, 27, 28, 29] rfl (by decide +kernel)
set_option maxRecDepth 20000 in
theorem gX11_why_X11_areParted : GoodIn wsX11_why (wsV RX11 150 RX11 yX11_areParted wsX11_areParted) := goodIn_app (goodIn_of _ (by decide +kernel)) ggX11_why_X11_areParted
theorem dX11_why_0 : decode cX11_why 0 = .ok (.aload_n 0, 1) := by decide +kernel
theorem dX11_why_1 : decode cX11_why 1 = .ok (.getfield 38, 3) := by decide +kernel
theorem dX11_why_4 : decode cX11_why 4 = .ok (.iload_n 1, 1) := by decide +kernel
theorem dX11_why_5 : decode cX11_why 5 = .ok (.iaload, 1) := by decide +kernel
theorem dX11_why_6 : decode cX11_why 6 = .ok (.istore_n 3, 1) := by decide +kernel
theorem dX11_why_7 : decode cX11_why 7 = .ok (.aload_n 0, 1) := by decide +kernel
theorem dX11_why_8 : decode cX11_why 8 = .ok (.getfield 13, 3) := by decide +kernel
theorem dX11_why_11 : decode cX11_why 11 = .ok (.bipush 20, 2) := by decide +kernel
theorem dX11_why_13 : decode cX11_why 13 = .ok (.iload_n 1, 1) := by decide +kernel
theorem dX11_why_14 : decode cX11_why 14 = .ok (.iadd, 1) := by decide +kernel
theorem dX11_why_15 : decode cX11_why 15 = .ok (.iaload, 1) := by decide +kernel
theorem dX11_why_16 : decode cX11_why 16 = .ok (.istore 4, 2) := by decide +kernel
theorem dX11_why_18 : decode cX11_why 18 = .ok (.aload_n 0, 1) := by decide +kernel
theorem dX11_why_19 : decode cX11_why 19 = .ok (.getfield 13, 3) := by decide +kernel
theorem dX11_why_22 : decode cX11_why 22 = .ok (.bipush 30, 2) := by decide +kernel
theorem dX11_why_24 : decode cX11_why 24 = .ok (.iload_n 1, 1) := by decide +kernel
theorem dX11_why_25 : decode cX11_why 25 = .ok (.iadd, 1) := by decide +kernel
theorem dX11_why_26 : decode cX11_why 26 = .ok (.iaload, 1) := by decide +kernel
theorem dX11_why_27 : decode cX11_why 27 = .ok (.istore 5, 2) := by decide +kernel
theorem dX11_why_29 : decode cX11_why 29 = .ok (.iconst 0, 1) := by decide +kernel
theorem dX11_why_30 : decode cX11_why 30 = .ok (.istore 6, 2) := by decide +kernel
theorem dX11_why_32 : decode cX11_why 32 = .ok (.iconst 0, 1) := by decide +kernel
theorem dX11_why_33 : decode cX11_why 33 = .ok (.istore 7, 2) := by decide +kernel
theorem dX11_why_35 : decode cX11_why 35 = .ok (.iload 7, 2) := by decide +kernel
theorem dX11_why_37 : decode cX11_why 37 = .ok (.iload_n 2, 1) := by decide +kernel
theorem dX11_why_38 : decode cX11_why 38 = .ok (.if_icmp .ge 87, 3) := by decide +kernel
theorem dX11_why_41 : decode cX11_why 41 = .ok (.iload 7, 2) := by decide +kernel
theorem dX11_why_43 : decode cX11_why 43 = .ok (.iload_n 1, 1) := by decide +kernel
theorem dX11_why_44 : decode cX11_why 44 = .ok (.if_icmp .eq 75, 3) := by decide +kernel
theorem dX11_why_47 : decode cX11_why 47 = .ok (.aload_n 0, 1) := by decide +kernel
theorem dX11_why_48 : decode cX11_why 48 = .ok (.getfield 38, 3) := by decide +kernel
theorem dX11_why_51 : decode cX11_why 51 = .ok (.iload 7, 2) := by decide +kernel
theorem dX11_why_53 : decode cX11_why 53 = .ok (.iaload, 1) := by decide +kernel
theorem dX11_why_54 : decode cX11_why 54 = .ok (.iload_n 3, 1) := by decide +kernel
theorem dX11_why_55 : decode cX11_why 55 = .ok (.if_icmp .eq 6, 3) := by decide +kernel
theorem dX11_why_58 : decode cX11_why 58 = .ok (.goto 61, 3) := by decide +kernel
theorem dX11_why_61 : decode cX11_why 61 = .ok (.iload 4, 2) := by decide +kernel
theorem dX11_why_63 : decode cX11_why 63 = .ok (.aload_n 0, 1) := by decide +kernel
theorem dX11_why_64 : decode cX11_why 64 = .ok (.getfield 13, 3) := by decide +kernel
theorem dX11_why_67 : decode cX11_why 67 = .ok (.bipush 20, 2) := by decide +kernel
theorem dX11_why_69 : decode cX11_why 69 = .ok (.iload 7, 2) := by decide +kernel
theorem dX11_why_71 : decode cX11_why 71 = .ok (.iadd, 1) := by decide +kernel
theorem dX11_why_72 : decode cX11_why 72 = .ok (.iaload, 1) := by decide +kernel
theorem dX11_why_73 : decode cX11_why 73 = .ok (.iadd, 1) := by decide +kernel
theorem dX11_why_74 : decode cX11_why 74 = .ok (.istore 4, 2) := by decide +kernel
theorem dX11_why_76 : decode cX11_why 76 = .ok (.iload 5, 2) := by decide +kernel
theorem dX11_why_78 : decode cX11_why 78 = .ok (.aload_n 0, 1) := by decide +kernel
theorem dX11_why_79 : decode cX11_why 79 = .ok (.getfield 13, 3) := by decide +kernel
theorem dX11_why_82 : decode cX11_why 82 = .ok (.bipush 30, 2) := by decide +kernel
theorem dX11_why_84 : decode cX11_why 84 = .ok (.iload 7, 2) := by decide +kernel
theorem dX11_why_86 : decode cX11_why 86 = .ok (.iadd, 1) := by decide +kernel
theorem dX11_why_87 : decode cX11_why 87 = .ok (.iaload, 1) := by decide +kernel
theorem dX11_why_88 : decode cX11_why 88 = .ok (.iadd, 1) := by decide +kernel
theorem dX11_why_89 : decode cX11_why 89 = .ok (.istore 5, 2) := by decide +kernel
theorem dX11_why_91 : decode cX11_why 91 = .ok (.iload 6, 2) := by decide +kernel
theorem dX11_why_93 : decode cX11_why 93 = .ok (.aload_n 0, 1) := by decide +kernel
theorem dX11_why_94 : decode cX11_why 94 = .ok (.aload_n 0, 1) := by decide +kernel
theorem dX11_why_95 : decode cX11_why 95 = .ok (.getfield 13, 3) := by decide +kernel
theorem dX11_why_98 : decode cX11_why 98 = .ok (.bipush 10, 2) := by decide +kernel
theorem dX11_why_100 : decode cX11_why 100 = .ok (.iload 7, 2) := by decide +kernel
theorem dX11_why_102 : decode cX11_why 102 = .ok (.iadd, 1) := by decide +kernel
theorem dX11_why_103 : decode cX11_why 103 = .ok (.iaload, 1) := by decide +kernel
theorem dX11_why_104 : decode cX11_why 104 = .ok (.aload_n 0, 1) := by decide +kernel
theorem dX11_why_105 : decode cX11_why 105 = .ok (.getfield 13, 3) := by decide +kernel
theorem dX11_why_108 : decode cX11_why 108 = .ok (.bipush 10, 2) := by decide +kernel
theorem dX11_why_110 : decode cX11_why 110 = .ok (.iload_n 1, 1) := by decide +kernel
theorem dX11_why_111 : decode cX11_why 111 = .ok (.iadd, 1) := by decide +kernel
theorem dX11_why_112 : decode cX11_why 112 = .ok (.iaload, 1) := by decide +kernel
theorem dX11_why_113 : decode cX11_why 113 = .ok (.invokevirtual 150, 3) := by decide +kernel
theorem dX11_why_116 : decode cX11_why 116 = .ok (.ior, 1) := by decide +kernel
theorem dX11_why_117 : decode cX11_why 117 = .ok (.istore 6, 2) := by decide +kernel
theorem dX11_why_119 : decode cX11_why 119 = .ok (.iinc 7 1, 3) := by decide +kernel
theorem dX11_why_122 : decode cX11_why 122 = .ok (.goto (-87), 3) := by decide +kernel
theorem dX11_why_125 : decode cX11_why 125 = .ok (.iload 4, 2) := by decide +kernel
theorem dX11_why_127 : decode cX11_why 127 = .ok (.aload_n 0, 1) := by decide +kernel
theorem dX11_why_128 : decode cX11_why 128 = .ok (.getfield 13, 3) := by decide +kernel
theorem dX11_why_131 : decode cX11_why 131 = .ok (.sipush 150, 3) := by decide +kernel
theorem dX11_why_134 : decode cX11_why 134 = .ok (.iload_n 3, 1) := by decide +kernel
theorem dX11_why_135 : decode cX11_why 135 = .ok (.iadd, 1) := by decide +kernel
theorem dX11_why_136 : decode cX11_why 136 = .ok (.iaload, 1) := by decide +kernel
theorem dX11_why_137 : decode cX11_why 137 = .ok (.if_icmp .le 7, 3) := by decide +kernel
theorem dX11_why_140 : decode cX11_why 140 = .ok (.iconst 1, 1) := by decide +kernel
theorem dX11_why_141 : decode cX11_why 141 = .ok (.goto 32, 3) := by decide +kernel
theorem dX11_why_144 : decode cX11_why 144 = .ok (.iload 5, 2) := by decide +kernel
theorem dX11_why_146 : decode cX11_why 146 = .ok (.aload_n 0, 1) := by decide +kernel
theorem dX11_why_147 : decode cX11_why 147 = .ok (.getfield 13, 3) := by decide +kernel
theorem dX11_why_150 : decode cX11_why 150 = .ok (.sipush 154, 3) := by decide +kernel
theorem dX11_why_153 : decode cX11_why 153 = .ok (.iload_n 3, 1) := by decide +kernel
theorem dX11_why_154 : decode cX11_why 154 = .ok (.iadd, 1) := by decide +kernel
theorem dX11_why_155 : decode cX11_why 155 = .ok (.iaload, 1) := by decide +kernel
theorem dX11_why_156 : decode cX11_why 156 = .ok (.if_icmp .le 7, 3) := by decide +kernel
theorem dX11_why_159 : decode cX11_why 159 = .ok (.iconst 2, 1) := by decide +kernel
theorem dX11_why_160 : decode cX11_why 160 = .ok (.goto 13, 3) := by decide +kernel
theorem dX11_why_163 : decode cX11_why 163 = .ok (.iload 6, 2) := by decide +kernel
theorem dX11_why_165 : decode cX11_why 165 = .ok (.ifCond .eq 7, 3) := by decide +kernel
theorem dX11_why_168 : decode cX11_why 168 = .ok (.iconst 3, 1) := by decide +kernel
theorem dX11_why_169 : decode cX11_why 169 = .ok (.goto 4, 3) := by decide +kernel
theorem dX11_why_172 : decode cX11_why 172 = .ok (.iconst 0, 1) := by decide +kernel
theorem dX11_why_173 : decode cX11_why 173 = .ok (.ireturn, 1) := by decide +kernel
set_option maxRecDepth 20000 in
theorem ggX11_looksAtDrawers_X11_many : GoodIn wsX11_looksAtDrawers wsX11_many := goodIn_r _ [7, 2, 8, 9, 10, 11, 12, 13, 14, 15, 16, 17, 18, 19, 20, 21, 22, 23, 24, 25, 26, 27, 28, 29] rfl (by decide +kernel)
set_option maxRecDepth 20000 in
theorem gX11_looksAtDrawers_X11_many : GoodIn wsX11_looksAtDrawers (wsV RX11 65 RX11 yX11_many wsX11_many) := goodIn_app (goodIn_of _ (by decide +kernel)) ggX11_looksAtDrawers_X11_many
theorem dX11_looksAtDrawers_0 : decode cX11_looksAtDrawers 0 = .ok (.iconst 0, 1) := by decide +kernel
theorem dX11_looksAtDrawers_1 : decode cX11_looksAtDrawers 1 = .ok (.istore_n 1, 1) := by decide +kernel
theorem dX11_looksAtDrawers_2 : decode cX11_looksAtDrawers 2 = .ok (.iload_n 1, 1) := by decide +kernel
theorem dX11_looksAtDrawers_3 : decode cX11_looksAtDrawers 3 = .ok (.aload_n 0, 1) := by decide +kernel
theorem dX11_looksAtDrawers_4 : decode cX11_looksAtDrawers 4 = .ok (.invokevirtual 65, 3) := by decide +kernel
theorem dX11_looksAtDrawers_7 : decode cX11_looksAtDrawers 7 = .ok (.if_icmp .ge 24, 3) := by decide +kernel
theorem dX11_looksAtDrawers_10 : decode cX11_looksAtDrawers 10 = .ok (.aload_n 0, 1) := by decide +kernel
theorem dX11_looksAtDrawers_11 : decode cX11_looksAtDrawers 11 = .ok (.getfield 38, 3) := by decide +kernel
theorem dX11_looksAtDrawers_14 : decode cX11_looksAtDrawers 14 = .ok (.iload_n 1, 1) := by decide +kernel
theorem dX11_looksAtDrawers_15 : decode cX11_looksAtDrawers 15 = .ok (.aload_n 0, 1) := by decide +kernel
theorem dX11_looksAtDrawers_16 : decode cX11_looksAtDrawers 16 = .ok (.getfield 13, 3) := by decide +kernel
theorem dX11_looksAtDrawers_19 : decode cX11_looksAtDrawers 19 = .ok (.bipush 50, 2) := by decide +kernel
theorem dX11_looksAtDrawers_21 : decode cX11_looksAtDrawers 21 = .ok (.iload_n 1, 1) := by decide +kernel
theorem dX11_looksAtDrawers_22 : decode cX11_looksAtDrawers 22 = .ok (.iadd, 1) := by decide +kernel
theorem dX11_looksAtDrawers_23 : decode cX11_looksAtDrawers 23 = .ok (.iaload, 1) := by decide +kernel
theorem dX11_looksAtDrawers_24 : decode cX11_looksAtDrawers 24 = .ok (.iastore, 1) := by decide +kernel
theorem dX11_looksAtDrawers_25 : decode cX11_looksAtDrawers 25 = .ok (.iinc 1 1, 3) := by decide +kernel
theorem dX11_looksAtDrawers_28 : decode cX11_looksAtDrawers 28 = .ok (.goto (-26), 3) := by decide +kernel
theorem dX11_looksAtDrawers_31 : decode cX11_looksAtDrawers 31 = .ok (.return_, 1) := by decide +kernel
set_option maxRecDepth 20000 in
theorem ggX11_isDrawer_X11_in : GoodIn wsX11_isDrawer wsX11_in := goodIn_r _ [4] rfl (by decide +kernel)
set_option maxRecDepth 20000 in
theorem gX11_isDrawer_X11_in : GoodIn wsX11_isDrawer (va_wsS RX11 69 yX11_in wsX11_in) := goodIn_app (goodIn_of _ (by decide +kernel)) ggX11_isDrawer_X11_in
theorem dX11_isDrawer_0 : decode cX11_isDrawer 0 = .ok (.iload_n 1, 1) := by decide +kernel
theorem dX11_isDrawer_1 : decode cX11_isDrawer 1 = .ok (.iconst 0, 1) := by decide +kernel
theorem dX11_isDrawer_2 : decode cX11_isDrawer 2 = .ok (.iconst 3, 1) := by decide +kernel
theorem dX11_isDrawer_3 : decode cX11_isDrawer 3 = .ok (.invokestatic 69, 3) := by decide +kernel
theorem dX11_isDrawer_6 : decode cX11_isDrawer 6 = .ok (.ireturn, 1) := by decide +kernel
set_option maxRecDepth 20000 in
theorem ggX11_setDrawer_X11_isDrawer : GoodIn wsX11_setDrawer wsX11_isDrawer := goodIn_r _ [7, 8, 9, 6, 10] rfl (by decide +kernel)
set_option maxRecDepth 20000 in
theorem gX11_setDrawer_X11_isDrawer : GoodIn wsX11_setDrawer (wsV RX11 153 RX11 yX11_isDrawer wsX11_isDrawer) := goodIn_app (goodIn_of _ (by decide +kernel)) ggX11_setDrawer_X11_isDrawer
set_option maxRecDepth 20000 in
theorem ggX11_setDrawer_X11_in : GoodIn wsX11_setDrawer wsX11_in := goodIn_r _ [10] rfl (by decide +kernel)
set_option maxRecDepth 20000 in
theorem gX11_setDrawer_X11_in : GoodIn wsX11_setDrawer (va_wsS RX11 69 yX11_in wsX11_in) := goodIn_app (goodIn_of _ (by decide +kernel)) ggX11_setDrawer_X11_in
set_option maxRecDepth 20000 in
theorem ggX11_setDrawer_X11_fails : GoodIn wsX11_setDrawer wsX11_fails := goodIn_r _ [14, 1, 29, 30, 31, 32, 33, 34, 35, 36, 37, 38, 39, 40, 41, 42, 43, 44, 45, 46, 47, 48, 49, 50] rfl (by decide +kernel)
set_option maxRecDepth 20000 in
theorem gX11_setDrawer_X11_fails : GoodIn wsX11_setDrawer (wsV RX11 73 RX11 yX11_fails wsX11_fails) := goodIn_app (goodIn_of _ (by decide +kernel)) ggX11_setDrawer_X11_fails
set_option maxRecDepth 20000 in
theorem ggX11_setDrawer_X11_lying : GoodIn wsX11_setDrawer wsX11_lying := goodIn_r _ [18, 2, 19, 20, 21, 6, 22, 29, 30, 31, 32, 33, 34, 35, 36, 37, 38, 39, 40, 41, 42, 43, 44, 45, 46, 47, 48, 49, 50] rfl (by decide +kernel)
set_option maxRecDepth 20000 in
theorem gX11_setDrawer_X11_lying : GoodIn wsX11_setDrawer (wsV RX11 156 RX11 yX11_lying wsX11_lying) := goodIn_app (goodIn_of _ (by decide +kernel)) ggX11_setDrawer_X11_lying
set_option maxRecDepth 20000 in
theorem ggX11_setDrawer_X11_keeps : GoodIn wsX11_setDrawer wsX11_keeps := goodIn_r _ [26, 27, 28, 2, 29, 30, 31, 32, 33, 34, 35, 36, 37, 38, 39, 40, 41, 42, 43, 44, 45, 46, 47, 48, 49, 50] rfl (by decide +kernel)
set_option maxRecDepth 20000 in
theorem gX11_setDrawer_X11_keeps : GoodIn wsX11_setDrawer (wsV RX11 102 RX11 yX11_keeps wsX11_keeps) := goodIn_app (goodIn_of _ (by decide +kernel)) ggX11_setDrawer_X11_keeps
theorem dX11_setDrawer_0 : decode cX11_setDrawer 0 = .ok (.aload_n 0, 1) := by decide +kernel
theorem dX11_setDrawer_1 : decode cX11_setDrawer 1 = .ok (.iconst 0, 1) := by decide +kernel
theorem dX11_setDrawer_2 : decode cX11_setDrawer 2 = .ok (.putfield 1, 3) := by decide +kernel
theorem dX11_setDrawer_5 : decode cX11_setDrawer 5 = .ok (.aload_n 0, 1) := by decide +kernel
theorem dX11_setDrawer_6 : decode cX11_setDrawer 6 = .ok (.aload_n 0, 1) := by decide +kernel
theorem dX11_setDrawer_7 : decode cX11_setDrawer 7 = .ok (.iload_n 1, 1) := by decide +kernel
theorem dX11_setDrawer_8 : decode cX11_setDrawer 8 = .ok (.invokevirtual 153, 3) := by decide +kernel
theorem dX11_setDrawer_11 : decode cX11_setDrawer 11 = .ok (.ifCond .eq 28, 3) := by decide +kernel
theorem dX11_setDrawer_14 : decode cX11_setDrawer 14 = .ok (.iload_n 2, 1) := by decide +kernel
theorem dX11_setDrawer_15 : decode cX11_setDrawer 15 = .ok (.iconst 0, 1) := by decide +kernel
theorem dX11_setDrawer_16 : decode cX11_setDrawer 16 = .ok (.bipush 99, 2) := by decide +kernel
theorem dX11_setDrawer_18 : decode cX11_setDrawer 18 = .ok (.invokestatic 69, 3) := by decide +kernel
theorem dX11_setDrawer_21 : decode cX11_setDrawer 21 = .ok (.ifCond .eq 18, 3) := by decide +kernel
theorem dX11_setDrawer_24 : decode cX11_setDrawer 24 = .ok (.iload_n 3, 1) := by decide +kernel
theorem dX11_setDrawer_25 : decode cX11_setDrawer 25 = .ok (.iconst 0, 1) := by decide +kernel
theorem dX11_setDrawer_26 : decode cX11_setDrawer 26 = .ok (.sipush 999, 3) := by decide +kernel
theorem dX11_setDrawer_29 : decode cX11_setDrawer 29 = .ok (.invokestatic 69, 3) := by decide +kernel
theorem dX11_setDrawer_32 : decode cX11_setDrawer 32 = .ok (.ifCond .eq 7, 3) := by decide +kernel
theorem dX11_setDrawer_35 : decode cX11_setDrawer 35 = .ok (.iconst 1, 1) := by decide +kernel
theorem dX11_setDrawer_36 : decode cX11_setDrawer 36 = .ok (.goto 4, 3) := by decide +kernel
theorem dX11_setDrawer_39 : decode cX11_setDrawer 39 = .ok (.iconst 0, 1) := by decide +kernel
theorem dX11_setDrawer_40 : decode cX11_setDrawer 40 = .ok (.iconst 1, 1) := by decide +kernel
theorem dX11_setDrawer_41 : decode cX11_setDrawer 41 = .ok (.invokevirtual 73, 3) := by decide +kernel
theorem dX11_setDrawer_44 : decode cX11_setDrawer 44 = .ok (.ifCond .eq 5, 3) := by decide +kernel
theorem dX11_setDrawer_47 : decode cX11_setDrawer 47 = .ok (.iconst 0, 1) := by decide +kernel
theorem dX11_setDrawer_48 : decode cX11_setDrawer 48 = .ok (.ireturn, 1) := by decide +kernel
theorem dX11_setDrawer_49 : decode cX11_setDrawer 49 = .ok (.aload_n 0, 1) := by decide +kernel
theorem dX11_setDrawer_50 : decode cX11_setDrawer 50 = .ok (.aload_n 0, 1) := by decide +kernel
theorem dX11_setDrawer_51 : decode cX11_setDrawer 51 = .ok (.iload_n 1, 1) := by decide +kernel
theorem dX11_setDrawer_52 : decode cX11_setDrawer 52 = .ok (.iconst 1, 1) := by decide +kernel
theorem dX11_setDrawer_53 : decode cX11_setDrawer 53 = .ok (.invokevirtual 156, 3) := by decide +kernel
theorem dX11_setDrawer_56 : decode cX11_setDrawer 56 = .ok (.iload_n 2, 1) := by decide +kernel
theorem dX11_setDrawer_57 : decode cX11_setDrawer 57 = .ok (.if_icmp .gt 17, 3) := by decide +kernel
theorem dX11_setDrawer_60 : decode cX11_setDrawer 60 = .ok (.aload_n 0, 1) := by decide +kernel
theorem dX11_setDrawer_61 : decode cX11_setDrawer 61 = .ok (.iload_n 1, 1) := by decide +kernel
theorem dX11_setDrawer_62 : decode cX11_setDrawer 62 = .ok (.iconst 2, 1) := by decide +kernel
theorem dX11_setDrawer_63 : decode cX11_setDrawer 63 = .ok (.invokevirtual 156, 3) := by decide +kernel
theorem dX11_setDrawer_66 : decode cX11_setDrawer 66 = .ok (.iload_n 3, 1) := by decide +kernel
theorem dX11_setDrawer_67 : decode cX11_setDrawer 67 = .ok (.if_icmp .gt 7, 3) := by decide +kernel
theorem dX11_setDrawer_70 : decode cX11_setDrawer 70 = .ok (.iconst 1, 1) := by decide +kernel
theorem dX11_setDrawer_71 : decode cX11_setDrawer 71 = .ok (.goto 4, 3) := by decide +kernel
theorem dX11_setDrawer_74 : decode cX11_setDrawer 74 = .ok (.iconst 0, 1) := by decide +kernel
theorem dX11_setDrawer_75 : decode cX11_setDrawer 75 = .ok (.iconst 2, 1) := by decide +kernel
theorem dX11_setDrawer_76 : decode cX11_setDrawer 76 = .ok (.invokevirtual 73, 3) := by decide +kernel
theorem dX11_setDrawer_79 : decode cX11_setDrawer 79 = .ok (.ifCond .eq 5, 3) := by decide +kernel
theorem dX11_setDrawer_82 : decode cX11_setDrawer 82 = .ok (.iconst 0, 1) := by decide +kernel
theorem dX11_setDrawer_83 : decode cX11_setDrawer 83 = .ok (.ireturn, 1) := by decide +kernel
theorem dX11_setDrawer_84 : decode cX11_setDrawer 84 = .ok (.aload_n 0, 1) := by decide +kernel
theorem dX11_setDrawer_85 : decode cX11_setDrawer 85 = .ok (.invokevirtual 102, 3) := by decide +kernel
theorem dX11_setDrawer_88 : decode cX11_setDrawer 88 = .ok (.aload_n 0, 1) := by decide +kernel
theorem dX11_setDrawer_89 : decode cX11_setDrawer 89 = .ok (.getfield 13, 3) := by decide +kernel
theorem dX11_setDrawer_92 : decode cX11_setDrawer 92 = .ok (.sipush 150, 3) := by decide +kernel
theorem dX11_setDrawer_95 : decode cX11_setDrawer 95 = .ok (.iload_n 1, 1) := by decide +kernel
theorem dX11_setDrawer_96 : decode cX11_setDrawer 96 = .ok (.iadd, 1) := by decide +kernel
theorem dX11_setDrawer_97 : decode cX11_setDrawer 97 = .ok (.iaload, 1) := by decide +kernel
theorem dX11_setDrawer_98 : decode cX11_setDrawer 98 = .ok (.istore 4, 2) := by decide +kernel
theorem dX11_setDrawer_100 : decode cX11_setDrawer 100 = .ok (.aload_n 0, 1) := by decide +kernel
theorem dX11_setDrawer_101 : decode cX11_setDrawer 101 = .ok (.getfield 13, 3) := by decide +kernel
theorem dX11_setDrawer_104 : decode cX11_setDrawer 104 = .ok (.sipush 150, 3) := by decide +kernel
theorem dX11_setDrawer_107 : decode cX11_setDrawer 107 = .ok (.iload_n 1, 1) := by decide +kernel
theorem dX11_setDrawer_108 : decode cX11_setDrawer 108 = .ok (.iadd, 1) := by decide +kernel
theorem dX11_setDrawer_109 : decode cX11_setDrawer 109 = .ok (.iload_n 2, 1) := by decide +kernel
theorem dX11_setDrawer_110 : decode cX11_setDrawer 110 = .ok (.iastore, 1) := by decide +kernel
theorem dX11_setDrawer_111 : decode cX11_setDrawer 111 = .ok (.aload_n 0, 1) := by decide +kernel
theorem dX11_setDrawer_112 : decode cX11_setDrawer 112 = .ok (.getfield 13, 3) := by decide +kernel
theorem dX11_setDrawer_115 : decode cX11_setDrawer 115 = .ok (.sipush 154, 3) := by decide +kernel
theorem dX11_setDrawer_118 : decode cX11_setDrawer 118 = .ok (.iload_n 1, 1) := by decide +kernel
theorem dX11_setDrawer_119 : decode cX11_setDrawer 119 = .ok (.iadd, 1) := by decide +kernel
theorem dX11_setDrawer_120 : decode cX11_setDrawer 120 = .ok (.iload_n 3, 1) := by decide +kernel
theorem dX11_setDrawer_121 : decode cX11_setDrawer 121 = .ok (.iastore, 1) := by decide +kernel
theorem dX11_setDrawer_122 : decode cX11_setDrawer 122 = .ok (.iload 4, 2) := by decide +kernel
theorem dX11_setDrawer_124 : decode cX11_setDrawer 124 = .ok (.ireturn, 1) := by decide +kernel
set_option maxRecDepth 20000 in
theorem ggX11_lying_X11_many : GoodIn wsX11_lying wsX11_many := goodIn_r _ [6, 1, 7, 8, 9, 10, 11, 12, 13, 14, 15, 16, 17, 18, 19, 20, 21, 22, 23, 24, 25, 26, 27, 28] rfl (by decide +kernel)
set_option maxRecDepth 20000 in
theorem gX11_lying_X11_many : GoodIn wsX11_lying (wsV RX11 65 RX11 yX11_many wsX11_many) := goodIn_app (goodIn_of _ (by decide +kernel)) ggX11_lying_X11_many
theorem dX11_lying_0 : decode cX11_lying 0 = .ok (.iconst 0, 1) := by decide +kernel
theorem dX11_lying_1 : decode cX11_lying 1 = .ok (.istore_n 3, 1) := by decide +kernel
theorem dX11_lying_2 : decode cX11_lying 2 = .ok (.iconst 0, 1) := by decide +kernel
theorem dX11_lying_3 : decode cX11_lying 3 = .ok (.istore 4, 2) := by decide +kernel
theorem dX11_lying_5 : decode cX11_lying 5 = .ok (.iload 4, 2) := by decide +kernel
theorem dX11_lying_7 : decode cX11_lying 7 = .ok (.aload_n 0, 1) := by decide +kernel
theorem dX11_lying_8 : decode cX11_lying 8 = .ok (.invokevirtual 65, 3) := by decide +kernel
theorem dX11_lying_11 : decode cX11_lying 11 = .ok (.if_icmp .ge 62, 3) := by decide +kernel
theorem dX11_lying_14 : decode cX11_lying 14 = .ok (.aload_n 0, 1) := by decide +kernel
theorem dX11_lying_15 : decode cX11_lying 15 = .ok (.getfield 13, 3) := by decide +kernel
theorem dX11_lying_18 : decode cX11_lying 18 = .ok (.bipush 50, 2) := by decide +kernel
theorem dX11_lying_20 : decode cX11_lying 20 = .ok (.iload 4, 2) := by decide +kernel
theorem dX11_lying_22 : decode cX11_lying 22 = .ok (.iadd, 1) := by decide +kernel
theorem dX11_lying_23 : decode cX11_lying 23 = .ok (.iaload, 1) := by decide +kernel
theorem dX11_lying_24 : decode cX11_lying 24 = .ok (.iload_n 1, 1) := by decide +kernel
theorem dX11_lying_25 : decode cX11_lying 25 = .ok (.if_icmp .ne 42, 3) := by decide +kernel
theorem dX11_lying_28 : decode cX11_lying 28 = .ok (.iload_n 3, 1) := by decide +kernel
theorem dX11_lying_29 : decode cX11_lying 29 = .ok (.iload_n 2, 1) := by decide +kernel
theorem dX11_lying_30 : decode cX11_lying 30 = .ok (.ifCond .ne 7, 3) := by decide +kernel
theorem dX11_lying_33 : decode cX11_lying 33 = .ok (.iconst 1, 1) := by decide +kernel
theorem dX11_lying_34 : decode cX11_lying 34 = .ok (.goto 31, 3) := by decide +kernel
theorem dX11_lying_37 : decode cX11_lying 37 = .ok (.iload_n 2, 1) := by decide +kernel
theorem dX11_lying_38 : decode cX11_lying 38 = .ok (.iconst 1, 1) := by decide +kernel
theorem dX11_lying_39 : decode cX11_lying 39 = .ok (.if_icmp .ne 16, 3) := by decide +kernel
theorem dX11_lying_42 : decode cX11_lying 42 = .ok (.aload_n 0, 1) := by decide +kernel
theorem dX11_lying_43 : decode cX11_lying 43 = .ok (.getfield 13, 3) := by decide +kernel
theorem dX11_lying_46 : decode cX11_lying 46 = .ok (.bipush 20, 2) := by decide +kernel
theorem dX11_lying_48 : decode cX11_lying 48 = .ok (.iload 4, 2) := by decide +kernel
theorem dX11_lying_50 : decode cX11_lying 50 = .ok (.iadd, 1) := by decide +kernel
theorem dX11_lying_51 : decode cX11_lying 51 = .ok (.iaload, 1) := by decide +kernel
theorem dX11_lying_52 : decode cX11_lying 52 = .ok (.goto 13, 3) := by decide +kernel
theorem dX11_lying_55 : decode cX11_lying 55 = .ok (.aload_n 0, 1) := by decide +kernel
theorem dX11_lying_56 : decode cX11_lying 56 = .ok (.getfield 13, 3) := by decide +kernel
theorem dX11_lying_59 : decode cX11_lying 59 = .ok (.bipush 30, 2) := by decide +kernel
theorem dX11_lying_61 : decode cX11_lying 61 = .ok (.iload 4, 2) := by decide +kernel
theorem dX11_lying_63 : decode cX11_lying 63 = .ok (.iadd, 1) := by decide +kernel
theorem dX11_lying_64 : decode cX11_lying 64 = .ok (.iaload, 1) := by decide +kernel
theorem dX11_lying_65 : decode cX11_lying 65 = .ok (.iadd, 1) := by decide +kernel
theorem dX11_lying_66 : decode cX11_lying 66 = .ok (.istore_n 3, 1) := by decide +kernel
theorem dX11_lying_67 : decode cX11_lying 67 = .ok (.iinc 4 1, 3) := by decide +kernel
theorem dX11_lying_70 : decode cX11_lying 70 = .ok (.goto (-65), 3) := by decide +kernel
theorem dX11_lying_73 : decode cX11_lying 73 = .ok (.iload_n 3, 1) := by decide +kernel
theorem dX11_lying_74 : decode cX11_lying 74 = .ok (.ireturn, 1) := by decide +kernel
set_option maxRecDepth 20000 in
theorem ggX11_doLie_X11_many : GoodIn wsX11_doLie wsX11_many := goodIn_r _ [6, 1, 7, 8, 9, 10, 11, 12, 13, 14, 15, 16, 17, 18, 19, 20, 21, 22, 23, 24, 25, 26, 27, 28] rfl (by decide +kernel)
set_option maxRecDepth 20000 in
theorem gX11_doLie_X11_many : GoodIn wsX11_doLie (wsV RX11 65 RX11 yX11_many wsX11_many) := goodIn_app (goodIn_of _ (by decide +kernel)) ggX11_doLie_X11_many
theorem dX11_doLie_0 : decode cX11_doLie 0 = .ok (.iconst 0, 1) := by decide +kernel
theorem dX11_doLie_1 : decode cX11_doLie 1 = .ok (.istore_n 3, 1) := by decide +kernel
theorem dX11_doLie_2 : decode cX11_doLie 2 = .ok (.iload_n 3, 1) := by decide +kernel
theorem dX11_doLie_3 : decode cX11_doLie 3 = .ok (.aload_n 0, 1) := by decide +kernel
theorem dX11_doLie_4 : decode cX11_doLie 4 = .ok (.invokevirtual 65, 3) := by decide +kernel
theorem dX11_doLie_7 : decode cX11_doLie 7 = .ok (.if_icmp .ge 97, 3) := by decide +kernel
theorem dX11_doLie_10 : decode cX11_doLie 10 = .ok (.iconst 0, 1) := by decide +kernel
theorem dX11_doLie_11 : decode cX11_doLie 11 = .ok (.istore 4, 2) := by decide +kernel
theorem dX11_doLie_13 : decode cX11_doLie 13 = .ok (.iload 4, 2) := by decide +kernel
theorem dX11_doLie_15 : decode cX11_doLie 15 = .ok (.aload_n 0, 1) := by decide +kernel
theorem dX11_doLie_16 : decode cX11_doLie 16 = .ok (.invokevirtual 65, 3) := by decide +kernel
theorem dX11_doLie_19 : decode cX11_doLie 19 = .ok (.if_icmp .ge 79, 3) := by decide +kernel
theorem dX11_doLie_22 : decode cX11_doLie 22 = .ok (.iload_n 3, 1) := by decide +kernel
theorem dX11_doLie_23 : decode cX11_doLie 23 = .ok (.iload 4, 2) := by decide +kernel
theorem dX11_doLie_25 : decode cX11_doLie 25 = .ok (.if_icmp .eq 67, 3) := by decide +kernel
theorem dX11_doLie_28 : decode cX11_doLie 28 = .ok (.aload_n 0, 1) := by decide +kernel
theorem dX11_doLie_29 : decode cX11_doLie 29 = .ok (.getfield 13, 3) := by decide +kernel
theorem dX11_doLie_32 : decode cX11_doLie 32 = .ok (.bipush 50, 2) := by decide +kernel
theorem dX11_doLie_34 : decode cX11_doLie 34 = .ok (.iload_n 3, 1) := by decide +kernel
theorem dX11_doLie_35 : decode cX11_doLie 35 = .ok (.iadd, 1) := by decide +kernel
theorem dX11_doLie_36 : decode cX11_doLie 36 = .ok (.iaload, 1) := by decide +kernel
theorem dX11_doLie_37 : decode cX11_doLie 37 = .ok (.iconst (-1), 1) := by decide +kernel
theorem dX11_doLie_38 : decode cX11_doLie 38 = .ok (.if_icmp .eq 54, 3) := by decide +kernel
theorem dX11_doLie_41 : decode cX11_doLie 41 = .ok (.aload_n 0, 1) := by decide +kernel
theorem dX11_doLie_42 : decode cX11_doLie 42 = .ok (.getfield 13, 3) := by decide +kernel
