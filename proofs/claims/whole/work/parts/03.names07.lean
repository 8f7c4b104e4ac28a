theorem dX11_doLie_45 : decode cX11_doLie 45 = .ok (.bipush 50, 2) := by decide +kernel
theorem dX11_doLie_47 : decode cX11_doLie 47 = .ok (.iload_n 3, 1) := by decide +kernel
theorem dX11_doLie_48 : decode cX11_doLie 48 = .ok (.iadd, 1) := by decide +kernel
theorem dX11_doLie_49 : decode cX11_doLie 49 = .ok (.iaload, 1) := by decide +kernel
theorem dX11_doLie_50 : decode cX11_doLie 50 = .ok (.aload_n 0, 1) := by decide +kernel
theorem dX11_doLie_51 : decode cX11_doLie 51 = .ok (.getfield 13, 3) := by decide +kernel
theorem dX11_doLie_54 : decode cX11_doLie 54 = .ok (.bipush 50, 2) := by decide +kernel
theorem dX11_doLie_56 : decode cX11_doLie 56 = .ok (.iload 4, 2) := by decide +kernel
theorem dX11_doLie_58 : decode cX11_doLie 58 = .ok (.iadd, 1) := by decide +kernel
theorem dX11_doLie_59 : decode cX11_doLie 59 = .ok (.iaload, 1) := by decide +kernel
theorem dX11_doLie_60 : decode cX11_doLie 60 = .ok (.if_icmp .ne 32, 3) := by decide +kernel
theorem dX11_doLie_63 : decode cX11_doLie 63 = .ok (.aload_n 0, 1) := by decide +kernel
theorem dX11_doLie_64 : decode cX11_doLie 64 = .ok (.getfield 13, 3) := by decide +kernel
theorem dX11_doLie_67 : decode cX11_doLie 67 = .ok (.bipush 10, 2) := by decide +kernel
theorem dX11_doLie_69 : decode cX11_doLie 69 = .ok (.iload_n 3, 1) := by decide +kernel
theorem dX11_doLie_70 : decode cX11_doLie 70 = .ok (.iadd, 1) := by decide +kernel
theorem dX11_doLie_71 : decode cX11_doLie 71 = .ok (.iaload, 1) := by decide +kernel
theorem dX11_doLie_72 : decode cX11_doLie 72 = .ok (.iload_n 1, 1) := by decide +kernel
theorem dX11_doLie_73 : decode cX11_doLie 73 = .ok (.if_icmp .ne 19, 3) := by decide +kernel
theorem dX11_doLie_76 : decode cX11_doLie 76 = .ok (.aload_n 0, 1) := by decide +kernel
theorem dX11_doLie_77 : decode cX11_doLie 77 = .ok (.getfield 13, 3) := by decide +kernel
theorem dX11_doLie_80 : decode cX11_doLie 80 = .ok (.bipush 10, 2) := by decide +kernel
theorem dX11_doLie_82 : decode cX11_doLie 82 = .ok (.iload 4, 2) := by decide +kernel
theorem dX11_doLie_84 : decode cX11_doLie 84 = .ok (.iadd, 1) := by decide +kernel
theorem dX11_doLie_85 : decode cX11_doLie 85 = .ok (.iaload, 1) := by decide +kernel
theorem dX11_doLie_86 : decode cX11_doLie 86 = .ok (.iload_n 2, 1) := by decide +kernel
theorem dX11_doLie_87 : decode cX11_doLie 87 = .ok (.if_icmp .ne 5, 3) := by decide +kernel
theorem dX11_doLie_90 : decode cX11_doLie 90 = .ok (.iconst 1, 1) := by decide +kernel
theorem dX11_doLie_91 : decode cX11_doLie 91 = .ok (.ireturn, 1) := by decide +kernel
theorem dX11_doLie_92 : decode cX11_doLie 92 = .ok (.iinc 4 1, 3) := by decide +kernel
theorem dX11_doLie_95 : decode cX11_doLie 95 = .ok (.goto (-82), 3) := by decide +kernel
theorem dX11_doLie_98 : decode cX11_doLie 98 = .ok (.iinc 3 1, 3) := by decide +kernel
theorem dX11_doLie_101 : decode cX11_doLie 101 = .ok (.goto (-99), 3) := by decide +kernel
theorem dX11_doLie_104 : decode cX11_doLie 104 = .ok (.iconst 0, 1) := by decide +kernel
theorem dX11_doLie_105 : decode cX11_doLie 105 = .ok (.ireturn, 1) := by decide +kernel
set_option maxRecDepth 20000 in
theorem ggX11_part_X11_in : GoodIn wsX11_part wsX11_in := goodIn_r _ [6] rfl (by decide +kernel)
set_option maxRecDepth 20000 in
theorem gX11_part_X11_in : GoodIn wsX11_part (va_wsS RX11 69 yX11_in wsX11_in) := goodIn_app (goodIn_of _ (by decide +kernel)) ggX11_part_X11_in
set_option maxRecDepth 20000 in
theorem ggX11_part_X11_fails : GoodIn wsX11_part wsX11_fails := goodIn_r _ [10, 1, 29, 30, 31, 32, 33, 34, 35, 36, 37, 38, 39, 40, 41, 42, 43, 44, 45, 46, 47, 48, 49, 50] rfl (by decide +kernel)
set_option maxRecDepth 20000 in
theorem gX11_part_X11_fails : GoodIn wsX11_part (wsV RX11 73 RX11 yX11_fails wsX11_fails) := goodIn_app (goodIn_of _ (by decide +kernel)) ggX11_part_X11_fails
set_option maxRecDepth 20000 in
theorem ggX11_part_X11_doLie : GoodIn wsX11_part wsX11_doLie := goodIn_r _ [14, 2, 15, 16, 17, 5, 18, 29, 30, 31, 32, 33, 34, 35, 36, 37, 38, 39, 40, 41, 42, 43, 44, 45, 46, 47, 48, 49, 50] rfl (by decide +kernel)
set_option maxRecDepth 20000 in
theorem gX11_part_X11_doLie : GoodIn wsX11_part (wsV RX11 159 RX11 yX11_doLie wsX11_doLie) := goodIn_app (goodIn_of _ (by decide +kernel)) ggX11_part_X11_doLie
set_option maxRecDepth 20000 in
theorem ggX11_part_X11_keeps : GoodIn wsX11_part wsX11_keeps := goodIn_r _ [22, 23, 24, 2, 29, 30, 31, 32, 33, 34, 35, 36, 37, 38, 39, 40, 41, 42, 43, 44, 45, 46, 47, 48, 49, 50] rfl (by decide +kernel)
set_option maxRecDepth 20000 in
theorem gX11_part_X11_keeps : GoodIn wsX11_part (wsV RX11 102 RX11 yX11_keeps wsX11_keeps) := goodIn_app (goodIn_of _ (by decide +kernel)) ggX11_part_X11_keeps
set_option maxRecDepth 20000 in
theorem ggX11_part_X11_areParted : GoodIn wsX11_part wsX11_areParted := goodIn_r _ [28, 2, 29, 30, 31, 32, 33, 34, 35, 36, 37, 38, 39, 40, 41, 42, 43, 44, 45, 46, 47, 48, 49, 50] rfl (by decide +kernel)
set_option maxRecDepth 20000 in
theorem gX11_part_X11_areParted : GoodIn wsX11_part (wsV RX11 150 RX11 yX11_areParted wsX11_areParted) := goodIn_app (goodIn_of _ (by decide +kernel)) ggX11_part_X11_areParted
theorem dX11_part_0 : decode cX11_part 0 = .ok (.aload_n 0, 1) := by decide +kernel
theorem dX11_part_1 : decode cX11_part 1 = .ok (.iconst 0, 1) := by decide +kernel
theorem dX11_part_2 : decode cX11_part 2 = .ok (.putfield 1, 3) := by decide +kernel
theorem dX11_part_5 : decode cX11_part 5 = .ok (.aload_n 0, 1) := by decide +kernel
theorem dX11_part_6 : decode cX11_part 6 = .ok (.iload_n 1, 1) := by decide +kernel
theorem dX11_part_7 : decode cX11_part 7 = .ok (.iconst 0, 1) := by decide +kernel
theorem dX11_part_8 : decode cX11_part 8 = .ok (.iconst 5, 1) := by decide +kernel
theorem dX11_part_9 : decode cX11_part 9 = .ok (.invokestatic 69, 3) := by decide +kernel
theorem dX11_part_12 : decode cX11_part 12 = .ok (.ifCond .eq 16, 3) := by decide +kernel
theorem dX11_part_15 : decode cX11_part 15 = .ok (.iload_n 2, 1) := by decide +kernel
theorem dX11_part_16 : decode cX11_part 16 = .ok (.iconst 0, 1) := by decide +kernel
theorem dX11_part_17 : decode cX11_part 17 = .ok (.iconst 5, 1) := by decide +kernel
theorem dX11_part_18 : decode cX11_part 18 = .ok (.invokestatic 69, 3) := by decide +kernel
theorem dX11_part_21 : decode cX11_part 21 = .ok (.ifCond .eq 7, 3) := by decide +kernel
theorem dX11_part_24 : decode cX11_part 24 = .ok (.iconst 1, 1) := by decide +kernel
theorem dX11_part_25 : decode cX11_part 25 = .ok (.goto 4, 3) := by decide +kernel
theorem dX11_part_28 : decode cX11_part 28 = .ok (.iconst 0, 1) := by decide +kernel
theorem dX11_part_29 : decode cX11_part 29 = .ok (.iconst 1, 1) := by decide +kernel
theorem dX11_part_30 : decode cX11_part 30 = .ok (.invokevirtual 73, 3) := by decide +kernel
theorem dX11_part_33 : decode cX11_part 33 = .ok (.ifCond .ne 29, 3) := by decide +kernel
theorem dX11_part_36 : decode cX11_part 36 = .ok (.aload_n 0, 1) := by decide +kernel
theorem dX11_part_37 : decode cX11_part 37 = .ok (.iload_n 3, 1) := by decide +kernel
theorem dX11_part_38 : decode cX11_part 38 = .ok (.ifCond .eq 12, 3) := by decide +kernel
theorem dX11_part_41 : decode cX11_part 41 = .ok (.aload_n 0, 1) := by decide +kernel
theorem dX11_part_42 : decode cX11_part 42 = .ok (.iload_n 1, 1) := by decide +kernel
theorem dX11_part_43 : decode cX11_part 43 = .ok (.iload_n 2, 1) := by decide +kernel
theorem dX11_part_44 : decode cX11_part 44 = .ok (.invokevirtual 159, 3) := by decide +kernel
theorem dX11_part_47 : decode cX11_part 47 = .ok (.ifCond .ne 7, 3) := by decide +kernel
theorem dX11_part_50 : decode cX11_part 50 = .ok (.iconst 1, 1) := by decide +kernel
theorem dX11_part_51 : decode cX11_part 51 = .ok (.goto 4, 3) := by decide +kernel
theorem dX11_part_54 : decode cX11_part 54 = .ok (.iconst 0, 1) := by decide +kernel
theorem dX11_part_55 : decode cX11_part 55 = .ok (.iconst 2, 1) := by decide +kernel
theorem dX11_part_56 : decode cX11_part 56 = .ok (.invokevirtual 73, 3) := by decide +kernel
theorem dX11_part_59 : decode cX11_part 59 = .ok (.ifCond .eq 5, 3) := by decide +kernel
theorem dX11_part_62 : decode cX11_part 62 = .ok (.iconst 0, 1) := by decide +kernel
theorem dX11_part_63 : decode cX11_part 63 = .ok (.ireturn, 1) := by decide +kernel
theorem dX11_part_64 : decode cX11_part 64 = .ok (.aload_n 0, 1) := by decide +kernel
theorem dX11_part_65 : decode cX11_part 65 = .ok (.invokevirtual 102, 3) := by decide +kernel
theorem dX11_part_68 : decode cX11_part 68 = .ok (.aload_n 0, 1) := by decide +kernel
theorem dX11_part_69 : decode cX11_part 69 = .ok (.iload_n 1, 1) := by decide +kernel
theorem dX11_part_70 : decode cX11_part 70 = .ok (.iload_n 2, 1) := by decide +kernel
theorem dX11_part_71 : decode cX11_part 71 = .ok (.invokevirtual 150, 3) := by decide +kernel
theorem dX11_part_74 : decode cX11_part 74 = .ok (.istore 4, 2) := by decide +kernel
theorem dX11_part_76 : decode cX11_part 76 = .ok (.aload_n 0, 1) := by decide +kernel
theorem dX11_part_77 : decode cX11_part 77 = .ok (.getfield 13, 3) := by decide +kernel
theorem dX11_part_80 : decode cX11_part 80 = .ok (.sipush 158, 3) := by decide +kernel
theorem dX11_part_83 : decode cX11_part 83 = .ok (.iload_n 1, 1) := by decide +kernel
theorem dX11_part_84 : decode cX11_part 84 = .ok (.iadd, 1) := by decide +kernel
theorem dX11_part_85 : decode cX11_part 85 = .ok (.iload_n 3, 1) := by decide +kernel
theorem dX11_part_86 : decode cX11_part 86 = .ok (.ifCond .eq 20, 3) := by decide +kernel
theorem dX11_part_89 : decode cX11_part 89 = .ok (.aload_n 0, 1) := by decide +kernel
theorem dX11_part_90 : decode cX11_part 90 = .ok (.getfield 13, 3) := by decide +kernel
theorem dX11_part_93 : decode cX11_part 93 = .ok (.sipush 158, 3) := by decide +kernel
theorem dX11_part_96 : decode cX11_part 96 = .ok (.iload_n 1, 1) := by decide +kernel
theorem dX11_part_97 : decode cX11_part 97 = .ok (.iadd, 1) := by decide +kernel
theorem dX11_part_98 : decode cX11_part 98 = .ok (.iaload, 1) := by decide +kernel
theorem dX11_part_99 : decode cX11_part 99 = .ok (.iconst 1, 1) := by decide +kernel
theorem dX11_part_100 : decode cX11_part 100 = .ok (.iload_n 2, 1) := by decide +kernel
theorem dX11_part_101 : decode cX11_part 101 = .ok (.ishl, 1) := by decide +kernel
theorem dX11_part_102 : decode cX11_part 102 = .ok (.ior, 1) := by decide +kernel
theorem dX11_part_103 : decode cX11_part 103 = .ok (.goto 19, 3) := by decide +kernel
theorem dX11_part_106 : decode cX11_part 106 = .ok (.aload_n 0, 1) := by decide +kernel
theorem dX11_part_107 : decode cX11_part 107 = .ok (.getfield 13, 3) := by decide +kernel
theorem dX11_part_110 : decode cX11_part 110 = .ok (.sipush 158, 3) := by decide +kernel
theorem dX11_part_113 : decode cX11_part 113 = .ok (.iload_n 1, 1) := by decide +kernel
theorem dX11_part_114 : decode cX11_part 114 = .ok (.iadd, 1) := by decide +kernel
theorem dX11_part_115 : decode cX11_part 115 = .ok (.iaload, 1) := by decide +kernel
theorem dX11_part_116 : decode cX11_part 116 = .ok (.iconst 1, 1) := by decide +kernel
theorem dX11_part_117 : decode cX11_part 117 = .ok (.iload_n 2, 1) := by decide +kernel
theorem dX11_part_118 : decode cX11_part 118 = .ok (.ishl, 1) := by decide +kernel
theorem dX11_part_119 : decode cX11_part 119 = .ok (.iconst (-1), 1) := by decide +kernel
theorem dX11_part_120 : decode cX11_part 120 = .ok (.ixor, 1) := by decide +kernel
theorem dX11_part_121 : decode cX11_part 121 = .ok (.iand, 1) := by decide +kernel
theorem dX11_part_122 : decode cX11_part 122 = .ok (.iastore, 1) := by decide +kernel
theorem dX11_part_123 : decode cX11_part 123 = .ok (.aload_n 0, 1) := by decide +kernel
theorem dX11_part_124 : decode cX11_part 124 = .ok (.getfield 13, 3) := by decide +kernel
theorem dX11_part_127 : decode cX11_part 127 = .ok (.sipush 158, 3) := by decide +kernel
theorem dX11_part_130 : decode cX11_part 130 = .ok (.iload_n 2, 1) := by decide +kernel
theorem dX11_part_131 : decode cX11_part 131 = .ok (.iadd, 1) := by decide +kernel
theorem dX11_part_132 : decode cX11_part 132 = .ok (.iload_n 3, 1) := by decide +kernel
theorem dX11_part_133 : decode cX11_part 133 = .ok (.ifCond .eq 20, 3) := by decide +kernel
theorem dX11_part_136 : decode cX11_part 136 = .ok (.aload_n 0, 1) := by decide +kernel
theorem dX11_part_137 : decode cX11_part 137 = .ok (.getfield 13, 3) := by decide +kernel
theorem dX11_part_140 : decode cX11_part 140 = .ok (.sipush 158, 3) := by decide +kernel
theorem dX11_part_143 : decode cX11_part 143 = .ok (.iload_n 2, 1) := by decide +kernel
theorem dX11_part_144 : decode cX11_part 144 = .ok (.iadd, 1) := by decide +kernel
theorem dX11_part_145 : decode cX11_part 145 = .ok (.iaload, 1) := by decide +kernel
theorem dX11_part_146 : decode cX11_part 146 = .ok (.iconst 1, 1) := by decide +kernel
theorem dX11_part_147 : decode cX11_part 147 = .ok (.iload_n 1, 1) := by decide +kernel
theorem dX11_part_148 : decode cX11_part 148 = .ok (.ishl, 1) := by decide +kernel
theorem dX11_part_149 : decode cX11_part 149 = .ok (.ior, 1) := by decide +kernel
theorem dX11_part_150 : decode cX11_part 150 = .ok (.goto 19, 3) := by decide +kernel
theorem dX11_part_153 : decode cX11_part 153 = .ok (.aload_n 0, 1) := by decide +kernel
theorem dX11_part_154 : decode cX11_part 154 = .ok (.getfield 13, 3) := by decide +kernel
theorem dX11_part_157 : decode cX11_part 157 = .ok (.sipush 158, 3) := by decide +kernel
theorem dX11_part_160 : decode cX11_part 160 = .ok (.iload_n 2, 1) := by decide +kernel
theorem dX11_part_161 : decode cX11_part 161 = .ok (.iadd, 1) := by decide +kernel
theorem dX11_part_162 : decode cX11_part 162 = .ok (.iaload, 1) := by decide +kernel
theorem dX11_part_163 : decode cX11_part 163 = .ok (.iconst 1, 1) := by decide +kernel
theorem dX11_part_164 : decode cX11_part 164 = .ok (.iload_n 1, 1) := by decide +kernel
theorem dX11_part_165 : decode cX11_part 165 = .ok (.ishl, 1) := by decide +kernel
theorem dX11_part_166 : decode cX11_part 166 = .ok (.iconst (-1), 1) := by decide +kernel
theorem dX11_part_167 : decode cX11_part 167 = .ok (.ixor, 1) := by decide +kernel
theorem dX11_part_168 : decode cX11_part 168 = .ok (.iand, 1) := by decide +kernel
theorem dX11_part_169 : decode cX11_part 169 = .ok (.iastore, 1) := by decide +kernel
theorem dX11_part_170 : decode cX11_part 170 = .ok (.iload 4, 2) := by decide +kernel
theorem dX11_part_172 : decode cX11_part 172 = .ok (.ireturn, 1) := by decide +kernel
set_option maxRecDepth 20000 in
theorem ggX11_lay_X11_noStone : GoodIn wsX11_lay wsX11_noStone := goodIn_r _ [8, 9, 10, 11, 7, 12, 3, 13, 14, 15, 16, 17, 18, 19, 1, 42, 43, 44, 45, 46, 47, 48, 49, 50, 51, 52, 53, 54, 55, 56, 57, 58, 59, 60, 61, 62, 63] rfl (by decide +kernel)
set_option maxRecDepth 20000 in
theorem gX11_lay_X11_noStone : GoodIn wsX11_lay (wsV RX11 109 RX11 yX11_noStone wsX11_noStone) := goodIn_app (goodIn_of _ (by decide +kernel)) ggX11_lay_X11_noStone
set_option maxRecDepth 20000 in
theorem ggX11_lay_X11_isDrawer : GoodIn wsX11_lay wsX11_isDrawer := goodIn_r _ [23, 13, 14, 7, 15] rfl (by decide +kernel)
set_option maxRecDepth 20000 in
theorem gX11_lay_X11_isDrawer : GoodIn wsX11_lay (wsV RX11 153 RX11 yX11_isDrawer wsX11_isDrawer) := goodIn_app (goodIn_of _ (by decide +kernel)) ggX11_lay_X11_isDrawer
set_option maxRecDepth 20000 in
theorem ggX11_lay_X11_fails : GoodIn wsX11_lay wsX11_fails := goodIn_r _ [19, 1, 42, 43, 44, 45, 46, 47, 48, 49, 50, 51, 52, 53, 54, 55, 56, 57, 58, 59, 60, 61, 62, 63] rfl (by decide +kernel)
set_option maxRecDepth 20000 in
theorem gX11_lay_X11_fails : GoodIn wsX11_lay (wsV RX11 73 RX11 yX11_fails wsX11_fails) := goodIn_app (goodIn_of _ (by decide +kernel)) ggX11_lay_X11_fails
set_option maxRecDepth 20000 in
theorem ggX11_lay_X11_keeps : GoodIn wsX11_lay wsX11_keeps := goodIn_r _ [27, 28, 29, 3, 42, 43, 44, 45, 46, 47, 48, 49, 50, 51, 52, 53, 54, 55, 56, 57, 58, 59, 60, 61, 62, 63] rfl (by decide +kernel)
set_option maxRecDepth 20000 in
theorem gX11_lay_X11_keeps : GoodIn wsX11_lay (wsV RX11 102 RX11 yX11_keeps wsX11_keeps) := goodIn_app (goodIn_of _ (by decide +kernel)) ggX11_lay_X11_keeps
set_option maxRecDepth 20000 in
theorem ggX11_lay_X11_looksAtDrawers : GoodIn wsX11_lay wsX11_looksAtDrawers := goodIn_r _ [33, 2, 3, 9, 10, 11, 7, 12, 42, 43, 44, 45, 46, 47, 48, 49, 50, 51, 52, 53, 54, 55, 56, 57, 58, 59, 60, 61, 62, 63] rfl (by decide +kernel)
set_option maxRecDepth 20000 in
theorem gX11_lay_X11_looksAtDrawers : GoodIn wsX11_lay (wsV RX11 162 RX11 yX11_looksAtDrawers wsX11_looksAtDrawers) := goodIn_app (goodIn_of _ (by decide +kernel)) ggX11_lay_X11_looksAtDrawers
set_option maxRecDepth 20000 in
theorem ggX11_lay_X11_many : GoodIn wsX11_lay wsX11_many := goodIn_r _ [12, 3, 42, 43, 44, 45, 46, 47, 48, 49, 50, 51, 52, 53, 54, 55, 56, 57, 58, 59, 60, 61, 62, 63] rfl (by decide +kernel)
set_option maxRecDepth 20000 in
theorem gX11_lay_X11_many : GoodIn wsX11_lay (wsV RX11 65 RX11 yX11_many wsX11_many) := goodIn_app (goodIn_of _ (by decide +kernel)) ggX11_lay_X11_many
set_option maxRecDepth 20000 in
theorem ggX11_lay_X11_why : GoodIn wsX11_lay wsX11_why := goodIn_r _ [37, 2, 3, 38, 39, 40, 7, 41, 42, 43, 44, 45, 46, 47, 48, 49, 50, 51, 52, 53, 54, 55, 56, 57, 58, 59, 60, 61, 62, 63] rfl (by decide +kernel)
set_option maxRecDepth 20000 in
theorem gX11_lay_X11_why : GoodIn wsX11_lay (wsV RX11 165 RX11 yX11_why wsX11_why) := goodIn_app (goodIn_of _ (by decide +kernel)) ggX11_lay_X11_why
theorem dX11_lay_0 : decode cX11_lay 0 = .ok (.aload_n 0, 1) := by decide +kernel
theorem dX11_lay_1 : decode cX11_lay 1 = .ok (.iconst 0, 1) := by decide +kernel
theorem dX11_lay_2 : decode cX11_lay 2 = .ok (.putfield 1, 3) := by decide +kernel
theorem dX11_lay_5 : decode cX11_lay 5 = .ok (.aload_n 0, 1) := by decide +kernel
theorem dX11_lay_6 : decode cX11_lay 6 = .ok (.iload_n 1, 1) := by decide +kernel
theorem dX11_lay_7 : decode cX11_lay 7 = .ok (.invokevirtual 109, 3) := by decide +kernel
theorem dX11_lay_10 : decode cX11_lay 10 = .ok (.ifCond .ne 29, 3) := by decide +kernel
theorem dX11_lay_13 : decode cX11_lay 13 = .ok (.aload_n 0, 1) := by decide +kernel
theorem dX11_lay_14 : decode cX11_lay 14 = .ok (.iload_n 2, 1) := by decide +kernel
theorem dX11_lay_15 : decode cX11_lay 15 = .ok (.iconst (-1), 1) := by decide +kernel
theorem dX11_lay_16 : decode cX11_lay 16 = .ok (.if_icmp .eq 11, 3) := by decide +kernel
theorem dX11_lay_19 : decode cX11_lay 19 = .ok (.aload_n 0, 1) := by decide +kernel
theorem dX11_lay_20 : decode cX11_lay 20 = .ok (.iload_n 2, 1) := by decide +kernel
theorem dX11_lay_21 : decode cX11_lay 21 = .ok (.invokevirtual 153, 3) := by decide +kernel
theorem dX11_lay_24 : decode cX11_lay 24 = .ok (.ifCond .eq 7, 3) := by decide +kernel
theorem dX11_lay_27 : decode cX11_lay 27 = .ok (.iconst 1, 1) := by decide +kernel
theorem dX11_lay_28 : decode cX11_lay 28 = .ok (.goto 4, 3) := by decide +kernel
theorem dX11_lay_31 : decode cX11_lay 31 = .ok (.iconst 0, 1) := by decide +kernel
theorem dX11_lay_32 : decode cX11_lay 32 = .ok (.iconst 2, 1) := by decide +kernel
theorem dX11_lay_33 : decode cX11_lay 33 = .ok (.invokevirtual 73, 3) := by decide +kernel
theorem dX11_lay_36 : decode cX11_lay 36 = .ok (.ifCond .eq 5, 3) := by decide +kernel
theorem dX11_lay_39 : decode cX11_lay 39 = .ok (.iconst 0, 1) := by decide +kernel
theorem dX11_lay_40 : decode cX11_lay 40 = .ok (.ireturn, 1) := by decide +kernel
theorem dX11_lay_41 : decode cX11_lay 41 = .ok (.aload_n 0, 1) := by decide +kernel
theorem dX11_lay_42 : decode cX11_lay 42 = .ok (.invokevirtual 102, 3) := by decide +kernel
theorem dX11_lay_45 : decode cX11_lay 45 = .ok (.aload_n 0, 1) := by decide +kernel
theorem dX11_lay_46 : decode cX11_lay 46 = .ok (.invokevirtual 162, 3) := by decide +kernel
theorem dX11_lay_49 : decode cX11_lay 49 = .ok (.aload_n 0, 1) := by decide +kernel
theorem dX11_lay_50 : decode cX11_lay 50 = .ok (.getfield 38, 3) := by decide +kernel
theorem dX11_lay_53 : decode cX11_lay 53 = .ok (.iload_n 1, 1) := by decide +kernel
theorem dX11_lay_54 : decode cX11_lay 54 = .ok (.iload_n 2, 1) := by decide +kernel
theorem dX11_lay_55 : decode cX11_lay 55 = .ok (.iastore, 1) := by decide +kernel
theorem dX11_lay_56 : decode cX11_lay 56 = .ok (.iload_n 2, 1) := by decide +kernel
theorem dX11_lay_57 : decode cX11_lay 57 = .ok (.iconst (-1), 1) := by decide +kernel
theorem dX11_lay_58 : decode cX11_lay 58 = .ok (.if_icmp .ne 7, 3) := by decide +kernel
theorem dX11_lay_61 : decode cX11_lay 61 = .ok (.iconst 0, 1) := by decide +kernel
theorem dX11_lay_62 : decode cX11_lay 62 = .ok (.goto 12, 3) := by decide +kernel
theorem dX11_lay_65 : decode cX11_lay 65 = .ok (.aload_n 0, 1) := by decide +kernel
theorem dX11_lay_66 : decode cX11_lay 66 = .ok (.iload_n 1, 1) := by decide +kernel
theorem dX11_lay_67 : decode cX11_lay 67 = .ok (.aload_n 0, 1) := by decide +kernel
theorem dX11_lay_68 : decode cX11_lay 68 = .ok (.invokevirtual 65, 3) := by decide +kernel
theorem dX11_lay_71 : decode cX11_lay 71 = .ok (.invokevirtual 165, 3) := by decide +kernel
theorem dX11_lay_74 : decode cX11_lay 74 = .ok (.istore_n 3, 1) := by decide +kernel
theorem dX11_lay_75 : decode cX11_lay 75 = .ok (.iload_n 3, 1) := by decide +kernel
theorem dX11_lay_76 : decode cX11_lay 76 = .ok (.ifCond .ne 13, 3) := by decide +kernel
theorem dX11_lay_79 : decode cX11_lay 79 = .ok (.aload_n 0, 1) := by decide +kernel
theorem dX11_lay_80 : decode cX11_lay 80 = .ok (.getfield 13, 3) := by decide +kernel
theorem dX11_lay_83 : decode cX11_lay 83 = .ok (.bipush 50, 2) := by decide +kernel
theorem dX11_lay_85 : decode cX11_lay 85 = .ok (.iload_n 1, 1) := by decide +kernel
theorem dX11_lay_86 : decode cX11_lay 86 = .ok (.iadd, 1) := by decide +kernel
theorem dX11_lay_87 : decode cX11_lay 87 = .ok (.iload_n 2, 1) := by decide +kernel
theorem dX11_lay_88 : decode cX11_lay 88 = .ok (.iastore, 1) := by decide +kernel
theorem dX11_lay_89 : decode cX11_lay 89 = .ok (.iload_n 3, 1) := by decide +kernel
theorem dX11_lay_90 : decode cX11_lay 90 = .ok (.ireturn, 1) := by decide +kernel
set_option maxRecDepth 20000 in
theorem ggX11_lies_X11_isDrawer : GoodIn wsX11_lies wsX11_isDrawer := goodIn_r _ [6, 7, 8, 5, 9] rfl (by decide +kernel)
set_option maxRecDepth 20000 in
theorem gX11_lies_X11_isDrawer : GoodIn wsX11_lies (wsV RX11 153 RX11 yX11_isDrawer wsX11_isDrawer) := goodIn_app (goodIn_of _ (by decide +kernel)) ggX11_lies_X11_isDrawer
set_option maxRecDepth 20000 in
theorem ggX11_lies_X11_in : GoodIn wsX11_lies wsX11_in := goodIn_r _ [9] rfl (by decide +kernel)
set_option maxRecDepth 20000 in
theorem gX11_lies_X11_in : GoodIn wsX11_lies (va_wsS RX11 69 yX11_in wsX11_in) := goodIn_app (goodIn_of _ (by decide +kernel)) ggX11_lies_X11_in
set_option maxRecDepth 20000 in
theorem ggX11_lies_X11_fails : GoodIn wsX11_lies wsX11_fails := goodIn_r _ [13, 1, 23, 24, 25, 26, 27, 28, 29, 30, 31, 32, 33, 34, 35, 36, 37, 38, 39, 40, 41, 42, 43, 44] rfl (by decide +kernel)
set_option maxRecDepth 20000 in
theorem gX11_lies_X11_fails : GoodIn wsX11_lies (wsV RX11 73 RX11 yX11_fails wsX11_fails) := goodIn_app (goodIn_of _ (by decide +kernel)) ggX11_lies_X11_fails
set_option maxRecDepth 20000 in
theorem ggX11_lies_X11_lying : GoodIn wsX11_lies wsX11_lying := goodIn_r _ [17, 18, 19, 20, 21, 5, 22, 23, 24, 25, 26, 27, 28, 29, 30, 31, 32, 33, 34, 35, 36, 37, 38, 39, 40, 41, 42, 43, 44] rfl (by decide +kernel)
set_option maxRecDepth 20000 in
theorem gX11_lies_X11_lying : GoodIn wsX11_lies (wsV RX11 156 RX11 yX11_lying wsX11_lying) := goodIn_app (goodIn_of _ (by decide +kernel)) ggX11_lies_X11_lying
theorem dX11_lies_0 : decode cX11_lies 0 = .ok (.aload_n 0, 1) := by decide +kernel
theorem dX11_lies_1 : decode cX11_lies 1 = .ok (.iconst 0, 1) := by decide +kernel
theorem dX11_lies_2 : decode cX11_lies 2 = .ok (.putfield 1, 3) := by decide +kernel
theorem dX11_lies_5 : decode cX11_lies 5 = .ok (.aload_n 0, 1) := by decide +kernel
theorem dX11_lies_6 : decode cX11_lies 6 = .ok (.aload_n 0, 1) := by decide +kernel
theorem dX11_lies_7 : decode cX11_lies 7 = .ok (.iload_n 1, 1) := by decide +kernel
theorem dX11_lies_8 : decode cX11_lies 8 = .ok (.invokevirtual 153, 3) := by decide +kernel
theorem dX11_lies_11 : decode cX11_lies 11 = .ok (.ifCond .eq 16, 3) := by decide +kernel
theorem dX11_lies_14 : decode cX11_lies 14 = .ok (.iload_n 2, 1) := by decide +kernel
theorem dX11_lies_15 : decode cX11_lies 15 = .ok (.iconst 0, 1) := by decide +kernel
theorem dX11_lies_16 : decode cX11_lies 16 = .ok (.iconst 2, 1) := by decide +kernel
theorem dX11_lies_17 : decode cX11_lies 17 = .ok (.invokestatic 69, 3) := by decide +kernel
theorem dX11_lies_20 : decode cX11_lies 20 = .ok (.ifCond .eq 7, 3) := by decide +kernel
theorem dX11_lies_23 : decode cX11_lies 23 = .ok (.iconst 1, 1) := by decide +kernel
theorem dX11_lies_24 : decode cX11_lies 24 = .ok (.goto 4, 3) := by decide +kernel
theorem dX11_lies_27 : decode cX11_lies 27 = .ok (.iconst 0, 1) := by decide +kernel
theorem dX11_lies_28 : decode cX11_lies 28 = .ok (.iconst 1, 1) := by decide +kernel
theorem dX11_lies_29 : decode cX11_lies 29 = .ok (.invokevirtual 73, 3) := by decide +kernel
theorem dX11_lies_32 : decode cX11_lies 32 = .ok (.ifCond .eq 7, 3) := by decide +kernel
theorem dX11_lies_35 : decode cX11_lies 35 = .ok (.iconst 0, 1) := by decide +kernel
theorem dX11_lies_36 : decode cX11_lies 36 = .ok (.goto 9, 3) := by decide +kernel
theorem dX11_lies_39 : decode cX11_lies 39 = .ok (.aload_n 0, 1) := by decide +kernel
theorem dX11_lies_40 : decode cX11_lies 40 = .ok (.iload_n 1, 1) := by decide +kernel
theorem dX11_lies_41 : decode cX11_lies 41 = .ok (.iload_n 2, 1) := by decide +kernel
theorem dX11_lies_42 : decode cX11_lies 42 = .ok (.invokevirtual 156, 3) := by decide +kernel
theorem dX11_lies_45 : decode cX11_lies 45 = .ok (.ireturn, 1) := by decide +kernel
theorem dX11_others_0 : decode cX11_others 0 = .ok (.iconst 0, 1) := by decide +kernel
theorem dX11_others_1 : decode cX11_others 1 = .ok (.istore_n 2, 1) := by decide +kernel
theorem dX11_others_2 : decode cX11_others 2 = .ok (.iconst 0, 1) := by decide +kernel
theorem dX11_others_3 : decode cX11_others 3 = .ok (.istore_n 3, 1) := by decide +kernel
theorem dX11_others_4 : decode cX11_others 4 = .ok (.iload_n 3, 1) := by decide +kernel
theorem dX11_others_5 : decode cX11_others 5 = .ok (.iload_n 1, 1) := by decide +kernel
theorem dX11_others_6 : decode cX11_others 6 = .ok (.if_icmp .ge 48, 3) := by decide +kernel
theorem dX11_others_9 : decode cX11_others 9 = .ok (.iload_n 2, 1) := by decide +kernel
theorem dX11_others_10 : decode cX11_others 10 = .ok (.aload_n 0, 1) := by decide +kernel
theorem dX11_others_11 : decode cX11_others 11 = .ok (.getfield 13, 3) := by decide +kernel
theorem dX11_others_14 : decode cX11_others 14 = .ok (.bipush 50, 2) := by decide +kernel
theorem dX11_others_16 : decode cX11_others 16 = .ok (.iload_n 3, 1) := by decide +kernel
theorem dX11_others_17 : decode cX11_others 17 = .ok (.iadd, 1) := by decide +kernel
theorem dX11_others_18 : decode cX11_others 18 = .ok (.iaload, 1) := by decide +kernel
theorem dX11_others_19 : decode cX11_others 19 = .ok (.iconst (-1), 1) := by decide +kernel
theorem dX11_others_20 : decode cX11_others 20 = .ok (.if_icmp .eq 25, 3) := by decide +kernel
theorem dX11_others_23 : decode cX11_others 23 = .ok (.aload_n 0, 1) := by decide +kernel
theorem dX11_others_24 : decode cX11_others 24 = .ok (.getfield 13, 3) := by decide +kernel
theorem dX11_others_27 : decode cX11_others 27 = .ok (.bipush 50, 2) := by decide +kernel
theorem dX11_others_29 : decode cX11_others 29 = .ok (.iload_n 3, 1) := by decide +kernel
theorem dX11_others_30 : decode cX11_others 30 = .ok (.iadd, 1) := by decide +kernel
theorem dX11_others_31 : decode cX11_others 31 = .ok (.iaload, 1) := by decide +kernel
theorem dX11_others_32 : decode cX11_others 32 = .ok (.aload_n 0, 1) := by decide +kernel
theorem dX11_others_33 : decode cX11_others 33 = .ok (.getfield 38, 3) := by decide +kernel
theorem dX11_others_36 : decode cX11_others 36 = .ok (.iload_n 3, 1) := by decide +kernel
theorem dX11_others_37 : decode cX11_others 37 = .ok (.iaload, 1) := by decide +kernel
theorem dX11_others_38 : decode cX11_others 38 = .ok (.if_icmp .eq 7, 3) := by decide +kernel
theorem dX11_others_41 : decode cX11_others 41 = .ok (.iconst 1, 1) := by decide +kernel
theorem dX11_others_42 : decode cX11_others 42 = .ok (.goto 4, 3) := by decide +kernel
theorem dX11_others_45 : decode cX11_others 45 = .ok (.iconst 0, 1) := by decide +kernel
theorem dX11_others_46 : decode cX11_others 46 = .ok (.iadd, 1) := by decide +kernel
theorem dX11_others_47 : decode cX11_others 47 = .ok (.istore_n 2, 1) := by decide +kernel
theorem dX11_others_48 : decode cX11_others 48 = .ok (.iinc 3 1, 3) := by decide +kernel
theorem dX11_others_51 : decode cX11_others 51 = .ok (.goto (-47), 3) := by decide +kernel
theorem dX11_others_54 : decode cX11_others 54 = .ok (.iload_n 2, 1) := by decide +kernel
theorem dX11_others_55 : decode cX11_others 55 = .ok (.ireturn, 1) := by decide +kernel
set_option maxRecDepth 20000 in
theorem ggX11_looks_X11_many : GoodIn wsX11_looks wsX11_many := goodIn_r _ [6, 7, 20, 21, 22, 23, 24, 25, 26, 27, 28, 29, 30, 31, 32, 33, 34, 35, 36, 37, 38, 39, 40, 41] rfl (by decide +kernel)
set_option maxRecDepth 20000 in
theorem gX11_looks_X11_many : GoodIn wsX11_looks (wsV RX11 65 RX11 yX11_many wsX11_many) := goodIn_app (goodIn_of _ (by decide +kernel)) ggX11_looks_X11_many
set_option maxRecDepth 20000 in
theorem ggX11_looks_X11_why : GoodIn wsX11_looks wsX11_why := goodIn_r _ [11, 1, 7, 12, 13, 14, 5, 15, 20, 21, 22, 23, 24, 25, 26, 27, 28, 29, 30, 31, 32, 33, 34, 35, 36, 37, 38, 39, 40, 41] rfl (by decide +kernel)
set_option maxRecDepth 20000 in
theorem gX11_looks_X11_why : GoodIn wsX11_looks (wsV RX11 165 RX11 yX11_why wsX11_why) := goodIn_app (goodIn_of _ (by decide +kernel)) ggX11_looks_X11_why
set_option maxRecDepth 20000 in
theorem ggX11_looks_X11_others : GoodIn wsX11_looks wsX11_others := goodIn_r _ [19, 7, 1, 20, 21, 22, 23, 24, 25, 26, 27, 28, 29, 30, 31, 32, 33, 34, 35, 36, 37, 38, 39, 40, 41] rfl (by decide +kernel)
set_option maxRecDepth 20000 in
theorem gX11_looks_X11_others : GoodIn wsX11_looks (wsV RX11 168 RX11 yX11_others wsX11_others) := goodIn_app (goodIn_of _ (by decide +kernel)) ggX11_looks_X11_others
theorem dX11_looks_0 : decode cX11_looks 0 = .ok (.iconst 0, 1) := by decide +kernel
theorem dX11_looks_1 : decode cX11_looks 1 = .ok (.istore_n 2, 1) := by decide +kernel
theorem dX11_looks_2 : decode cX11_looks 2 = .ok (.aload_n 0, 1) := by decide +kernel
theorem dX11_looks_3 : decode cX11_looks 3 = .ok (.invokevirtual 65, 3) := by decide +kernel
theorem dX11_looks_6 : decode cX11_looks 6 = .ok (.ifCond .le 10, 3) := by decide +kernel
theorem dX11_looks_9 : decode cX11_looks 9 = .ok (.aload_n 0, 1) := by decide +kernel
theorem dX11_looks_10 : decode cX11_looks 10 = .ok (.getfield 38, 3) := by decide +kernel
theorem dX11_looks_13 : decode cX11_looks 13 = .ok (.iconst 0, 1) := by decide +kernel
theorem dX11_looks_14 : decode cX11_looks 14 = .ok (.iconst (-1), 1) := by decide +kernel
theorem dX11_looks_15 : decode cX11_looks 15 = .ok (.iastore, 1) := by decide +kernel
theorem dX11_looks_16 : decode cX11_looks 16 = .ok (.iload_n 2, 1) := by decide +kernel
theorem dX11_looks_17 : decode cX11_looks 17 = .ok (.aload_n 0, 1) := by decide +kernel
theorem dX11_looks_18 : decode cX11_looks 18 = .ok (.invokevirtual 65, 3) := by decide +kernel
theorem dX11_looks_21 : decode cX11_looks 21 = .ok (.if_icmp .ge 79, 3) := by decide +kernel
theorem dX11_looks_24 : decode cX11_looks 24 = .ok (.aload_n 0, 1) := by decide +kernel
theorem dX11_looks_25 : decode cX11_looks 25 = .ok (.getfield 38, 3) := by decide +kernel
theorem dX11_looks_28 : decode cX11_looks 28 = .ok (.iload_n 2, 1) := by decide +kernel
theorem dX11_looks_29 : decode cX11_looks 29 = .ok (.dup2, 1) := by decide +kernel
theorem dX11_looks_30 : decode cX11_looks 30 = .ok (.iaload, 1) := by decide +kernel
theorem dX11_looks_31 : decode cX11_looks 31 = .ok (.iconst 1, 1) := by decide +kernel
theorem dX11_looks_32 : decode cX11_looks 32 = .ok (.iadd, 1) := by decide +kernel
theorem dX11_looks_33 : decode cX11_looks 33 = .ok (.iastore, 1) := by decide +kernel
theorem dX11_looks_34 : decode cX11_looks 34 = .ok (.aload_n 0, 1) := by decide +kernel
theorem dX11_looks_35 : decode cX11_looks 35 = .ok (.getfield 38, 3) := by decide +kernel
theorem dX11_looks_38 : decode cX11_looks 38 = .ok (.iload_n 2, 1) := by decide +kernel
theorem dX11_looks_39 : decode cX11_looks 39 = .ok (.iaload, 1) := by decide +kernel
theorem dX11_looks_40 : decode cX11_looks 40 = .ok (.iconst 4, 1) := by decide +kernel
theorem dX11_looks_41 : decode cX11_looks 41 = .ok (.if_icmp .ne 15, 3) := by decide +kernel
theorem dX11_looks_44 : decode cX11_looks 44 = .ok (.iload_n 2, 1) := by decide +kernel
theorem dX11_looks_45 : decode cX11_looks 45 = .ok (.ifCond .ne 5, 3) := by decide +kernel
theorem dX11_looks_48 : decode cX11_looks 48 = .ok (.iconst 0, 1) := by decide +kernel
theorem dX11_looks_49 : decode cX11_looks 49 = .ok (.ireturn, 1) := by decide +kernel
theorem dX11_looks_50 : decode cX11_looks 50 = .ok (.iinc 2 (-1), 3) := by decide +kernel
theorem dX11_looks_53 : decode cX11_looks 53 = .ok (.goto (-37), 3) := by decide +kernel
theorem dX11_looks_56 : decode cX11_looks 56 = .ok (.aload_n 0, 1) := by decide +kernel
theorem dX11_looks_57 : decode cX11_looks 57 = .ok (.iload_n 2, 1) := by decide +kernel
theorem dX11_looks_58 : decode cX11_looks 58 = .ok (.iload_n 2, 1) := by decide +kernel
theorem dX11_looks_59 : decode cX11_looks 59 = .ok (.invokevirtual 165, 3) := by decide +kernel
theorem dX11_looks_62 : decode cX11_looks 62 = .ok (.ifCond .ne (-46), 3) := by decide +kernel
theorem dX11_looks_65 : decode cX11_looks 65 = .ok (.aload_n 0, 1) := by decide +kernel
theorem dX11_looks_66 : decode cX11_looks 66 = .ok (.iload_n 2, 1) := by decide +kernel
theorem dX11_looks_67 : decode cX11_looks 67 = .ok (.iconst 1, 1) := by decide +kernel
theorem dX11_looks_68 : decode cX11_looks 68 = .ok (.iadd, 1) := by decide +kernel
theorem dX11_looks_69 : decode cX11_looks 69 = .ok (.invokevirtual 168, 3) := by decide +kernel
theorem dX11_looks_72 : decode cX11_looks 72 = .ok (.iload_n 1, 1) := by decide +kernel
theorem dX11_looks_73 : decode cX11_looks 73 = .ok (.if_icmp .le 6, 3) := by decide +kernel
theorem dX11_looks_76 : decode cX11_looks 76 = .ok (.goto (-60), 3) := by decide +kernel
theorem dX11_looks_79 : decode cX11_looks 79 = .ok (.iinc 2 1, 3) := by decide +kernel
theorem dX11_looks_82 : decode cX11_looks 82 = .ok (.iload_n 2, 1) := by decide +kernel
theorem dX11_looks_83 : decode cX11_looks 83 = .ok (.aload_n 0, 1) := by decide +kernel
theorem dX11_looks_84 : decode cX11_looks 84 = .ok (.invokevirtual 65, 3) := by decide +kernel
theorem dX11_looks_87 : decode cX11_looks 87 = .ok (.if_icmp .ge (-71), 3) := by decide +kernel
theorem dX11_looks_90 : decode cX11_looks 90 = .ok (.aload_n 0, 1) := by decide +kernel
theorem dX11_looks_91 : decode cX11_looks 91 = .ok (.getfield 38, 3) := by decide +kernel
theorem dX11_looks_94 : decode cX11_looks 94 = .ok (.iload_n 2, 1) := by decide +kernel
theorem dX11_looks_95 : decode cX11_looks 95 = .ok (.iconst (-1), 1) := by decide +kernel
theorem dX11_looks_96 : decode cX11_looks 96 = .ok (.iastore, 1) := by decide +kernel
theorem dX11_looks_97 : decode cX11_looks 97 = .ok (.goto (-81), 3) := by decide +kernel
theorem dX11_looks_100 : decode cX11_looks 100 = .ok (.iconst 1, 1) := by decide +kernel
theorem dX11_looks_101 : decode cX11_looks 101 = .ok (.ireturn, 1) := by decide +kernel
set_option maxRecDepth 20000 in
theorem ggX11_layAll_X11_keeps : GoodIn wsX11_layAll wsX11_keeps := goodIn_r _ [8, 9, 10, 2, 31, 32, 33, 34, 35, 36, 37, 38, 39, 40, 41, 42, 43, 44, 45, 46, 47, 48, 49, 50, 51, 52] rfl (by decide +kernel)
set_option maxRecDepth 20000 in
theorem gX11_layAll_X11_keeps : GoodIn wsX11_layAll (wsV RX11 102 RX11 yX11_keeps wsX11_keeps) := goodIn_app (goodIn_of _ (by decide +kernel)) ggX11_layAll_X11_keeps
set_option maxRecDepth 20000 in
theorem ggX11_layAll_X11_looks : GoodIn wsX11_layAll wsX11_looks := goodIn_r _ [14, 3, 15, 16, 17, 7, 18, 2, 19, 20, 21, 22, 23, 24, 25, 26, 27, 28, 29, 30, 31, 32, 33, 34, 35, 36, 37, 38, 39, 40, 41, 42, 43, 44, 45, 46, 47, 48, 49, 50, 51, 52] rfl (by decide +kernel)
set_option maxRecDepth 20000 in
theorem gX11_layAll_X11_looks : GoodIn wsX11_layAll (wsV RX11 171 RX11 yX11_looks wsX11_looks) := goodIn_app (goodIn_of _ (by decide +kernel)) ggX11_layAll_X11_looks
set_option maxRecDepth 20000 in
theorem ggX11_layAll_X11_many : GoodIn wsX11_layAll wsX11_many := goodIn_r _ [18, 2, 31, 32, 33, 34, 35, 36, 37, 38, 39, 40, 41, 42, 43, 44, 45, 46, 47, 48, 49, 50, 51, 52] rfl (by decide +kernel)
set_option maxRecDepth 20000 in
theorem gX11_layAll_X11_many : GoodIn wsX11_layAll (wsV RX11 65 RX11 yX11_many wsX11_many) := goodIn_app (goodIn_of _ (by decide +kernel)) ggX11_layAll_X11_many
set_option maxRecDepth 20000 in
theorem ggX11_layAll_X11_others : GoodIn wsX11_layAll wsX11_others := goodIn_r _ [30, 2, 3, 31, 32, 33, 34, 35, 36, 37, 38, 39, 40, 41, 42, 43, 44, 45, 46, 47, 48, 49, 50, 51, 52] rfl (by decide +kernel)
set_option maxRecDepth 20000 in
theorem gX11_layAll_X11_others : GoodIn wsX11_layAll (wsV RX11 168 RX11 yX11_others wsX11_others) := goodIn_app (goodIn_of _ (by decide +kernel)) ggX11_layAll_X11_others
theorem dX11_layAll_0 : decode cX11_layAll 0 = .ok (.aload_n 0, 1) := by decide +kernel
theorem dX11_layAll_1 : decode cX11_layAll 1 = .ok (.iconst 0, 1) := by decide +kernel
theorem dX11_layAll_2 : decode cX11_layAll 2 = .ok (.putfield 1, 3) := by decide +kernel
theorem dX11_layAll_5 : decode cX11_layAll 5 = .ok (.aload_n 0, 1) := by decide +kernel
theorem dX11_layAll_6 : decode cX11_layAll 6 = .ok (.invokevirtual 102, 3) := by decide +kernel
theorem dX11_layAll_9 : decode cX11_layAll 9 = .ok (.iload_n 1, 1) := by decide +kernel
theorem dX11_layAll_10 : decode cX11_layAll 10 = .ok (.ifCond .eq 7, 3) := by decide +kernel
theorem dX11_layAll_13 : decode cX11_layAll 13 = .ok (.iconst 0, 1) := by decide +kernel
theorem dX11_layAll_14 : decode cX11_layAll 14 = .ok (.goto 5, 3) := by decide +kernel
theorem dX11_layAll_17 : decode cX11_layAll 17 = .ok (.bipush 10, 2) := by decide +kernel
theorem dX11_layAll_19 : decode cX11_layAll 19 = .ok (.istore_n 2, 1) := by decide +kernel
theorem dX11_layAll_20 : decode cX11_layAll 20 = .ok (.iload_n 2, 1) := by decide +kernel
theorem dX11_layAll_21 : decode cX11_layAll 21 = .ok (.bipush 10, 2) := by decide +kernel
theorem dX11_layAll_23 : decode cX11_layAll 23 = .ok (.if_icmp .gt 17, 3) := by decide +kernel
theorem dX11_layAll_26 : decode cX11_layAll 26 = .ok (.aload_n 0, 1) := by decide +kernel
theorem dX11_layAll_27 : decode cX11_layAll 27 = .ok (.iload_n 2, 1) := by decide +kernel
theorem dX11_layAll_28 : decode cX11_layAll 28 = .ok (.invokevirtual 171, 3) := by decide +kernel
theorem dX11_layAll_31 : decode cX11_layAll 31 = .ok (.ifCond .ne 9, 3) := by decide +kernel
theorem dX11_layAll_34 : decode cX11_layAll 34 = .ok (.iinc 2 1, 3) := by decide +kernel
theorem dX11_layAll_37 : decode cX11_layAll 37 = .ok (.goto (-17), 3) := by decide +kernel
theorem dX11_layAll_40 : decode cX11_layAll 40 = .ok (.iload_n 2, 1) := by decide +kernel
theorem dX11_layAll_41 : decode cX11_layAll 41 = .ok (.bipush 10, 2) := by decide +kernel
theorem dX11_layAll_43 : decode cX11_layAll 43 = .ok (.if_icmp .le 5, 3) := by decide +kernel
theorem dX11_layAll_46 : decode cX11_layAll 46 = .ok (.iconst (-1), 1) := by decide +kernel
theorem dX11_layAll_47 : decode cX11_layAll 47 = .ok (.ireturn, 1) := by decide +kernel
theorem dX11_layAll_48 : decode cX11_layAll 48 = .ok (.aload_n 0, 1) := by decide +kernel
theorem dX11_layAll_49 : decode cX11_layAll 49 = .ok (.aload_n 0, 1) := by decide +kernel
theorem dX11_layAll_50 : decode cX11_layAll 50 = .ok (.invokevirtual 65, 3) := by decide +kernel
theorem dX11_layAll_53 : decode cX11_layAll 53 = .ok (.invokevirtual 168, 3) := by decide +kernel
theorem dX11_layAll_56 : decode cX11_layAll 56 = .ok (.istore_n 3, 1) := by decide +kernel
theorem dX11_layAll_57 : decode cX11_layAll 57 = .ok (.iconst 0, 1) := by decide +kernel
theorem dX11_layAll_58 : decode cX11_layAll 58 = .ok (.istore 4, 2) := by decide +kernel
theorem dX11_layAll_60 : decode cX11_layAll 60 = .ok (.iload 4, 2) := by decide +kernel
theorem dX11_layAll_62 : decode cX11_layAll 62 = .ok (.aload_n 0, 1) := by decide +kernel
theorem dX11_layAll_63 : decode cX11_layAll 63 = .ok (.invokevirtual 65, 3) := by decide +kernel
theorem dX11_layAll_66 : decode cX11_layAll 66 = .ok (.if_icmp .ge 26, 3) := by decide +kernel
theorem dX11_layAll_69 : decode cX11_layAll 69 = .ok (.aload_n 0, 1) := by decide +kernel
theorem dX11_layAll_70 : decode cX11_layAll 70 = .ok (.getfield 13, 3) := by decide +kernel
theorem dX11_layAll_73 : decode cX11_layAll 73 = .ok (.bipush 50, 2) := by decide +kernel
theorem dX11_layAll_75 : decode cX11_layAll 75 = .ok (.iload 4, 2) := by decide +kernel
theorem dX11_layAll_77 : decode cX11_layAll 77 = .ok (.iadd, 1) := by decide +kernel
theorem dX11_layAll_78 : decode cX11_layAll 78 = .ok (.aload_n 0, 1) := by decide +kernel
theorem dX11_layAll_79 : decode cX11_layAll 79 = .ok (.getfield 38, 3) := by decide +kernel
theorem dX11_layAll_82 : decode cX11_layAll 82 = .ok (.iload 4, 2) := by decide +kernel
theorem dX11_layAll_84 : decode cX11_layAll 84 = .ok (.iaload, 1) := by decide +kernel
theorem dX11_layAll_85 : decode cX11_layAll 85 = .ok (.iastore, 1) := by decide +kernel
theorem dX11_layAll_86 : decode cX11_layAll 86 = .ok (.iinc 4 1, 3) := by decide +kernel
theorem dX11_layAll_89 : decode cX11_layAll 89 = .ok (.goto (-29), 3) := by decide +kernel
theorem dX11_layAll_92 : decode cX11_layAll 92 = .ok (.iload_n 3, 1) := by decide +kernel
theorem dX11_layAll_93 : decode cX11_layAll 93 = .ok (.ireturn, 1) := by decide +kernel
theorem dX11_isLeap_0 : decode cX11_isLeap 0 = .ok (.iload_n 0, 1) := by decide +kernel
theorem dX11_isLeap_1 : decode cX11_isLeap 1 = .ok (.iconst 4, 1) := by decide +kernel
theorem dX11_isLeap_2 : decode cX11_isLeap 2 = .ok (.irem, 1) := by decide +kernel
theorem dX11_isLeap_3 : decode cX11_isLeap 3 = .ok (.ifCond .ne 10, 3) := by decide +kernel
theorem dX11_isLeap_6 : decode cX11_isLeap 6 = .ok (.iload_n 0, 1) := by decide +kernel
theorem dX11_isLeap_7 : decode cX11_isLeap 7 = .ok (.bipush 100, 2) := by decide +kernel
theorem dX11_isLeap_9 : decode cX11_isLeap 9 = .ok (.irem, 1) := by decide +kernel
theorem dX11_isLeap_10 : decode cX11_isLeap 10 = .ok (.ifCond .ne 11, 3) := by decide +kernel
theorem dX11_isLeap_13 : decode cX11_isLeap 13 = .ok (.iload_n 0, 1) := by decide +kernel
theorem dX11_isLeap_14 : decode cX11_isLeap 14 = .ok (.sipush 400, 3) := by decide +kernel
theorem dX11_isLeap_17 : decode cX11_isLeap 17 = .ok (.irem, 1) := by decide +kernel
theorem dX11_isLeap_18 : decode cX11_isLeap 18 = .ok (.ifCond .ne 7, 3) := by decide +kernel
theorem dX11_isLeap_21 : decode cX11_isLeap 21 = .ok (.iconst 1, 1) := by decide +kernel
theorem dX11_isLeap_22 : decode cX11_isLeap 22 = .ok (.goto 4, 3) := by decide +kernel
theorem dX11_isLeap_25 : decode cX11_isLeap 25 = .ok (.iconst 0, 1) := by decide +kernel
theorem dX11_isLeap_26 : decode cX11_isLeap 26 = .ok (.ireturn, 1) := by decide +kernel
set_option maxRecDepth 20000 in
theorem ggX11_monthDays_X11_isLeap : GoodIn wsX11_monthDays wsX11_isLeap := goodIn_r _ [4] rfl (by decide +kernel)
set_option maxRecDepth 20000 in
theorem gX11_monthDays_X11_isLeap : GoodIn wsX11_monthDays (va_wsS RX11 174 yX11_isLeap wsX11_isLeap) := goodIn_app (goodIn_of _ (by decide +kernel)) ggX11_monthDays_X11_isLeap
theorem dX11_monthDays_0 : decode cX11_monthDays 0 = .ok (.iload_n 1, 1) := by decide +kernel
theorem dX11_monthDays_1 : decode cX11_monthDays 1 = .ok (.iconst 2, 1) := by decide +kernel
theorem dX11_monthDays_2 : decode cX11_monthDays 2 = .ok (.if_icmp .ne 20, 3) := by decide +kernel
theorem dX11_monthDays_5 : decode cX11_monthDays 5 = .ok (.iload_n 0, 1) := by decide +kernel
theorem dX11_monthDays_6 : decode cX11_monthDays 6 = .ok (.invokestatic 174, 3) := by decide +kernel
theorem dX11_monthDays_9 : decode cX11_monthDays 9 = .ok (.ifCond .eq 8, 3) := by decide +kernel
theorem dX11_monthDays_12 : decode cX11_monthDays 12 = .ok (.bipush 29, 2) := by decide +kernel
theorem dX11_monthDays_14 : decode cX11_monthDays 14 = .ok (.goto 38, 3) := by decide +kernel
theorem dX11_monthDays_17 : decode cX11_monthDays 17 = .ok (.bipush 28, 2) := by decide +kernel
theorem dX11_monthDays_19 : decode cX11_monthDays 19 = .ok (.goto 33, 3) := by decide +kernel
theorem dX11_monthDays_22 : decode cX11_monthDays 22 = .ok (.iload_n 1, 1) := by decide +kernel
theorem dX11_monthDays_23 : decode cX11_monthDays 23 = .ok (.iconst 4, 1) := by decide +kernel
theorem dX11_monthDays_24 : decode cX11_monthDays 24 = .ok (.if_icmp .eq 21, 3) := by decide +kernel
theorem dX11_monthDays_27 : decode cX11_monthDays 27 = .ok (.iload_n 1, 1) := by decide +kernel
theorem dX11_monthDays_28 : decode cX11_monthDays 28 = .ok (.bipush 6, 2) := by decide +kernel
theorem dX11_monthDays_30 : decode cX11_monthDays 30 = .ok (.if_icmp .eq 15, 3) := by decide +kernel
theorem dX11_monthDays_33 : decode cX11_monthDays 33 = .ok (.iload_n 1, 1) := by decide +kernel
theorem dX11_monthDays_34 : decode cX11_monthDays 34 = .ok (.bipush 9, 2) := by decide +kernel
theorem dX11_monthDays_36 : decode cX11_monthDays 36 = .ok (.if_icmp .eq 9, 3) := by decide +kernel
theorem dX11_monthDays_39 : decode cX11_monthDays 39 = .ok (.iload_n 1, 1) := by decide +kernel
theorem dX11_monthDays_40 : decode cX11_monthDays 40 = .ok (.bipush 11, 2) := by decide +kernel
theorem dX11_monthDays_42 : decode cX11_monthDays 42 = .ok (.if_icmp .ne 8, 3) := by decide +kernel
theorem dX11_monthDays_45 : decode cX11_monthDays 45 = .ok (.bipush 30, 2) := by decide +kernel
theorem dX11_monthDays_47 : decode cX11_monthDays 47 = .ok (.goto 5, 3) := by decide +kernel
theorem dX11_monthDays_50 : decode cX11_monthDays 50 = .ok (.bipush 31, 2) := by decide +kernel
theorem dX11_monthDays_52 : decode cX11_monthDays 52 = .ok (.ireturn, 1) := by decide +kernel
set_option maxRecDepth 20000 in
theorem ggX11_isDate_X11_in : GoodIn wsX11_isDate wsX11_in := goodIn_r _ [6] rfl (by decide +kernel)
set_option maxRecDepth 20000 in
theorem gX11_isDate_X11_in : GoodIn wsX11_isDate (va_wsS RX11 69 yX11_in wsX11_in) := goodIn_app (goodIn_of _ (by decide +kernel)) ggX11_isDate_X11_in
set_option maxRecDepth 20000 in
theorem ggX11_isDate_X11_monthDays : GoodIn wsX11_isDate wsX11_monthDays := goodIn_r _ [9, 10, 11, 5, 12] rfl (by decide +kernel)
set_option maxRecDepth 20000 in
theorem gX11_isDate_X11_monthDays : GoodIn wsX11_isDate (va_wsS RX11 179 yX11_monthDays wsX11_monthDays) := goodIn_app (goodIn_of _ (by decide +kernel)) ggX11_isDate_X11_monthDays
theorem dX11_isDate_0 : decode cX11_isDate 0 = .ok (.iload_n 0, 1) := by decide +kernel
theorem dX11_isDate_1 : decode cX11_isDate 1 = .ok (.ldc 177, 2) := by decide +kernel
theorem dX11_isDate_3 : decode cX11_isDate 3 = .ok (.ldc 178, 2) := by decide +kernel
theorem dX11_isDate_5 : decode cX11_isDate 5 = .ok (.invokestatic 69, 3) := by decide +kernel
theorem dX11_isDate_8 : decode cX11_isDate 8 = .ok (.ifCond .eq 49, 3) := by decide +kernel
theorem dX11_isDate_11 : decode cX11_isDate 11 = .ok (.iload_n 0, 1) := by decide +kernel
theorem dX11_isDate_12 : decode cX11_isDate 12 = .ok (.bipush 100, 2) := by decide +kernel
theorem dX11_isDate_14 : decode cX11_isDate 14 = .ok (.idiv, 1) := by decide +kernel
theorem dX11_isDate_15 : decode cX11_isDate 15 = .ok (.bipush 100, 2) := by decide +kernel
theorem dX11_isDate_17 : decode cX11_isDate 17 = .ok (.irem, 1) := by decide +kernel
theorem dX11_isDate_18 : decode cX11_isDate 18 = .ok (.iconst 1, 1) := by decide +kernel
theorem dX11_isDate_19 : decode cX11_isDate 19 = .ok (.bipush 12, 2) := by decide +kernel
theorem dX11_isDate_21 : decode cX11_isDate 21 = .ok (.invokestatic 69, 3) := by decide +kernel
theorem dX11_isDate_24 : decode cX11_isDate 24 = .ok (.ifCond .eq 33, 3) := by decide +kernel
theorem dX11_isDate_27 : decode cX11_isDate 27 = .ok (.iload_n 0, 1) := by decide +kernel
theorem dX11_isDate_28 : decode cX11_isDate 28 = .ok (.bipush 100, 2) := by decide +kernel
theorem dX11_isDate_30 : decode cX11_isDate 30 = .ok (.irem, 1) := by decide +kernel
theorem dX11_isDate_31 : decode cX11_isDate 31 = .ok (.iconst 1, 1) := by decide +kernel
theorem dX11_isDate_32 : decode cX11_isDate 32 = .ok (.iload_n 0, 1) := by decide +kernel
theorem dX11_isDate_33 : decode cX11_isDate 33 = .ok (.sipush 10000, 3) := by decide +kernel
theorem dX11_isDate_36 : decode cX11_isDate 36 = .ok (.idiv, 1) := by decide +kernel
theorem dX11_isDate_37 : decode cX11_isDate 37 = .ok (.iload_n 0, 1) := by decide +kernel
theorem dX11_isDate_38 : decode cX11_isDate 38 = .ok (.bipush 100, 2) := by decide +kernel
theorem dX11_isDate_40 : decode cX11_isDate 40 = .ok (.idiv, 1) := by decide +kernel
theorem dX11_isDate_41 : decode cX11_isDate 41 = .ok (.bipush 100, 2) := by decide +kernel
theorem dX11_isDate_43 : decode cX11_isDate 43 = .ok (.irem, 1) := by decide +kernel
theorem dX11_isDate_44 : decode cX11_isDate 44 = .ok (.invokestatic 179, 3) := by decide +kernel
theorem dX11_isDate_47 : decode cX11_isDate 47 = .ok (.invokestatic 69, 3) := by decide +kernel
theorem dX11_isDate_50 : decode cX11_isDate 50 = .ok (.ifCond .eq 7, 3) := by decide +kernel
theorem dX11_isDate_53 : decode cX11_isDate 53 = .ok (.iconst 1, 1) := by decide +kernel
theorem dX11_isDate_54 : decode cX11_isDate 54 = .ok (.goto 4, 3) := by decide +kernel
theorem dX11_isDate_57 : decode cX11_isDate 57 = .ok (.iconst 0, 1) := by decide +kernel
theorem dX11_isDate_58 : decode cX11_isDate 58 = .ok (.ireturn, 1) := by decide +kernel
set_option maxRecDepth 20000 in
theorem ggX11_dayOf_X11_isLeap : GoodIn wsX11_dayOf wsX11_isLeap := goodIn_r _ [4] rfl (by decide +kernel)
set_option maxRecDepth 20000 in
theorem gX11_dayOf_X11_isLeap : GoodIn wsX11_dayOf (va_wsS RX11 174 yX11_isLeap wsX11_isLeap) := goodIn_app (goodIn_of _ (by decide +kernel)) ggX11_dayOf_X11_isLeap
set_option maxRecDepth 20000 in
theorem ggX11_dayOf_X11_monthDays : GoodIn wsX11_dayOf wsX11_monthDays := goodIn_r _ [7, 1, 2, 3, 4] rfl (by decide +kernel)
set_option maxRecDepth 20000 in
theorem gX11_dayOf_X11_monthDays : GoodIn wsX11_dayOf (va_wsS RX11 179 yX11_monthDays wsX11_monthDays) := goodIn_app (goodIn_of _ (by decide +kernel)) ggX11_dayOf_X11_monthDays
theorem dX11_dayOf_0 : decode cX11_dayOf 0 = .ok (.iload_n 0, 1) := by decide +kernel
theorem dX11_dayOf_1 : decode cX11_dayOf 1 = .ok (.bipush 100, 2) := by decide +kernel
theorem dX11_dayOf_3 : decode cX11_dayOf 3 = .ok (.irem, 1) := by decide +kernel
theorem dX11_dayOf_4 : decode cX11_dayOf 4 = .ok (.iconst 1, 1) := by decide +kernel
theorem dX11_dayOf_5 : decode cX11_dayOf 5 = .ok (.isub, 1) := by decide +kernel
theorem dX11_dayOf_6 : decode cX11_dayOf 6 = .ok (.istore_n 1, 1) := by decide +kernel
theorem dX11_dayOf_7 : decode cX11_dayOf 7 = .ok (.sipush 1890, 3) := by decide +kernel
theorem dX11_dayOf_10 : decode cX11_dayOf 10 = .ok (.istore_n 2, 1) := by decide +kernel
theorem dX11_dayOf_11 : decode cX11_dayOf 11 = .ok (.iload_n 2, 1) := by decide +kernel
theorem dX11_dayOf_12 : decode cX11_dayOf 12 = .ok (.iload_n 0, 1) := by decide +kernel
theorem dX11_dayOf_13 : decode cX11_dayOf 13 = .ok (.sipush 10000, 3) := by decide +kernel
theorem dX11_dayOf_16 : decode cX11_dayOf 16 = .ok (.idiv, 1) := by decide +kernel
theorem dX11_dayOf_17 : decode cX11_dayOf 17 = .ok (.if_icmp .ge 28, 3) := by decide +kernel
theorem dX11_dayOf_20 : decode cX11_dayOf 20 = .ok (.iload_n 1, 1) := by decide +kernel
theorem dX11_dayOf_21 : decode cX11_dayOf 21 = .ok (.iload_n 2, 1) := by decide +kernel
theorem dX11_dayOf_22 : decode cX11_dayOf 22 = .ok (.invokestatic 174, 3) := by decide +kernel
theorem dX11_dayOf_25 : decode cX11_dayOf 25 = .ok (.ifCond .eq 9, 3) := by decide +kernel
theorem dX11_dayOf_28 : decode cX11_dayOf 28 = .ok (.sipush 366, 3) := by decide +kernel
theorem dX11_dayOf_31 : decode cX11_dayOf 31 = .ok (.goto 6, 3) := by decide +kernel
theorem dX11_dayOf_34 : decode cX11_dayOf 34 = .ok (.sipush 365, 3) := by decide +kernel
theorem dX11_dayOf_37 : decode cX11_dayOf 37 = .ok (.iadd, 1) := by decide +kernel
theorem dX11_dayOf_38 : decode cX11_dayOf 38 = .ok (.istore_n 1, 1) := by decide +kernel
theorem dX11_dayOf_39 : decode cX11_dayOf 39 = .ok (.iinc 2 1, 3) := by decide +kernel
theorem dX11_dayOf_42 : decode cX11_dayOf 42 = .ok (.goto (-31), 3) := by decide +kernel
theorem dX11_dayOf_45 : decode cX11_dayOf 45 = .ok (.iconst 1, 1) := by decide +kernel
theorem dX11_dayOf_46 : decode cX11_dayOf 46 = .ok (.istore_n 2, 1) := by decide +kernel
theorem dX11_dayOf_47 : decode cX11_dayOf 47 = .ok (.iload_n 2, 1) := by decide +kernel
theorem dX11_dayOf_48 : decode cX11_dayOf 48 = .ok (.iload_n 0, 1) := by decide +kernel
theorem dX11_dayOf_49 : decode cX11_dayOf 49 = .ok (.bipush 100, 2) := by decide +kernel
theorem dX11_dayOf_51 : decode cX11_dayOf 51 = .ok (.idiv, 1) := by decide +kernel
theorem dX11_dayOf_52 : decode cX11_dayOf 52 = .ok (.bipush 100, 2) := by decide +kernel
theorem dX11_dayOf_54 : decode cX11_dayOf 54 = .ok (.irem, 1) := by decide +kernel
theorem dX11_dayOf_55 : decode cX11_dayOf 55 = .ok (.if_icmp .ge 21, 3) := by decide +kernel
theorem dX11_dayOf_58 : decode cX11_dayOf 58 = .ok (.iload_n 1, 1) := by decide +kernel
theorem dX11_dayOf_59 : decode cX11_dayOf 59 = .ok (.iload_n 0, 1) := by decide +kernel
theorem dX11_dayOf_60 : decode cX11_dayOf 60 = .ok (.sipush 10000, 3) := by decide +kernel
theorem dX11_dayOf_63 : decode cX11_dayOf 63 = .ok (.idiv, 1) := by decide +kernel
theorem dX11_dayOf_64 : decode cX11_dayOf 64 = .ok (.iload_n 2, 1) := by decide +kernel
theorem dX11_dayOf_65 : decode cX11_dayOf 65 = .ok (.invokestatic 179, 3) := by decide +kernel
theorem dX11_dayOf_68 : decode cX11_dayOf 68 = .ok (.iadd, 1) := by decide +kernel
theorem dX11_dayOf_69 : decode cX11_dayOf 69 = .ok (.istore_n 1, 1) := by decide +kernel
theorem dX11_dayOf_70 : decode cX11_dayOf 70 = .ok (.iinc 2 1, 3) := by decide +kernel
theorem dX11_dayOf_73 : decode cX11_dayOf 73 = .ok (.goto (-26), 3) := by decide +kernel
theorem dX11_dayOf_76 : decode cX11_dayOf 76 = .ok (.iload_n 1, 1) := by decide +kernel
theorem dX11_dayOf_77 : decode cX11_dayOf 77 = .ok (.ireturn, 1) := by decide +kernel
set_option maxRecDepth 20000 in
theorem ggX11_dateOf_X11_isLeap : GoodIn wsX11_dateOf wsX11_isLeap := goodIn_r _ [4] rfl (by decide +kernel)
set_option maxRecDepth 20000 in
theorem gX11_dateOf_X11_isLeap : GoodIn wsX11_dateOf (va_wsS RX11 174 yX11_isLeap wsX11_isLeap) := goodIn_app (goodIn_of _ (by decide +kernel)) ggX11_dateOf_X11_isLeap
set_option maxRecDepth 20000 in
theorem ggX11_dateOf_X11_monthDays : GoodIn wsX11_dateOf wsX11_monthDays := goodIn_r _ [7, 1, 2, 3, 4] rfl (by decide +kernel)
set_option maxRecDepth 20000 in
theorem gX11_dateOf_X11_monthDays : GoodIn wsX11_dateOf (va_wsS RX11 179 yX11_monthDays wsX11_monthDays) := goodIn_app (goodIn_of _ (by decide +kernel)) ggX11_dateOf_X11_monthDays
theorem dX11_dateOf_0 : decode cX11_dateOf 0 = .ok (.iload_n 0, 1) := by decide +kernel
theorem dX11_dateOf_1 : decode cX11_dateOf 1 = .ok (.istore_n 1, 1) := by decide +kernel
theorem dX11_dateOf_2 : decode cX11_dateOf 2 = .ok (.sipush 1890, 3) := by decide +kernel
theorem dX11_dateOf_5 : decode cX11_dateOf 5 = .ok (.istore_n 2, 1) := by decide +kernel
theorem dX11_dateOf_6 : decode cX11_dateOf 6 = .ok (.iload_n 1, 1) := by decide +kernel
theorem dX11_dateOf_7 : decode cX11_dateOf 7 = .ok (.iload_n 2, 1) := by decide +kernel
theorem dX11_dateOf_8 : decode cX11_dateOf 8 = .ok (.invokestatic 174, 3) := by decide +kernel
theorem dX11_dateOf_11 : decode cX11_dateOf 11 = .ok (.ifCond .eq 9, 3) := by decide +kernel
theorem dX11_dateOf_14 : decode cX11_dateOf 14 = .ok (.sipush 366, 3) := by decide +kernel
theorem dX11_dateOf_17 : decode cX11_dateOf 17 = .ok (.goto 6, 3) := by decide +kernel
theorem dX11_dateOf_20 : decode cX11_dateOf 20 = .ok (.sipush 365, 3) := by decide +kernel
theorem dX11_dateOf_23 : decode cX11_dateOf 23 = .ok (.if_icmp .lt 28, 3) := by decide +kernel
theorem dX11_dateOf_26 : decode cX11_dateOf 26 = .ok (.iload_n 1, 1) := by decide +kernel
theorem dX11_dateOf_27 : decode cX11_dateOf 27 = .ok (.iload_n 2, 1) := by decide +kernel
theorem dX11_dateOf_28 : decode cX11_dateOf 28 = .ok (.invokestatic 174, 3) := by decide +kernel
theorem dX11_dateOf_31 : decode cX11_dateOf 31 = .ok (.ifCond .eq 9, 3) := by decide +kernel
theorem dX11_dateOf_34 : decode cX11_dateOf 34 = .ok (.sipush 366, 3) := by decide +kernel
theorem dX11_dateOf_37 : decode cX11_dateOf 37 = .ok (.goto 6, 3) := by decide +kernel
theorem dX11_dateOf_40 : decode cX11_dateOf 40 = .ok (.sipush 365, 3) := by decide +kernel
theorem dX11_dateOf_43 : decode cX11_dateOf 43 = .ok (.isub, 1) := by decide +kernel
theorem dX11_dateOf_44 : decode cX11_dateOf 44 = .ok (.istore_n 1, 1) := by decide +kernel
theorem dX11_dateOf_45 : decode cX11_dateOf 45 = .ok (.iinc 2 1, 3) := by decide +kernel
theorem dX11_dateOf_48 : decode cX11_dateOf 48 = .ok (.goto (-42), 3) := by decide +kernel
theorem dX11_dateOf_51 : decode cX11_dateOf 51 = .ok (.iconst 1, 1) := by decide +kernel
theorem dX11_dateOf_52 : decode cX11_dateOf 52 = .ok (.istore_n 3, 1) := by decide +kernel
theorem dX11_dateOf_53 : decode cX11_dateOf 53 = .ok (.iload_n 1, 1) := by decide +kernel
theorem dX11_dateOf_54 : decode cX11_dateOf 54 = .ok (.iload_n 2, 1) := by decide +kernel
theorem dX11_dateOf_55 : decode cX11_dateOf 55 = .ok (.iload_n 3, 1) := by decide +kernel
theorem dX11_dateOf_56 : decode cX11_dateOf 56 = .ok (.invokestatic 179, 3) := by decide +kernel
theorem dX11_dateOf_59 : decode cX11_dateOf 59 = .ok (.if_icmp .lt 17, 3) := by decide +kernel
theorem dX11_dateOf_62 : decode cX11_dateOf 62 = .ok (.iload_n 1, 1) := by decide +kernel
theorem dX11_dateOf_63 : decode cX11_dateOf 63 = .ok (.iload_n 2, 1) := by decide +kernel
theorem dX11_dateOf_64 : decode cX11_dateOf 64 = .ok (.iload_n 3, 1) := by decide +kernel
theorem dX11_dateOf_65 : decode cX11_dateOf 65 = .ok (.invokestatic 179, 3) := by decide +kernel
theorem dX11_dateOf_68 : decode cX11_dateOf 68 = .ok (.isub, 1) := by decide +kernel
theorem dX11_dateOf_69 : decode cX11_dateOf 69 = .ok (.istore_n 1, 1) := by decide +kernel
theorem dX11_dateOf_70 : decode cX11_dateOf 70 = .ok (.iinc 3 1, 3) := by decide +kernel
theorem dX11_dateOf_73 : decode cX11_dateOf 73 = .ok (.goto (-20), 3) := by decide +kernel
theorem dX11_dateOf_76 : decode cX11_dateOf 76 = .ok (.sipush 10000, 3) := by decide +kernel
theorem dX11_dateOf_79 : decode cX11_dateOf 79 = .ok (.iload_n 2, 1) := by decide +kernel
theorem dX11_dateOf_80 : decode cX11_dateOf 80 = .ok (.imul, 1) := by decide +kernel
theorem dX11_dateOf_81 : decode cX11_dateOf 81 = .ok (.bipush 100, 2) := by decide +kernel
theorem dX11_dateOf_83 : decode cX11_dateOf 83 = .ok (.iload_n 3, 1) := by decide +kernel
theorem dX11_dateOf_84 : decode cX11_dateOf 84 = .ok (.imul, 1) := by decide +kernel
theorem dX11_dateOf_85 : decode cX11_dateOf 85 = .ok (.iadd, 1) := by decide +kernel
theorem dX11_dateOf_86 : decode cX11_dateOf 86 = .ok (.iload_n 1, 1) := by decide +kernel
theorem dX11_dateOf_87 : decode cX11_dateOf 87 = .ok (.iadd, 1) := by decide +kernel
theorem dX11_dateOf_88 : decode cX11_dateOf 88 = .ok (.iconst 1, 1) := by decide +kernel
theorem dX11_dateOf_89 : decode cX11_dateOf 89 = .ok (.iadd, 1) := by decide +kernel
theorem dX11_dateOf_90 : decode cX11_dateOf 90 = .ok (.ireturn, 1) := by decide +kernel
set_option maxRecDepth 20000 in
theorem ggX11_tell_X11_noStone : GoodIn wsX11_tell wsX11_noStone := goodIn_r _ [7, 8, 9, 10, 6, 11, 2, 12, 13, 14, 15, 16, 17, 18, 1, 39, 40, 41, 42, 43, 44, 45, 46, 47, 48, 49, 50, 51, 52, 53, 54, 55, 56, 57, 58, 59, 60] rfl (by decide +kernel)
set_option maxRecDepth 20000 in
theorem gX11_tell_X11_noStone : GoodIn wsX11_tell (wsV RX11 109 RX11 yX11_noStone wsX11_noStone) := goodIn_app (goodIn_of _ (by decide +kernel)) ggX11_tell_X11_noStone
set_option maxRecDepth 20000 in
theorem ggX11_tell_X11_isDate : GoodIn wsX11_tell wsX11_isDate := goodIn_r _ [21, 22, 23, 12, 13, 6, 14, 24, 25, 26, 27, 28, 29] rfl (by decide +kernel)
set_option maxRecDepth 20000 in
theorem gX11_tell_X11_isDate : GoodIn wsX11_tell (va_wsS RX11 182 yX11_isDate wsX11_isDate) := goodIn_app (goodIn_of _ (by decide +kernel)) ggX11_tell_X11_isDate
set_option maxRecDepth 20000 in
theorem ggX11_tell_X11_in : GoodIn wsX11_tell wsX11_in := goodIn_r _ [14] rfl (by decide +kernel)
set_option maxRecDepth 20000 in
theorem gX11_tell_X11_in : GoodIn wsX11_tell (va_wsS RX11 69 yX11_in wsX11_in) := goodIn_app (goodIn_of _ (by decide +kernel)) ggX11_tell_X11_in
set_option maxRecDepth 20000 in
theorem ggX11_tell_X11_fails : GoodIn wsX11_tell wsX11_fails := goodIn_r _ [18, 1, 39, 40, 41, 42, 43, 44, 45, 46, 47, 48, 49, 50, 51, 52, 53, 54, 55, 56, 57, 58, 59, 60] rfl (by decide +kernel)
set_option maxRecDepth 20000 in
theorem gX11_tell_X11_fails : GoodIn wsX11_tell (wsV RX11 73 RX11 yX11_fails wsX11_fails) := goodIn_app (goodIn_of _ (by decide +kernel)) ggX11_tell_X11_fails
set_option maxRecDepth 20000 in
theorem ggX11_tell_X11_keeps : GoodIn wsX11_tell wsX11_keeps := goodIn_r _ [33, 34, 35, 2, 39, 40, 41, 42, 43, 44, 45, 46, 47, 48, 49, 50, 51, 52, 53, 54, 55, 56, 57, 58, 59, 60] rfl (by decide +kernel)
set_option maxRecDepth 20000 in
theorem gX11_tell_X11_keeps : GoodIn wsX11_tell (wsV RX11 102 RX11 yX11_keeps wsX11_keeps) := goodIn_app (goodIn_of _ (by decide +kernel)) ggX11_tell_X11_keeps
set_option maxRecDepth 20000 in
theorem ggX11_tell_X11_dayOf : GoodIn wsX11_tell wsX11_dayOf := goodIn_r _ [38, 27, 28, 6, 29, 24, 25, 26] rfl (by decide +kernel)
set_option maxRecDepth 20000 in
theorem gX11_tell_X11_dayOf : GoodIn wsX11_tell (va_wsS RX11 185 yX11_dayOf wsX11_dayOf) := goodIn_app (goodIn_of _ (by decide +kernel)) ggX11_tell_X11_dayOf
theorem dX11_tell_0 : decode cX11_tell 0 = .ok (.aload_n 0, 1) := by decide +kernel
theorem dX11_tell_1 : decode cX11_tell 1 = .ok (.iconst 0, 1) := by decide +kernel
theorem dX11_tell_2 : decode cX11_tell 2 = .ok (.putfield 1, 3) := by decide +kernel
theorem dX11_tell_5 : decode cX11_tell 5 = .ok (.aload_n 0, 1) := by decide +kernel
theorem dX11_tell_6 : decode cX11_tell 6 = .ok (.iload_n 1, 1) := by decide +kernel
theorem dX11_tell_7 : decode cX11_tell 7 = .ok (.invokevirtual 109, 3) := by decide +kernel
theorem dX11_tell_10 : decode cX11_tell 10 = .ok (.ifCond .ne 59, 3) := by decide +kernel
theorem dX11_tell_13 : decode cX11_tell 13 = .ok (.aload_n 0, 1) := by decide +kernel
theorem dX11_tell_14 : decode cX11_tell 14 = .ok (.iload_n 2, 1) := by decide +kernel
theorem dX11_tell_15 : decode cX11_tell 15 = .ok (.invokestatic 182, 3) := by decide +kernel
theorem dX11_tell_18 : decode cX11_tell 18 = .ok (.ifCond .eq 17, 3) := by decide +kernel
theorem dX11_tell_21 : decode cX11_tell 21 = .ok (.iload_n 3, 1) := by decide +kernel
theorem dX11_tell_22 : decode cX11_tell 22 = .ok (.iconst 0, 1) := by decide +kernel
theorem dX11_tell_23 : decode cX11_tell 23 = .ok (.bipush 6, 2) := by decide +kernel
theorem dX11_tell_25 : decode cX11_tell 25 = .ok (.invokestatic 69, 3) := by decide +kernel
theorem dX11_tell_28 : decode cX11_tell 28 = .ok (.ifCond .eq 7, 3) := by decide +kernel
theorem dX11_tell_31 : decode cX11_tell 31 = .ok (.iconst 1, 1) := by decide +kernel
theorem dX11_tell_32 : decode cX11_tell 32 = .ok (.goto 4, 3) := by decide +kernel
theorem dX11_tell_35 : decode cX11_tell 35 = .ok (.iconst 0, 1) := by decide +kernel
theorem dX11_tell_36 : decode cX11_tell 36 = .ok (.iconst 2, 1) := by decide +kernel
theorem dX11_tell_37 : decode cX11_tell 37 = .ok (.invokevirtual 73, 3) := by decide +kernel
theorem dX11_tell_40 : decode cX11_tell 40 = .ok (.ifCond .ne 29, 3) := by decide +kernel
theorem dX11_tell_43 : decode cX11_tell 43 = .ok (.aload_n 0, 1) := by decide +kernel
theorem dX11_tell_44 : decode cX11_tell 44 = .ok (.aload_n 0, 1) := by decide +kernel
theorem dX11_tell_45 : decode cX11_tell 45 = .ok (.getfield 13, 3) := by decide +kernel
theorem dX11_tell_48 : decode cX11_tell 48 = .ok (.sipush 570, 3) := by decide +kernel
theorem dX11_tell_51 : decode cX11_tell 51 = .ok (.iaload, 1) := by decide +kernel
theorem dX11_tell_52 : decode cX11_tell 52 = .ok (.bipush 60, 2) := by decide +kernel
theorem dX11_tell_54 : decode cX11_tell 54 = .ok (.if_icmp .ge 7, 3) := by decide +kernel
theorem dX11_tell_57 : decode cX11_tell 57 = .ok (.iconst 1, 1) := by decide +kernel
theorem dX11_tell_58 : decode cX11_tell 58 = .ok (.goto 4, 3) := by decide +kernel
theorem dX11_tell_61 : decode cX11_tell 61 = .ok (.iconst 0, 1) := by decide +kernel
theorem dX11_tell_62 : decode cX11_tell 62 = .ok (.iconst 3, 1) := by decide +kernel
theorem dX11_tell_63 : decode cX11_tell 63 = .ok (.invokevirtual 73, 3) := by decide +kernel
theorem dX11_tell_66 : decode cX11_tell 66 = .ok (.ifCond .eq 5, 3) := by decide +kernel
theorem dX11_tell_69 : decode cX11_tell 69 = .ok (.iconst 0, 1) := by decide +kernel
theorem dX11_tell_70 : decode cX11_tell 70 = .ok (.ireturn, 1) := by decide +kernel
theorem dX11_tell_71 : decode cX11_tell 71 = .ok (.aload_n 0, 1) := by decide +kernel
theorem dX11_tell_72 : decode cX11_tell 72 = .ok (.invokevirtual 102, 3) := by decide +kernel
theorem dX11_tell_75 : decode cX11_tell 75 = .ok (.aload_n 0, 1) := by decide +kernel
theorem dX11_tell_76 : decode cX11_tell 76 = .ok (.getfield 13, 3) := by decide +kernel
theorem dX11_tell_79 : decode cX11_tell 79 = .ok (.sipush 570, 3) := by decide +kernel
theorem dX11_tell_82 : decode cX11_tell 82 = .ok (.iaload, 1) := by decide +kernel
theorem dX11_tell_83 : decode cX11_tell 83 = .ok (.istore 4, 2) := by decide +kernel
theorem dX11_tell_85 : decode cX11_tell 85 = .ok (.aload_n 0, 1) := by decide +kernel
theorem dX11_tell_86 : decode cX11_tell 86 = .ok (.getfield 13, 3) := by decide +kernel
theorem dX11_tell_89 : decode cX11_tell 89 = .ok (.sipush 571, 3) := by decide +kernel
theorem dX11_tell_92 : decode cX11_tell 92 = .ok (.dup2, 1) := by decide +kernel
theorem dX11_tell_93 : decode cX11_tell 93 = .ok (.iaload, 1) := by decide +kernel
theorem dX11_tell_94 : decode cX11_tell 94 = .ok (.iconst 1, 1) := by decide +kernel
theorem dX11_tell_95 : decode cX11_tell 95 = .ok (.iadd, 1) := by decide +kernel
theorem dX11_tell_96 : decode cX11_tell 96 = .ok (.iastore, 1) := by decide +kernel
theorem dX11_tell_97 : decode cX11_tell 97 = .ok (.aload_n 0, 1) := by decide +kernel
theorem dX11_tell_98 : decode cX11_tell 98 = .ok (.getfield 13, 3) := by decide +kernel
theorem dX11_tell_101 : decode cX11_tell 101 = .ok (.sipush 164, 3) := by decide +kernel
theorem dX11_tell_104 : decode cX11_tell 104 = .ok (.iload 4, 2) := by decide +kernel
theorem dX11_tell_106 : decode cX11_tell 106 = .ok (.iadd, 1) := by decide +kernel
theorem dX11_tell_107 : decode cX11_tell 107 = .ok (.iload_n 1, 1) := by decide +kernel
theorem dX11_tell_108 : decode cX11_tell 108 = .ok (.iastore, 1) := by decide +kernel
theorem dX11_tell_109 : decode cX11_tell 109 = .ok (.aload_n 0, 1) := by decide +kernel
theorem dX11_tell_110 : decode cX11_tell 110 = .ok (.getfield 13, 3) := by decide +kernel
theorem dX11_tell_113 : decode cX11_tell 113 = .ok (.sipush 224, 3) := by decide +kernel
theorem dX11_tell_116 : decode cX11_tell 116 = .ok (.iload 4, 2) := by decide +kernel
theorem dX11_tell_118 : decode cX11_tell 118 = .ok (.iadd, 1) := by decide +kernel
theorem dX11_tell_119 : decode cX11_tell 119 = .ok (.iload_n 2, 1) := by decide +kernel
theorem dX11_tell_120 : decode cX11_tell 120 = .ok (.invokestatic 185, 3) := by decide +kernel
theorem dX11_tell_123 : decode cX11_tell 123 = .ok (.iastore, 1) := by decide +kernel
theorem dX11_tell_124 : decode cX11_tell 124 = .ok (.aload_n 0, 1) := by decide +kernel
theorem dX11_tell_125 : decode cX11_tell 125 = .ok (.getfield 13, 3) := by decide +kernel
theorem dX11_tell_128 : decode cX11_tell 128 = .ok (.sipush 284, 3) := by decide +kernel
theorem dX11_tell_131 : decode cX11_tell 131 = .ok (.iload 4, 2) := by decide +kernel
theorem dX11_tell_133 : decode cX11_tell 133 = .ok (.iadd, 1) := by decide +kernel
theorem dX11_tell_134 : decode cX11_tell 134 = .ok (.iload_n 3, 1) := by decide +kernel
theorem dX11_tell_135 : decode cX11_tell 135 = .ok (.iastore, 1) := by decide +kernel
theorem dX11_tell_136 : decode cX11_tell 136 = .ok (.aload_n 0, 1) := by decide +kernel
theorem dX11_tell_137 : decode cX11_tell 137 = .ok (.getfield 13, 3) := by decide +kernel
theorem dX11_tell_140 : decode cX11_tell 140 = .ok (.sipush 344, 3) := by decide +kernel
theorem dX11_tell_143 : decode cX11_tell 143 = .ok (.iload 4, 2) := by decide +kernel
theorem dX11_tell_145 : decode cX11_tell 145 = .ok (.iadd, 1) := by decide +kernel
theorem dX11_tell_146 : decode cX11_tell 146 = .ok (.aload_n 0, 1) := by decide +kernel
theorem dX11_tell_147 : decode cX11_tell 147 = .ok (.getfield 13, 3) := by decide +kernel
theorem dX11_tell_150 : decode cX11_tell 150 = .ok (.sipush 571, 3) := by decide +kernel
theorem dX11_tell_153 : decode cX11_tell 153 = .ok (.iaload, 1) := by decide +kernel
theorem dX11_tell_154 : decode cX11_tell 154 = .ok (.iastore, 1) := by decide +kernel
theorem dX11_tell_155 : decode cX11_tell 155 = .ok (.aload_n 0, 1) := by decide +kernel
theorem dX11_tell_156 : decode cX11_tell 156 = .ok (.getfield 13, 3) := by decide +kernel
theorem dX11_tell_159 : decode cX11_tell 159 = .ok (.sipush 404, 3) := by decide +kernel
theorem dX11_tell_162 : decode cX11_tell 162 = .ok (.iload 4, 2) := by decide +kernel
theorem dX11_tell_164 : decode cX11_tell 164 = .ok (.iadd, 1) := by decide +kernel
theorem dX11_tell_165 : decode cX11_tell 165 = .ok (.iconst 0, 1) := by decide +kernel
theorem dX11_tell_166 : decode cX11_tell 166 = .ok (.iastore, 1) := by decide +kernel
theorem dX11_tell_167 : decode cX11_tell 167 = .ok (.aload_n 0, 1) := by decide +kernel
theorem dX11_tell_168 : decode cX11_tell 168 = .ok (.getfield 13, 3) := by decide +kernel
theorem dX11_tell_171 : decode cX11_tell 171 = .ok (.sipush 570, 3) := by decide +kernel
theorem dX11_tell_174 : decode cX11_tell 174 = .ok (.dup2, 1) := by decide +kernel
theorem dX11_tell_175 : decode cX11_tell 175 = .ok (.iaload, 1) := by decide +kernel
theorem dX11_tell_176 : decode cX11_tell 176 = .ok (.iconst 1, 1) := by decide +kernel
theorem dX11_tell_177 : decode cX11_tell 177 = .ok (.iadd, 1) := by decide +kernel
theorem dX11_tell_178 : decode cX11_tell 178 = .ok (.iastore, 1) := by decide +kernel
theorem dX11_tell_179 : decode cX11_tell 179 = .ok (.iload 4, 2) := by decide +kernel
theorem dX11_tell_181 : decode cX11_tell 181 = .ok (.ireturn, 1) := by decide +kernel
set_option maxRecDepth 20000 in
theorem ggX11_takeBack_X11_in : GoodIn wsX11_takeBack wsX11_in := goodIn_r _ [6] rfl (by decide +kernel)
set_option maxRecDepth 20000 in
theorem gX11_takeBack_X11_in : GoodIn wsX11_takeBack (va_wsS RX11 69 yX11_in wsX11_in) := goodIn_app (goodIn_of _ (by decide +kernel)) ggX11_takeBack_X11_in
set_option maxRecDepth 20000 in
theorem ggX11_takeBack_X11_fails : GoodIn wsX11_takeBack wsX11_fails := goodIn_r _ [10, 1, 17, 18, 19, 20, 21, 22, 23, 24, 25, 26, 27, 28, 29, 30, 31, 32, 33, 34, 35, 36, 37, 38] rfl (by decide +kernel)
set_option maxRecDepth 20000 in
theorem gX11_takeBack_X11_fails : GoodIn wsX11_takeBack (wsV RX11 73 RX11 yX11_fails wsX11_fails) := goodIn_app (goodIn_of _ (by decide +kernel)) ggX11_takeBack_X11_fails
set_option maxRecDepth 20000 in
theorem ggX11_takeBack_X11_keeps : GoodIn wsX11_takeBack wsX11_keeps := goodIn_r _ [14, 15, 16, 2, 17, 18, 19, 20, 21, 22, 23, 24, 25, 26, 27, 28, 29, 30, 31, 32, 33, 34, 35, 36, 37, 38] rfl (by decide +kernel)
set_option maxRecDepth 20000 in
theorem gX11_takeBack_X11_keeps : GoodIn wsX11_takeBack (wsV RX11 102 RX11 yX11_keeps wsX11_keeps) := goodIn_app (goodIn_of _ (by decide +kernel)) ggX11_takeBack_X11_keeps
theorem dX11_takeBack_0 : decode cX11_takeBack 0 = .ok (.aload_n 0, 1) := by decide +kernel
theorem dX11_takeBack_1 : decode cX11_takeBack 1 = .ok (.iconst 0, 1) := by decide +kernel
theorem dX11_takeBack_2 : decode cX11_takeBack 2 = .ok (.putfield 1, 3) := by decide +kernel
theorem dX11_takeBack_5 : decode cX11_takeBack 5 = .ok (.aload_n 0, 1) := by decide +kernel
theorem dX11_takeBack_6 : decode cX11_takeBack 6 = .ok (.iload_n 1, 1) := by decide +kernel
theorem dX11_takeBack_7 : decode cX11_takeBack 7 = .ok (.iconst 0, 1) := by decide +kernel
theorem dX11_takeBack_8 : decode cX11_takeBack 8 = .ok (.aload_n 0, 1) := by decide +kernel
theorem dX11_takeBack_9 : decode cX11_takeBack 9 = .ok (.getfield 13, 3) := by decide +kernel
theorem dX11_takeBack_12 : decode cX11_takeBack 12 = .ok (.sipush 570, 3) := by decide +kernel
theorem dX11_takeBack_15 : decode cX11_takeBack 15 = .ok (.iaload, 1) := by decide +kernel
theorem dX11_takeBack_16 : decode cX11_takeBack 16 = .ok (.iconst 1, 1) := by decide +kernel
theorem dX11_takeBack_17 : decode cX11_takeBack 17 = .ok (.isub, 1) := by decide +kernel
theorem dX11_takeBack_18 : decode cX11_takeBack 18 = .ok (.invokestatic 69, 3) := by decide +kernel
theorem dX11_takeBack_21 : decode cX11_takeBack 21 = .ok (.iconst 1, 1) := by decide +kernel
theorem dX11_takeBack_22 : decode cX11_takeBack 22 = .ok (.invokevirtual 73, 3) := by decide +kernel
theorem dX11_takeBack_25 : decode cX11_takeBack 25 = .ok (.ifCond .ne 29, 3) := by decide +kernel
theorem dX11_takeBack_28 : decode cX11_takeBack 28 = .ok (.aload_n 0, 1) := by decide +kernel
theorem dX11_takeBack_29 : decode cX11_takeBack 29 = .ok (.aload_n 0, 1) := by decide +kernel
theorem dX11_takeBack_30 : decode cX11_takeBack 30 = .ok (.getfield 13, 3) := by decide +kernel
theorem dX11_takeBack_33 : decode cX11_takeBack 33 = .ok (.sipush 404, 3) := by decide +kernel
theorem dX11_takeBack_36 : decode cX11_takeBack 36 = .ok (.iload_n 1, 1) := by decide +kernel
theorem dX11_takeBack_37 : decode cX11_takeBack 37 = .ok (.iadd, 1) := by decide +kernel
theorem dX11_takeBack_38 : decode cX11_takeBack 38 = .ok (.iaload, 1) := by decide +kernel
theorem dX11_takeBack_39 : decode cX11_takeBack 39 = .ok (.ifCond .ne 7, 3) := by decide +kernel
theorem dX11_takeBack_42 : decode cX11_takeBack 42 = .ok (.iconst 1, 1) := by decide +kernel
theorem dX11_takeBack_43 : decode cX11_takeBack 43 = .ok (.goto 4, 3) := by decide +kernel
theorem dX11_takeBack_46 : decode cX11_takeBack 46 = .ok (.iconst 0, 1) := by decide +kernel
theorem dX11_takeBack_47 : decode cX11_takeBack 47 = .ok (.iconst 2, 1) := by decide +kernel
theorem dX11_takeBack_48 : decode cX11_takeBack 48 = .ok (.invokevirtual 73, 3) := by decide +kernel
theorem dX11_takeBack_51 : decode cX11_takeBack 51 = .ok (.ifCond .eq 5, 3) := by decide +kernel
theorem dX11_takeBack_54 : decode cX11_takeBack 54 = .ok (.iconst 0, 1) := by decide +kernel
theorem dX11_takeBack_55 : decode cX11_takeBack 55 = .ok (.ireturn, 1) := by decide +kernel
theorem dX11_takeBack_56 : decode cX11_takeBack 56 = .ok (.aload_n 0, 1) := by decide +kernel
theorem dX11_takeBack_57 : decode cX11_takeBack 57 = .ok (.invokevirtual 102, 3) := by decide +kernel
theorem dX11_takeBack_60 : decode cX11_takeBack 60 = .ok (.aload_n 0, 1) := by decide +kernel
theorem dX11_takeBack_61 : decode cX11_takeBack 61 = .ok (.getfield 13, 3) := by decide +kernel
theorem dX11_takeBack_64 : decode cX11_takeBack 64 = .ok (.sipush 571, 3) := by decide +kernel
theorem dX11_takeBack_67 : decode cX11_takeBack 67 = .ok (.dup2, 1) := by decide +kernel
theorem dX11_takeBack_68 : decode cX11_takeBack 68 = .ok (.iaload, 1) := by decide +kernel
theorem dX11_takeBack_69 : decode cX11_takeBack 69 = .ok (.iconst 1, 1) := by decide +kernel
theorem dX11_takeBack_70 : decode cX11_takeBack 70 = .ok (.iadd, 1) := by decide +kernel
theorem dX11_takeBack_71 : decode cX11_takeBack 71 = .ok (.iastore, 1) := by decide +kernel
theorem dX11_takeBack_72 : decode cX11_takeBack 72 = .ok (.aload_n 0, 1) := by decide +kernel
theorem dX11_takeBack_73 : decode cX11_takeBack 73 = .ok (.getfield 13, 3) := by decide +kernel
theorem dX11_takeBack_76 : decode cX11_takeBack 76 = .ok (.sipush 404, 3) := by decide +kernel
theorem dX11_takeBack_79 : decode cX11_takeBack 79 = .ok (.iload_n 1, 1) := by decide +kernel
theorem dX11_takeBack_80 : decode cX11_takeBack 80 = .ok (.iadd, 1) := by decide +kernel
theorem dX11_takeBack_81 : decode cX11_takeBack 81 = .ok (.aload_n 0, 1) := by decide +kernel
theorem dX11_takeBack_82 : decode cX11_takeBack 82 = .ok (.getfield 13, 3) := by decide +kernel
theorem dX11_takeBack_85 : decode cX11_takeBack 85 = .ok (.sipush 571, 3) := by decide +kernel
theorem dX11_takeBack_88 : decode cX11_takeBack 88 = .ok (.iaload, 1) := by decide +kernel
theorem dX11_takeBack_89 : decode cX11_takeBack 89 = .ok (.iastore, 1) := by decide +kernel
theorem dX11_takeBack_90 : decode cX11_takeBack 90 = .ok (.aload_n 0, 1) := by decide +kernel
theorem dX11_takeBack_91 : decode cX11_takeBack 91 = .ok (.getfield 13, 3) := by decide +kernel
theorem dX11_takeBack_94 : decode cX11_takeBack 94 = .ok (.sipush 571, 3) := by decide +kernel
theorem dX11_takeBack_97 : decode cX11_takeBack 97 = .ok (.iaload, 1) := by decide +kernel
theorem dX11_takeBack_98 : decode cX11_takeBack 98 = .ok (.ireturn, 1) := by decide +kernel
theorem dX11_time_0 : decode cX11_time 0 = .ok (.aload_n 0, 1) := by decide +kernel
theorem dX11_time_1 : decode cX11_time 1 = .ok (.iconst 0, 1) := by decide +kernel
theorem dX11_time_2 : decode cX11_time 2 = .ok (.putfield 1, 3) := by decide +kernel
theorem dX11_time_5 : decode cX11_time 5 = .ok (.aload_n 0, 1) := by decide +kernel
theorem dX11_time_6 : decode cX11_time 6 = .ok (.getfield 13, 3) := by decide +kernel
theorem dX11_time_9 : decode cX11_time 9 = .ok (.sipush 571, 3) := by decide +kernel
theorem dX11_time_12 : decode cX11_time 12 = .ok (.iaload, 1) := by decide +kernel
theorem dX11_time_13 : decode cX11_time 13 = .ok (.ireturn, 1) := by decide +kernel
theorem dX11_isKnown_0 : decode cX11_isKnown 0 = .ok (.aload_n 0, 1) := by decide +kernel
theorem dX11_isKnown_1 : decode cX11_isKnown 1 = .ok (.getfield 13, 3) := by decide +kernel
theorem dX11_isKnown_4 : decode cX11_isKnown 4 = .ok (.sipush 344, 3) := by decide +kernel
theorem dX11_isKnown_7 : decode cX11_isKnown 7 = .ok (.iload_n 1, 1) := by decide +kernel
theorem dX11_isKnown_8 : decode cX11_isKnown 8 = .ok (.iadd, 1) := by decide +kernel
theorem dX11_isKnown_9 : decode cX11_isKnown 9 = .ok (.iaload, 1) := by decide +kernel
theorem dX11_isKnown_10 : decode cX11_isKnown 10 = .ok (.iload_n 2, 1) := by decide +kernel
theorem dX11_isKnown_11 : decode cX11_isKnown 11 = .ok (.if_icmp .gt 34, 3) := by decide +kernel
theorem dX11_isKnown_14 : decode cX11_isKnown 14 = .ok (.aload_n 0, 1) := by decide +kernel
theorem dX11_isKnown_15 : decode cX11_isKnown 15 = .ok (.getfield 13, 3) := by decide +kernel
theorem dX11_isKnown_18 : decode cX11_isKnown 18 = .ok (.sipush 404, 3) := by decide +kernel
theorem dX11_isKnown_21 : decode cX11_isKnown 21 = .ok (.iload_n 1, 1) := by decide +kernel
theorem dX11_isKnown_22 : decode cX11_isKnown 22 = .ok (.iadd, 1) := by decide +kernel
theorem dX11_isKnown_23 : decode cX11_isKnown 23 = .ok (.iaload, 1) := by decide +kernel
theorem dX11_isKnown_24 : decode cX11_isKnown 24 = .ok (.ifCond .eq 17, 3) := by decide +kernel
theorem dX11_isKnown_27 : decode cX11_isKnown 27 = .ok (.aload_n 0, 1) := by decide +kernel
theorem dX11_isKnown_28 : decode cX11_isKnown 28 = .ok (.getfield 13, 3) := by decide +kernel
theorem dX11_isKnown_31 : decode cX11_isKnown 31 = .ok (.sipush 404, 3) := by decide +kernel
theorem dX11_isKnown_34 : decode cX11_isKnown 34 = .ok (.iload_n 1, 1) := by decide +kernel
theorem dX11_isKnown_35 : decode cX11_isKnown 35 = .ok (.iadd, 1) := by decide +kernel
theorem dX11_isKnown_36 : decode cX11_isKnown 36 = .ok (.iaload, 1) := by decide +kernel
theorem dX11_isKnown_37 : decode cX11_isKnown 37 = .ok (.iload_n 2, 1) := by decide +kernel
theorem dX11_isKnown_38 : decode cX11_isKnown 38 = .ok (.if_icmp .le 7, 3) := by decide +kernel
theorem dX11_isKnown_41 : decode cX11_isKnown 41 = .ok (.iconst 1, 1) := by decide +kernel
theorem dX11_isKnown_42 : decode cX11_isKnown 42 = .ok (.goto 4, 3) := by decide +kernel
theorem dX11_isKnown_45 : decode cX11_isKnown 45 = .ok (.iconst 0, 1) := by decide +kernel
theorem dX11_isKnown_46 : decode cX11_isKnown 46 = .ok (.ireturn, 1) := by decide +kernel
set_option maxRecDepth 20000 in
theorem ggX11_hand_X11_isKnown : GoodIn wsX11_hand wsX11_isKnown := goodIn_r _ [6, 1, 7, 8, 9, 10, 11, 12, 13, 14, 15, 16, 17, 18, 19, 20, 21, 22, 23, 24, 25, 26, 27, 28] rfl (by decide +kernel)
set_option maxRecDepth 20000 in
theorem gX11_hand_X11_isKnown : GoodIn wsX11_hand (wsV RX11 188 RX11 yX11_isKnown wsX11_isKnown) := goodIn_app (goodIn_of _ (by decide +kernel)) ggX11_hand_X11_isKnown
theorem dX11_hand_0 : decode cX11_hand 0 = .ok (.iconst (-1), 1) := by decide +kernel
theorem dX11_hand_1 : decode cX11_hand 1 = .ok (.istore 4, 2) := by decide +kernel
theorem dX11_hand_3 : decode cX11_hand 3 = .ok (.iconst 0, 1) := by decide +kernel
theorem dX11_hand_4 : decode cX11_hand 4 = .ok (.istore 5, 2) := by decide +kernel
theorem dX11_hand_6 : decode cX11_hand 6 = .ok (.iload 5, 2) := by decide +kernel
theorem dX11_hand_8 : decode cX11_hand 8 = .ok (.aload_n 0, 1) := by decide +kernel
theorem dX11_hand_9 : decode cX11_hand 9 = .ok (.getfield 13, 3) := by decide +kernel
theorem dX11_hand_12 : decode cX11_hand 12 = .ok (.sipush 570, 3) := by decide +kernel
theorem dX11_hand_15 : decode cX11_hand 15 = .ok (.iaload, 1) := by decide +kernel
theorem dX11_hand_16 : decode cX11_hand 16 = .ok (.if_icmp .ge 87, 3) := by decide +kernel
theorem dX11_hand_19 : decode cX11_hand 19 = .ok (.aload_n 0, 1) := by decide +kernel
theorem dX11_hand_20 : decode cX11_hand 20 = .ok (.getfield 13, 3) := by decide +kernel
theorem dX11_hand_23 : decode cX11_hand 23 = .ok (.sipush 164, 3) := by decide +kernel
theorem dX11_hand_26 : decode cX11_hand 26 = .ok (.iload 5, 2) := by decide +kernel
theorem dX11_hand_28 : decode cX11_hand 28 = .ok (.iadd, 1) := by decide +kernel
theorem dX11_hand_29 : decode cX11_hand 29 = .ok (.iaload, 1) := by decide +kernel
theorem dX11_hand_30 : decode cX11_hand 30 = .ok (.iload_n 1, 1) := by decide +kernel
theorem dX11_hand_31 : decode cX11_hand 31 = .ok (.if_icmp .ne 66, 3) := by decide +kernel
theorem dX11_hand_34 : decode cX11_hand 34 = .ok (.aload_n 0, 1) := by decide +kernel
theorem dX11_hand_35 : decode cX11_hand 35 = .ok (.getfield 13, 3) := by decide +kernel
theorem dX11_hand_38 : decode cX11_hand 38 = .ok (.sipush 224, 3) := by decide +kernel
theorem dX11_hand_41 : decode cX11_hand 41 = .ok (.iload 5, 2) := by decide +kernel
theorem dX11_hand_43 : decode cX11_hand 43 = .ok (.iadd, 1) := by decide +kernel
theorem dX11_hand_44 : decode cX11_hand 44 = .ok (.iaload, 1) := by decide +kernel
theorem dX11_hand_45 : decode cX11_hand 45 = .ok (.iload_n 2, 1) := by decide +kernel
theorem dX11_hand_46 : decode cX11_hand 46 = .ok (.if_icmp .gt 51, 3) := by decide +kernel
theorem dX11_hand_49 : decode cX11_hand 49 = .ok (.aload_n 0, 1) := by decide +kernel
theorem dX11_hand_50 : decode cX11_hand 50 = .ok (.iload 5, 2) := by decide +kernel
theorem dX11_hand_52 : decode cX11_hand 52 = .ok (.iload_n 3, 1) := by decide +kernel
theorem dX11_hand_53 : decode cX11_hand 53 = .ok (.invokevirtual 188, 3) := by decide +kernel
theorem dX11_hand_56 : decode cX11_hand 56 = .ok (.ifCond .ne 6, 3) := by decide +kernel
theorem dX11_hand_59 : decode cX11_hand 59 = .ok (.goto 38, 3) := by decide +kernel
theorem dX11_hand_62 : decode cX11_hand 62 = .ok (.iload 4, 2) := by decide +kernel
theorem dX11_hand_64 : decode cX11_hand 64 = .ok (.iconst (-1), 1) := by decide +kernel
theorem dX11_hand_65 : decode cX11_hand 65 = .ok (.if_icmp .eq 28, 3) := by decide +kernel
theorem dX11_hand_68 : decode cX11_hand 68 = .ok (.aload_n 0, 1) := by decide +kernel
theorem dX11_hand_69 : decode cX11_hand 69 = .ok (.getfield 13, 3) := by decide +kernel
theorem dX11_hand_72 : decode cX11_hand 72 = .ok (.sipush 224, 3) := by decide +kernel
theorem dX11_hand_75 : decode cX11_hand 75 = .ok (.iload 5, 2) := by decide +kernel
theorem dX11_hand_77 : decode cX11_hand 77 = .ok (.iadd, 1) := by decide +kernel
theorem dX11_hand_78 : decode cX11_hand 78 = .ok (.iaload, 1) := by decide +kernel
theorem dX11_hand_79 : decode cX11_hand 79 = .ok (.aload_n 0, 1) := by decide +kernel
theorem dX11_hand_80 : decode cX11_hand 80 = .ok (.getfield 13, 3) := by decide +kernel
theorem dX11_hand_83 : decode cX11_hand 83 = .ok (.sipush 224, 3) := by decide +kernel
theorem dX11_hand_86 : decode cX11_hand 86 = .ok (.iload 4, 2) := by decide +kernel
theorem dX11_hand_88 : decode cX11_hand 88 = .ok (.iadd, 1) := by decide +kernel
theorem dX11_hand_89 : decode cX11_hand 89 = .ok (.iaload, 1) := by decide +kernel
theorem dX11_hand_90 : decode cX11_hand 90 = .ok (.if_icmp .lt 7, 3) := by decide +kernel
theorem dX11_hand_93 : decode cX11_hand 93 = .ok (.iload 5, 2) := by decide +kernel
theorem dX11_hand_95 : decode cX11_hand 95 = .ok (.istore 4, 2) := by decide +kernel
theorem dX11_hand_97 : decode cX11_hand 97 = .ok (.iinc 5 1, 3) := by decide +kernel
theorem dX11_hand_100 : decode cX11_hand 100 = .ok (.goto (-94), 3) := by decide +kernel
theorem dX11_hand_103 : decode cX11_hand 103 = .ok (.iload 4, 2) := by decide +kernel
theorem dX11_hand_105 : decode cX11_hand 105 = .ok (.iconst (-1), 1) := by decide +kernel
theorem dX11_hand_106 : decode cX11_hand 106 = .ok (.if_icmp .ne 8, 3) := by decide +kernel
theorem dX11_hand_109 : decode cX11_hand 109 = .ok (.bipush 6, 2) := by decide +kernel
theorem dX11_hand_111 : decode cX11_hand 111 = .ok (.goto 14, 3) := by decide +kernel
theorem dX11_hand_114 : decode cX11_hand 114 = .ok (.aload_n 0, 1) := by decide +kernel
theorem dX11_hand_115 : decode cX11_hand 115 = .ok (.getfield 13, 3) := by decide +kernel
theorem dX11_hand_118 : decode cX11_hand 118 = .ok (.sipush 284, 3) := by decide +kernel
theorem dX11_hand_121 : decode cX11_hand 121 = .ok (.iload 4, 2) := by decide +kernel
theorem dX11_hand_123 : decode cX11_hand 123 = .ok (.iadd, 1) := by decide +kernel
theorem dX11_hand_124 : decode cX11_hand 124 = .ok (.iaload, 1) := by decide +kernel
theorem dX11_hand_125 : decode cX11_hand 125 = .ok (.ireturn, 1) := by decide +kernel
set_option maxRecDepth 20000 in
theorem ggX11_handOn_X11_noStone : GoodIn wsX11_handOn wsX11_noStone := goodIn_r _ [7, 8, 9, 10, 6, 11, 2, 12, 13, 14, 15, 16, 17, 18, 1, 41, 42, 43, 44, 45, 46, 47, 48, 49, 50, 51, 52, 53, 54, 55, 56, 57, 58, 59, 60, 61, 62] rfl (by decide +kernel)
set_option maxRecDepth 20000 in
theorem gX11_handOn_X11_noStone : GoodIn wsX11_handOn (wsV RX11 109 RX11 yX11_noStone wsX11_noStone) := goodIn_app (goodIn_of _ (by decide +kernel)) ggX11_handOn_X11_noStone
set_option maxRecDepth 20000 in
theorem ggX11_handOn_X11_isDate : GoodIn wsX11_handOn wsX11_isDate := goodIn_r _ [21, 22, 23, 12, 13, 6, 14, 24, 25, 26, 27, 28, 29] rfl (by decide +kernel)
set_option maxRecDepth 20000 in
theorem gX11_handOn_X11_isDate : GoodIn wsX11_handOn (va_wsS RX11 182 yX11_isDate wsX11_isDate) := goodIn_app (goodIn_of _ (by decide +kernel)) ggX11_handOn_X11_isDate
set_option maxRecDepth 20000 in
theorem ggX11_handOn_X11_in : GoodIn wsX11_handOn wsX11_in := goodIn_r _ [14] rfl (by decide +kernel)
set_option maxRecDepth 20000 in
theorem gX11_handOn_X11_in : GoodIn wsX11_handOn (va_wsS RX11 69 yX11_in wsX11_in) := goodIn_app (goodIn_of _ (by decide +kernel)) ggX11_handOn_X11_in
set_option maxRecDepth 20000 in
theorem ggX11_handOn_X11_fails : GoodIn wsX11_handOn wsX11_fails := goodIn_r _ [18, 1, 41, 42, 43, 44, 45, 46, 47, 48, 49, 50, 51, 52, 53, 54, 55, 56, 57, 58, 59, 60, 61, 62] rfl (by decide +kernel)
set_option maxRecDepth 20000 in
theorem gX11_handOn_X11_fails : GoodIn wsX11_handOn (wsV RX11 73 RX11 yX11_fails wsX11_fails) := goodIn_app (goodIn_of _ (by decide +kernel)) ggX11_handOn_X11_fails
set_option maxRecDepth 20000 in
theorem ggX11_handOn_X11_dayOf : GoodIn wsX11_handOn wsX11_dayOf := goodIn_r _ [32, 27, 28, 6, 29, 24, 25, 26] rfl (by decide +kernel)
set_option maxRecDepth 20000 in
theorem gX11_handOn_X11_dayOf : GoodIn wsX11_handOn (va_wsS RX11 185 yX11_dayOf wsX11_dayOf) := goodIn_app (goodIn_of _ (by decide +kernel)) ggX11_handOn_X11_dayOf
set_option maxRecDepth 20000 in
theorem ggX11_handOn_X11_hand : GoodIn wsX11_handOn wsX11_hand := goodIn_r _ [36, 2, 37, 38, 39, 6, 40, 41, 42, 43, 44, 45, 46, 47, 48, 49, 50, 51, 52, 53, 54, 55, 56, 57, 58, 59, 60, 61, 62] rfl (by decide +kernel)
set_option maxRecDepth 20000 in
theorem gX11_handOn_X11_hand : GoodIn wsX11_handOn (wsV RX11 191 RX11 yX11_hand wsX11_hand) := goodIn_app (goodIn_of _ (by decide +kernel)) ggX11_handOn_X11_hand
theorem dX11_handOn_0 : decode cX11_handOn 0 = .ok (.aload_n 0, 1) := by decide +kernel
theorem dX11_handOn_1 : decode cX11_handOn 1 = .ok (.iconst 0, 1) := by decide +kernel
theorem dX11_handOn_2 : decode cX11_handOn 2 = .ok (.putfield 1, 3) := by decide +kernel
theorem dX11_handOn_5 : decode cX11_handOn 5 = .ok (.aload_n 0, 1) := by decide +kernel
theorem dX11_handOn_6 : decode cX11_handOn 6 = .ok (.iload_n 1, 1) := by decide +kernel
theorem dX11_handOn_7 : decode cX11_handOn 7 = .ok (.invokevirtual 109, 3) := by decide +kernel
theorem dX11_handOn_10 : decode cX11_handOn 10 = .ok (.ifCond .ne 39, 3) := by decide +kernel
theorem dX11_handOn_13 : decode cX11_handOn 13 = .ok (.aload_n 0, 1) := by decide +kernel
theorem dX11_handOn_14 : decode cX11_handOn 14 = .ok (.iload_n 2, 1) := by decide +kernel
theorem dX11_handOn_15 : decode cX11_handOn 15 = .ok (.invokestatic 182, 3) := by decide +kernel
theorem dX11_handOn_18 : decode cX11_handOn 18 = .ok (.ifCond .eq 23, 3) := by decide +kernel
theorem dX11_handOn_21 : decode cX11_handOn 21 = .ok (.iload_n 3, 1) := by decide +kernel
theorem dX11_handOn_22 : decode cX11_handOn 22 = .ok (.iconst 0, 1) := by decide +kernel
theorem dX11_handOn_23 : decode cX11_handOn 23 = .ok (.aload_n 0, 1) := by decide +kernel
theorem dX11_handOn_24 : decode cX11_handOn 24 = .ok (.getfield 13, 3) := by decide +kernel
theorem dX11_handOn_27 : decode cX11_handOn 27 = .ok (.sipush 571, 3) := by decide +kernel
theorem dX11_handOn_30 : decode cX11_handOn 30 = .ok (.iaload, 1) := by decide +kernel
theorem dX11_handOn_31 : decode cX11_handOn 31 = .ok (.invokestatic 69, 3) := by decide +kernel
theorem dX11_handOn_34 : decode cX11_handOn 34 = .ok (.ifCond .eq 7, 3) := by decide +kernel
theorem dX11_handOn_37 : decode cX11_handOn 37 = .ok (.iconst 1, 1) := by decide +kernel
theorem dX11_handOn_38 : decode cX11_handOn 38 = .ok (.goto 4, 3) := by decide +kernel
theorem dX11_handOn_41 : decode cX11_handOn 41 = .ok (.iconst 0, 1) := by decide +kernel
theorem dX11_handOn_42 : decode cX11_handOn 42 = .ok (.iconst 2, 1) := by decide +kernel
theorem dX11_handOn_43 : decode cX11_handOn 43 = .ok (.invokevirtual 73, 3) := by decide +kernel
theorem dX11_handOn_46 : decode cX11_handOn 46 = .ok (.ifCond .eq 5, 3) := by decide +kernel
theorem dX11_handOn_49 : decode cX11_handOn 49 = .ok (.iconst 0, 1) := by decide +kernel
theorem dX11_handOn_50 : decode cX11_handOn 50 = .ok (.ireturn, 1) := by decide +kernel
theorem dX11_handOn_51 : decode cX11_handOn 51 = .ok (.aload_n 0, 1) := by decide +kernel
theorem dX11_handOn_52 : decode cX11_handOn 52 = .ok (.iload_n 1, 1) := by decide +kernel
theorem dX11_handOn_53 : decode cX11_handOn 53 = .ok (.iload_n 2, 1) := by decide +kernel
theorem dX11_handOn_54 : decode cX11_handOn 54 = .ok (.invokestatic 185, 3) := by decide +kernel
theorem dX11_handOn_57 : decode cX11_handOn 57 = .ok (.iload_n 3, 1) := by decide +kernel
theorem dX11_handOn_58 : decode cX11_handOn 58 = .ok (.invokevirtual 191, 3) := by decide +kernel
theorem dX11_handOn_61 : decode cX11_handOn 61 = .ok (.ireturn, 1) := by decide +kernel
set_option maxRecDepth 20000 in
theorem ggX11_findsStays_X11_isKnown : GoodIn wsX11_findsStays wsX11_isKnown := goodIn_r _ [8, 3, 13, 14, 15, 16, 17, 18, 19, 20, 21, 22, 23, 24, 25, 26, 27, 28, 29, 30, 31, 32, 33, 34] rfl (by decide +kernel)
set_option maxRecDepth 20000 in
theorem gX11_findsStays_X11_isKnown : GoodIn wsX11_findsStays (wsV RX11 188 RX11 yX11_isKnown wsX11_isKnown) := goodIn_app (goodIn_of _ (by decide +kernel)) ggX11_findsStays_X11_isKnown
set_option maxRecDepth 20000 in
theorem ggX11_findsStays_X11_hand : GoodIn wsX11_findsStays wsX11_hand := goodIn_r _ [12, 3, 4, 5, 6, 7, 8, 13, 14, 15, 16, 17, 18, 19, 20, 21, 22, 23, 24, 25, 26, 27, 28, 29, 30, 31, 32, 33, 34] rfl (by decide +kernel)
set_option maxRecDepth 20000 in
theorem gX11_findsStays_X11_hand : GoodIn wsX11_findsStays (wsV RX11 191 RX11 yX11_hand wsX11_hand) := goodIn_app (goodIn_of _ (by decide +kernel)) ggX11_findsStays_X11_hand
theorem dX11_findsStays_0 : decode cX11_findsStays 0 = .ok (.aload_n 0, 1) := by decide +kernel
theorem dX11_findsStays_1 : decode cX11_findsStays 1 = .ok (.iconst 1, 1) := by decide +kernel
theorem dX11_findsStays_2 : decode cX11_findsStays 2 = .ok (.putfield 195, 3) := by decide +kernel
theorem dX11_findsStays_5 : decode cX11_findsStays 5 = .ok (.aload_n 0, 1) := by decide +kernel
theorem dX11_findsStays_6 : decode cX11_findsStays 6 = .ok (.getfield 41, 3) := by decide +kernel
theorem dX11_findsStays_9 : decode cX11_findsStays 9 = .ok (.iconst 0, 1) := by decide +kernel
theorem dX11_findsStays_10 : decode cX11_findsStays 10 = .ok (.iconst (-1), 1) := by decide +kernel
theorem dX11_findsStays_11 : decode cX11_findsStays 11 = .ok (.iastore, 1) := by decide +kernel
theorem dX11_findsStays_12 : decode cX11_findsStays 12 = .ok (.iconst (-1), 1) := by decide +kernel
theorem dX11_findsStays_13 : decode cX11_findsStays 13 = .ok (.istore_n 3, 1) := by decide +kernel
theorem dX11_findsStays_14 : decode cX11_findsStays 14 = .ok (.bipush 6, 2) := by decide +kernel
theorem dX11_findsStays_16 : decode cX11_findsStays 16 = .ok (.istore 4, 2) := by decide +kernel
theorem dX11_findsStays_18 : decode cX11_findsStays 18 = .ok (.iconst (-1), 1) := by decide +kernel
theorem dX11_findsStays_19 : decode cX11_findsStays 19 = .ok (.istore 5, 2) := by decide +kernel
theorem dX11_findsStays_21 : decode cX11_findsStays 21 = .ok (.iconst 0, 1) := by decide +kernel
theorem dX11_findsStays_22 : decode cX11_findsStays 22 = .ok (.istore 6, 2) := by decide +kernel
theorem dX11_findsStays_24 : decode cX11_findsStays 24 = .ok (.iload 6, 2) := by decide +kernel
theorem dX11_findsStays_26 : decode cX11_findsStays 26 = .ok (.aload_n 0, 1) := by decide +kernel
theorem dX11_findsStays_27 : decode cX11_findsStays 27 = .ok (.getfield 13, 3) := by decide +kernel
theorem dX11_findsStays_30 : decode cX11_findsStays 30 = .ok (.sipush 570, 3) := by decide +kernel
theorem dX11_findsStays_33 : decode cX11_findsStays 33 = .ok (.iaload, 1) := by decide +kernel
theorem dX11_findsStays_34 : decode cX11_findsStays 34 = .ok (.if_icmp .ge 70, 3) := by decide +kernel
theorem dX11_findsStays_37 : decode cX11_findsStays 37 = .ok (.aload_n 0, 1) := by decide +kernel
theorem dX11_findsStays_38 : decode cX11_findsStays 38 = .ok (.getfield 13, 3) := by decide +kernel
theorem dX11_findsStays_41 : decode cX11_findsStays 41 = .ok (.sipush 224, 3) := by decide +kernel
theorem dX11_findsStays_44 : decode cX11_findsStays 44 = .ok (.iload 6, 2) := by decide +kernel
theorem dX11_findsStays_46 : decode cX11_findsStays 46 = .ok (.iadd, 1) := by decide +kernel
theorem dX11_findsStays_47 : decode cX11_findsStays 47 = .ok (.iaload, 1) := by decide +kernel
theorem dX11_findsStays_48 : decode cX11_findsStays 48 = .ok (.istore 7, 2) := by decide +kernel
theorem dX11_findsStays_50 : decode cX11_findsStays 50 = .ok (.aload_n 0, 1) := by decide +kernel
theorem dX11_findsStays_51 : decode cX11_findsStays 51 = .ok (.getfield 13, 3) := by decide +kernel
theorem dX11_findsStays_54 : decode cX11_findsStays 54 = .ok (.sipush 164, 3) := by decide +kernel
theorem dX11_findsStays_57 : decode cX11_findsStays 57 = .ok (.iload 6, 2) := by decide +kernel
theorem dX11_findsStays_59 : decode cX11_findsStays 59 = .ok (.iadd, 1) := by decide +kernel
theorem dX11_findsStays_60 : decode cX11_findsStays 60 = .ok (.iaload, 1) := by decide +kernel
theorem dX11_findsStays_61 : decode cX11_findsStays 61 = .ok (.iload_n 1, 1) := by decide +kernel
theorem dX11_findsStays_62 : decode cX11_findsStays 62 = .ok (.if_icmp .ne 36, 3) := by decide +kernel
theorem dX11_findsStays_65 : decode cX11_findsStays 65 = .ok (.aload_n 0, 1) := by decide +kernel
theorem dX11_findsStays_66 : decode cX11_findsStays 66 = .ok (.iload 6, 2) := by decide +kernel
theorem dX11_findsStays_68 : decode cX11_findsStays 68 = .ok (.iload_n 2, 1) := by decide +kernel
theorem dX11_findsStays_69 : decode cX11_findsStays 69 = .ok (.invokevirtual 188, 3) := by decide +kernel
theorem dX11_findsStays_72 : decode cX11_findsStays 72 = .ok (.ifCond .eq 26, 3) := by decide +kernel
theorem dX11_findsStays_75 : decode cX11_findsStays 75 = .ok (.iload 7, 2) := by decide +kernel
theorem dX11_findsStays_77 : decode cX11_findsStays 77 = .ok (.iload_n 3, 1) := by decide +kernel
theorem dX11_findsStays_78 : decode cX11_findsStays 78 = .ok (.if_icmp .le 20, 3) := by decide +kernel
theorem dX11_findsStays_81 : decode cX11_findsStays 81 = .ok (.iload 5, 2) := by decide +kernel
theorem dX11_findsStays_83 : decode cX11_findsStays 83 = .ok (.iconst (-1), 1) := by decide +kernel
theorem dX11_findsStays_84 : decode cX11_findsStays 84 = .ok (.if_icmp .eq 10, 3) := by decide +kernel
theorem dX11_findsStays_87 : decode cX11_findsStays 87 = .ok (.iload 7, 2) := by decide +kernel
theorem dX11_findsStays_89 : decode cX11_findsStays 89 = .ok (.iload 5, 2) := by decide +kernel
theorem dX11_findsStays_91 : decode cX11_findsStays 91 = .ok (.if_icmp .ge 7, 3) := by decide +kernel
theorem dX11_findsStays_94 : decode cX11_findsStays 94 = .ok (.iload 7, 2) := by decide +kernel
theorem dX11_findsStays_96 : decode cX11_findsStays 96 = .ok (.istore 5, 2) := by decide +kernel
theorem dX11_findsStays_98 : decode cX11_findsStays 98 = .ok (.iinc 6 1, 3) := by decide +kernel
theorem dX11_findsStays_101 : decode cX11_findsStays 101 = .ok (.goto (-77), 3) := by decide +kernel
theorem dX11_findsStays_104 : decode cX11_findsStays 104 = .ok (.iload 5, 2) := by decide +kernel
theorem dX11_findsStays_106 : decode cX11_findsStays 106 = .ok (.iconst (-1), 1) := by decide +kernel
theorem dX11_findsStays_107 : decode cX11_findsStays 107 = .ok (.if_icmp .ne 4, 3) := by decide +kernel
theorem dX11_findsStays_110 : decode cX11_findsStays 110 = .ok (.return_, 1) := by decide +kernel
theorem dX11_findsStays_111 : decode cX11_findsStays 111 = .ok (.iload 5, 2) := by decide +kernel
theorem dX11_findsStays_113 : decode cX11_findsStays 113 = .ok (.istore_n 3, 1) := by decide +kernel
theorem dX11_findsStays_114 : decode cX11_findsStays 114 = .ok (.aload_n 0, 1) := by decide +kernel
theorem dX11_findsStays_115 : decode cX11_findsStays 115 = .ok (.iload_n 1, 1) := by decide +kernel
theorem dX11_findsStays_116 : decode cX11_findsStays 116 = .ok (.iload_n 3, 1) := by decide +kernel
theorem dX11_findsStays_117 : decode cX11_findsStays 117 = .ok (.iload_n 2, 1) := by decide +kernel
theorem dX11_findsStays_118 : decode cX11_findsStays 118 = .ok (.invokevirtual 191, 3) := by decide +kernel
theorem dX11_findsStays_121 : decode cX11_findsStays 121 = .ok (.iload 4, 2) := by decide +kernel
theorem dX11_findsStays_123 : decode cX11_findsStays 123 = .ok (.if_icmp .ne 6, 3) := by decide +kernel
theorem dX11_findsStays_126 : decode cX11_findsStays 126 = .ok (.goto (-108), 3) := by decide +kernel
theorem dX11_findsStays_129 : decode cX11_findsStays 129 = .ok (.aload_n 0, 1) := by decide +kernel
theorem dX11_findsStays_130 : decode cX11_findsStays 130 = .ok (.iload_n 1, 1) := by decide +kernel
theorem dX11_findsStays_131 : decode cX11_findsStays 131 = .ok (.iload_n 3, 1) := by decide +kernel
theorem dX11_findsStays_132 : decode cX11_findsStays 132 = .ok (.iload_n 2, 1) := by decide +kernel
theorem dX11_findsStays_133 : decode cX11_findsStays 133 = .ok (.invokevirtual 191, 3) := by decide +kernel
theorem dX11_findsStays_136 : decode cX11_findsStays 136 = .ok (.istore 4, 2) := by decide +kernel
theorem dX11_findsStays_138 : decode cX11_findsStays 138 = .ok (.aload_n 0, 1) := by decide +kernel
theorem dX11_findsStays_139 : decode cX11_findsStays 139 = .ok (.getfield 41, 3) := by decide +kernel
theorem dX11_findsStays_142 : decode cX11_findsStays 142 = .ok (.aload_n 0, 1) := by decide +kernel
theorem dX11_findsStays_143 : decode cX11_findsStays 143 = .ok (.getfield 195, 3) := by decide +kernel
theorem dX11_findsStays_146 : decode cX11_findsStays 146 = .ok (.iload_n 3, 1) := by decide +kernel
theorem dX11_findsStays_147 : decode cX11_findsStays 147 = .ok (.iastore, 1) := by decide +kernel
theorem dX11_findsStays_148 : decode cX11_findsStays 148 = .ok (.aload_n 0, 1) := by decide +kernel
theorem dX11_findsStays_149 : decode cX11_findsStays 149 = .ok (.dup, 1) := by decide +kernel
theorem dX11_findsStays_150 : decode cX11_findsStays 150 = .ok (.getfield 195, 3) := by decide +kernel
theorem dX11_findsStays_153 : decode cX11_findsStays 153 = .ok (.iconst 1, 1) := by decide +kernel
theorem dX11_findsStays_154 : decode cX11_findsStays 154 = .ok (.iadd, 1) := by decide +kernel
theorem dX11_findsStays_155 : decode cX11_findsStays 155 = .ok (.putfield 195, 3) := by decide +kernel
theorem dX11_findsStays_158 : decode cX11_findsStays 158 = .ok (.goto (-140), 3) := by decide +kernel
set_option maxRecDepth 20000 in
theorem ggX11_stays_X11_noStone : GoodIn wsX11_stays wsX11_noStone := goodIn_r _ [8, 9, 10, 11, 7, 12, 2, 13, 14, 15, 16, 17, 18, 19, 1, 33, 34, 35, 36, 37, 38, 39, 40, 41, 42, 43, 44, 45, 46, 47, 48, 49, 50, 51, 52, 53, 54] rfl (by decide +kernel)
set_option maxRecDepth 20000 in
theorem gX11_stays_X11_noStone : GoodIn wsX11_stays (wsV RX11 109 RX11 yX11_noStone wsX11_noStone) := goodIn_app (goodIn_of _ (by decide +kernel)) ggX11_stays_X11_noStone
set_option maxRecDepth 20000 in
theorem ggX11_stays_X11_in : GoodIn wsX11_stays wsX11_in := goodIn_r _ [15] rfl (by decide +kernel)
set_option maxRecDepth 20000 in
theorem gX11_stays_X11_in : GoodIn wsX11_stays (va_wsS RX11 69 yX11_in wsX11_in) := goodIn_app (goodIn_of _ (by decide +kernel)) ggX11_stays_X11_in
set_option maxRecDepth 20000 in
theorem ggX11_stays_X11_fails : GoodIn wsX11_stays wsX11_fails := goodIn_r _ [19, 1, 33, 34, 35, 36, 37, 38, 39, 40, 41, 42, 43, 44, 45, 46, 47, 48, 49, 50, 51, 52, 53, 54] rfl (by decide +kernel)
set_option maxRecDepth 20000 in
theorem gX11_stays_X11_fails : GoodIn wsX11_stays (wsV RX11 73 RX11 yX11_fails wsX11_fails) := goodIn_app (goodIn_of _ (by decide +kernel)) ggX11_stays_X11_fails
set_option maxRecDepth 20000 in
theorem ggX11_stays_X11_findsStays : GoodIn wsX11_stays wsX11_findsStays := goodIn_r _ [23, 3, 24, 2, 25, 26, 27, 7, 28, 29, 30, 31, 32, 33, 34, 35, 36, 37, 38, 39, 40, 41, 42, 43, 44, 45, 46, 47, 48, 49, 50, 51, 52, 53, 54] rfl (by decide +kernel)
set_option maxRecDepth 20000 in
theorem gX11_stays_X11_findsStays : GoodIn wsX11_stays (wsV RX11 198 RX11 yX11_findsStays wsX11_findsStays) := goodIn_app (goodIn_of _ (by decide +kernel)) ggX11_stays_X11_findsStays
theorem dX11_stays_0 : decode cX11_stays 0 = .ok (.aload_n 0, 1) := by decide +kernel
theorem dX11_stays_1 : decode cX11_stays 1 = .ok (.iconst 0, 1) := by decide +kernel
theorem dX11_stays_2 : decode cX11_stays 2 = .ok (.putfield 1, 3) := by decide +kernel
theorem dX11_stays_5 : decode cX11_stays 5 = .ok (.aload_n 0, 1) := by decide +kernel
theorem dX11_stays_6 : decode cX11_stays 6 = .ok (.iload_n 1, 1) := by decide +kernel
theorem dX11_stays_7 : decode cX11_stays 7 = .ok (.invokevirtual 109, 3) := by decide +kernel
theorem dX11_stays_10 : decode cX11_stays 10 = .ok (.ifCond .ne 24, 3) := by decide +kernel
theorem dX11_stays_13 : decode cX11_stays 13 = .ok (.aload_n 0, 1) := by decide +kernel
theorem dX11_stays_14 : decode cX11_stays 14 = .ok (.iload_n 2, 1) := by decide +kernel
theorem dX11_stays_15 : decode cX11_stays 15 = .ok (.iconst 0, 1) := by decide +kernel
theorem dX11_stays_16 : decode cX11_stays 16 = .ok (.aload_n 0, 1) := by decide +kernel
theorem dX11_stays_17 : decode cX11_stays 17 = .ok (.getfield 13, 3) := by decide +kernel
theorem dX11_stays_20 : decode cX11_stays 20 = .ok (.sipush 571, 3) := by decide +kernel
theorem dX11_stays_23 : decode cX11_stays 23 = .ok (.iaload, 1) := by decide +kernel
theorem dX11_stays_24 : decode cX11_stays 24 = .ok (.invokestatic 69, 3) := by decide +kernel
theorem dX11_stays_27 : decode cX11_stays 27 = .ok (.iconst 2, 1) := by decide +kernel
theorem dX11_stays_28 : decode cX11_stays 28 = .ok (.invokevirtual 73, 3) := by decide +kernel
theorem dX11_stays_31 : decode cX11_stays 31 = .ok (.ifCond .eq 5, 3) := by decide +kernel
theorem dX11_stays_34 : decode cX11_stays 34 = .ok (.iconst 0, 1) := by decide +kernel
theorem dX11_stays_35 : decode cX11_stays 35 = .ok (.ireturn, 1) := by decide +kernel
theorem dX11_stays_36 : decode cX11_stays 36 = .ok (.aload_n 0, 1) := by decide +kernel
theorem dX11_stays_37 : decode cX11_stays 37 = .ok (.iload_n 1, 1) := by decide +kernel
theorem dX11_stays_38 : decode cX11_stays 38 = .ok (.iload_n 2, 1) := by decide +kernel
theorem dX11_stays_39 : decode cX11_stays 39 = .ok (.invokevirtual 198, 3) := by decide +kernel
theorem dX11_stays_42 : decode cX11_stays 42 = .ok (.aload_n 0, 1) := by decide +kernel
theorem dX11_stays_43 : decode cX11_stays 43 = .ok (.getfield 195, 3) := by decide +kernel
theorem dX11_stays_46 : decode cX11_stays 46 = .ok (.ireturn, 1) := by decide +kernel
set_option maxRecDepth 20000 in
theorem ggX11_stayAt_X11_noStone : GoodIn wsX11_stayAt wsX11_noStone := goodIn_r _ [9, 10, 11, 12, 8, 13, 2, 14, 15, 16, 17, 18, 19, 20, 1, 42, 43, 44, 45, 46, 47, 48, 49, 50, 51, 52, 53, 54, 55, 56, 57, 58, 59, 60, 61, 62, 63] rfl (by decide +kernel)
set_option maxRecDepth 20000 in
theorem gX11_stayAt_X11_noStone : GoodIn wsX11_stayAt (wsV RX11 109 RX11 yX11_noStone wsX11_noStone) := goodIn_app (goodIn_of _ (by decide +kernel)) ggX11_stayAt_X11_noStone
set_option maxRecDepth 20000 in
theorem ggX11_stayAt_X11_findsStays : GoodIn wsX11_stayAt wsX11_findsStays := goodIn_r _ [24, 3, 4, 2, 25, 26, 27, 8, 28, 29, 30, 31, 32, 42, 43, 44, 45, 46, 47, 48, 49, 50, 51, 52, 53, 54, 55, 56, 57, 58, 59, 60, 61, 62, 63] rfl (by decide +kernel)
set_option maxRecDepth 20000 in
theorem gX11_stayAt_X11_findsStays : GoodIn wsX11_stayAt (wsV RX11 198 RX11 yX11_findsStays wsX11_findsStays) := goodIn_app (goodIn_of _ (by decide +kernel)) ggX11_stayAt_X11_findsStays
set_option maxRecDepth 20000 in
theorem ggX11_stayAt_X11_in : GoodIn wsX11_stayAt wsX11_in := goodIn_r _ [16] rfl (by decide +kernel)
set_option maxRecDepth 20000 in
theorem gX11_stayAt_X11_in : GoodIn wsX11_stayAt (va_wsS RX11 69 yX11_in wsX11_in) := goodIn_app (goodIn_of _ (by decide +kernel)) ggX11_stayAt_X11_in
set_option maxRecDepth 20000 in
theorem ggX11_stayAt_X11_fails : GoodIn wsX11_stayAt wsX11_fails := goodIn_r _ [20, 1, 42, 43, 44, 45, 46, 47, 48, 49, 50, 51, 52, 53, 54, 55, 56, 57, 58, 59, 60, 61, 62, 63] rfl (by decide +kernel)
set_option maxRecDepth 20000 in
theorem gX11_stayAt_X11_fails : GoodIn wsX11_stayAt (wsV RX11 73 RX11 yX11_fails wsX11_fails) := goodIn_app (goodIn_of _ (by decide +kernel)) ggX11_stayAt_X11_fails
set_option maxRecDepth 20000 in
theorem ggX11_stayAt_X11_hand : GoodIn wsX11_stayAt wsX11_hand := goodIn_r _ [32, 2, 25, 26, 27, 8, 28, 42, 43, 44, 45, 46, 47, 48, 49, 50, 51, 52, 53, 54, 55, 56, 57, 58, 59, 60, 61, 62, 63] rfl (by decide +kernel)
set_option maxRecDepth 20000 in
theorem gX11_stayAt_X11_hand : GoodIn wsX11_stayAt (wsV RX11 191 RX11 yX11_hand wsX11_hand) := goodIn_app (goodIn_of _ (by decide +kernel)) ggX11_stayAt_X11_hand
set_option maxRecDepth 20000 in
theorem ggX11_stayAt_X11_dateOf : GoodIn wsX11_stayAt wsX11_dateOf := goodIn_r _ [35, 36, 37, 8, 38, 39, 40, 41] rfl (by decide +kernel)
set_option maxRecDepth 20000 in
theorem gX11_stayAt_X11_dateOf : GoodIn wsX11_stayAt (va_wsS RX11 202 yX11_dateOf wsX11_dateOf) := goodIn_app (goodIn_of _ (by decide +kernel)) ggX11_stayAt_X11_dateOf
theorem dX11_stayAt_0 : decode cX11_stayAt 0 = .ok (.aload_n 0, 1) := by decide +kernel
theorem dX11_stayAt_1 : decode cX11_stayAt 1 = .ok (.iconst 0, 1) := by decide +kernel
theorem dX11_stayAt_2 : decode cX11_stayAt 2 = .ok (.putfield 1, 3) := by decide +kernel
theorem dX11_stayAt_5 : decode cX11_stayAt 5 = .ok (.aload_n 0, 1) := by decide +kernel
theorem dX11_stayAt_6 : decode cX11_stayAt 6 = .ok (.iload_n 1, 1) := by decide +kernel
theorem dX11_stayAt_7 : decode cX11_stayAt 7 = .ok (.invokevirtual 109, 3) := by decide +kernel
theorem dX11_stayAt_10 : decode cX11_stayAt 10 = .ok (.ifCond .eq 5, 3) := by decide +kernel
theorem dX11_stayAt_13 : decode cX11_stayAt 13 = .ok (.iconst 0, 1) := by decide +kernel
theorem dX11_stayAt_14 : decode cX11_stayAt 14 = .ok (.ireturn, 1) := by decide +kernel
theorem dX11_stayAt_15 : decode cX11_stayAt 15 = .ok (.aload_n 0, 1) := by decide +kernel
theorem dX11_stayAt_16 : decode cX11_stayAt 16 = .ok (.iload_n 1, 1) := by decide +kernel
theorem dX11_stayAt_17 : decode cX11_stayAt 17 = .ok (.aload_n 0, 1) := by decide +kernel
theorem dX11_stayAt_18 : decode cX11_stayAt 18 = .ok (.getfield 13, 3) := by decide +kernel
theorem dX11_stayAt_21 : decode cX11_stayAt 21 = .ok (.sipush 571, 3) := by decide +kernel
theorem dX11_stayAt_24 : decode cX11_stayAt 24 = .ok (.iaload, 1) := by decide +kernel
theorem dX11_stayAt_25 : decode cX11_stayAt 25 = .ok (.invokevirtual 198, 3) := by decide +kernel
theorem dX11_stayAt_28 : decode cX11_stayAt 28 = .ok (.aload_n 0, 1) := by decide +kernel
theorem dX11_stayAt_29 : decode cX11_stayAt 29 = .ok (.iload_n 2, 1) := by decide +kernel
theorem dX11_stayAt_30 : decode cX11_stayAt 30 = .ok (.iconst 0, 1) := by decide +kernel
theorem dX11_stayAt_31 : decode cX11_stayAt 31 = .ok (.aload_n 0, 1) := by decide +kernel
theorem dX11_stayAt_32 : decode cX11_stayAt 32 = .ok (.getfield 195, 3) := by decide +kernel
theorem dX11_stayAt_35 : decode cX11_stayAt 35 = .ok (.iconst 1, 1) := by decide +kernel
theorem dX11_stayAt_36 : decode cX11_stayAt 36 = .ok (.isub, 1) := by decide +kernel
theorem dX11_stayAt_37 : decode cX11_stayAt 37 = .ok (.invokestatic 69, 3) := by decide +kernel
theorem dX11_stayAt_40 : decode cX11_stayAt 40 = .ok (.iconst 1, 1) := by decide +kernel
theorem dX11_stayAt_41 : decode cX11_stayAt 41 = .ok (.invokevirtual 73, 3) := by decide +kernel
theorem dX11_stayAt_44 : decode cX11_stayAt 44 = .ok (.ifCond .ne 17, 3) := by decide +kernel
theorem dX11_stayAt_47 : decode cX11_stayAt 47 = .ok (.aload_n 0, 1) := by decide +kernel
theorem dX11_stayAt_48 : decode cX11_stayAt 48 = .ok (.iload_n 3, 1) := by decide +kernel
theorem dX11_stayAt_49 : decode cX11_stayAt 49 = .ok (.iconst 0, 1) := by decide +kernel
theorem dX11_stayAt_50 : decode cX11_stayAt 50 = .ok (.iconst 2, 1) := by decide +kernel
theorem dX11_stayAt_51 : decode cX11_stayAt 51 = .ok (.invokestatic 69, 3) := by decide +kernel
theorem dX11_stayAt_54 : decode cX11_stayAt 54 = .ok (.iconst 2, 1) := by decide +kernel
theorem dX11_stayAt_55 : decode cX11_stayAt 55 = .ok (.invokevirtual 73, 3) := by decide +kernel
theorem dX11_stayAt_58 : decode cX11_stayAt 58 = .ok (.ifCond .eq 5, 3) := by decide +kernel
theorem dX11_stayAt_61 : decode cX11_stayAt 61 = .ok (.iconst 0, 1) := by decide +kernel
theorem dX11_stayAt_62 : decode cX11_stayAt 62 = .ok (.ireturn, 1) := by decide +kernel
theorem dX11_stayAt_63 : decode cX11_stayAt 63 = .ok (.iload_n 3, 1) := by decide +kernel
theorem dX11_stayAt_64 : decode cX11_stayAt 64 = .ok (.ifCond .ne 32, 3) := by decide +kernel
theorem dX11_stayAt_67 : decode cX11_stayAt 67 = .ok (.iload_n 2, 1) := by decide +kernel
theorem dX11_stayAt_68 : decode cX11_stayAt 68 = .ok (.ifCond .ne 8, 3) := by decide +kernel
theorem dX11_stayAt_71 : decode cX11_stayAt 71 = .ok (.bipush 6, 2) := by decide +kernel
theorem dX11_stayAt_73 : decode cX11_stayAt 73 = .ok (.goto 22, 3) := by decide +kernel
theorem dX11_stayAt_76 : decode cX11_stayAt 76 = .ok (.aload_n 0, 1) := by decide +kernel
theorem dX11_stayAt_77 : decode cX11_stayAt 77 = .ok (.iload_n 1, 1) := by decide +kernel
theorem dX11_stayAt_78 : decode cX11_stayAt 78 = .ok (.aload_n 0, 1) := by decide +kernel
theorem dX11_stayAt_79 : decode cX11_stayAt 79 = .ok (.getfield 41, 3) := by decide +kernel
theorem dX11_stayAt_82 : decode cX11_stayAt 82 = .ok (.iload_n 2, 1) := by decide +kernel
theorem dX11_stayAt_83 : decode cX11_stayAt 83 = .ok (.iaload, 1) := by decide +kernel
theorem dX11_stayAt_84 : decode cX11_stayAt 84 = .ok (.aload_n 0, 1) := by decide +kernel
theorem dX11_stayAt_85 : decode cX11_stayAt 85 = .ok (.getfield 13, 3) := by decide +kernel
theorem dX11_stayAt_88 : decode cX11_stayAt 88 = .ok (.sipush 571, 3) := by decide +kernel
theorem dX11_stayAt_91 : decode cX11_stayAt 91 = .ok (.iaload, 1) := by decide +kernel
theorem dX11_stayAt_92 : decode cX11_stayAt 92 = .ok (.invokevirtual 191, 3) := by decide +kernel
theorem dX11_stayAt_95 : decode cX11_stayAt 95 = .ok (.ireturn, 1) := by decide +kernel
theorem dX11_stayAt_96 : decode cX11_stayAt 96 = .ok (.iload_n 3, 1) := by decide +kernel
theorem dX11_stayAt_97 : decode cX11_stayAt 97 = .ok (.iconst 1, 1) := by decide +kernel
theorem dX11_stayAt_98 : decode cX11_stayAt 98 = .ok (.if_icmp .ne 21, 3) := by decide +kernel
theorem dX11_stayAt_101 : decode cX11_stayAt 101 = .ok (.iload_n 2, 1) := by decide +kernel
theorem dX11_stayAt_102 : decode cX11_stayAt 102 = .ok (.ifCond .ne 7, 3) := by decide +kernel
theorem dX11_stayAt_105 : decode cX11_stayAt 105 = .ok (.iconst (-1), 1) := by decide +kernel
theorem dX11_stayAt_106 : decode cX11_stayAt 106 = .ok (.goto 12, 3) := by decide +kernel
theorem dX11_stayAt_109 : decode cX11_stayAt 109 = .ok (.aload_n 0, 1) := by decide +kernel
theorem dX11_stayAt_110 : decode cX11_stayAt 110 = .ok (.getfield 41, 3) := by decide +kernel
theorem dX11_stayAt_113 : decode cX11_stayAt 113 = .ok (.iload_n 2, 1) := by decide +kernel
theorem dX11_stayAt_114 : decode cX11_stayAt 114 = .ok (.iaload, 1) := by decide +kernel
theorem dX11_stayAt_115 : decode cX11_stayAt 115 = .ok (.invokestatic 202, 3) := by decide +kernel
theorem dX11_stayAt_118 : decode cX11_stayAt 118 = .ok (.ireturn, 1) := by decide +kernel
theorem dX11_stayAt_119 : decode cX11_stayAt 119 = .ok (.iload_n 2, 1) := by decide +kernel
theorem dX11_stayAt_120 : decode cX11_stayAt 120 = .ok (.aload_n 0, 1) := by decide +kernel
theorem dX11_stayAt_121 : decode cX11_stayAt 121 = .ok (.getfield 195, 3) := by decide +kernel
theorem dX11_stayAt_124 : decode cX11_stayAt 124 = .ok (.iconst 1, 1) := by decide +kernel
theorem dX11_stayAt_125 : decode cX11_stayAt 125 = .ok (.isub, 1) := by decide +kernel
theorem dX11_stayAt_126 : decode cX11_stayAt 126 = .ok (.if_icmp .ne 7, 3) := by decide +kernel
theorem dX11_stayAt_129 : decode cX11_stayAt 129 = .ok (.iconst (-1), 1) := by decide +kernel
theorem dX11_stayAt_130 : decode cX11_stayAt 130 = .ok (.goto 16, 3) := by decide +kernel
theorem dX11_stayAt_133 : decode cX11_stayAt 133 = .ok (.aload_n 0, 1) := by decide +kernel
theorem dX11_stayAt_134 : decode cX11_stayAt 134 = .ok (.getfield 41, 3) := by decide +kernel
theorem dX11_stayAt_137 : decode cX11_stayAt 137 = .ok (.iload_n 2, 1) := by decide +kernel
theorem dX11_stayAt_138 : decode cX11_stayAt 138 = .ok (.iconst 1, 1) := by decide +kernel
theorem dX11_stayAt_139 : decode cX11_stayAt 139 = .ok (.iadd, 1) := by decide +kernel
theorem dX11_stayAt_140 : decode cX11_stayAt 140 = .ok (.iaload, 1) := by decide +kernel
theorem dX11_stayAt_141 : decode cX11_stayAt 141 = .ok (.iconst 1, 1) := by decide +kernel
theorem dX11_stayAt_142 : decode cX11_stayAt 142 = .ok (.isub, 1) := by decide +kernel
theorem dX11_stayAt_143 : decode cX11_stayAt 143 = .ok (.invokestatic 202, 3) := by decide +kernel
theorem dX11_stayAt_146 : decode cX11_stayAt 146 = .ok (.ireturn, 1) := by decide +kernel
set_option maxRecDepth 20000 in
theorem ggX11_noStretch_X11_noStone : GoodIn wsX11_noStretch wsX11_noStone := goodIn_r _ [5, 6, 7, 8, 4, 9, 10, 11, 12, 13, 14, 15, 16, 17, 18, 30, 31, 32, 33, 34, 35, 36, 37, 38, 39, 40, 41, 42, 43, 44, 45, 46, 47, 48, 49, 50, 51] rfl (by decide +kernel)
set_option maxRecDepth 20000 in
theorem gX11_noStretch_X11_noStone : GoodIn wsX11_noStretch (wsV RX11 109 RX11 yX11_noStone wsX11_noStone) := goodIn_app (goodIn_of _ (by decide +kernel)) ggX11_noStretch_X11_noStone
set_option maxRecDepth 20000 in
theorem ggX11_noStretch_X11_isDate : GoodIn wsX11_noStretch wsX11_isDate := goodIn_r _ [21, 22, 23, 11, 12, 4, 13, 24, 25, 26, 27, 28, 29] rfl (by decide +kernel)
set_option maxRecDepth 20000 in
theorem gX11_noStretch_X11_isDate : GoodIn wsX11_noStretch (va_wsS RX11 182 yX11_isDate wsX11_isDate) := goodIn_app (goodIn_of _ (by decide +kernel)) ggX11_noStretch_X11_isDate
set_option maxRecDepth 20000 in
theorem ggX11_noStretch_X11_fails : GoodIn wsX11_noStretch wsX11_fails := goodIn_r _ [17, 18, 30, 31, 32, 33, 34, 35, 36, 37, 38, 39, 40, 41, 42, 43, 44, 45, 46, 47, 48, 49, 50, 51] rfl (by decide +kernel)
set_option maxRecDepth 20000 in
theorem gX11_noStretch_X11_fails : GoodIn wsX11_noStretch (wsV RX11 73 RX11 yX11_fails wsX11_fails) := goodIn_app (goodIn_of _ (by decide +kernel)) ggX11_noStretch_X11_fails
theorem dX11_noStretch_0 : decode cX11_noStretch 0 = .ok (.aload_n 0, 1) := by decide +kernel
theorem dX11_noStretch_1 : decode cX11_noStretch 1 = .ok (.iload_n 1, 1) := by decide +kernel
theorem dX11_noStretch_2 : decode cX11_noStretch 2 = .ok (.invokevirtual 109, 3) := by decide +kernel
theorem dX11_noStretch_5 : decode cX11_noStretch 5 = .ok (.ifCond .ne 35, 3) := by decide +kernel
theorem dX11_noStretch_8 : decode cX11_noStretch 8 = .ok (.aload_n 0, 1) := by decide +kernel
theorem dX11_noStretch_9 : decode cX11_noStretch 9 = .ok (.iload_n 2, 1) := by decide +kernel
theorem dX11_noStretch_10 : decode cX11_noStretch 10 = .ok (.invokestatic 182, 3) := by decide +kernel
theorem dX11_noStretch_13 : decode cX11_noStretch 13 = .ok (.ifCond .eq 19, 3) := by decide +kernel
theorem dX11_noStretch_16 : decode cX11_noStretch 16 = .ok (.iload_n 3, 1) := by decide +kernel
theorem dX11_noStretch_17 : decode cX11_noStretch 17 = .ok (.invokestatic 182, 3) := by decide +kernel
theorem dX11_noStretch_20 : decode cX11_noStretch 20 = .ok (.ifCond .eq 12, 3) := by decide +kernel
theorem dX11_noStretch_23 : decode cX11_noStretch 23 = .ok (.iload_n 2, 1) := by decide +kernel
theorem dX11_noStretch_24 : decode cX11_noStretch 24 = .ok (.iload_n 3, 1) := by decide +kernel
theorem dX11_noStretch_25 : decode cX11_noStretch 25 = .ok (.if_icmp .gt 7, 3) := by decide +kernel
theorem dX11_noStretch_28 : decode cX11_noStretch 28 = .ok (.iconst 1, 1) := by decide +kernel
theorem dX11_noStretch_29 : decode cX11_noStretch 29 = .ok (.goto 4, 3) := by decide +kernel
theorem dX11_noStretch_32 : decode cX11_noStretch 32 = .ok (.iconst 0, 1) := by decide +kernel
theorem dX11_noStretch_33 : decode cX11_noStretch 33 = .ok (.iconst 2, 1) := by decide +kernel
theorem dX11_noStretch_34 : decode cX11_noStretch 34 = .ok (.invokevirtual 73, 3) := by decide +kernel
theorem dX11_noStretch_37 : decode cX11_noStretch 37 = .ok (.ifCond .eq 7, 3) := by decide +kernel
theorem dX11_noStretch_40 : decode cX11_noStretch 40 = .ok (.iconst 1, 1) := by decide +kernel
theorem dX11_noStretch_41 : decode cX11_noStretch 41 = .ok (.goto 4, 3) := by decide +kernel
theorem dX11_noStretch_44 : decode cX11_noStretch 44 = .ok (.iconst 0, 1) := by decide +kernel
theorem dX11_noStretch_45 : decode cX11_noStretch 45 = .ok (.ireturn, 1) := by decide +kernel
set_option maxRecDepth 20000 in
theorem ggX11_away_X11_noStretch : GoodIn wsX11_away wsX11_noStretch := goodIn_r _ [7, 8, 9, 10, 6, 11, 12, 13, 14, 15, 2, 16, 17, 18, 19, 20, 21, 22, 1, 23, 24, 25, 26, 27, 28, 29, 30, 31, 32, 33, 45, 46, 47, 48, 49, 50, 51, 52, 53, 54, 55, 56, 57, 58, 59, 60, 61, 62, 63, 64, 65, 66] rfl (by decide +kernel)
set_option maxRecDepth 20000 in
theorem gX11_away_X11_noStretch : GoodIn wsX11_away (wsV RX11 205 RX11 yX11_noStretch wsX11_noStretch) := goodIn_app (goodIn_of _ (by decide +kernel)) ggX11_away_X11_noStretch
set_option maxRecDepth 20000 in
theorem ggX11_away_X11_dayOf : GoodIn wsX11_away wsX11_dayOf := goodIn_r _ [36, 31, 32, 6, 33, 28, 29, 30] rfl (by decide +kernel)
set_option maxRecDepth 20000 in
theorem gX11_away_X11_dayOf : GoodIn wsX11_away (va_wsS RX11 185 yX11_dayOf wsX11_dayOf) := goodIn_app (goodIn_of _ (by decide +kernel)) ggX11_away_X11_dayOf
set_option maxRecDepth 20000 in
theorem ggX11_away_X11_hand : GoodIn wsX11_away wsX11_hand := goodIn_r _ [40, 2, 41, 42, 43, 6, 44, 45, 46, 47, 48, 49, 50, 51, 52, 53, 54, 55, 56, 57, 58, 59, 60, 61, 62, 63, 64, 65, 66] rfl (by decide +kernel)
set_option maxRecDepth 20000 in
theorem gX11_away_X11_hand : GoodIn wsX11_away (wsV RX11 191 RX11 yX11_hand wsX11_hand) := goodIn_app (goodIn_of _ (by decide +kernel)) ggX11_away_X11_hand
theorem dX11_away_0 : decode cX11_away 0 = .ok (.aload_n 0, 1) := by decide +kernel
theorem dX11_away_1 : decode cX11_away 1 = .ok (.iconst 0, 1) := by decide +kernel
theorem dX11_away_2 : decode cX11_away 2 = .ok (.putfield 1, 3) := by decide +kernel
theorem dX11_away_5 : decode cX11_away 5 = .ok (.aload_n 0, 1) := by decide +kernel
theorem dX11_away_6 : decode cX11_away 6 = .ok (.iload_n 1, 1) := by decide +kernel
theorem dX11_away_7 : decode cX11_away 7 = .ok (.iload_n 2, 1) := by decide +kernel
theorem dX11_away_8 : decode cX11_away 8 = .ok (.iload_n 3, 1) := by decide +kernel
theorem dX11_away_9 : decode cX11_away 9 = .ok (.invokevirtual 205, 3) := by decide +kernel
theorem dX11_away_12 : decode cX11_away 12 = .ok (.ifCond .eq 5, 3) := by decide +kernel
theorem dX11_away_15 : decode cX11_away 15 = .ok (.iconst 0, 1) := by decide +kernel
theorem dX11_away_16 : decode cX11_away 16 = .ok (.ireturn, 1) := by decide +kernel
theorem dX11_away_17 : decode cX11_away 17 = .ok (.iconst 0, 1) := by decide +kernel
theorem dX11_away_18 : decode cX11_away 18 = .ok (.istore 4, 2) := by decide +kernel
theorem dX11_away_20 : decode cX11_away 20 = .ok (.iload_n 2, 1) := by decide +kernel
theorem dX11_away_21 : decode cX11_away 21 = .ok (.invokestatic 185, 3) := by decide +kernel
theorem dX11_away_24 : decode cX11_away 24 = .ok (.istore 5, 2) := by decide +kernel
theorem dX11_away_26 : decode cX11_away 26 = .ok (.iload 5, 2) := by decide +kernel
theorem dX11_away_28 : decode cX11_away 28 = .ok (.iload_n 3, 1) := by decide +kernel
theorem dX11_away_29 : decode cX11_away 29 = .ok (.invokestatic 185, 3) := by decide +kernel
theorem dX11_away_32 : decode cX11_away 32 = .ok (.if_icmp .gt 37, 3) := by decide +kernel
theorem dX11_away_35 : decode cX11_away 35 = .ok (.iload 4, 2) := by decide +kernel
theorem dX11_away_37 : decode cX11_away 37 = .ok (.aload_n 0, 1) := by decide +kernel
theorem dX11_away_38 : decode cX11_away 38 = .ok (.iload_n 1, 1) := by decide +kernel
theorem dX11_away_39 : decode cX11_away 39 = .ok (.iload 5, 2) := by decide +kernel
theorem dX11_away_41 : decode cX11_away 41 = .ok (.aload_n 0, 1) := by decide +kernel
theorem dX11_away_42 : decode cX11_away 42 = .ok (.getfield 13, 3) := by decide +kernel
theorem dX11_away_45 : decode cX11_away 45 = .ok (.sipush 571, 3) := by decide +kernel
theorem dX11_away_48 : decode cX11_away 48 = .ok (.iaload, 1) := by decide +kernel
theorem dX11_away_49 : decode cX11_away 49 = .ok (.invokevirtual 191, 3) := by decide +kernel
theorem dX11_away_52 : decode cX11_away 52 = .ok (.ifCond .eq 7, 3) := by decide +kernel
theorem dX11_away_55 : decode cX11_away 55 = .ok (.iconst 1, 1) := by decide +kernel
theorem dX11_away_56 : decode cX11_away 56 = .ok (.goto 4, 3) := by decide +kernel
theorem dX11_away_59 : decode cX11_away 59 = .ok (.iconst 0, 1) := by decide +kernel
theorem dX11_away_60 : decode cX11_away 60 = .ok (.iadd, 1) := by decide +kernel
theorem dX11_away_61 : decode cX11_away 61 = .ok (.istore 4, 2) := by decide +kernel
theorem dX11_away_63 : decode cX11_away 63 = .ok (.iinc 5 1, 3) := by decide +kernel
theorem dX11_away_66 : decode cX11_away 66 = .ok (.goto (-40), 3) := by decide +kernel
theorem dX11_away_69 : decode cX11_away 69 = .ok (.iload 4, 2) := by decide +kernel
theorem dX11_away_71 : decode cX11_away 71 = .ok (.ireturn, 1) := by decide +kernel
set_option maxRecDepth 20000 in
theorem ggX11_fee_X11_noStretch : GoodIn wsX11_fee wsX11_noStretch := goodIn_r _ [8, 9, 10, 11, 7, 12, 13, 14, 15, 16, 2, 17, 18, 19, 20, 21, 22, 23, 1, 24, 25, 26, 27, 28, 29, 30, 31, 32, 33, 34, 46, 47, 48, 49, 50, 51, 52, 53, 54, 55, 56, 57, 58, 59, 60, 61, 62, 63, 64, 65, 66, 67] rfl (by decide +kernel)
set_option maxRecDepth 20000 in
theorem gX11_fee_X11_noStretch : GoodIn wsX11_fee (wsV RX11 205 RX11 yX11_noStretch wsX11_noStretch) := goodIn_app (goodIn_of _ (by decide +kernel)) ggX11_fee_X11_noStretch
set_option maxRecDepth 20000 in
theorem ggX11_fee_X11_dayOf : GoodIn wsX11_fee wsX11_dayOf := goodIn_r _ [37, 32, 33, 7, 34, 29, 30, 31] rfl (by decide +kernel)
set_option maxRecDepth 20000 in
theorem gX11_fee_X11_dayOf : GoodIn wsX11_fee (va_wsS RX11 185 yX11_dayOf wsX11_dayOf) := goodIn_app (goodIn_of _ (by decide +kernel)) ggX11_fee_X11_dayOf
set_option maxRecDepth 20000 in
theorem ggX11_fee_X11_hand : GoodIn wsX11_fee wsX11_hand := goodIn_r _ [41, 2, 42, 43, 44, 7, 45, 46, 47, 48, 49, 50, 51, 52, 53, 54, 55, 56, 57, 58, 59, 60, 61, 62, 63, 64, 65, 66, 67] rfl (by decide +kernel)
set_option maxRecDepth 20000 in
theorem gX11_fee_X11_hand : GoodIn wsX11_fee (wsV RX11 191 RX11 yX11_hand wsX11_hand) := goodIn_app (goodIn_of _ (by decide +kernel)) ggX11_fee_X11_hand
theorem dX11_fee_0 : decode cX11_fee 0 = .ok (.aload_n 0, 1) := by decide +kernel
theorem dX11_fee_1 : decode cX11_fee 1 = .ok (.iconst 0, 1) := by decide +kernel
theorem dX11_fee_2 : decode cX11_fee 2 = .ok (.putfield 1, 3) := by decide +kernel
theorem dX11_fee_5 : decode cX11_fee 5 = .ok (.aload_n 0, 1) := by decide +kernel
theorem dX11_fee_6 : decode cX11_fee 6 = .ok (.iload_n 1, 1) := by decide +kernel
theorem dX11_fee_7 : decode cX11_fee 7 = .ok (.iload_n 2, 1) := by decide +kernel
theorem dX11_fee_8 : decode cX11_fee 8 = .ok (.iload_n 3, 1) := by decide +kernel
theorem dX11_fee_9 : decode cX11_fee 9 = .ok (.invokevirtual 205, 3) := by decide +kernel
theorem dX11_fee_12 : decode cX11_fee 12 = .ok (.ifCond .eq 5, 3) := by decide +kernel
theorem dX11_fee_15 : decode cX11_fee 15 = .ok (.lconst 0, 1) := by decide +kernel
theorem dX11_fee_16 : decode cX11_fee 16 = .ok (.lreturn, 1) := by decide +kernel
theorem dX11_fee_17 : decode cX11_fee 17 = .ok (.lconst 0, 1) := by decide +kernel
theorem dX11_fee_18 : decode cX11_fee 18 = .ok (.lstore 4, 2) := by decide +kernel
theorem dX11_fee_20 : decode cX11_fee 20 = .ok (.iload_n 3, 1) := by decide +kernel
theorem dX11_fee_21 : decode cX11_fee 21 = .ok (.invokestatic 185, 3) := by decide +kernel
theorem dX11_fee_24 : decode cX11_fee 24 = .ok (.istore 6, 2) := by decide +kernel
theorem dX11_fee_26 : decode cX11_fee 26 = .ok (.iload_n 2, 1) := by decide +kernel
theorem dX11_fee_27 : decode cX11_fee 27 = .ok (.invokestatic 185, 3) := by decide +kernel
theorem dX11_fee_30 : decode cX11_fee 30 = .ok (.istore 7, 2) := by decide +kernel
theorem dX11_fee_32 : decode cX11_fee 32 = .ok (.iload 7, 2) := by decide +kernel
theorem dX11_fee_34 : decode cX11_fee 34 = .ok (.iload 6, 2) := by decide +kernel
theorem dX11_fee_36 : decode cX11_fee 36 = .ok (.if_icmp .gt 56, 3) := by decide +kernel
theorem dX11_fee_39 : decode cX11_fee 39 = .ok (.aload_n 0, 1) := by decide +kernel
theorem dX11_fee_40 : decode cX11_fee 40 = .ok (.iload_n 1, 1) := by decide +kernel
theorem dX11_fee_41 : decode cX11_fee 41 = .ok (.iload 7, 2) := by decide +kernel
theorem dX11_fee_43 : decode cX11_fee 43 = .ok (.aload_n 0, 1) := by decide +kernel
theorem dX11_fee_44 : decode cX11_fee 44 = .ok (.getfield 13, 3) := by decide +kernel
theorem dX11_fee_47 : decode cX11_fee 47 = .ok (.sipush 571, 3) := by decide +kernel
theorem dX11_fee_50 : decode cX11_fee 50 = .ok (.iaload, 1) := by decide +kernel
theorem dX11_fee_51 : decode cX11_fee 51 = .ok (.invokevirtual 191, 3) := by decide +kernel
theorem dX11_fee_54 : decode cX11_fee 54 = .ok (.istore 8, 2) := by decide +kernel
theorem dX11_fee_56 : decode cX11_fee 56 = .ok (.lload 4, 2) := by decide +kernel
theorem dX11_fee_58 : decode cX11_fee 58 = .ok (.iload 8, 2) := by decide +kernel
theorem dX11_fee_60 : decode cX11_fee 60 = .ok (.bipush 6, 2) := by decide +kernel
theorem dX11_fee_62 : decode cX11_fee 62 = .ok (.if_icmp .ne 7, 3) := by decide +kernel
theorem dX11_fee_65 : decode cX11_fee 65 = .ok (.lconst 0, 1) := by decide +kernel
theorem dX11_fee_66 : decode cX11_fee 66 = .ok (.goto 17, 3) := by decide +kernel
theorem dX11_fee_69 : decode cX11_fee 69 = .ok (.aload_n 0, 1) := by decide +kernel
theorem dX11_fee_70 : decode cX11_fee 70 = .ok (.getfield 13, 3) := by decide +kernel
theorem dX11_fee_73 : decode cX11_fee 73 = .ok (.bipush 40, 2) := by decide +kernel
theorem dX11_fee_75 : decode cX11_fee 75 = .ok (.iload_n 1, 1) := by decide +kernel
theorem dX11_fee_76 : decode cX11_fee 76 = .ok (.iadd, 1) := by decide +kernel
theorem dX11_fee_77 : decode cX11_fee 77 = .ok (.iaload, 1) := by decide +kernel
theorem dX11_fee_78 : decode cX11_fee 78 = .ok (.i2l, 1) := by decide +kernel
theorem dX11_fee_79 : decode cX11_fee 79 = .ok (.iload 8, 2) := by decide +kernel
theorem dX11_fee_81 : decode cX11_fee 81 = .ok (.i2l, 1) := by decide +kernel
theorem dX11_fee_82 : decode cX11_fee 82 = .ok (.lmul, 1) := by decide +kernel
theorem dX11_fee_83 : decode cX11_fee 83 = .ok (.ladd, 1) := by decide +kernel
theorem dX11_fee_84 : decode cX11_fee 84 = .ok (.lstore 4, 2) := by decide +kernel
theorem dX11_fee_86 : decode cX11_fee 86 = .ok (.iinc 7 1, 3) := by decide +kernel
theorem dX11_fee_89 : decode cX11_fee 89 = .ok (.goto (-57), 3) := by decide +kernel
theorem dX11_fee_92 : decode cX11_fee 92 = .ok (.lload 4, 2) := by decide +kernel
theorem dX11_fee_94 : decode cX11_fee 94 = .ok (.ldc2_w 208, 3) := by decide +kernel
theorem dX11_fee_97 : decode cX11_fee 97 = .ok (.ldiv, 1) := by decide +kernel
theorem dX11_fee_98 : decode cX11_fee 98 = .ok (.lreturn, 1) := by decide +kernel
set_option maxRecDepth 20000 in
theorem ggX11_inHand_X11_in : GoodIn wsX11_inHand wsX11_in := goodIn_r _ [6] rfl (by decide +kernel)
set_option maxRecDepth 20000 in
theorem gX11_inHand_X11_in : GoodIn wsX11_inHand (va_wsS RX11 69 yX11_in wsX11_in) := goodIn_app (goodIn_of _ (by decide +kernel)) ggX11_inHand_X11_in
set_option maxRecDepth 20000 in
theorem ggX11_inHand_X11_isDate : GoodIn wsX11_inHand wsX11_isDate := goodIn_r _ [9, 10, 11, 3, 4, 5, 6, 12, 13, 14, 15, 16, 17] rfl (by decide +kernel)
set_option maxRecDepth 20000 in
theorem gX11_inHand_X11_isDate : GoodIn wsX11_inHand (va_wsS RX11 182 yX11_isDate wsX11_isDate) := goodIn_app (goodIn_of _ (by decide +kernel)) ggX11_inHand_X11_isDate
set_option maxRecDepth 20000 in
theorem ggX11_inHand_X11_fails : GoodIn wsX11_inHand wsX11_fails := goodIn_r _ [21, 1, 37, 38, 39, 40, 41, 42, 43, 44, 45, 46, 47, 48, 49, 50, 51, 52, 53, 54, 55, 56, 57, 58] rfl (by decide +kernel)
set_option maxRecDepth 20000 in
theorem gX11_inHand_X11_fails : GoodIn wsX11_inHand (wsV RX11 73 RX11 yX11_fails wsX11_fails) := goodIn_app (goodIn_of _ (by decide +kernel)) ggX11_inHand_X11_fails
set_option maxRecDepth 20000 in
theorem ggX11_inHand_X11_many : GoodIn wsX11_inHand wsX11_many := goodIn_r _ [25, 2, 37, 38, 39, 40, 41, 42, 43, 44, 45, 46, 47, 48, 49, 50, 51, 52, 53, 54, 55, 56, 57, 58] rfl (by decide +kernel)
set_option maxRecDepth 20000 in
theorem gX11_inHand_X11_many : GoodIn wsX11_inHand (wsV RX11 65 RX11 yX11_many wsX11_many) := goodIn_app (goodIn_of _ (by decide +kernel)) ggX11_inHand_X11_many
set_option maxRecDepth 20000 in
theorem ggX11_inHand_X11_dayOf : GoodIn wsX11_inHand wsX11_dayOf := goodIn_r _ [28, 15, 16, 5, 17, 12, 13, 14] rfl (by decide +kernel)
set_option maxRecDepth 20000 in
theorem gX11_inHand_X11_dayOf : GoodIn wsX11_inHand (va_wsS RX11 185 yX11_dayOf wsX11_dayOf) := goodIn_app (goodIn_of _ (by decide +kernel)) ggX11_inHand_X11_dayOf
set_option maxRecDepth 20000 in
theorem ggX11_inHand_X11_hand : GoodIn wsX11_inHand wsX11_hand := goodIn_r _ [32, 2, 33, 34, 35, 5, 36, 37, 38, 39, 40, 41, 42, 43, 44, 45, 46, 47, 48, 49, 50, 51, 52, 53, 54, 55, 56, 57, 58] rfl (by decide +kernel)
set_option maxRecDepth 20000 in
theorem gX11_inHand_X11_hand : GoodIn wsX11_inHand (wsV RX11 191 RX11 yX11_hand wsX11_hand) := goodIn_app (goodIn_of _ (by decide +kernel)) ggX11_inHand_X11_hand
theorem dX11_inHand_0 : decode cX11_inHand 0 = .ok (.aload_n 0, 1) := by decide +kernel
theorem dX11_inHand_1 : decode cX11_inHand 1 = .ok (.iconst 0, 1) := by decide +kernel
theorem dX11_inHand_2 : decode cX11_inHand 2 = .ok (.putfield 1, 3) := by decide +kernel
theorem dX11_inHand_5 : decode cX11_inHand 5 = .ok (.aload_n 0, 1) := by decide +kernel
theorem dX11_inHand_6 : decode cX11_inHand 6 = .ok (.iload_n 1, 1) := by decide +kernel
theorem dX11_inHand_7 : decode cX11_inHand 7 = .ok (.iconst 0, 1) := by decide +kernel
theorem dX11_inHand_8 : decode cX11_inHand 8 = .ok (.bipush 6, 2) := by decide +kernel
theorem dX11_inHand_10 : decode cX11_inHand 10 = .ok (.invokestatic 69, 3) := by decide +kernel
theorem dX11_inHand_13 : decode cX11_inHand 13 = .ok (.ifCond .eq 14, 3) := by decide +kernel
theorem dX11_inHand_16 : decode cX11_inHand 16 = .ok (.iload_n 2, 1) := by decide +kernel
theorem dX11_inHand_17 : decode cX11_inHand 17 = .ok (.invokestatic 182, 3) := by decide +kernel
theorem dX11_inHand_20 : decode cX11_inHand 20 = .ok (.ifCond .eq 7, 3) := by decide +kernel
theorem dX11_inHand_23 : decode cX11_inHand 23 = .ok (.iconst 1, 1) := by decide +kernel
theorem dX11_inHand_24 : decode cX11_inHand 24 = .ok (.goto 4, 3) := by decide +kernel
theorem dX11_inHand_27 : decode cX11_inHand 27 = .ok (.iconst 0, 1) := by decide +kernel
theorem dX11_inHand_28 : decode cX11_inHand 28 = .ok (.iconst 1, 1) := by decide +kernel
theorem dX11_inHand_29 : decode cX11_inHand 29 = .ok (.invokevirtual 73, 3) := by decide +kernel
theorem dX11_inHand_32 : decode cX11_inHand 32 = .ok (.ifCond .eq 5, 3) := by decide +kernel
theorem dX11_inHand_35 : decode cX11_inHand 35 = .ok (.iconst 0, 1) := by decide +kernel
theorem dX11_inHand_36 : decode cX11_inHand 36 = .ok (.ireturn, 1) := by decide +kernel
theorem dX11_inHand_37 : decode cX11_inHand 37 = .ok (.iconst 0, 1) := by decide +kernel
theorem dX11_inHand_38 : decode cX11_inHand 38 = .ok (.istore_n 3, 1) := by decide +kernel
theorem dX11_inHand_39 : decode cX11_inHand 39 = .ok (.iconst 0, 1) := by decide +kernel
theorem dX11_inHand_40 : decode cX11_inHand 40 = .ok (.istore 4, 2) := by decide +kernel
theorem dX11_inHand_42 : decode cX11_inHand 42 = .ok (.iload 4, 2) := by decide +kernel
theorem dX11_inHand_44 : decode cX11_inHand 44 = .ok (.aload_n 0, 1) := by decide +kernel
theorem dX11_inHand_45 : decode cX11_inHand 45 = .ok (.invokevirtual 65, 3) := by decide +kernel
theorem dX11_inHand_48 : decode cX11_inHand 48 = .ok (.if_icmp .ge 39, 3) := by decide +kernel
theorem dX11_inHand_51 : decode cX11_inHand 51 = .ok (.iload_n 3, 1) := by decide +kernel
theorem dX11_inHand_52 : decode cX11_inHand 52 = .ok (.aload_n 0, 1) := by decide +kernel
theorem dX11_inHand_53 : decode cX11_inHand 53 = .ok (.iload 4, 2) := by decide +kernel
theorem dX11_inHand_55 : decode cX11_inHand 55 = .ok (.iload_n 2, 1) := by decide +kernel
theorem dX11_inHand_56 : decode cX11_inHand 56 = .ok (.invokestatic 185, 3) := by decide +kernel
theorem dX11_inHand_59 : decode cX11_inHand 59 = .ok (.aload_n 0, 1) := by decide +kernel
theorem dX11_inHand_60 : decode cX11_inHand 60 = .ok (.getfield 13, 3) := by decide +kernel
theorem dX11_inHand_63 : decode cX11_inHand 63 = .ok (.sipush 571, 3) := by decide +kernel
theorem dX11_inHand_66 : decode cX11_inHand 66 = .ok (.iaload, 1) := by decide +kernel
theorem dX11_inHand_67 : decode cX11_inHand 67 = .ok (.invokevirtual 191, 3) := by decide +kernel
theorem dX11_inHand_70 : decode cX11_inHand 70 = .ok (.iload_n 1, 1) := by decide +kernel
theorem dX11_inHand_71 : decode cX11_inHand 71 = .ok (.if_icmp .ne 7, 3) := by decide +kernel
theorem dX11_inHand_74 : decode cX11_inHand 74 = .ok (.iconst 1, 1) := by decide +kernel
theorem dX11_inHand_75 : decode cX11_inHand 75 = .ok (.goto 4, 3) := by decide +kernel
theorem dX11_inHand_78 : decode cX11_inHand 78 = .ok (.iconst 0, 1) := by decide +kernel
theorem dX11_inHand_79 : decode cX11_inHand 79 = .ok (.iadd, 1) := by decide +kernel
theorem dX11_inHand_80 : decode cX11_inHand 80 = .ok (.istore_n 3, 1) := by decide +kernel
theorem dX11_inHand_81 : decode cX11_inHand 81 = .ok (.iinc 4 1, 3) := by decide +kernel
theorem dX11_inHand_84 : decode cX11_inHand 84 = .ok (.goto (-42), 3) := by decide +kernel
theorem dX11_inHand_87 : decode cX11_inHand 87 = .ok (.iload_n 3, 1) := by decide +kernel
theorem dX11_inHand_88 : decode cX11_inHand 88 = .ok (.ireturn, 1) := by decide +kernel
set_option maxRecDepth 20000 in
theorem ggX11_daysIn_X11_dayOf : GoodIn wsX11_daysIn wsX11_dayOf := goodIn_r _ [4, 5, 6, 3, 7, 8, 9, 10] rfl (by decide +kernel)
set_option maxRecDepth 20000 in
theorem gX11_daysIn_X11_dayOf : GoodIn wsX11_daysIn (va_wsS RX11 185 yX11_dayOf wsX11_dayOf) := goodIn_app (goodIn_of _ (by decide +kernel)) ggX11_daysIn_X11_dayOf
theorem dX11_daysIn_0 : decode cX11_daysIn 0 = .ok (.sipush 10000, 3) := by decide +kernel
theorem dX11_daysIn_3 : decode cX11_daysIn 3 = .ok (.iload_n 2, 1) := by decide +kernel
theorem dX11_daysIn_4 : decode cX11_daysIn 4 = .ok (.imul, 1) := by decide +kernel
theorem dX11_daysIn_5 : decode cX11_daysIn 5 = .ok (.bipush 101, 2) := by decide +kernel
theorem dX11_daysIn_7 : decode cX11_daysIn 7 = .ok (.iadd, 1) := by decide +kernel
theorem dX11_daysIn_8 : decode cX11_daysIn 8 = .ok (.invokestatic 185, 3) := by decide +kernel
theorem dX11_daysIn_11 : decode cX11_daysIn 11 = .ok (.istore_n 3, 1) := by decide +kernel
