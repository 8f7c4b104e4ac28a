theorem dX11_daysIn_12 : decode cX11_daysIn 12 = .ok (.sipush 10000, 3) := by decide +kernel
theorem dX11_daysIn_15 : decode cX11_daysIn 15 = .ok (.iload_n 2, 1) := by decide +kernel
theorem dX11_daysIn_16 : decode cX11_daysIn 16 = .ok (.imul, 1) := by decide +kernel
theorem dX11_daysIn_17 : decode cX11_daysIn 17 = .ok (.sipush 1231, 3) := by decide +kernel
theorem dX11_daysIn_20 : decode cX11_daysIn 20 = .ok (.iadd, 1) := by decide +kernel
theorem dX11_daysIn_21 : decode cX11_daysIn 21 = .ok (.invokestatic 185, 3) := by decide +kernel
theorem dX11_daysIn_24 : decode cX11_daysIn 24 = .ok (.istore 4, 2) := by decide +kernel
theorem dX11_daysIn_26 : decode cX11_daysIn 26 = .ok (.iload_n 0, 1) := by decide +kernel
theorem dX11_daysIn_27 : decode cX11_daysIn 27 = .ok (.iload_n 3, 1) := by decide +kernel
theorem dX11_daysIn_28 : decode cX11_daysIn 28 = .ok (.if_icmp .le 7, 3) := by decide +kernel
theorem dX11_daysIn_31 : decode cX11_daysIn 31 = .ok (.iload_n 0, 1) := by decide +kernel
theorem dX11_daysIn_32 : decode cX11_daysIn 32 = .ok (.goto 4, 3) := by decide +kernel
theorem dX11_daysIn_35 : decode cX11_daysIn 35 = .ok (.iload_n 3, 1) := by decide +kernel
theorem dX11_daysIn_36 : decode cX11_daysIn 36 = .ok (.istore 5, 2) := by decide +kernel
theorem dX11_daysIn_38 : decode cX11_daysIn 38 = .ok (.iload_n 0, 1) := by decide +kernel
theorem dX11_daysIn_39 : decode cX11_daysIn 39 = .ok (.iload_n 1, 1) := by decide +kernel
theorem dX11_daysIn_40 : decode cX11_daysIn 40 = .ok (.iadd, 1) := by decide +kernel
theorem dX11_daysIn_41 : decode cX11_daysIn 41 = .ok (.iconst 1, 1) := by decide +kernel
theorem dX11_daysIn_42 : decode cX11_daysIn 42 = .ok (.isub, 1) := by decide +kernel
theorem dX11_daysIn_43 : decode cX11_daysIn 43 = .ok (.iload 4, 2) := by decide +kernel
theorem dX11_daysIn_45 : decode cX11_daysIn 45 = .ok (.if_icmp .ge 11, 3) := by decide +kernel
theorem dX11_daysIn_48 : decode cX11_daysIn 48 = .ok (.iload_n 0, 1) := by decide +kernel
theorem dX11_daysIn_49 : decode cX11_daysIn 49 = .ok (.iload_n 1, 1) := by decide +kernel
theorem dX11_daysIn_50 : decode cX11_daysIn 50 = .ok (.iadd, 1) := by decide +kernel
theorem dX11_daysIn_51 : decode cX11_daysIn 51 = .ok (.iconst 1, 1) := by decide +kernel
theorem dX11_daysIn_52 : decode cX11_daysIn 52 = .ok (.isub, 1) := by decide +kernel
theorem dX11_daysIn_53 : decode cX11_daysIn 53 = .ok (.goto 5, 3) := by decide +kernel
theorem dX11_daysIn_56 : decode cX11_daysIn 56 = .ok (.iload 4, 2) := by decide +kernel
theorem dX11_daysIn_58 : decode cX11_daysIn 58 = .ok (.istore 6, 2) := by decide +kernel
theorem dX11_daysIn_60 : decode cX11_daysIn 60 = .ok (.iload 6, 2) := by decide +kernel
theorem dX11_daysIn_62 : decode cX11_daysIn 62 = .ok (.iload 5, 2) := by decide +kernel
theorem dX11_daysIn_64 : decode cX11_daysIn 64 = .ok (.if_icmp .ge 7, 3) := by decide +kernel
theorem dX11_daysIn_67 : decode cX11_daysIn 67 = .ok (.iconst 0, 1) := by decide +kernel
theorem dX11_daysIn_68 : decode cX11_daysIn 68 = .ok (.goto 10, 3) := by decide +kernel
theorem dX11_daysIn_71 : decode cX11_daysIn 71 = .ok (.iload 6, 2) := by decide +kernel
theorem dX11_daysIn_73 : decode cX11_daysIn 73 = .ok (.iload 5, 2) := by decide +kernel
theorem dX11_daysIn_75 : decode cX11_daysIn 75 = .ok (.isub, 1) := by decide +kernel
theorem dX11_daysIn_76 : decode cX11_daysIn 76 = .ok (.iconst 1, 1) := by decide +kernel
theorem dX11_daysIn_77 : decode cX11_daysIn 77 = .ok (.iadd, 1) := by decide +kernel
theorem dX11_daysIn_78 : decode cX11_daysIn 78 = .ok (.ireturn, 1) := by decide +kernel
set_option maxRecDepth 20000 in
theorem ggX11_lightIn_X11_daysIn : GoodIn wsX11_lightIn wsX11_daysIn := goodIn_r _ [5, 6, 7, 4, 8, 9, 10, 11, 12, 13, 14] rfl (by decide +kernel)
set_option maxRecDepth 20000 in
theorem gX11_lightIn_X11_daysIn : GoodIn wsX11_lightIn (va_wsS RX11 210 yX11_daysIn wsX11_daysIn) := goodIn_app (goodIn_of _ (by decide +kernel)) ggX11_lightIn_X11_daysIn
theorem dX11_lightIn_0 : decode cX11_lightIn 0 = .ok (.iconst 0, 1) := by decide +kernel
theorem dX11_lightIn_1 : decode cX11_lightIn 1 = .ok (.istore_n 3, 1) := by decide +kernel
theorem dX11_lightIn_2 : decode cX11_lightIn 2 = .ok (.iconst 0, 1) := by decide +kernel
theorem dX11_lightIn_3 : decode cX11_lightIn 3 = .ok (.istore 4, 2) := by decide +kernel
theorem dX11_lightIn_5 : decode cX11_lightIn 5 = .ok (.iload 4, 2) := by decide +kernel
theorem dX11_lightIn_7 : decode cX11_lightIn 7 = .ok (.aload_n 0, 1) := by decide +kernel
theorem dX11_lightIn_8 : decode cX11_lightIn 8 = .ok (.getfield 13, 3) := by decide +kernel
theorem dX11_lightIn_11 : decode cX11_lightIn 11 = .ok (.sipush 572, 3) := by decide +kernel
theorem dX11_lightIn_14 : decode cX11_lightIn 14 = .ok (.iaload, 1) := by decide +kernel
theorem dX11_lightIn_15 : decode cX11_lightIn 15 = .ok (.if_icmp .ge 65, 3) := by decide +kernel
theorem dX11_lightIn_18 : decode cX11_lightIn 18 = .ok (.aload_n 0, 1) := by decide +kernel
theorem dX11_lightIn_19 : decode cX11_lightIn 19 = .ok (.getfield 13, 3) := by decide +kernel
theorem dX11_lightIn_22 : decode cX11_lightIn 22 = .ok (.sipush 464, 3) := by decide +kernel
theorem dX11_lightIn_25 : decode cX11_lightIn 25 = .ok (.iload 4, 2) := by decide +kernel
theorem dX11_lightIn_27 : decode cX11_lightIn 27 = .ok (.iadd, 1) := by decide +kernel
theorem dX11_lightIn_28 : decode cX11_lightIn 28 = .ok (.iaload, 1) := by decide +kernel
theorem dX11_lightIn_29 : decode cX11_lightIn 29 = .ok (.iload_n 1, 1) := by decide +kernel
theorem dX11_lightIn_30 : decode cX11_lightIn 30 = .ok (.if_icmp .ne 44, 3) := by decide +kernel
theorem dX11_lightIn_33 : decode cX11_lightIn 33 = .ok (.iload_n 3, 1) := by decide +kernel
theorem dX11_lightIn_34 : decode cX11_lightIn 34 = .ok (.aload_n 0, 1) := by decide +kernel
theorem dX11_lightIn_35 : decode cX11_lightIn 35 = .ok (.getfield 13, 3) := by decide +kernel
theorem dX11_lightIn_38 : decode cX11_lightIn 38 = .ok (.sipush 524, 3) := by decide +kernel
theorem dX11_lightIn_41 : decode cX11_lightIn 41 = .ok (.iload 4, 2) := by decide +kernel
theorem dX11_lightIn_43 : decode cX11_lightIn 43 = .ok (.iadd, 1) := by decide +kernel
theorem dX11_lightIn_44 : decode cX11_lightIn 44 = .ok (.iaload, 1) := by decide +kernel
theorem dX11_lightIn_45 : decode cX11_lightIn 45 = .ok (.aload_n 0, 1) := by decide +kernel
theorem dX11_lightIn_46 : decode cX11_lightIn 46 = .ok (.getfield 13, 3) := by decide +kernel
theorem dX11_lightIn_49 : decode cX11_lightIn 49 = .ok (.sipush 484, 3) := by decide +kernel
theorem dX11_lightIn_52 : decode cX11_lightIn 52 = .ok (.iload 4, 2) := by decide +kernel
theorem dX11_lightIn_54 : decode cX11_lightIn 54 = .ok (.iadd, 1) := by decide +kernel
theorem dX11_lightIn_55 : decode cX11_lightIn 55 = .ok (.iaload, 1) := by decide +kernel
theorem dX11_lightIn_56 : decode cX11_lightIn 56 = .ok (.aload_n 0, 1) := by decide +kernel
theorem dX11_lightIn_57 : decode cX11_lightIn 57 = .ok (.getfield 13, 3) := by decide +kernel
theorem dX11_lightIn_60 : decode cX11_lightIn 60 = .ok (.sipush 504, 3) := by decide +kernel
theorem dX11_lightIn_63 : decode cX11_lightIn 63 = .ok (.iload 4, 2) := by decide +kernel
theorem dX11_lightIn_65 : decode cX11_lightIn 65 = .ok (.iadd, 1) := by decide +kernel
theorem dX11_lightIn_66 : decode cX11_lightIn 66 = .ok (.iaload, 1) := by decide +kernel
theorem dX11_lightIn_67 : decode cX11_lightIn 67 = .ok (.iload_n 2, 1) := by decide +kernel
theorem dX11_lightIn_68 : decode cX11_lightIn 68 = .ok (.invokestatic 210, 3) := by decide +kernel
theorem dX11_lightIn_71 : decode cX11_lightIn 71 = .ok (.imul, 1) := by decide +kernel
theorem dX11_lightIn_72 : decode cX11_lightIn 72 = .ok (.iadd, 1) := by decide +kernel
theorem dX11_lightIn_73 : decode cX11_lightIn 73 = .ok (.istore_n 3, 1) := by decide +kernel
theorem dX11_lightIn_74 : decode cX11_lightIn 74 = .ok (.iinc 4 1, 3) := by decide +kernel
theorem dX11_lightIn_77 : decode cX11_lightIn 77 = .ok (.goto (-72), 3) := by decide +kernel
theorem dX11_lightIn_80 : decode cX11_lightIn 80 = .ok (.iload_n 3, 1) := by decide +kernel
theorem dX11_lightIn_81 : decode cX11_lightIn 81 = .ok (.ireturn, 1) := by decide +kernel
set_option maxRecDepth 20000 in
theorem ggX11_setLight_X11_noStone : GoodIn wsX11_setLight wsX11_noStone := goodIn_r _ [8, 9, 10, 11, 7, 12, 3, 13, 14, 15, 16, 17, 18, 19, 1, 42, 43, 44, 45, 46, 47, 48, 49, 50, 51, 52, 53, 54, 55, 56, 57, 58, 59, 60, 61, 62, 63] rfl (by decide +kernel)
set_option maxRecDepth 20000 in
theorem gX11_setLight_X11_noStone : GoodIn wsX11_setLight (wsV RX11 109 RX11 yX11_noStone wsX11_noStone) := goodIn_app (goodIn_of _ (by decide +kernel)) ggX11_setLight_X11_noStone
set_option maxRecDepth 20000 in
theorem ggX11_setLight_X11_in : GoodIn wsX11_setLight wsX11_in := goodIn_r _ [15] rfl (by decide +kernel)
set_option maxRecDepth 20000 in
theorem gX11_setLight_X11_in : GoodIn wsX11_setLight (va_wsS RX11 69 yX11_in wsX11_in) := goodIn_app (goodIn_of _ (by decide +kernel)) ggX11_setLight_X11_in
set_option maxRecDepth 20000 in
theorem ggX11_setLight_X11_fails : GoodIn wsX11_setLight wsX11_fails := goodIn_r _ [19, 1, 42, 43, 44, 45, 46, 47, 48, 49, 50, 51, 52, 53, 54, 55, 56, 57, 58, 59, 60, 61, 62, 63] rfl (by decide +kernel)
set_option maxRecDepth 20000 in
theorem gX11_setLight_X11_fails : GoodIn wsX11_setLight (wsV RX11 73 RX11 yX11_fails wsX11_fails) := goodIn_app (goodIn_of _ (by decide +kernel)) ggX11_setLight_X11_fails
set_option maxRecDepth 20000 in
theorem ggX11_setLight_X11_lightIn : GoodIn wsX11_setLight wsX11_lightIn := goodIn_r _ [23, 3, 24, 25, 7, 26, 27, 28, 29, 30, 31, 32, 33, 34, 35, 42, 43, 44, 45, 46, 47, 48, 49, 50, 51, 52, 53, 54, 55, 56, 57, 58, 59, 60, 61, 62, 63] rfl (by decide +kernel)
set_option maxRecDepth 20000 in
theorem gX11_setLight_X11_lightIn : GoodIn wsX11_setLight (wsV RX11 214 RX11 yX11_lightIn wsX11_lightIn) := goodIn_app (goodIn_of _ (by decide +kernel)) ggX11_setLight_X11_lightIn
set_option maxRecDepth 20000 in
theorem ggX11_setLight_X11_keeps : GoodIn wsX11_setLight wsX11_keeps := goodIn_r _ [39, 40, 41, 3, 42, 43, 44, 45, 46, 47, 48, 49, 50, 51, 52, 53, 54, 55, 56, 57, 58, 59, 60, 61, 62, 63] rfl (by decide +kernel)
set_option maxRecDepth 20000 in
theorem gX11_setLight_X11_keeps : GoodIn wsX11_setLight (wsV RX11 102 RX11 yX11_keeps wsX11_keeps) := goodIn_app (goodIn_of _ (by decide +kernel)) ggX11_setLight_X11_keeps
theorem dX11_setLight_0 : decode cX11_setLight 0 = .ok (.aload_n 0, 1) := by decide +kernel
theorem dX11_setLight_1 : decode cX11_setLight 1 = .ok (.iconst 0, 1) := by decide +kernel
theorem dX11_setLight_2 : decode cX11_setLight 2 = .ok (.putfield 1, 3) := by decide +kernel
theorem dX11_setLight_5 : decode cX11_setLight 5 = .ok (.aload_n 0, 1) := by decide +kernel
theorem dX11_setLight_6 : decode cX11_setLight 6 = .ok (.iload_n 1, 1) := by decide +kernel
theorem dX11_setLight_7 : decode cX11_setLight 7 = .ok (.invokevirtual 109, 3) := by decide +kernel
theorem dX11_setLight_10 : decode cX11_setLight 10 = .ok (.ifCond .ne 18, 3) := by decide +kernel
theorem dX11_setLight_13 : decode cX11_setLight 13 = .ok (.aload_n 0, 1) := by decide +kernel
theorem dX11_setLight_14 : decode cX11_setLight 14 = .ok (.iload_n 2, 1) := by decide +kernel
theorem dX11_setLight_15 : decode cX11_setLight 15 = .ok (.iconst 0, 1) := by decide +kernel
theorem dX11_setLight_16 : decode cX11_setLight 16 = .ok (.ldc 213, 2) := by decide +kernel
theorem dX11_setLight_18 : decode cX11_setLight 18 = .ok (.invokestatic 69, 3) := by decide +kernel
theorem dX11_setLight_21 : decode cX11_setLight 21 = .ok (.iconst 2, 1) := by decide +kernel
theorem dX11_setLight_22 : decode cX11_setLight 22 = .ok (.invokevirtual 73, 3) := by decide +kernel
theorem dX11_setLight_25 : decode cX11_setLight 25 = .ok (.ifCond .eq 5, 3) := by decide +kernel
theorem dX11_setLight_28 : decode cX11_setLight 28 = .ok (.iconst 0, 1) := by decide +kernel
theorem dX11_setLight_29 : decode cX11_setLight 29 = .ok (.ireturn, 1) := by decide +kernel
theorem dX11_setLight_30 : decode cX11_setLight 30 = .ok (.iconst 1, 1) := by decide +kernel
theorem dX11_setLight_31 : decode cX11_setLight 31 = .ok (.istore_n 3, 1) := by decide +kernel
theorem dX11_setLight_32 : decode cX11_setLight 32 = .ok (.sipush 1900, 3) := by decide +kernel
theorem dX11_setLight_35 : decode cX11_setLight 35 = .ok (.istore 4, 2) := by decide +kernel
theorem dX11_setLight_37 : decode cX11_setLight 37 = .ok (.iload 4, 2) := by decide +kernel
theorem dX11_setLight_39 : decode cX11_setLight 39 = .ok (.sipush 2200, 3) := by decide +kernel
theorem dX11_setLight_42 : decode cX11_setLight 42 = .ok (.if_icmp .ge 28, 3) := by decide +kernel
theorem dX11_setLight_45 : decode cX11_setLight 45 = .ok (.iload_n 3, 1) := by decide +kernel
theorem dX11_setLight_46 : decode cX11_setLight 46 = .ok (.aload_n 0, 1) := by decide +kernel
theorem dX11_setLight_47 : decode cX11_setLight 47 = .ok (.iload_n 1, 1) := by decide +kernel
theorem dX11_setLight_48 : decode cX11_setLight 48 = .ok (.iload 4, 2) := by decide +kernel
theorem dX11_setLight_50 : decode cX11_setLight 50 = .ok (.invokevirtual 214, 3) := by decide +kernel
theorem dX11_setLight_53 : decode cX11_setLight 53 = .ok (.iload_n 2, 1) := by decide +kernel
theorem dX11_setLight_54 : decode cX11_setLight 54 = .ok (.if_icmp .gt 7, 3) := by decide +kernel
theorem dX11_setLight_57 : decode cX11_setLight 57 = .ok (.iconst 1, 1) := by decide +kernel
theorem dX11_setLight_58 : decode cX11_setLight 58 = .ok (.goto 4, 3) := by decide +kernel
theorem dX11_setLight_61 : decode cX11_setLight 61 = .ok (.iconst 0, 1) := by decide +kernel
theorem dX11_setLight_62 : decode cX11_setLight 62 = .ok (.iand, 1) := by decide +kernel
theorem dX11_setLight_63 : decode cX11_setLight 63 = .ok (.istore_n 3, 1) := by decide +kernel
theorem dX11_setLight_64 : decode cX11_setLight 64 = .ok (.iinc 4 1, 3) := by decide +kernel
theorem dX11_setLight_67 : decode cX11_setLight 67 = .ok (.goto (-30), 3) := by decide +kernel
theorem dX11_setLight_70 : decode cX11_setLight 70 = .ok (.aload_n 0, 1) := by decide +kernel
theorem dX11_setLight_71 : decode cX11_setLight 71 = .ok (.iload_n 3, 1) := by decide +kernel
theorem dX11_setLight_72 : decode cX11_setLight 72 = .ok (.iconst 3, 1) := by decide +kernel
theorem dX11_setLight_73 : decode cX11_setLight 73 = .ok (.invokevirtual 73, 3) := by decide +kernel
theorem dX11_setLight_76 : decode cX11_setLight 76 = .ok (.ifCond .eq 5, 3) := by decide +kernel
theorem dX11_setLight_79 : decode cX11_setLight 79 = .ok (.iconst 0, 1) := by decide +kernel
theorem dX11_setLight_80 : decode cX11_setLight 80 = .ok (.ireturn, 1) := by decide +kernel
theorem dX11_setLight_81 : decode cX11_setLight 81 = .ok (.aload_n 0, 1) := by decide +kernel
theorem dX11_setLight_82 : decode cX11_setLight 82 = .ok (.invokevirtual 102, 3) := by decide +kernel
theorem dX11_setLight_85 : decode cX11_setLight 85 = .ok (.aload_n 0, 1) := by decide +kernel
theorem dX11_setLight_86 : decode cX11_setLight 86 = .ok (.getfield 13, 3) := by decide +kernel
theorem dX11_setLight_89 : decode cX11_setLight 89 = .ok (.bipush 60, 2) := by decide +kernel
theorem dX11_setLight_91 : decode cX11_setLight 91 = .ok (.iload_n 1, 1) := by decide +kernel
theorem dX11_setLight_92 : decode cX11_setLight 92 = .ok (.iadd, 1) := by decide +kernel
theorem dX11_setLight_93 : decode cX11_setLight 93 = .ok (.iaload, 1) := by decide +kernel
theorem dX11_setLight_94 : decode cX11_setLight 94 = .ok (.istore 4, 2) := by decide +kernel
theorem dX11_setLight_96 : decode cX11_setLight 96 = .ok (.aload_n 0, 1) := by decide +kernel
theorem dX11_setLight_97 : decode cX11_setLight 97 = .ok (.getfield 13, 3) := by decide +kernel
theorem dX11_setLight_100 : decode cX11_setLight 100 = .ok (.bipush 60, 2) := by decide +kernel
theorem dX11_setLight_102 : decode cX11_setLight 102 = .ok (.iload_n 1, 1) := by decide +kernel
theorem dX11_setLight_103 : decode cX11_setLight 103 = .ok (.iadd, 1) := by decide +kernel
theorem dX11_setLight_104 : decode cX11_setLight 104 = .ok (.iload_n 2, 1) := by decide +kernel
theorem dX11_setLight_105 : decode cX11_setLight 105 = .ok (.iastore, 1) := by decide +kernel
theorem dX11_setLight_106 : decode cX11_setLight 106 = .ok (.iload 4, 2) := by decide +kernel
theorem dX11_setLight_108 : decode cX11_setLight 108 = .ok (.ireturn, 1) := by decide +kernel
set_option maxRecDepth 20000 in
theorem ggX11_canBeShown_X11_dayOf : GoodIn wsX11_canBeShown wsX11_dayOf := goodIn_r _ [6, 7, 8, 5, 9, 10, 11, 12] rfl (by decide +kernel)
set_option maxRecDepth 20000 in
theorem gX11_canBeShown_X11_dayOf : GoodIn wsX11_canBeShown (va_wsS RX11 185 yX11_dayOf wsX11_dayOf) := goodIn_app (goodIn_of _ (by decide +kernel)) ggX11_canBeShown_X11_dayOf
set_option maxRecDepth 20000 in
theorem ggX11_canBeShown_X11_dateOf : GoodIn wsX11_canBeShown wsX11_dateOf := goodIn_r _ [15, 7, 8, 5, 9, 10, 11, 12] rfl (by decide +kernel)
set_option maxRecDepth 20000 in
theorem gX11_canBeShown_X11_dateOf : GoodIn wsX11_canBeShown (va_wsS RX11 202 yX11_dateOf wsX11_dateOf) := goodIn_app (goodIn_of _ (by decide +kernel)) ggX11_canBeShown_X11_dateOf
set_option maxRecDepth 20000 in
theorem ggX11_canBeShown_X11_lightIn : GoodIn wsX11_canBeShown wsX11_lightIn := goodIn_r _ [19, 2, 20, 21, 5, 22, 3, 4, 6, 7, 8, 9, 10, 11, 12, 23, 24, 25, 26, 27, 28, 29, 30, 31, 32, 33, 34, 35, 36, 37, 38, 39, 40, 41, 42, 43, 44] rfl (by decide +kernel)
set_option maxRecDepth 20000 in
theorem gX11_canBeShown_X11_lightIn : GoodIn wsX11_canBeShown (wsV RX11 214 RX11 yX11_lightIn wsX11_lightIn) := goodIn_app (goodIn_of _ (by decide +kernel)) ggX11_canBeShown_X11_lightIn
set_option maxRecDepth 20000 in
theorem ggX11_canBeShown_X11_daysIn : GoodIn wsX11_canBeShown wsX11_daysIn := goodIn_r _ [22, 3, 4, 5, 6, 7, 8, 9, 10, 11, 12] rfl (by decide +kernel)
set_option maxRecDepth 20000 in
theorem gX11_canBeShown_X11_daysIn : GoodIn wsX11_canBeShown (va_wsS RX11 210 yX11_daysIn wsX11_daysIn) := goodIn_app (goodIn_of _ (by decide +kernel)) ggX11_canBeShown_X11_daysIn
theorem dX11_canBeShown_0 : decode cX11_canBeShown 0 = .ok (.iload_n 2, 1) := by decide +kernel
theorem dX11_canBeShown_1 : decode cX11_canBeShown 1 = .ok (.iload_n 3, 1) := by decide +kernel
theorem dX11_canBeShown_2 : decode cX11_canBeShown 2 = .ok (.iadd, 1) := by decide +kernel
theorem dX11_canBeShown_3 : decode cX11_canBeShown 3 = .ok (.iconst 1, 1) := by decide +kernel
theorem dX11_canBeShown_4 : decode cX11_canBeShown 4 = .ok (.isub, 1) := by decide +kernel
theorem dX11_canBeShown_5 : decode cX11_canBeShown 5 = .ok (.ldc 178, 2) := by decide +kernel
theorem dX11_canBeShown_7 : decode cX11_canBeShown 7 = .ok (.invokestatic 185, 3) := by decide +kernel
theorem dX11_canBeShown_10 : decode cX11_canBeShown 10 = .ok (.if_icmp .le 5, 3) := by decide +kernel
theorem dX11_canBeShown_13 : decode cX11_canBeShown 13 = .ok (.iconst 0, 1) := by decide +kernel
theorem dX11_canBeShown_14 : decode cX11_canBeShown 14 = .ok (.ireturn, 1) := by decide +kernel
theorem dX11_canBeShown_15 : decode cX11_canBeShown 15 = .ok (.iload_n 2, 1) := by decide +kernel
theorem dX11_canBeShown_16 : decode cX11_canBeShown 16 = .ok (.invokestatic 202, 3) := by decide +kernel
theorem dX11_canBeShown_19 : decode cX11_canBeShown 19 = .ok (.sipush 10000, 3) := by decide +kernel
theorem dX11_canBeShown_22 : decode cX11_canBeShown 22 = .ok (.idiv, 1) := by decide +kernel
theorem dX11_canBeShown_23 : decode cX11_canBeShown 23 = .ok (.istore 5, 2) := by decide +kernel
theorem dX11_canBeShown_25 : decode cX11_canBeShown 25 = .ok (.iload 5, 2) := by decide +kernel
theorem dX11_canBeShown_27 : decode cX11_canBeShown 27 = .ok (.istore 6, 2) := by decide +kernel
theorem dX11_canBeShown_29 : decode cX11_canBeShown 29 = .ok (.iload 6, 2) := by decide +kernel
theorem dX11_canBeShown_31 : decode cX11_canBeShown 31 = .ok (.iload 5, 2) := by decide +kernel
theorem dX11_canBeShown_33 : decode cX11_canBeShown 33 = .ok (.iconst 2, 1) := by decide +kernel
theorem dX11_canBeShown_34 : decode cX11_canBeShown 34 = .ok (.iadd, 1) := by decide +kernel
theorem dX11_canBeShown_35 : decode cX11_canBeShown 35 = .ok (.if_icmp .gt 41, 3) := by decide +kernel
theorem dX11_canBeShown_38 : decode cX11_canBeShown 38 = .ok (.aload_n 0, 1) := by decide +kernel
theorem dX11_canBeShown_39 : decode cX11_canBeShown 39 = .ok (.iload_n 1, 1) := by decide +kernel
theorem dX11_canBeShown_40 : decode cX11_canBeShown 40 = .ok (.iload 6, 2) := by decide +kernel
theorem dX11_canBeShown_42 : decode cX11_canBeShown 42 = .ok (.invokevirtual 214, 3) := by decide +kernel
theorem dX11_canBeShown_45 : decode cX11_canBeShown 45 = .ok (.iload 4, 2) := by decide +kernel
theorem dX11_canBeShown_47 : decode cX11_canBeShown 47 = .ok (.iload_n 2, 1) := by decide +kernel
theorem dX11_canBeShown_48 : decode cX11_canBeShown 48 = .ok (.iload_n 3, 1) := by decide +kernel
theorem dX11_canBeShown_49 : decode cX11_canBeShown 49 = .ok (.iload 6, 2) := by decide +kernel
theorem dX11_canBeShown_51 : decode cX11_canBeShown 51 = .ok (.invokestatic 210, 3) := by decide +kernel
theorem dX11_canBeShown_54 : decode cX11_canBeShown 54 = .ok (.imul, 1) := by decide +kernel
theorem dX11_canBeShown_55 : decode cX11_canBeShown 55 = .ok (.iadd, 1) := by decide +kernel
theorem dX11_canBeShown_56 : decode cX11_canBeShown 56 = .ok (.aload_n 0, 1) := by decide +kernel
theorem dX11_canBeShown_57 : decode cX11_canBeShown 57 = .ok (.getfield 13, 3) := by decide +kernel
theorem dX11_canBeShown_60 : decode cX11_canBeShown 60 = .ok (.bipush 60, 2) := by decide +kernel
theorem dX11_canBeShown_62 : decode cX11_canBeShown 62 = .ok (.iload_n 1, 1) := by decide +kernel
theorem dX11_canBeShown_63 : decode cX11_canBeShown 63 = .ok (.iadd, 1) := by decide +kernel
theorem dX11_canBeShown_64 : decode cX11_canBeShown 64 = .ok (.iaload, 1) := by decide +kernel
theorem dX11_canBeShown_65 : decode cX11_canBeShown 65 = .ok (.if_icmp .le 5, 3) := by decide +kernel
theorem dX11_canBeShown_68 : decode cX11_canBeShown 68 = .ok (.iconst 0, 1) := by decide +kernel
theorem dX11_canBeShown_69 : decode cX11_canBeShown 69 = .ok (.ireturn, 1) := by decide +kernel
theorem dX11_canBeShown_70 : decode cX11_canBeShown 70 = .ok (.iinc 6 1, 3) := by decide +kernel
theorem dX11_canBeShown_73 : decode cX11_canBeShown 73 = .ok (.goto (-44), 3) := by decide +kernel
theorem dX11_canBeShown_76 : decode cX11_canBeShown 76 = .ok (.iconst 1, 1) := by decide +kernel
theorem dX11_canBeShown_77 : decode cX11_canBeShown 77 = .ok (.ireturn, 1) := by decide +kernel
set_option maxRecDepth 20000 in
theorem ggX11_show_X11_noStone : GoodIn wsX11_show wsX11_noStone := goodIn_r _ [8, 9, 10, 11, 7, 12, 3, 13, 14, 15, 16, 17, 18, 19, 1, 53, 54, 55, 56, 57, 58, 59, 60, 61, 62, 63, 64, 65, 66, 67, 68, 69, 70, 71, 72, 73, 74] rfl (by decide +kernel)
set_option maxRecDepth 20000 in
theorem gX11_show_X11_noStone : GoodIn wsX11_show (wsV RX11 109 RX11 yX11_noStone wsX11_noStone) := goodIn_app (goodIn_of _ (by decide +kernel)) ggX11_show_X11_noStone
set_option maxRecDepth 20000 in
theorem ggX11_show_X11_isDate : GoodIn wsX11_show wsX11_isDate := goodIn_r _ [22, 23, 2, 13, 14, 7, 15, 24, 25, 26, 27, 28, 29] rfl (by decide +kernel)
set_option maxRecDepth 20000 in
theorem gX11_show_X11_isDate : GoodIn wsX11_show (va_wsS RX11 182 yX11_isDate wsX11_isDate) := goodIn_app (goodIn_of _ (by decide +kernel)) ggX11_show_X11_isDate
set_option maxRecDepth 20000 in
theorem ggX11_show_X11_in : GoodIn wsX11_show wsX11_in := goodIn_r _ [15] rfl (by decide +kernel)
set_option maxRecDepth 20000 in
theorem gX11_show_X11_in : GoodIn wsX11_show (va_wsS RX11 69 yX11_in wsX11_in) := goodIn_app (goodIn_of _ (by decide +kernel)) ggX11_show_X11_in
set_option maxRecDepth 20000 in
theorem ggX11_show_X11_fails : GoodIn wsX11_show wsX11_fails := goodIn_r _ [19, 1, 53, 54, 55, 56, 57, 58, 59, 60, 61, 62, 63, 64, 65, 66, 67, 68, 69, 70, 71, 72, 73, 74] rfl (by decide +kernel)
set_option maxRecDepth 20000 in
theorem gX11_show_X11_fails : GoodIn wsX11_show (wsV RX11 73 RX11 yX11_fails wsX11_fails) := goodIn_app (goodIn_of _ (by decide +kernel)) ggX11_show_X11_fails
set_option maxRecDepth 20000 in
theorem ggX11_show_X11_dayOf : GoodIn wsX11_show wsX11_dayOf := goodIn_r _ [32, 27, 28, 7, 29, 24, 25, 26] rfl (by decide +kernel)
set_option maxRecDepth 20000 in
theorem gX11_show_X11_dayOf : GoodIn wsX11_show (va_wsS RX11 185 yX11_dayOf wsX11_dayOf) := goodIn_app (goodIn_of _ (by decide +kernel)) ggX11_show_X11_dayOf
set_option maxRecDepth 20000 in
theorem ggX11_show_X11_canBeShown : GoodIn wsX11_show wsX11_canBeShown := goodIn_r _ [36, 2, 3, 30, 31, 7, 32, 27, 28, 29, 24, 25, 26, 37, 38, 39, 40, 41, 42, 43, 44, 45, 46, 53, 54, 55, 56, 57, 58, 59, 60, 61, 62, 63, 64, 65, 66, 67, 68, 69, 70, 71, 72, 73, 74] rfl (by decide +kernel)
set_option maxRecDepth 20000 in
theorem gX11_show_X11_canBeShown : GoodIn wsX11_show (wsV RX11 217 RX11 yX11_canBeShown wsX11_canBeShown) := goodIn_app (goodIn_of _ (by decide +kernel)) ggX11_show_X11_canBeShown
set_option maxRecDepth 20000 in
theorem ggX11_show_X11_keeps : GoodIn wsX11_show wsX11_keeps := goodIn_r _ [50, 51, 52, 3, 53, 54, 55, 56, 57, 58, 59, 60, 61, 62, 63, 64, 65, 66, 67, 68, 69, 70, 71, 72, 73, 74] rfl (by decide +kernel)
set_option maxRecDepth 20000 in
theorem gX11_show_X11_keeps : GoodIn wsX11_show (wsV RX11 102 RX11 yX11_keeps wsX11_keeps) := goodIn_app (goodIn_of _ (by decide +kernel)) ggX11_show_X11_keeps
theorem dX11_show_0 : decode cX11_show 0 = .ok (.aload_n 0, 1) := by decide +kernel
theorem dX11_show_1 : decode cX11_show 1 = .ok (.iconst 0, 1) := by decide +kernel
theorem dX11_show_2 : decode cX11_show 2 = .ok (.putfield 1, 3) := by decide +kernel
theorem dX11_show_5 : decode cX11_show 5 = .ok (.aload_n 0, 1) := by decide +kernel
theorem dX11_show_6 : decode cX11_show 6 = .ok (.iload_n 1, 1) := by decide +kernel
theorem dX11_show_7 : decode cX11_show 7 = .ok (.invokevirtual 109, 3) := by decide +kernel
theorem dX11_show_10 : decode cX11_show 10 = .ok (.ifCond .ne 75, 3) := by decide +kernel
theorem dX11_show_13 : decode cX11_show 13 = .ok (.aload_n 0, 1) := by decide +kernel
theorem dX11_show_14 : decode cX11_show 14 = .ok (.iload_n 2, 1) := by decide +kernel
theorem dX11_show_15 : decode cX11_show 15 = .ok (.invokestatic 182, 3) := by decide +kernel
theorem dX11_show_18 : decode cX11_show 18 = .ok (.ifCond .eq 30, 3) := by decide +kernel
theorem dX11_show_21 : decode cX11_show 21 = .ok (.iload_n 3, 1) := by decide +kernel
theorem dX11_show_22 : decode cX11_show 22 = .ok (.iconst 1, 1) := by decide +kernel
theorem dX11_show_23 : decode cX11_show 23 = .ok (.sipush 400, 3) := by decide +kernel
theorem dX11_show_26 : decode cX11_show 26 = .ok (.invokestatic 69, 3) := by decide +kernel
theorem dX11_show_29 : decode cX11_show 29 = .ok (.ifCond .eq 19, 3) := by decide +kernel
theorem dX11_show_32 : decode cX11_show 32 = .ok (.iload 4, 2) := by decide +kernel
theorem dX11_show_34 : decode cX11_show 34 = .ok (.iconst 1, 1) := by decide +kernel
theorem dX11_show_35 : decode cX11_show 35 = .ok (.sipush 1000, 3) := by decide +kernel
theorem dX11_show_38 : decode cX11_show 38 = .ok (.invokestatic 69, 3) := by decide +kernel
theorem dX11_show_41 : decode cX11_show 41 = .ok (.ifCond .eq 7, 3) := by decide +kernel
theorem dX11_show_44 : decode cX11_show 44 = .ok (.iconst 1, 1) := by decide +kernel
theorem dX11_show_45 : decode cX11_show 45 = .ok (.goto 4, 3) := by decide +kernel
theorem dX11_show_48 : decode cX11_show 48 = .ok (.iconst 0, 1) := by decide +kernel
theorem dX11_show_49 : decode cX11_show 49 = .ok (.iconst 2, 1) := by decide +kernel
theorem dX11_show_50 : decode cX11_show 50 = .ok (.invokevirtual 73, 3) := by decide +kernel
theorem dX11_show_53 : decode cX11_show 53 = .ok (.ifCond .ne 32, 3) := by decide +kernel
theorem dX11_show_56 : decode cX11_show 56 = .ok (.aload_n 0, 1) := by decide +kernel
theorem dX11_show_57 : decode cX11_show 57 = .ok (.iload_n 2, 1) := by decide +kernel
theorem dX11_show_58 : decode cX11_show 58 = .ok (.invokestatic 185, 3) := by decide +kernel
theorem dX11_show_61 : decode cX11_show 61 = .ok (.iload_n 3, 1) := by decide +kernel
theorem dX11_show_62 : decode cX11_show 62 = .ok (.iadd, 1) := by decide +kernel
theorem dX11_show_63 : decode cX11_show 63 = .ok (.iconst 1, 1) := by decide +kernel
theorem dX11_show_64 : decode cX11_show 64 = .ok (.isub, 1) := by decide +kernel
theorem dX11_show_65 : decode cX11_show 65 = .ok (.ldc 178, 2) := by decide +kernel
theorem dX11_show_67 : decode cX11_show 67 = .ok (.invokestatic 185, 3) := by decide +kernel
theorem dX11_show_70 : decode cX11_show 70 = .ok (.if_icmp .gt 7, 3) := by decide +kernel
theorem dX11_show_73 : decode cX11_show 73 = .ok (.iconst 1, 1) := by decide +kernel
theorem dX11_show_74 : decode cX11_show 74 = .ok (.goto 4, 3) := by decide +kernel
theorem dX11_show_77 : decode cX11_show 77 = .ok (.iconst 0, 1) := by decide +kernel
theorem dX11_show_78 : decode cX11_show 78 = .ok (.iconst 2, 1) := by decide +kernel
theorem dX11_show_79 : decode cX11_show 79 = .ok (.invokevirtual 73, 3) := by decide +kernel
theorem dX11_show_82 : decode cX11_show 82 = .ok (.ifCond .eq 5, 3) := by decide +kernel
theorem dX11_show_85 : decode cX11_show 85 = .ok (.iconst 0, 1) := by decide +kernel
theorem dX11_show_86 : decode cX11_show 86 = .ok (.ireturn, 1) := by decide +kernel
theorem dX11_show_87 : decode cX11_show 87 = .ok (.aload_n 0, 1) := by decide +kernel
theorem dX11_show_88 : decode cX11_show 88 = .ok (.aload_n 0, 1) := by decide +kernel
theorem dX11_show_89 : decode cX11_show 89 = .ok (.getfield 13, 3) := by decide +kernel
theorem dX11_show_92 : decode cX11_show 92 = .ok (.sipush 572, 3) := by decide +kernel
theorem dX11_show_95 : decode cX11_show 95 = .ok (.iaload, 1) := by decide +kernel
theorem dX11_show_96 : decode cX11_show 96 = .ok (.bipush 20, 2) := by decide +kernel
theorem dX11_show_98 : decode cX11_show 98 = .ok (.if_icmp .ge 22, 3) := by decide +kernel
theorem dX11_show_101 : decode cX11_show 101 = .ok (.aload_n 0, 1) := by decide +kernel
theorem dX11_show_102 : decode cX11_show 102 = .ok (.iload_n 1, 1) := by decide +kernel
theorem dX11_show_103 : decode cX11_show 103 = .ok (.iload_n 2, 1) := by decide +kernel
theorem dX11_show_104 : decode cX11_show 104 = .ok (.invokestatic 185, 3) := by decide +kernel
theorem dX11_show_107 : decode cX11_show 107 = .ok (.iload_n 3, 1) := by decide +kernel
theorem dX11_show_108 : decode cX11_show 108 = .ok (.iload 4, 2) := by decide +kernel
theorem dX11_show_110 : decode cX11_show 110 = .ok (.invokevirtual 217, 3) := by decide +kernel
theorem dX11_show_113 : decode cX11_show 113 = .ok (.ifCond .eq 7, 3) := by decide +kernel
theorem dX11_show_116 : decode cX11_show 116 = .ok (.iconst 1, 1) := by decide +kernel
theorem dX11_show_117 : decode cX11_show 117 = .ok (.goto 4, 3) := by decide +kernel
theorem dX11_show_120 : decode cX11_show 120 = .ok (.iconst 0, 1) := by decide +kernel
theorem dX11_show_121 : decode cX11_show 121 = .ok (.iconst 3, 1) := by decide +kernel
theorem dX11_show_122 : decode cX11_show 122 = .ok (.invokevirtual 73, 3) := by decide +kernel
theorem dX11_show_125 : decode cX11_show 125 = .ok (.ifCond .eq 5, 3) := by decide +kernel
theorem dX11_show_128 : decode cX11_show 128 = .ok (.iconst 0, 1) := by decide +kernel
theorem dX11_show_129 : decode cX11_show 129 = .ok (.ireturn, 1) := by decide +kernel
theorem dX11_show_130 : decode cX11_show 130 = .ok (.aload_n 0, 1) := by decide +kernel
theorem dX11_show_131 : decode cX11_show 131 = .ok (.invokevirtual 102, 3) := by decide +kernel
theorem dX11_show_134 : decode cX11_show 134 = .ok (.aload_n 0, 1) := by decide +kernel
theorem dX11_show_135 : decode cX11_show 135 = .ok (.getfield 13, 3) := by decide +kernel
theorem dX11_show_138 : decode cX11_show 138 = .ok (.sipush 572, 3) := by decide +kernel
theorem dX11_show_141 : decode cX11_show 141 = .ok (.iaload, 1) := by decide +kernel
theorem dX11_show_142 : decode cX11_show 142 = .ok (.istore 5, 2) := by decide +kernel
theorem dX11_show_144 : decode cX11_show 144 = .ok (.aload_n 0, 1) := by decide +kernel
theorem dX11_show_145 : decode cX11_show 145 = .ok (.getfield 13, 3) := by decide +kernel
theorem dX11_show_148 : decode cX11_show 148 = .ok (.sipush 464, 3) := by decide +kernel
theorem dX11_show_151 : decode cX11_show 151 = .ok (.iload 5, 2) := by decide +kernel
theorem dX11_show_153 : decode cX11_show 153 = .ok (.iadd, 1) := by decide +kernel
theorem dX11_show_154 : decode cX11_show 154 = .ok (.iload_n 1, 1) := by decide +kernel
theorem dX11_show_155 : decode cX11_show 155 = .ok (.iastore, 1) := by decide +kernel
theorem dX11_show_156 : decode cX11_show 156 = .ok (.aload_n 0, 1) := by decide +kernel
theorem dX11_show_157 : decode cX11_show 157 = .ok (.getfield 13, 3) := by decide +kernel
theorem dX11_show_160 : decode cX11_show 160 = .ok (.sipush 484, 3) := by decide +kernel
theorem dX11_show_163 : decode cX11_show 163 = .ok (.iload 5, 2) := by decide +kernel
theorem dX11_show_165 : decode cX11_show 165 = .ok (.iadd, 1) := by decide +kernel
theorem dX11_show_166 : decode cX11_show 166 = .ok (.iload_n 2, 1) := by decide +kernel
theorem dX11_show_167 : decode cX11_show 167 = .ok (.invokestatic 185, 3) := by decide +kernel
theorem dX11_show_170 : decode cX11_show 170 = .ok (.iastore, 1) := by decide +kernel
theorem dX11_show_171 : decode cX11_show 171 = .ok (.aload_n 0, 1) := by decide +kernel
theorem dX11_show_172 : decode cX11_show 172 = .ok (.getfield 13, 3) := by decide +kernel
theorem dX11_show_175 : decode cX11_show 175 = .ok (.sipush 504, 3) := by decide +kernel
theorem dX11_show_178 : decode cX11_show 178 = .ok (.iload 5, 2) := by decide +kernel
theorem dX11_show_180 : decode cX11_show 180 = .ok (.iadd, 1) := by decide +kernel
theorem dX11_show_181 : decode cX11_show 181 = .ok (.iload_n 3, 1) := by decide +kernel
theorem dX11_show_182 : decode cX11_show 182 = .ok (.iastore, 1) := by decide +kernel
theorem dX11_show_183 : decode cX11_show 183 = .ok (.aload_n 0, 1) := by decide +kernel
theorem dX11_show_184 : decode cX11_show 184 = .ok (.getfield 13, 3) := by decide +kernel
theorem dX11_show_187 : decode cX11_show 187 = .ok (.sipush 524, 3) := by decide +kernel
theorem dX11_show_190 : decode cX11_show 190 = .ok (.iload 5, 2) := by decide +kernel
theorem dX11_show_192 : decode cX11_show 192 = .ok (.iadd, 1) := by decide +kernel
theorem dX11_show_193 : decode cX11_show 193 = .ok (.iload 4, 2) := by decide +kernel
theorem dX11_show_195 : decode cX11_show 195 = .ok (.iastore, 1) := by decide +kernel
theorem dX11_show_196 : decode cX11_show 196 = .ok (.aload_n 0, 1) := by decide +kernel
theorem dX11_show_197 : decode cX11_show 197 = .ok (.getfield 13, 3) := by decide +kernel
theorem dX11_show_200 : decode cX11_show 200 = .ok (.sipush 572, 3) := by decide +kernel
theorem dX11_show_203 : decode cX11_show 203 = .ok (.dup2, 1) := by decide +kernel
theorem dX11_show_204 : decode cX11_show 204 = .ok (.iaload, 1) := by decide +kernel
theorem dX11_show_205 : decode cX11_show 205 = .ok (.iconst 1, 1) := by decide +kernel
theorem dX11_show_206 : decode cX11_show 206 = .ok (.iadd, 1) := by decide +kernel
theorem dX11_show_207 : decode cX11_show 207 = .ok (.iastore, 1) := by decide +kernel
theorem dX11_show_208 : decode cX11_show 208 = .ok (.iload 5, 2) := by decide +kernel
theorem dX11_show_210 : decode cX11_show 210 = .ok (.ireturn, 1) := by decide +kernel
set_option maxRecDepth 20000 in
theorem ggX11_light_X11_noStone : GoodIn wsX11_light wsX11_noStone := goodIn_r _ [6, 7, 8, 9, 5, 10, 11, 12, 13, 14, 15, 16, 17, 18, 1, 35, 36, 37, 38, 39, 40, 41, 42, 43, 44, 45, 46, 47, 48, 49, 50, 51, 52, 53, 54, 55, 56] rfl (by decide +kernel)
set_option maxRecDepth 20000 in
theorem gX11_light_X11_noStone : GoodIn wsX11_light (wsV RX11 109 RX11 yX11_noStone wsX11_noStone) := goodIn_app (goodIn_of _ (by decide +kernel)) ggX11_light_X11_noStone
set_option maxRecDepth 20000 in
theorem ggX11_light_X11_in : GoodIn wsX11_light wsX11_in := goodIn_r _ [14] rfl (by decide +kernel)
set_option maxRecDepth 20000 in
theorem gX11_light_X11_in : GoodIn wsX11_light (va_wsS RX11 69 yX11_in wsX11_in) := goodIn_app (goodIn_of _ (by decide +kernel)) ggX11_light_X11_in
set_option maxRecDepth 20000 in
theorem ggX11_light_X11_fails : GoodIn wsX11_light wsX11_fails := goodIn_r _ [18, 1, 35, 36, 37, 38, 39, 40, 41, 42, 43, 44, 45, 46, 47, 48, 49, 50, 51, 52, 53, 54, 55, 56] rfl (by decide +kernel)
set_option maxRecDepth 20000 in
theorem gX11_light_X11_fails : GoodIn wsX11_light (wsV RX11 73 RX11 yX11_fails wsX11_fails) := goodIn_app (goodIn_of _ (by decide +kernel)) ggX11_light_X11_fails
set_option maxRecDepth 20000 in
theorem ggX11_light_X11_lightIn : GoodIn wsX11_light wsX11_lightIn := goodIn_r _ [22, 11, 23, 24, 5, 25, 26, 27, 28, 29, 30, 31, 32, 33, 34, 35, 36, 37, 38, 39, 40, 41, 42, 43, 44, 45, 46, 47, 48, 49, 50, 51, 52, 53, 54, 55, 56] rfl (by decide +kernel)
set_option maxRecDepth 20000 in
theorem gX11_light_X11_lightIn : GoodIn wsX11_light (wsV RX11 214 RX11 yX11_lightIn wsX11_lightIn) := goodIn_app (goodIn_of _ (by decide +kernel)) ggX11_light_X11_lightIn
theorem dX11_light_0 : decode cX11_light 0 = .ok (.aload_n 0, 1) := by decide +kernel
theorem dX11_light_1 : decode cX11_light 1 = .ok (.iconst 0, 1) := by decide +kernel
theorem dX11_light_2 : decode cX11_light 2 = .ok (.putfield 1, 3) := by decide +kernel
theorem dX11_light_5 : decode cX11_light 5 = .ok (.aload_n 0, 1) := by decide +kernel
theorem dX11_light_6 : decode cX11_light 6 = .ok (.iload_n 1, 1) := by decide +kernel
theorem dX11_light_7 : decode cX11_light 7 = .ok (.invokevirtual 109, 3) := by decide +kernel
theorem dX11_light_10 : decode cX11_light 10 = .ok (.ifCond .ne 21, 3) := by decide +kernel
theorem dX11_light_13 : decode cX11_light 13 = .ok (.aload_n 0, 1) := by decide +kernel
theorem dX11_light_14 : decode cX11_light 14 = .ok (.iload_n 2, 1) := by decide +kernel
theorem dX11_light_15 : decode cX11_light 15 = .ok (.sipush 1900, 3) := by decide +kernel
theorem dX11_light_18 : decode cX11_light 18 = .ok (.sipush 2199, 3) := by decide +kernel
theorem dX11_light_21 : decode cX11_light 21 = .ok (.invokestatic 69, 3) := by decide +kernel
theorem dX11_light_24 : decode cX11_light 24 = .ok (.iconst 2, 1) := by decide +kernel
theorem dX11_light_25 : decode cX11_light 25 = .ok (.invokevirtual 73, 3) := by decide +kernel
theorem dX11_light_28 : decode cX11_light 28 = .ok (.ifCond .eq 7, 3) := by decide +kernel
theorem dX11_light_31 : decode cX11_light 31 = .ok (.iconst 0, 1) := by decide +kernel
theorem dX11_light_32 : decode cX11_light 32 = .ok (.goto 9, 3) := by decide +kernel
theorem dX11_light_35 : decode cX11_light 35 = .ok (.aload_n 0, 1) := by decide +kernel
theorem dX11_light_36 : decode cX11_light 36 = .ok (.iload_n 1, 1) := by decide +kernel
theorem dX11_light_37 : decode cX11_light 37 = .ok (.iload_n 2, 1) := by decide +kernel
theorem dX11_light_38 : decode cX11_light 38 = .ok (.invokevirtual 214, 3) := by decide +kernel
theorem dX11_light_41 : decode cX11_light 41 = .ok (.ireturn, 1) := by decide +kernel
set_option maxRecDepth 20000 in
theorem ggX11_mostDays_X11_noStone : GoodIn wsX11_mostDays wsX11_noStone := goodIn_r _ [6, 7, 8, 9, 5, 10, 11, 12, 13, 14, 15, 16, 17, 18, 1, 47, 48, 49, 50, 51, 52, 53, 54, 55, 56, 57, 58, 59, 60, 61, 62, 63, 64, 65, 66, 67, 68] rfl (by decide +kernel)
set_option maxRecDepth 20000 in
theorem gX11_mostDays_X11_noStone : GoodIn wsX11_mostDays (wsV RX11 109 RX11 yX11_noStone wsX11_noStone) := goodIn_app (goodIn_of _ (by decide +kernel)) ggX11_mostDays_X11_noStone
set_option maxRecDepth 20000 in
theorem ggX11_mostDays_X11_isDate : GoodIn wsX11_mostDays wsX11_isDate := goodIn_r _ [21, 22, 23, 12, 13, 5, 14, 24, 25, 26, 27, 28, 29] rfl (by decide +kernel)
set_option maxRecDepth 20000 in
theorem gX11_mostDays_X11_isDate : GoodIn wsX11_mostDays (va_wsS RX11 182 yX11_isDate wsX11_isDate) := goodIn_app (goodIn_of _ (by decide +kernel)) ggX11_mostDays_X11_isDate
set_option maxRecDepth 20000 in
theorem ggX11_mostDays_X11_in : GoodIn wsX11_mostDays wsX11_in := goodIn_r _ [14] rfl (by decide +kernel)
set_option maxRecDepth 20000 in
theorem gX11_mostDays_X11_in : GoodIn wsX11_mostDays (va_wsS RX11 69 yX11_in wsX11_in) := goodIn_app (goodIn_of _ (by decide +kernel)) ggX11_mostDays_X11_in
set_option maxRecDepth 20000 in
theorem ggX11_mostDays_X11_fails : GoodIn wsX11_mostDays wsX11_fails := goodIn_r _ [18, 1, 47, 48, 49, 50, 51, 52, 53, 54, 55, 56, 57, 58, 59, 60, 61, 62, 63, 64, 65, 66, 67, 68] rfl (by decide +kernel)
set_option maxRecDepth 20000 in
theorem gX11_mostDays_X11_fails : GoodIn wsX11_mostDays (wsV RX11 73 RX11 yX11_fails wsX11_fails) := goodIn_app (goodIn_of _ (by decide +kernel)) ggX11_mostDays_X11_fails
set_option maxRecDepth 20000 in
theorem ggX11_mostDays_X11_dayOf : GoodIn wsX11_mostDays wsX11_dayOf := goodIn_r _ [32, 27, 28, 5, 29, 24, 25, 26] rfl (by decide +kernel)
set_option maxRecDepth 20000 in
theorem gX11_mostDays_X11_dayOf : GoodIn wsX11_mostDays (va_wsS RX11 185 yX11_dayOf wsX11_dayOf) := goodIn_app (goodIn_of _ (by decide +kernel)) ggX11_mostDays_X11_dayOf
set_option maxRecDepth 20000 in
theorem ggX11_mostDays_X11_canBeShown : GoodIn wsX11_mostDays wsX11_canBeShown := goodIn_r _ [36, 23, 11, 30, 31, 5, 32, 27, 28, 29, 24, 25, 26, 37, 38, 39, 40, 41, 42, 43, 44, 45, 46, 47, 48, 49, 50, 51, 52, 53, 54, 55, 56, 57, 58, 59, 60, 61, 62, 63, 64, 65, 66, 67, 68] rfl (by decide +kernel)
set_option maxRecDepth 20000 in
theorem gX11_mostDays_X11_canBeShown : GoodIn wsX11_mostDays (wsV RX11 217 RX11 yX11_canBeShown wsX11_canBeShown) := goodIn_app (goodIn_of _ (by decide +kernel)) ggX11_mostDays_X11_canBeShown
theorem dX11_mostDays_0 : decode cX11_mostDays 0 = .ok (.aload_n 0, 1) := by decide +kernel
theorem dX11_mostDays_1 : decode cX11_mostDays 1 = .ok (.iconst 0, 1) := by decide +kernel
theorem dX11_mostDays_2 : decode cX11_mostDays 2 = .ok (.putfield 1, 3) := by decide +kernel
theorem dX11_mostDays_5 : decode cX11_mostDays 5 = .ok (.aload_n 0, 1) := by decide +kernel
theorem dX11_mostDays_6 : decode cX11_mostDays 6 = .ok (.iload_n 1, 1) := by decide +kernel
theorem dX11_mostDays_7 : decode cX11_mostDays 7 = .ok (.invokevirtual 109, 3) := by decide +kernel
theorem dX11_mostDays_10 : decode cX11_mostDays 10 = .ok (.ifCond .ne 34, 3) := by decide +kernel
theorem dX11_mostDays_13 : decode cX11_mostDays 13 = .ok (.aload_n 0, 1) := by decide +kernel
theorem dX11_mostDays_14 : decode cX11_mostDays 14 = .ok (.iload_n 2, 1) := by decide +kernel
theorem dX11_mostDays_15 : decode cX11_mostDays 15 = .ok (.invokestatic 182, 3) := by decide +kernel
theorem dX11_mostDays_18 : decode cX11_mostDays 18 = .ok (.ifCond .eq 18, 3) := by decide +kernel
theorem dX11_mostDays_21 : decode cX11_mostDays 21 = .ok (.iload_n 3, 1) := by decide +kernel
theorem dX11_mostDays_22 : decode cX11_mostDays 22 = .ok (.iconst 1, 1) := by decide +kernel
theorem dX11_mostDays_23 : decode cX11_mostDays 23 = .ok (.sipush 1000, 3) := by decide +kernel
theorem dX11_mostDays_26 : decode cX11_mostDays 26 = .ok (.invokestatic 69, 3) := by decide +kernel
theorem dX11_mostDays_29 : decode cX11_mostDays 29 = .ok (.ifCond .eq 7, 3) := by decide +kernel
theorem dX11_mostDays_32 : decode cX11_mostDays 32 = .ok (.iconst 1, 1) := by decide +kernel
theorem dX11_mostDays_33 : decode cX11_mostDays 33 = .ok (.goto 4, 3) := by decide +kernel
theorem dX11_mostDays_36 : decode cX11_mostDays 36 = .ok (.iconst 0, 1) := by decide +kernel
theorem dX11_mostDays_37 : decode cX11_mostDays 37 = .ok (.iconst 2, 1) := by decide +kernel
theorem dX11_mostDays_38 : decode cX11_mostDays 38 = .ok (.invokevirtual 73, 3) := by decide +kernel
theorem dX11_mostDays_41 : decode cX11_mostDays 41 = .ok (.ifCond .eq 5, 3) := by decide +kernel
theorem dX11_mostDays_44 : decode cX11_mostDays 44 = .ok (.iconst 0, 1) := by decide +kernel
theorem dX11_mostDays_45 : decode cX11_mostDays 45 = .ok (.ireturn, 1) := by decide +kernel
theorem dX11_mostDays_46 : decode cX11_mostDays 46 = .ok (.iconst 0, 1) := by decide +kernel
theorem dX11_mostDays_47 : decode cX11_mostDays 47 = .ok (.istore 4, 2) := by decide +kernel
theorem dX11_mostDays_49 : decode cX11_mostDays 49 = .ok (.iload 4, 2) := by decide +kernel
theorem dX11_mostDays_51 : decode cX11_mostDays 51 = .ok (.sipush 400, 3) := by decide +kernel
theorem dX11_mostDays_54 : decode cX11_mostDays 54 = .ok (.if_icmp .ge 26, 3) := by decide +kernel
theorem dX11_mostDays_57 : decode cX11_mostDays 57 = .ok (.aload_n 0, 1) := by decide +kernel
theorem dX11_mostDays_58 : decode cX11_mostDays 58 = .ok (.iload_n 1, 1) := by decide +kernel
theorem dX11_mostDays_59 : decode cX11_mostDays 59 = .ok (.iload_n 2, 1) := by decide +kernel
theorem dX11_mostDays_60 : decode cX11_mostDays 60 = .ok (.invokestatic 185, 3) := by decide +kernel
theorem dX11_mostDays_63 : decode cX11_mostDays 63 = .ok (.iload 4, 2) := by decide +kernel
theorem dX11_mostDays_65 : decode cX11_mostDays 65 = .ok (.iconst 1, 1) := by decide +kernel
theorem dX11_mostDays_66 : decode cX11_mostDays 66 = .ok (.iadd, 1) := by decide +kernel
theorem dX11_mostDays_67 : decode cX11_mostDays 67 = .ok (.iload_n 3, 1) := by decide +kernel
theorem dX11_mostDays_68 : decode cX11_mostDays 68 = .ok (.invokevirtual 217, 3) := by decide +kernel
theorem dX11_mostDays_71 : decode cX11_mostDays 71 = .ok (.ifCond .eq 9, 3) := by decide +kernel
theorem dX11_mostDays_74 : decode cX11_mostDays 74 = .ok (.iinc 4 1, 3) := by decide +kernel
theorem dX11_mostDays_77 : decode cX11_mostDays 77 = .ok (.goto (-28), 3) := by decide +kernel
theorem dX11_mostDays_80 : decode cX11_mostDays 80 = .ok (.iload 4, 2) := by decide +kernel
theorem dX11_mostDays_82 : decode cX11_mostDays 82 = .ok (.ireturn, 1) := by decide +kernel
set_option maxRecDepth 20000 in
theorem ggX11_offer_X11_in : GoodIn wsX11_offer wsX11_in := goodIn_r _ [6] rfl (by decide +kernel)
set_option maxRecDepth 20000 in
theorem gX11_offer_X11_in : GoodIn wsX11_offer (va_wsS RX11 69 yX11_in wsX11_in) := goodIn_app (goodIn_of _ (by decide +kernel)) ggX11_offer_X11_in
set_option maxRecDepth 20000 in
theorem ggX11_offer_X11_fails : GoodIn wsX11_offer wsX11_fails := goodIn_r _ [10, 1, 17, 18, 19, 20, 21, 22, 23, 24, 25, 26, 27, 28, 29, 30, 31, 32, 33, 34, 35, 36, 37, 38] rfl (by decide +kernel)
set_option maxRecDepth 20000 in
theorem gX11_offer_X11_fails : GoodIn wsX11_offer (wsV RX11 73 RX11 yX11_fails wsX11_fails) := goodIn_app (goodIn_of _ (by decide +kernel)) ggX11_offer_X11_fails
set_option maxRecDepth 20000 in
theorem ggX11_offer_X11_keeps : GoodIn wsX11_offer wsX11_keeps := goodIn_r _ [14, 15, 16, 2, 17, 18, 19, 20, 21, 22, 23, 24, 25, 26, 27, 28, 29, 30, 31, 32, 33, 34, 35, 36, 37, 38] rfl (by decide +kernel)
set_option maxRecDepth 20000 in
theorem gX11_offer_X11_keeps : GoodIn wsX11_offer (wsV RX11 102 RX11 yX11_keeps wsX11_keeps) := goodIn_app (goodIn_of _ (by decide +kernel)) ggX11_offer_X11_keeps
theorem dX11_offer_0 : decode cX11_offer 0 = .ok (.aload_n 0, 1) := by decide +kernel
theorem dX11_offer_1 : decode cX11_offer 1 = .ok (.iconst 0, 1) := by decide +kernel
theorem dX11_offer_2 : decode cX11_offer 2 = .ok (.putfield 1, 3) := by decide +kernel
theorem dX11_offer_5 : decode cX11_offer 5 = .ok (.aload_n 0, 1) := by decide +kernel
theorem dX11_offer_6 : decode cX11_offer 6 = .ok (.iload_n 1, 1) := by decide +kernel
theorem dX11_offer_7 : decode cX11_offer 7 = .ok (.iconst 0, 1) := by decide +kernel
theorem dX11_offer_8 : decode cX11_offer 8 = .ok (.iconst 4, 1) := by decide +kernel
theorem dX11_offer_9 : decode cX11_offer 9 = .ok (.invokestatic 69, 3) := by decide +kernel
theorem dX11_offer_12 : decode cX11_offer 12 = .ok (.ifCond .eq 30, 3) := by decide +kernel
theorem dX11_offer_15 : decode cX11_offer 15 = .ok (.iload_n 2, 1) := by decide +kernel
theorem dX11_offer_16 : decode cX11_offer 16 = .ok (.iconst 0, 1) := by decide +kernel
theorem dX11_offer_17 : decode cX11_offer 17 = .ok (.iconst 5, 1) := by decide +kernel
theorem dX11_offer_18 : decode cX11_offer 18 = .ok (.invokestatic 69, 3) := by decide +kernel
theorem dX11_offer_21 : decode cX11_offer 21 = .ok (.ifCond .eq 21, 3) := by decide +kernel
theorem dX11_offer_24 : decode cX11_offer 24 = .ok (.iload_n 3, 1) := by decide +kernel
theorem dX11_offer_25 : decode cX11_offer 25 = .ok (.iconst 0, 1) := by decide +kernel
theorem dX11_offer_26 : decode cX11_offer 26 = .ok (.iconst 5, 1) := by decide +kernel
theorem dX11_offer_27 : decode cX11_offer 27 = .ok (.invokestatic 69, 3) := by decide +kernel
theorem dX11_offer_30 : decode cX11_offer 30 = .ok (.ifCond .eq 12, 3) := by decide +kernel
theorem dX11_offer_33 : decode cX11_offer 33 = .ok (.iload_n 2, 1) := by decide +kernel
theorem dX11_offer_34 : decode cX11_offer 34 = .ok (.iload_n 3, 1) := by decide +kernel
theorem dX11_offer_35 : decode cX11_offer 35 = .ok (.if_icmp .eq 7, 3) := by decide +kernel
theorem dX11_offer_38 : decode cX11_offer 38 = .ok (.iconst 1, 1) := by decide +kernel
theorem dX11_offer_39 : decode cX11_offer 39 = .ok (.goto 4, 3) := by decide +kernel
theorem dX11_offer_42 : decode cX11_offer 42 = .ok (.iconst 0, 1) := by decide +kernel
theorem dX11_offer_43 : decode cX11_offer 43 = .ok (.iconst 1, 1) := by decide +kernel
theorem dX11_offer_44 : decode cX11_offer 44 = .ok (.invokevirtual 73, 3) := by decide +kernel
theorem dX11_offer_47 : decode cX11_offer 47 = .ok (.ifCond .ne 29, 3) := by decide +kernel
theorem dX11_offer_50 : decode cX11_offer 50 = .ok (.aload_n 0, 1) := by decide +kernel
theorem dX11_offer_51 : decode cX11_offer 51 = .ok (.aload_n 0, 1) := by decide +kernel
theorem dX11_offer_52 : decode cX11_offer 52 = .ok (.getfield 13, 3) := by decide +kernel
theorem dX11_offer_55 : decode cX11_offer 55 = .ok (.sipush 573, 3) := by decide +kernel
theorem dX11_offer_58 : decode cX11_offer 58 = .ok (.iaload, 1) := by decide +kernel
theorem dX11_offer_59 : decode cX11_offer 59 = .ok (.bipush 8, 2) := by decide +kernel
theorem dX11_offer_61 : decode cX11_offer 61 = .ok (.if_icmp .ge 7, 3) := by decide +kernel
theorem dX11_offer_64 : decode cX11_offer 64 = .ok (.iconst 1, 1) := by decide +kernel
theorem dX11_offer_65 : decode cX11_offer 65 = .ok (.goto 4, 3) := by decide +kernel
theorem dX11_offer_68 : decode cX11_offer 68 = .ok (.iconst 0, 1) := by decide +kernel
theorem dX11_offer_69 : decode cX11_offer 69 = .ok (.iconst 2, 1) := by decide +kernel
theorem dX11_offer_70 : decode cX11_offer 70 = .ok (.invokevirtual 73, 3) := by decide +kernel
theorem dX11_offer_73 : decode cX11_offer 73 = .ok (.ifCond .eq 5, 3) := by decide +kernel
theorem dX11_offer_76 : decode cX11_offer 76 = .ok (.iconst 0, 1) := by decide +kernel
theorem dX11_offer_77 : decode cX11_offer 77 = .ok (.ireturn, 1) := by decide +kernel
theorem dX11_offer_78 : decode cX11_offer 78 = .ok (.aload_n 0, 1) := by decide +kernel
theorem dX11_offer_79 : decode cX11_offer 79 = .ok (.invokevirtual 102, 3) := by decide +kernel
theorem dX11_offer_82 : decode cX11_offer 82 = .ok (.aload_n 0, 1) := by decide +kernel
theorem dX11_offer_83 : decode cX11_offer 83 = .ok (.getfield 13, 3) := by decide +kernel
theorem dX11_offer_86 : decode cX11_offer 86 = .ok (.sipush 573, 3) := by decide +kernel
theorem dX11_offer_89 : decode cX11_offer 89 = .ok (.iaload, 1) := by decide +kernel
theorem dX11_offer_90 : decode cX11_offer 90 = .ok (.istore 4, 2) := by decide +kernel
theorem dX11_offer_92 : decode cX11_offer 92 = .ok (.aload_n 0, 1) := by decide +kernel
theorem dX11_offer_93 : decode cX11_offer 93 = .ok (.getfield 13, 3) := by decide +kernel
theorem dX11_offer_96 : decode cX11_offer 96 = .ok (.sipush 544, 3) := by decide +kernel
theorem dX11_offer_99 : decode cX11_offer 99 = .ok (.iload 4, 2) := by decide +kernel
theorem dX11_offer_101 : decode cX11_offer 101 = .ok (.iadd, 1) := by decide +kernel
theorem dX11_offer_102 : decode cX11_offer 102 = .ok (.iload_n 1, 1) := by decide +kernel
theorem dX11_offer_103 : decode cX11_offer 103 = .ok (.iastore, 1) := by decide +kernel
theorem dX11_offer_104 : decode cX11_offer 104 = .ok (.aload_n 0, 1) := by decide +kernel
theorem dX11_offer_105 : decode cX11_offer 105 = .ok (.getfield 13, 3) := by decide +kernel
theorem dX11_offer_108 : decode cX11_offer 108 = .ok (.sipush 552, 3) := by decide +kernel
theorem dX11_offer_111 : decode cX11_offer 111 = .ok (.iload 4, 2) := by decide +kernel
theorem dX11_offer_113 : decode cX11_offer 113 = .ok (.iadd, 1) := by decide +kernel
theorem dX11_offer_114 : decode cX11_offer 114 = .ok (.iload_n 2, 1) := by decide +kernel
theorem dX11_offer_115 : decode cX11_offer 115 = .ok (.iastore, 1) := by decide +kernel
theorem dX11_offer_116 : decode cX11_offer 116 = .ok (.aload_n 0, 1) := by decide +kernel
theorem dX11_offer_117 : decode cX11_offer 117 = .ok (.getfield 13, 3) := by decide +kernel
theorem dX11_offer_120 : decode cX11_offer 120 = .ok (.sipush 560, 3) := by decide +kernel
theorem dX11_offer_123 : decode cX11_offer 123 = .ok (.iload 4, 2) := by decide +kernel
theorem dX11_offer_125 : decode cX11_offer 125 = .ok (.iadd, 1) := by decide +kernel
theorem dX11_offer_126 : decode cX11_offer 126 = .ok (.iload_n 3, 1) := by decide +kernel
theorem dX11_offer_127 : decode cX11_offer 127 = .ok (.iastore, 1) := by decide +kernel
theorem dX11_offer_128 : decode cX11_offer 128 = .ok (.aload_n 0, 1) := by decide +kernel
theorem dX11_offer_129 : decode cX11_offer 129 = .ok (.getfield 13, 3) := by decide +kernel
theorem dX11_offer_132 : decode cX11_offer 132 = .ok (.sipush 573, 3) := by decide +kernel
theorem dX11_offer_135 : decode cX11_offer 135 = .ok (.dup2, 1) := by decide +kernel
theorem dX11_offer_136 : decode cX11_offer 136 = .ok (.iaload, 1) := by decide +kernel
theorem dX11_offer_137 : decode cX11_offer 137 = .ok (.iconst 1, 1) := by decide +kernel
theorem dX11_offer_138 : decode cX11_offer 138 = .ok (.iadd, 1) := by decide +kernel
theorem dX11_offer_139 : decode cX11_offer 139 = .ok (.iastore, 1) := by decide +kernel
theorem dX11_offer_140 : decode cX11_offer 140 = .ok (.iload 4, 2) := by decide +kernel
theorem dX11_offer_142 : decode cX11_offer 142 = .ok (.ireturn, 1) := by decide +kernel
set_option maxRecDepth 20000 in
theorem ggX11_clearOffers_X11_keeps : GoodIn wsX11_clearOffers wsX11_keeps := goodIn_r _ [7, 8, 9, 2, 10, 11, 12, 13, 14, 15, 16, 17, 18, 19, 20, 21, 22, 23, 24, 25, 26, 27, 28, 29, 30, 31] rfl (by decide +kernel)
set_option maxRecDepth 20000 in
theorem gX11_clearOffers_X11_keeps : GoodIn wsX11_clearOffers (wsV RX11 102 RX11 yX11_keeps wsX11_keeps) := goodIn_app (goodIn_of _ (by decide +kernel)) ggX11_clearOffers_X11_keeps
theorem dX11_clearOffers_0 : decode cX11_clearOffers 0 = .ok (.aload_n 0, 1) := by decide +kernel
theorem dX11_clearOffers_1 : decode cX11_clearOffers 1 = .ok (.iconst 0, 1) := by decide +kernel
theorem dX11_clearOffers_2 : decode cX11_clearOffers 2 = .ok (.putfield 1, 3) := by decide +kernel
theorem dX11_clearOffers_5 : decode cX11_clearOffers 5 = .ok (.aload_n 0, 1) := by decide +kernel
theorem dX11_clearOffers_6 : decode cX11_clearOffers 6 = .ok (.invokevirtual 102, 3) := by decide +kernel
theorem dX11_clearOffers_9 : decode cX11_clearOffers 9 = .ok (.aload_n 0, 1) := by decide +kernel
theorem dX11_clearOffers_10 : decode cX11_clearOffers 10 = .ok (.getfield 13, 3) := by decide +kernel
theorem dX11_clearOffers_13 : decode cX11_clearOffers 13 = .ok (.sipush 573, 3) := by decide +kernel
theorem dX11_clearOffers_16 : decode cX11_clearOffers 16 = .ok (.iaload, 1) := by decide +kernel
theorem dX11_clearOffers_17 : decode cX11_clearOffers 17 = .ok (.istore_n 1, 1) := by decide +kernel
theorem dX11_clearOffers_18 : decode cX11_clearOffers 18 = .ok (.aload_n 0, 1) := by decide +kernel
theorem dX11_clearOffers_19 : decode cX11_clearOffers 19 = .ok (.getfield 13, 3) := by decide +kernel
theorem dX11_clearOffers_22 : decode cX11_clearOffers 22 = .ok (.sipush 573, 3) := by decide +kernel
theorem dX11_clearOffers_25 : decode cX11_clearOffers 25 = .ok (.iconst 0, 1) := by decide +kernel
theorem dX11_clearOffers_26 : decode cX11_clearOffers 26 = .ok (.iastore, 1) := by decide +kernel
theorem dX11_clearOffers_27 : decode cX11_clearOffers 27 = .ok (.iload_n 1, 1) := by decide +kernel
theorem dX11_clearOffers_28 : decode cX11_clearOffers 28 = .ok (.ireturn, 1) := by decide +kernel
theorem dX11_canGet_0 : decode cX11_canGet 0 = .ok (.aload_n 0, 1) := by decide +kernel
theorem dX11_canGet_1 : decode cX11_canGet 1 = .ok (.getfield 44, 3) := by decide +kernel
theorem dX11_canGet_4 : decode cX11_canGet 4 = .ok (.iload_n 1, 1) := by decide +kernel
theorem dX11_canGet_5 : decode cX11_canGet 5 = .ok (.iaload, 1) := by decide +kernel
theorem dX11_canGet_6 : decode cX11_canGet 6 = .ok (.istore_n 2, 1) := by decide +kernel
theorem dX11_canGet_7 : decode cX11_canGet 7 = .ok (.iload_n 2, 1) := by decide +kernel
theorem dX11_canGet_8 : decode cX11_canGet 8 = .ok (.bipush 8, 2) := by decide +kernel
theorem dX11_canGet_10 : decode cX11_canGet 10 = .ok (.if_icmp .ne 5, 3) := by decide +kernel
theorem dX11_canGet_13 : decode cX11_canGet 13 = .ok (.iconst 1, 1) := by decide +kernel
theorem dX11_canGet_14 : decode cX11_canGet 14 = .ok (.ireturn, 1) := by decide +kernel
theorem dX11_canGet_15 : decode cX11_canGet 15 = .ok (.iload_n 2, 1) := by decide +kernel
theorem dX11_canGet_16 : decode cX11_canGet 16 = .ok (.aload_n 0, 1) := by decide +kernel
theorem dX11_canGet_17 : decode cX11_canGet 17 = .ok (.getfield 13, 3) := by decide +kernel
theorem dX11_canGet_20 : decode cX11_canGet 20 = .ok (.sipush 573, 3) := by decide +kernel
theorem dX11_canGet_23 : decode cX11_canGet 23 = .ok (.iaload, 1) := by decide +kernel
theorem dX11_canGet_24 : decode cX11_canGet 24 = .ok (.if_icmp .ge 49, 3) := by decide +kernel
theorem dX11_canGet_27 : decode cX11_canGet 27 = .ok (.aload_n 0, 1) := by decide +kernel
theorem dX11_canGet_28 : decode cX11_canGet 28 = .ok (.getfield 13, 3) := by decide +kernel
theorem dX11_canGet_31 : decode cX11_canGet 31 = .ok (.sipush 552, 3) := by decide +kernel
theorem dX11_canGet_34 : decode cX11_canGet 34 = .ok (.iload_n 2, 1) := by decide +kernel
theorem dX11_canGet_35 : decode cX11_canGet 35 = .ok (.iadd, 1) := by decide +kernel
theorem dX11_canGet_36 : decode cX11_canGet 36 = .ok (.iaload, 1) := by decide +kernel
theorem dX11_canGet_37 : decode cX11_canGet 37 = .ok (.aload_n 0, 1) := by decide +kernel
theorem dX11_canGet_38 : decode cX11_canGet 38 = .ok (.getfield 13, 3) := by decide +kernel
theorem dX11_canGet_41 : decode cX11_canGet 41 = .ok (.sipush 560, 3) := by decide +kernel
theorem dX11_canGet_44 : decode cX11_canGet 44 = .ok (.iload_n 1, 1) := by decide +kernel
theorem dX11_canGet_45 : decode cX11_canGet 45 = .ok (.iadd, 1) := by decide +kernel
theorem dX11_canGet_46 : decode cX11_canGet 46 = .ok (.iaload, 1) := by decide +kernel
theorem dX11_canGet_47 : decode cX11_canGet 47 = .ok (.if_icmp .ne 26, 3) := by decide +kernel
theorem dX11_canGet_50 : decode cX11_canGet 50 = .ok (.aload_n 0, 1) := by decide +kernel
theorem dX11_canGet_51 : decode cX11_canGet 51 = .ok (.getfield 13, 3) := by decide +kernel
theorem dX11_canGet_54 : decode cX11_canGet 54 = .ok (.sipush 544, 3) := by decide +kernel
theorem dX11_canGet_57 : decode cX11_canGet 57 = .ok (.iload_n 2, 1) := by decide +kernel
theorem dX11_canGet_58 : decode cX11_canGet 58 = .ok (.iadd, 1) := by decide +kernel
theorem dX11_canGet_59 : decode cX11_canGet 59 = .ok (.iaload, 1) := by decide +kernel
theorem dX11_canGet_60 : decode cX11_canGet 60 = .ok (.aload_n 0, 1) := by decide +kernel
theorem dX11_canGet_61 : decode cX11_canGet 61 = .ok (.getfield 13, 3) := by decide +kernel
theorem dX11_canGet_64 : decode cX11_canGet 64 = .ok (.sipush 544, 3) := by decide +kernel
theorem dX11_canGet_67 : decode cX11_canGet 67 = .ok (.iload_n 1, 1) := by decide +kernel
theorem dX11_canGet_68 : decode cX11_canGet 68 = .ok (.iadd, 1) := by decide +kernel
theorem dX11_canGet_69 : decode cX11_canGet 69 = .ok (.iaload, 1) := by decide +kernel
theorem dX11_canGet_70 : decode cX11_canGet 70 = .ok (.if_icmp .ne 5, 3) := by decide +kernel
theorem dX11_canGet_73 : decode cX11_canGet 73 = .ok (.iconst 0, 1) := by decide +kernel
theorem dX11_canGet_74 : decode cX11_canGet 74 = .ok (.ireturn, 1) := by decide +kernel
theorem dX11_canGet_75 : decode cX11_canGet 75 = .ok (.iconst 0, 1) := by decide +kernel
theorem dX11_canGet_76 : decode cX11_canGet 76 = .ok (.istore_n 3, 1) := by decide +kernel
theorem dX11_canGet_77 : decode cX11_canGet 77 = .ok (.iload_n 3, 1) := by decide +kernel
theorem dX11_canGet_78 : decode cX11_canGet 78 = .ok (.iload_n 1, 1) := by decide +kernel
theorem dX11_canGet_79 : decode cX11_canGet 79 = .ok (.if_icmp .ge 21, 3) := by decide +kernel
theorem dX11_canGet_82 : decode cX11_canGet 82 = .ok (.aload_n 0, 1) := by decide +kernel
theorem dX11_canGet_83 : decode cX11_canGet 83 = .ok (.getfield 44, 3) := by decide +kernel
theorem dX11_canGet_86 : decode cX11_canGet 86 = .ok (.iload_n 3, 1) := by decide +kernel
theorem dX11_canGet_87 : decode cX11_canGet 87 = .ok (.iaload, 1) := by decide +kernel
theorem dX11_canGet_88 : decode cX11_canGet 88 = .ok (.iload_n 2, 1) := by decide +kernel
theorem dX11_canGet_89 : decode cX11_canGet 89 = .ok (.if_icmp .ne 5, 3) := by decide +kernel
theorem dX11_canGet_92 : decode cX11_canGet 92 = .ok (.iconst 0, 1) := by decide +kernel
theorem dX11_canGet_93 : decode cX11_canGet 93 = .ok (.ireturn, 1) := by decide +kernel
theorem dX11_canGet_94 : decode cX11_canGet 94 = .ok (.iinc 3 1, 3) := by decide +kernel
theorem dX11_canGet_97 : decode cX11_canGet 97 = .ok (.goto (-20), 3) := by decide +kernel
theorem dX11_canGet_100 : decode cX11_canGet 100 = .ok (.iconst 1, 1) := by decide +kernel
theorem dX11_canGet_101 : decode cX11_canGet 101 = .ok (.ireturn, 1) := by decide +kernel
set_option maxRecDepth 20000 in
theorem ggX11_planned_X11_bits : GoodIn wsX11_planned wsX11_bits := goodIn_r _ [6] rfl (by decide +kernel)
set_option maxRecDepth 20000 in
theorem gX11_planned_X11_bits : GoodIn wsX11_planned (va_wsS RX11 131 yX11_bits wsX11_bits) := goodIn_app (goodIn_of _ (by decide +kernel)) ggX11_planned_X11_bits
theorem dX11_planned_0 : decode cX11_planned 0 = .ok (.iconst 0, 1) := by decide +kernel
theorem dX11_planned_1 : decode cX11_planned 1 = .ok (.istore_n 1, 1) := by decide +kernel
theorem dX11_planned_2 : decode cX11_planned 2 = .ok (.iconst 0, 1) := by decide +kernel
theorem dX11_planned_3 : decode cX11_planned 3 = .ok (.istore_n 2, 1) := by decide +kernel
theorem dX11_planned_4 : decode cX11_planned 4 = .ok (.iconst 0, 1) := by decide +kernel
theorem dX11_planned_5 : decode cX11_planned 5 = .ok (.istore_n 3, 1) := by decide +kernel
theorem dX11_planned_6 : decode cX11_planned 6 = .ok (.iload_n 3, 1) := by decide +kernel
theorem dX11_planned_7 : decode cX11_planned 7 = .ok (.aload_n 0, 1) := by decide +kernel
theorem dX11_planned_8 : decode cX11_planned 8 = .ok (.getfield 13, 3) := by decide +kernel
theorem dX11_planned_11 : decode cX11_planned 11 = .ok (.sipush 573, 3) := by decide +kernel
theorem dX11_planned_14 : decode cX11_planned 14 = .ok (.iaload, 1) := by decide +kernel
theorem dX11_planned_15 : decode cX11_planned 15 = .ok (.if_icmp .ge 40, 3) := by decide +kernel
theorem dX11_planned_18 : decode cX11_planned 18 = .ok (.aload_n 0, 1) := by decide +kernel
theorem dX11_planned_19 : decode cX11_planned 19 = .ok (.getfield 44, 3) := by decide +kernel
theorem dX11_planned_22 : decode cX11_planned 22 = .ok (.iload_n 3, 1) := by decide +kernel
theorem dX11_planned_23 : decode cX11_planned 23 = .ok (.iaload, 1) := by decide +kernel
theorem dX11_planned_24 : decode cX11_planned 24 = .ok (.bipush 8, 2) := by decide +kernel
theorem dX11_planned_26 : decode cX11_planned 26 = .ok (.if_icmp .ne 6, 3) := by decide +kernel
theorem dX11_planned_29 : decode cX11_planned 29 = .ok (.goto 20, 3) := by decide +kernel
theorem dX11_planned_32 : decode cX11_planned 32 = .ok (.iload_n 1, 1) := by decide +kernel
theorem dX11_planned_33 : decode cX11_planned 33 = .ok (.iconst 1, 1) := by decide +kernel
theorem dX11_planned_34 : decode cX11_planned 34 = .ok (.iload_n 3, 1) := by decide +kernel
theorem dX11_planned_35 : decode cX11_planned 35 = .ok (.ishl, 1) := by decide +kernel
theorem dX11_planned_36 : decode cX11_planned 36 = .ok (.ior, 1) := by decide +kernel
theorem dX11_planned_37 : decode cX11_planned 37 = .ok (.istore_n 1, 1) := by decide +kernel
theorem dX11_planned_38 : decode cX11_planned 38 = .ok (.iload_n 2, 1) := by decide +kernel
theorem dX11_planned_39 : decode cX11_planned 39 = .ok (.iconst 1, 1) := by decide +kernel
theorem dX11_planned_40 : decode cX11_planned 40 = .ok (.aload_n 0, 1) := by decide +kernel
theorem dX11_planned_41 : decode cX11_planned 41 = .ok (.getfield 44, 3) := by decide +kernel
theorem dX11_planned_44 : decode cX11_planned 44 = .ok (.iload_n 3, 1) := by decide +kernel
theorem dX11_planned_45 : decode cX11_planned 45 = .ok (.iaload, 1) := by decide +kernel
theorem dX11_planned_46 : decode cX11_planned 46 = .ok (.ishl, 1) := by decide +kernel
theorem dX11_planned_47 : decode cX11_planned 47 = .ok (.ior, 1) := by decide +kernel
theorem dX11_planned_48 : decode cX11_planned 48 = .ok (.istore_n 2, 1) := by decide +kernel
theorem dX11_planned_49 : decode cX11_planned 49 = .ok (.iinc 3 1, 3) := by decide +kernel
theorem dX11_planned_52 : decode cX11_planned 52 = .ok (.goto (-46), 3) := by decide +kernel
theorem dX11_planned_55 : decode cX11_planned 55 = .ok (.iload_n 1, 1) := by decide +kernel
theorem dX11_planned_56 : decode cX11_planned 56 = .ok (.iload_n 2, 1) := by decide +kernel
theorem dX11_planned_57 : decode cX11_planned 57 = .ok (.if_icmp .ne 10, 3) := by decide +kernel
theorem dX11_planned_60 : decode cX11_planned 60 = .ok (.iload_n 1, 1) := by decide +kernel
theorem dX11_planned_61 : decode cX11_planned 61 = .ok (.invokestatic 131, 3) := by decide +kernel
theorem dX11_planned_64 : decode cX11_planned 64 = .ok (.goto 4, 3) := by decide +kernel
theorem dX11_planned_67 : decode cX11_planned 67 = .ok (.iconst (-1), 1) := by decide +kernel
theorem dX11_planned_68 : decode cX11_planned 68 = .ok (.ireturn, 1) := by decide +kernel
set_option maxRecDepth 20000 in
theorem ggX11_findsPlan_X11_canGet : GoodIn wsX11_findsPlan wsX11_canGet := goodIn_r _ [8, 1, 2, 16, 17, 18, 19, 20, 21, 22, 23, 24, 25, 26, 27, 28, 29, 30, 31, 32, 33, 34, 35, 36, 37] rfl (by decide +kernel)
set_option maxRecDepth 20000 in
theorem gX11_findsPlan_X11_canGet : GoodIn wsX11_findsPlan (wsV RX11 220 RX11 yX11_canGet wsX11_canGet) := goodIn_app (goodIn_of _ (by decide +kernel)) ggX11_findsPlan_X11_canGet
set_option maxRecDepth 20000 in
theorem ggX11_findsPlan_X11_planned : GoodIn wsX11_findsPlan wsX11_planned := goodIn_r _ [12, 2, 1, 13, 14, 7, 15, 16, 17, 18, 19, 20, 21, 22, 23, 24, 25, 26, 27, 28, 29, 30, 31, 32, 33, 34, 35, 36, 37] rfl (by decide +kernel)
set_option maxRecDepth 20000 in
theorem gX11_findsPlan_X11_planned : GoodIn wsX11_findsPlan (wsV RX11 223 RX11 yX11_planned wsX11_planned) := goodIn_app (goodIn_of _ (by decide +kernel)) ggX11_findsPlan_X11_planned
theorem dX11_findsPlan_0 : decode cX11_findsPlan 0 = .ok (.iconst (-1), 1) := by decide +kernel
theorem dX11_findsPlan_1 : decode cX11_findsPlan 1 = .ok (.istore_n 1, 1) := by decide +kernel
theorem dX11_findsPlan_2 : decode cX11_findsPlan 2 = .ok (.iconst 0, 1) := by decide +kernel
theorem dX11_findsPlan_3 : decode cX11_findsPlan 3 = .ok (.istore_n 2, 1) := by decide +kernel
theorem dX11_findsPlan_4 : decode cX11_findsPlan 4 = .ok (.aload_n 0, 1) := by decide +kernel
theorem dX11_findsPlan_5 : decode cX11_findsPlan 5 = .ok (.getfield 44, 3) := by decide +kernel
theorem dX11_findsPlan_8 : decode cX11_findsPlan 8 = .ok (.iconst 0, 1) := by decide +kernel
theorem dX11_findsPlan_9 : decode cX11_findsPlan 9 = .ok (.iconst (-1), 1) := by decide +kernel
theorem dX11_findsPlan_10 : decode cX11_findsPlan 10 = .ok (.iastore, 1) := by decide +kernel
theorem dX11_findsPlan_11 : decode cX11_findsPlan 11 = .ok (.aload_n 0, 1) := by decide +kernel
theorem dX11_findsPlan_12 : decode cX11_findsPlan 12 = .ok (.getfield 13, 3) := by decide +kernel
theorem dX11_findsPlan_15 : decode cX11_findsPlan 15 = .ok (.sipush 573, 3) := by decide +kernel
theorem dX11_findsPlan_18 : decode cX11_findsPlan 18 = .ok (.iaload, 1) := by decide +kernel
theorem dX11_findsPlan_19 : decode cX11_findsPlan 19 = .ok (.ifCond .ne 5, 3) := by decide +kernel
theorem dX11_findsPlan_22 : decode cX11_findsPlan 22 = .ok (.iconst 0, 1) := by decide +kernel
theorem dX11_findsPlan_23 : decode cX11_findsPlan 23 = .ok (.ireturn, 1) := by decide +kernel
theorem dX11_findsPlan_24 : decode cX11_findsPlan 24 = .ok (.iload_n 2, 1) := by decide +kernel
theorem dX11_findsPlan_25 : decode cX11_findsPlan 25 = .ok (.ifCond .lt 143, 3) := by decide +kernel
theorem dX11_findsPlan_28 : decode cX11_findsPlan 28 = .ok (.aload_n 0, 1) := by decide +kernel
theorem dX11_findsPlan_29 : decode cX11_findsPlan 29 = .ok (.getfield 44, 3) := by decide +kernel
theorem dX11_findsPlan_32 : decode cX11_findsPlan 32 = .ok (.iload_n 2, 1) := by decide +kernel
theorem dX11_findsPlan_33 : decode cX11_findsPlan 33 = .ok (.dup2, 1) := by decide +kernel
theorem dX11_findsPlan_34 : decode cX11_findsPlan 34 = .ok (.iaload, 1) := by decide +kernel
theorem dX11_findsPlan_35 : decode cX11_findsPlan 35 = .ok (.iconst 1, 1) := by decide +kernel
theorem dX11_findsPlan_36 : decode cX11_findsPlan 36 = .ok (.iadd, 1) := by decide +kernel
theorem dX11_findsPlan_37 : decode cX11_findsPlan 37 = .ok (.iastore, 1) := by decide +kernel
theorem dX11_findsPlan_38 : decode cX11_findsPlan 38 = .ok (.aload_n 0, 1) := by decide +kernel
theorem dX11_findsPlan_39 : decode cX11_findsPlan 39 = .ok (.getfield 44, 3) := by decide +kernel
theorem dX11_findsPlan_42 : decode cX11_findsPlan 42 = .ok (.iload_n 2, 1) := by decide +kernel
theorem dX11_findsPlan_43 : decode cX11_findsPlan 43 = .ok (.iaload, 1) := by decide +kernel
theorem dX11_findsPlan_44 : decode cX11_findsPlan 44 = .ok (.bipush 8, 2) := by decide +kernel
theorem dX11_findsPlan_46 : decode cX11_findsPlan 46 = .ok (.if_icmp .gt 24, 3) := by decide +kernel
theorem dX11_findsPlan_49 : decode cX11_findsPlan 49 = .ok (.aload_n 0, 1) := by decide +kernel
theorem dX11_findsPlan_50 : decode cX11_findsPlan 50 = .ok (.iload_n 2, 1) := by decide +kernel
theorem dX11_findsPlan_51 : decode cX11_findsPlan 51 = .ok (.invokevirtual 220, 3) := by decide +kernel
theorem dX11_findsPlan_54 : decode cX11_findsPlan 54 = .ok (.ifCond .ne 16, 3) := by decide +kernel
theorem dX11_findsPlan_57 : decode cX11_findsPlan 57 = .ok (.aload_n 0, 1) := by decide +kernel
theorem dX11_findsPlan_58 : decode cX11_findsPlan 58 = .ok (.getfield 44, 3) := by decide +kernel
theorem dX11_findsPlan_61 : decode cX11_findsPlan 61 = .ok (.iload_n 2, 1) := by decide +kernel
theorem dX11_findsPlan_62 : decode cX11_findsPlan 62 = .ok (.dup2, 1) := by decide +kernel
theorem dX11_findsPlan_63 : decode cX11_findsPlan 63 = .ok (.iaload, 1) := by decide +kernel
theorem dX11_findsPlan_64 : decode cX11_findsPlan 64 = .ok (.iconst 1, 1) := by decide +kernel
theorem dX11_findsPlan_65 : decode cX11_findsPlan 65 = .ok (.iadd, 1) := by decide +kernel
theorem dX11_findsPlan_66 : decode cX11_findsPlan 66 = .ok (.iastore, 1) := by decide +kernel
theorem dX11_findsPlan_67 : decode cX11_findsPlan 67 = .ok (.goto (-29), 3) := by decide +kernel
theorem dX11_findsPlan_70 : decode cX11_findsPlan 70 = .ok (.aload_n 0, 1) := by decide +kernel
theorem dX11_findsPlan_71 : decode cX11_findsPlan 71 = .ok (.getfield 44, 3) := by decide +kernel
theorem dX11_findsPlan_74 : decode cX11_findsPlan 74 = .ok (.iload_n 2, 1) := by decide +kernel
theorem dX11_findsPlan_75 : decode cX11_findsPlan 75 = .ok (.iaload, 1) := by decide +kernel
theorem dX11_findsPlan_76 : decode cX11_findsPlan 76 = .ok (.bipush 8, 2) := by decide +kernel
theorem dX11_findsPlan_78 : decode cX11_findsPlan 78 = .ok (.if_icmp .le 9, 3) := by decide +kernel
theorem dX11_findsPlan_81 : decode cX11_findsPlan 81 = .ok (.iinc 2 (-1), 3) := by decide +kernel
theorem dX11_findsPlan_84 : decode cX11_findsPlan 84 = .ok (.goto (-60), 3) := by decide +kernel
theorem dX11_findsPlan_87 : decode cX11_findsPlan 87 = .ok (.iload_n 2, 1) := by decide +kernel
theorem dX11_findsPlan_88 : decode cX11_findsPlan 88 = .ok (.aload_n 0, 1) := by decide +kernel
theorem dX11_findsPlan_89 : decode cX11_findsPlan 89 = .ok (.getfield 13, 3) := by decide +kernel
theorem dX11_findsPlan_92 : decode cX11_findsPlan 92 = .ok (.sipush 573, 3) := by decide +kernel
theorem dX11_findsPlan_95 : decode cX11_findsPlan 95 = .ok (.iaload, 1) := by decide +kernel
theorem dX11_findsPlan_96 : decode cX11_findsPlan 96 = .ok (.iconst 1, 1) := by decide +kernel
theorem dX11_findsPlan_97 : decode cX11_findsPlan 97 = .ok (.isub, 1) := by decide +kernel
theorem dX11_findsPlan_98 : decode cX11_findsPlan 98 = .ok (.if_icmp .ge 16, 3) := by decide +kernel
theorem dX11_findsPlan_101 : decode cX11_findsPlan 101 = .ok (.iinc 2 1, 3) := by decide +kernel
theorem dX11_findsPlan_104 : decode cX11_findsPlan 104 = .ok (.aload_n 0, 1) := by decide +kernel
theorem dX11_findsPlan_105 : decode cX11_findsPlan 105 = .ok (.getfield 44, 3) := by decide +kernel
theorem dX11_findsPlan_108 : decode cX11_findsPlan 108 = .ok (.iload_n 2, 1) := by decide +kernel
theorem dX11_findsPlan_109 : decode cX11_findsPlan 109 = .ok (.iconst (-1), 1) := by decide +kernel
theorem dX11_findsPlan_110 : decode cX11_findsPlan 110 = .ok (.iastore, 1) := by decide +kernel
theorem dX11_findsPlan_111 : decode cX11_findsPlan 111 = .ok (.goto (-87), 3) := by decide +kernel
theorem dX11_findsPlan_114 : decode cX11_findsPlan 114 = .ok (.aload_n 0, 1) := by decide +kernel
theorem dX11_findsPlan_115 : decode cX11_findsPlan 115 = .ok (.invokevirtual 223, 3) := by decide +kernel
theorem dX11_findsPlan_118 : decode cX11_findsPlan 118 = .ok (.istore_n 3, 1) := by decide +kernel
theorem dX11_findsPlan_119 : decode cX11_findsPlan 119 = .ok (.iload_n 3, 1) := by decide +kernel
theorem dX11_findsPlan_120 : decode cX11_findsPlan 120 = .ok (.iload_n 1, 1) := by decide +kernel
theorem dX11_findsPlan_121 : decode cX11_findsPlan 121 = .ok (.if_icmp .gt 6, 3) := by decide +kernel
theorem dX11_findsPlan_124 : decode cX11_findsPlan 124 = .ok (.goto (-100), 3) := by decide +kernel
theorem dX11_findsPlan_127 : decode cX11_findsPlan 127 = .ok (.iload_n 3, 1) := by decide +kernel
theorem dX11_findsPlan_128 : decode cX11_findsPlan 128 = .ok (.istore_n 1, 1) := by decide +kernel
theorem dX11_findsPlan_129 : decode cX11_findsPlan 129 = .ok (.iconst 0, 1) := by decide +kernel
theorem dX11_findsPlan_130 : decode cX11_findsPlan 130 = .ok (.istore 4, 2) := by decide +kernel
theorem dX11_findsPlan_132 : decode cX11_findsPlan 132 = .ok (.iload 4, 2) := by decide +kernel
theorem dX11_findsPlan_134 : decode cX11_findsPlan 134 = .ok (.aload_n 0, 1) := by decide +kernel
theorem dX11_findsPlan_135 : decode cX11_findsPlan 135 = .ok (.getfield 13, 3) := by decide +kernel
theorem dX11_findsPlan_138 : decode cX11_findsPlan 138 = .ok (.sipush 573, 3) := by decide +kernel
theorem dX11_findsPlan_141 : decode cX11_findsPlan 141 = .ok (.iaload, 1) := by decide +kernel
theorem dX11_findsPlan_142 : decode cX11_findsPlan 142 = .ok (.if_icmp .ge 23, 3) := by decide +kernel
theorem dX11_findsPlan_145 : decode cX11_findsPlan 145 = .ok (.aload_n 0, 1) := by decide +kernel
theorem dX11_findsPlan_146 : decode cX11_findsPlan 146 = .ok (.getfield 47, 3) := by decide +kernel
theorem dX11_findsPlan_149 : decode cX11_findsPlan 149 = .ok (.iload 4, 2) := by decide +kernel
theorem dX11_findsPlan_151 : decode cX11_findsPlan 151 = .ok (.aload_n 0, 1) := by decide +kernel
theorem dX11_findsPlan_152 : decode cX11_findsPlan 152 = .ok (.getfield 44, 3) := by decide +kernel
theorem dX11_findsPlan_155 : decode cX11_findsPlan 155 = .ok (.iload 4, 2) := by decide +kernel
theorem dX11_findsPlan_157 : decode cX11_findsPlan 157 = .ok (.iaload, 1) := by decide +kernel
theorem dX11_findsPlan_158 : decode cX11_findsPlan 158 = .ok (.iastore, 1) := by decide +kernel
theorem dX11_findsPlan_159 : decode cX11_findsPlan 159 = .ok (.iinc 4 1, 3) := by decide +kernel
theorem dX11_findsPlan_162 : decode cX11_findsPlan 162 = .ok (.goto (-30), 3) := by decide +kernel
theorem dX11_findsPlan_165 : decode cX11_findsPlan 165 = .ok (.goto (-141), 3) := by decide +kernel
theorem dX11_findsPlan_168 : decode cX11_findsPlan 168 = .ok (.iload_n 1, 1) := by decide +kernel
theorem dX11_findsPlan_169 : decode cX11_findsPlan 169 = .ok (.ireturn, 1) := by decide +kernel
set_option maxRecDepth 20000 in
theorem ggX11_plan_X11_findsPlan : GoodIn wsX11_plan wsX11_findsPlan := goodIn_r _ [6, 7, 8, 9, 10, 11, 12, 5, 13, 14, 15, 16, 17, 18, 19, 20, 21, 22, 23, 24, 25, 26, 27, 28, 29, 30, 31, 32, 33, 34, 35, 36, 37, 38, 39, 40, 41, 42] rfl (by decide +kernel)
set_option maxRecDepth 20000 in
theorem gX11_plan_X11_findsPlan : GoodIn wsX11_plan (wsV RX11 226 RX11 yX11_findsPlan wsX11_findsPlan) := goodIn_app (goodIn_of _ (by decide +kernel)) ggX11_plan_X11_findsPlan
theorem dX11_plan_0 : decode cX11_plan 0 = .ok (.aload_n 0, 1) := by decide +kernel
theorem dX11_plan_1 : decode cX11_plan 1 = .ok (.iconst 0, 1) := by decide +kernel
theorem dX11_plan_2 : decode cX11_plan 2 = .ok (.putfield 1, 3) := by decide +kernel
theorem dX11_plan_5 : decode cX11_plan 5 = .ok (.aload_n 0, 1) := by decide +kernel
theorem dX11_plan_6 : decode cX11_plan 6 = .ok (.invokevirtual 226, 3) := by decide +kernel
theorem dX11_plan_9 : decode cX11_plan 9 = .ok (.ireturn, 1) := by decide +kernel
set_option maxRecDepth 20000 in
theorem ggX11_getsFrom_X11_in : GoodIn wsX11_getsFrom wsX11_in := goodIn_r _ [7] rfl (by decide +kernel)
set_option maxRecDepth 20000 in
theorem gX11_getsFrom_X11_in : GoodIn wsX11_getsFrom (va_wsS RX11 69 yX11_in wsX11_in) := goodIn_app (goodIn_of _ (by decide +kernel)) ggX11_getsFrom_X11_in
set_option maxRecDepth 20000 in
theorem ggX11_getsFrom_X11_fails : GoodIn wsX11_getsFrom wsX11_fails := goodIn_r _ [11, 1, 28, 29, 30, 31, 32, 33, 34, 35, 36, 37, 38, 39, 40, 41, 42, 43, 44, 45, 46, 47, 48, 49] rfl (by decide +kernel)
set_option maxRecDepth 20000 in
theorem gX11_getsFrom_X11_fails : GoodIn wsX11_getsFrom (wsV RX11 73 RX11 yX11_fails wsX11_fails) := goodIn_app (goodIn_of _ (by decide +kernel)) ggX11_getsFrom_X11_fails
set_option maxRecDepth 20000 in
theorem ggX11_getsFrom_X11_findsPlan : GoodIn wsX11_getsFrom wsX11_findsPlan := goodIn_r _ [15, 16, 2, 3, 17, 18, 19, 6, 20, 21, 22, 23, 24, 25, 26, 27, 28, 29, 30, 31, 32, 33, 34, 35, 36, 37, 38, 39, 40, 41, 42, 43, 44, 45, 46, 47, 48, 49] rfl (by decide +kernel)
set_option maxRecDepth 20000 in
theorem gX11_getsFrom_X11_findsPlan : GoodIn wsX11_getsFrom (wsV RX11 226 RX11 yX11_findsPlan wsX11_findsPlan) := goodIn_app (goodIn_of _ (by decide +kernel)) ggX11_getsFrom_X11_findsPlan
theorem dX11_getsFrom_0 : decode cX11_getsFrom 0 = .ok (.aload_n 0, 1) := by decide +kernel
theorem dX11_getsFrom_1 : decode cX11_getsFrom 1 = .ok (.iconst 0, 1) := by decide +kernel
theorem dX11_getsFrom_2 : decode cX11_getsFrom 2 = .ok (.putfield 1, 3) := by decide +kernel
theorem dX11_getsFrom_5 : decode cX11_getsFrom 5 = .ok (.aload_n 0, 1) := by decide +kernel
theorem dX11_getsFrom_6 : decode cX11_getsFrom 6 = .ok (.iload_n 1, 1) := by decide +kernel
theorem dX11_getsFrom_7 : decode cX11_getsFrom 7 = .ok (.iconst 0, 1) := by decide +kernel
theorem dX11_getsFrom_8 : decode cX11_getsFrom 8 = .ok (.aload_n 0, 1) := by decide +kernel
theorem dX11_getsFrom_9 : decode cX11_getsFrom 9 = .ok (.getfield 13, 3) := by decide +kernel
theorem dX11_getsFrom_12 : decode cX11_getsFrom 12 = .ok (.sipush 573, 3) := by decide +kernel
theorem dX11_getsFrom_15 : decode cX11_getsFrom 15 = .ok (.iaload, 1) := by decide +kernel
theorem dX11_getsFrom_16 : decode cX11_getsFrom 16 = .ok (.iconst 1, 1) := by decide +kernel
theorem dX11_getsFrom_17 : decode cX11_getsFrom 17 = .ok (.isub, 1) := by decide +kernel
theorem dX11_getsFrom_18 : decode cX11_getsFrom 18 = .ok (.invokestatic 69, 3) := by decide +kernel
theorem dX11_getsFrom_21 : decode cX11_getsFrom 21 = .ok (.iconst 1, 1) := by decide +kernel
theorem dX11_getsFrom_22 : decode cX11_getsFrom 22 = .ok (.invokevirtual 73, 3) := by decide +kernel
theorem dX11_getsFrom_25 : decode cX11_getsFrom 25 = .ok (.ifCond .eq 5, 3) := by decide +kernel
theorem dX11_getsFrom_28 : decode cX11_getsFrom 28 = .ok (.iconst 0, 1) := by decide +kernel
theorem dX11_getsFrom_29 : decode cX11_getsFrom 29 = .ok (.ireturn, 1) := by decide +kernel
theorem dX11_getsFrom_30 : decode cX11_getsFrom 30 = .ok (.aload_n 0, 1) := by decide +kernel
theorem dX11_getsFrom_31 : decode cX11_getsFrom 31 = .ok (.invokevirtual 226, 3) := by decide +kernel
theorem dX11_getsFrom_34 : decode cX11_getsFrom 34 = .ok (.istore_n 2, 1) := by decide +kernel
theorem dX11_getsFrom_35 : decode cX11_getsFrom 35 = .ok (.aload_n 0, 1) := by decide +kernel
theorem dX11_getsFrom_36 : decode cX11_getsFrom 36 = .ok (.getfield 47, 3) := by decide +kernel
theorem dX11_getsFrom_39 : decode cX11_getsFrom 39 = .ok (.iload_n 1, 1) := by decide +kernel
theorem dX11_getsFrom_40 : decode cX11_getsFrom 40 = .ok (.iaload, 1) := by decide +kernel
theorem dX11_getsFrom_41 : decode cX11_getsFrom 41 = .ok (.bipush 8, 2) := by decide +kernel
theorem dX11_getsFrom_43 : decode cX11_getsFrom 43 = .ok (.if_icmp .ne 7, 3) := by decide +kernel
theorem dX11_getsFrom_46 : decode cX11_getsFrom 46 = .ok (.iconst (-1), 1) := by decide +kernel
theorem dX11_getsFrom_47 : decode cX11_getsFrom 47 = .ok (.goto 9, 3) := by decide +kernel
theorem dX11_getsFrom_50 : decode cX11_getsFrom 50 = .ok (.aload_n 0, 1) := by decide +kernel
theorem dX11_getsFrom_51 : decode cX11_getsFrom 51 = .ok (.getfield 47, 3) := by decide +kernel
theorem dX11_getsFrom_54 : decode cX11_getsFrom 54 = .ok (.iload_n 1, 1) := by decide +kernel
theorem dX11_getsFrom_55 : decode cX11_getsFrom 55 = .ok (.iaload, 1) := by decide +kernel
theorem dX11_getsFrom_56 : decode cX11_getsFrom 56 = .ok (.ireturn, 1) := by decide +kernel
set_option maxRecDepth 20000 in
theorem ggX11_rings_X11_findsPlan : GoodIn wsX11_rings wsX11_findsPlan := goodIn_r _ [8, 9, 2, 3, 10, 11, 12, 7, 13, 14, 15, 16, 17, 18, 19, 20, 21, 22, 23, 24, 25, 26, 27, 28, 29, 30, 31, 32, 33, 34, 35, 36, 37, 38, 39, 40, 41, 42] rfl (by decide +kernel)
set_option maxRecDepth 20000 in
theorem gX11_rings_X11_findsPlan : GoodIn wsX11_rings (wsV RX11 226 RX11 yX11_findsPlan wsX11_findsPlan) := goodIn_app (goodIn_of _ (by decide +kernel)) ggX11_rings_X11_findsPlan
theorem dX11_rings_0 : decode cX11_rings 0 = .ok (.aload_n 0, 1) := by decide +kernel
theorem dX11_rings_1 : decode cX11_rings 1 = .ok (.iconst 0, 1) := by decide +kernel
theorem dX11_rings_2 : decode cX11_rings 2 = .ok (.putfield 1, 3) := by decide +kernel
theorem dX11_rings_5 : decode cX11_rings 5 = .ok (.aload_n 0, 1) := by decide +kernel
theorem dX11_rings_6 : decode cX11_rings 6 = .ok (.invokevirtual 226, 3) := by decide +kernel
theorem dX11_rings_9 : decode cX11_rings 9 = .ok (.istore_n 1, 1) := by decide +kernel
theorem dX11_rings_10 : decode cX11_rings 10 = .ok (.iconst 0, 1) := by decide +kernel
theorem dX11_rings_11 : decode cX11_rings 11 = .ok (.istore_n 2, 1) := by decide +kernel
theorem dX11_rings_12 : decode cX11_rings 12 = .ok (.iconst 0, 1) := by decide +kernel
theorem dX11_rings_13 : decode cX11_rings 13 = .ok (.istore_n 3, 1) := by decide +kernel
theorem dX11_rings_14 : decode cX11_rings 14 = .ok (.iconst 0, 1) := by decide +kernel
theorem dX11_rings_15 : decode cX11_rings 15 = .ok (.istore 4, 2) := by decide +kernel
theorem dX11_rings_17 : decode cX11_rings 17 = .ok (.iload 4, 2) := by decide +kernel
theorem dX11_rings_19 : decode cX11_rings 19 = .ok (.aload_n 0, 1) := by decide +kernel
theorem dX11_rings_20 : decode cX11_rings 20 = .ok (.getfield 13, 3) := by decide +kernel
theorem dX11_rings_23 : decode cX11_rings 23 = .ok (.sipush 573, 3) := by decide +kernel
theorem dX11_rings_26 : decode cX11_rings 26 = .ok (.iaload, 1) := by decide +kernel
theorem dX11_rings_27 : decode cX11_rings 27 = .ok (.if_icmp .ge 69, 3) := by decide +kernel
theorem dX11_rings_30 : decode cX11_rings 30 = .ok (.aload_n 0, 1) := by decide +kernel
theorem dX11_rings_31 : decode cX11_rings 31 = .ok (.getfield 47, 3) := by decide +kernel
theorem dX11_rings_34 : decode cX11_rings 34 = .ok (.iload 4, 2) := by decide +kernel
theorem dX11_rings_36 : decode cX11_rings 36 = .ok (.iaload, 1) := by decide +kernel
theorem dX11_rings_37 : decode cX11_rings 37 = .ok (.bipush 8, 2) := by decide +kernel
theorem dX11_rings_39 : decode cX11_rings 39 = .ok (.if_icmp .eq 51, 3) := by decide +kernel
theorem dX11_rings_42 : decode cX11_rings 42 = .ok (.iload_n 3, 1) := by decide +kernel
theorem dX11_rings_43 : decode cX11_rings 43 = .ok (.iload 4, 2) := by decide +kernel
theorem dX11_rings_45 : decode cX11_rings 45 = .ok (.ishr, 1) := by decide +kernel
theorem dX11_rings_46 : decode cX11_rings 46 = .ok (.iconst 1, 1) := by decide +kernel
theorem dX11_rings_47 : decode cX11_rings 47 = .ok (.iand, 1) := by decide +kernel
theorem dX11_rings_48 : decode cX11_rings 48 = .ok (.iconst 1, 1) := by decide +kernel
theorem dX11_rings_49 : decode cX11_rings 49 = .ok (.if_icmp .ne 6, 3) := by decide +kernel
theorem dX11_rings_52 : decode cX11_rings 52 = .ok (.goto 38, 3) := by decide +kernel
theorem dX11_rings_55 : decode cX11_rings 55 = .ok (.iinc 2 1, 3) := by decide +kernel
theorem dX11_rings_58 : decode cX11_rings 58 = .ok (.iload 4, 2) := by decide +kernel
theorem dX11_rings_60 : decode cX11_rings 60 = .ok (.istore 5, 2) := by decide +kernel
theorem dX11_rings_62 : decode cX11_rings 62 = .ok (.iload_n 3, 1) := by decide +kernel
theorem dX11_rings_63 : decode cX11_rings 63 = .ok (.iload 5, 2) := by decide +kernel
theorem dX11_rings_65 : decode cX11_rings 65 = .ok (.ishr, 1) := by decide +kernel
theorem dX11_rings_66 : decode cX11_rings 66 = .ok (.iconst 1, 1) := by decide +kernel
theorem dX11_rings_67 : decode cX11_rings 67 = .ok (.iand, 1) := by decide +kernel
theorem dX11_rings_68 : decode cX11_rings 68 = .ok (.ifCond .ne 22, 3) := by decide +kernel
theorem dX11_rings_71 : decode cX11_rings 71 = .ok (.iload_n 3, 1) := by decide +kernel
theorem dX11_rings_72 : decode cX11_rings 72 = .ok (.iconst 1, 1) := by decide +kernel
theorem dX11_rings_73 : decode cX11_rings 73 = .ok (.iload 5, 2) := by decide +kernel
theorem dX11_rings_75 : decode cX11_rings 75 = .ok (.ishl, 1) := by decide +kernel
theorem dX11_rings_76 : decode cX11_rings 76 = .ok (.ior, 1) := by decide +kernel
theorem dX11_rings_77 : decode cX11_rings 77 = .ok (.istore_n 3, 1) := by decide +kernel
theorem dX11_rings_78 : decode cX11_rings 78 = .ok (.aload_n 0, 1) := by decide +kernel
theorem dX11_rings_79 : decode cX11_rings 79 = .ok (.getfield 47, 3) := by decide +kernel
theorem dX11_rings_82 : decode cX11_rings 82 = .ok (.iload 5, 2) := by decide +kernel
theorem dX11_rings_84 : decode cX11_rings 84 = .ok (.iaload, 1) := by decide +kernel
theorem dX11_rings_85 : decode cX11_rings 85 = .ok (.istore 5, 2) := by decide +kernel
theorem dX11_rings_87 : decode cX11_rings 87 = .ok (.goto (-25), 3) := by decide +kernel
theorem dX11_rings_90 : decode cX11_rings 90 = .ok (.iinc 4 1, 3) := by decide +kernel
theorem dX11_rings_93 : decode cX11_rings 93 = .ok (.goto (-76), 3) := by decide +kernel
theorem dX11_rings_96 : decode cX11_rings 96 = .ok (.iload_n 2, 1) := by decide +kernel
theorem dX11_rings_97 : decode cX11_rings 97 = .ok (.ireturn, 1) := by decide +kernel
theorem dX11_least_0 : decode cX11_least 0 = .ok (.iload_n 0, 1) := by decide +kernel
theorem dX11_least_1 : decode cX11_least 1 = .ok (.iconst 1, 1) := by decide +kernel
theorem dX11_least_2 : decode cX11_least 2 = .ok (.if_icmp .eq 8, 3) := by decide +kernel
theorem dX11_least_5 : decode cX11_least 5 = .ok (.iload_n 0, 1) := by decide +kernel
theorem dX11_least_6 : decode cX11_least 6 = .ok (.iconst 2, 1) := by decide +kernel
theorem dX11_least_7 : decode cX11_least 7 = .ok (.if_icmp .ne 7, 3) := by decide +kernel
theorem dX11_least_10 : decode cX11_least 10 = .ok (.iconst 1, 1) := by decide +kernel
theorem dX11_least_11 : decode cX11_least 11 = .ok (.goto 4, 3) := by decide +kernel
theorem dX11_least_14 : decode cX11_least 14 = .ok (.iconst 0, 1) := by decide +kernel
theorem dX11_least_15 : decode cX11_least 15 = .ok (.ireturn, 1) := by decide +kernel
theorem dX11_greatest_0 : decode cX11_greatest 0 = .ok (.iload_n 0, 1) := by decide +kernel
theorem dX11_greatest_1 : decode cX11_greatest 1 = .ok (.ifCond .ne 7, 3) := by decide +kernel
theorem dX11_greatest_4 : decode cX11_greatest 4 = .ok (.iconst 5, 1) := by decide +kernel
theorem dX11_greatest_5 : decode cX11_greatest 5 = .ok (.goto 26, 3) := by decide +kernel
theorem dX11_greatest_8 : decode cX11_greatest 8 = .ok (.iload_n 0, 1) := by decide +kernel
theorem dX11_greatest_9 : decode cX11_greatest 9 = .ok (.iconst 1, 1) := by decide +kernel
theorem dX11_greatest_10 : decode cX11_greatest 10 = .ok (.if_icmp .ne 8, 3) := by decide +kernel
theorem dX11_greatest_13 : decode cX11_greatest 13 = .ok (.bipush 9, 2) := by decide +kernel
theorem dX11_greatest_15 : decode cX11_greatest 15 = .ok (.goto 16, 3) := by decide +kernel
theorem dX11_greatest_18 : decode cX11_greatest 18 = .ok (.iload_n 0, 1) := by decide +kernel
theorem dX11_greatest_19 : decode cX11_greatest 19 = .ok (.iconst 2, 1) := by decide +kernel
theorem dX11_greatest_20 : decode cX11_greatest 20 = .ok (.if_icmp .ne 8, 3) := by decide +kernel
theorem dX11_greatest_23 : decode cX11_greatest 23 = .ok (.bipush 99, 2) := by decide +kernel
theorem dX11_greatest_25 : decode cX11_greatest 25 = .ok (.goto 6, 3) := by decide +kernel
theorem dX11_greatest_28 : decode cX11_greatest 28 = .ok (.sipush 10000, 3) := by decide +kernel
theorem dX11_greatest_31 : decode cX11_greatest 31 = .ok (.ireturn, 1) := by decide +kernel
set_option maxRecDepth 20000 in
theorem ggX11_readsTape_X11_isLetter : GoodIn wsX11_readsTape wsX11_isLetter := goodIn_r _ [10, 2, 3, 28, 29, 30, 31, 32, 33, 34, 35, 36, 37, 38, 39, 40, 41, 42, 43, 44, 45, 46, 47, 48, 49] rfl (by decide +kernel)
set_option maxRecDepth 20000 in
theorem gX11_readsTape_X11_isLetter : GoodIn wsX11_readsTape (wsV RX11 88 RX11 yX11_isLetter wsX11_isLetter) := goodIn_app (goodIn_of _ (by decide +kernel)) ggX11_readsTape_X11_isLetter
set_option maxRecDepth 20000 in
theorem ggX11_readsTape_X11_in : GoodIn wsX11_readsTape wsX11_in := goodIn_r _ [13] rfl (by decide +kernel)
set_option maxRecDepth 20000 in
theorem gX11_readsTape_X11_in : GoodIn wsX11_readsTape (va_wsS RX11 69 yX11_in wsX11_in) := goodIn_app (goodIn_of _ (by decide +kernel)) ggX11_readsTape_X11_in
set_option maxRecDepth 20000 in
theorem ggX11_readsTape_X11_codeAt : GoodIn wsX11_readsTape wsX11_codeAt := goodIn_r _ [17, 3, 6, 7, 8, 9, 10, 2, 28, 29, 30, 31, 32, 33, 34, 35, 36, 37, 38, 39, 40, 41, 42, 43, 44, 45, 46, 47, 48, 49] rfl (by decide +kernel)
set_option maxRecDepth 20000 in
theorem gX11_readsTape_X11_codeAt : GoodIn wsX11_readsTape (wsV RX11 92 RX11 yX11_codeAt wsX11_codeAt) := goodIn_app (goodIn_of _ (by decide +kernel)) ggX11_readsTape_X11_codeAt
set_option maxRecDepth 20000 in
theorem ggX11_readsTape_X11_isDigit : GoodIn wsX11_readsTape wsX11_isDigit := goodIn_r _ [21, 2, 3, 28, 29, 30, 31, 32, 33, 34, 35, 36, 37, 38, 39, 40, 41, 42, 43, 44, 45, 46, 47, 48, 49] rfl (by decide +kernel)
set_option maxRecDepth 20000 in
theorem gX11_readsTape_X11_isDigit : GoodIn wsX11_readsTape (wsV RX11 232 RX11 yX11_isDigit wsX11_isDigit) := goodIn_app (goodIn_of _ (by decide +kernel)) ggX11_readsTape_X11_isDigit
set_option maxRecDepth 20000 in
theorem ggX11_readsTape_X11_least : GoodIn wsX11_readsTape wsX11_least := goodIn_r _ [24] rfl (by decide +kernel)
set_option maxRecDepth 20000 in
theorem gX11_readsTape_X11_least : GoodIn wsX11_readsTape (va_wsS RX11 235 yX11_least wsX11_least) := goodIn_app (goodIn_of _ (by decide +kernel)) ggX11_readsTape_X11_least
set_option maxRecDepth 20000 in
theorem ggX11_readsTape_X11_greatest : GoodIn wsX11_readsTape wsX11_greatest := goodIn_r _ [27] rfl (by decide +kernel)
set_option maxRecDepth 20000 in
theorem gX11_readsTape_X11_greatest : GoodIn wsX11_readsTape (va_wsS RX11 238 yX11_greatest wsX11_greatest) := goodIn_app (goodIn_of _ (by decide +kernel)) ggX11_readsTape_X11_greatest
theorem dX11_readsTape_0 : decode cX11_readsTape 0 = .ok (.aload_n 0, 1) := by decide +kernel
theorem dX11_readsTape_1 : decode cX11_readsTape 1 = .ok (.iconst 0, 1) := by decide +kernel
theorem dX11_readsTape_2 : decode cX11_readsTape 2 = .ok (.putfield 229, 3) := by decide +kernel
theorem dX11_readsTape_5 : decode cX11_readsTape 5 = .ok (.iconst 0, 1) := by decide +kernel
theorem dX11_readsTape_6 : decode cX11_readsTape 6 = .ok (.istore_n 1, 1) := by decide +kernel
theorem dX11_readsTape_7 : decode cX11_readsTape 7 = .ok (.iconst 0, 1) := by decide +kernel
theorem dX11_readsTape_8 : decode cX11_readsTape 8 = .ok (.istore_n 2, 1) := by decide +kernel
theorem dX11_readsTape_9 : decode cX11_readsTape 9 = .ok (.iload_n 2, 1) := by decide +kernel
theorem dX11_readsTape_10 : decode cX11_readsTape 10 = .ok (.aload_n 0, 1) := by decide +kernel
theorem dX11_readsTape_11 : decode cX11_readsTape 11 = .ok (.getfield 77, 3) := by decide +kernel
theorem dX11_readsTape_14 : decode cX11_readsTape 14 = .ok (.if_icmp .ge 255, 3) := by decide +kernel
theorem dX11_readsTape_17 : decode cX11_readsTape 17 = .ok (.aload_n 0, 1) := by decide +kernel
theorem dX11_readsTape_18 : decode cX11_readsTape 18 = .ok (.getfield 20, 3) := by decide +kernel
theorem dX11_readsTape_21 : decode cX11_readsTape 21 = .ok (.iload_n 2, 1) := by decide +kernel
theorem dX11_readsTape_22 : decode cX11_readsTape 22 = .ok (.iaload, 1) := by decide +kernel
theorem dX11_readsTape_23 : decode cX11_readsTape 23 = .ok (.bipush 32, 2) := by decide +kernel
theorem dX11_readsTape_25 : decode cX11_readsTape 25 = .ok (.if_icmp .eq 14, 3) := by decide +kernel
theorem dX11_readsTape_28 : decode cX11_readsTape 28 = .ok (.aload_n 0, 1) := by decide +kernel
theorem dX11_readsTape_29 : decode cX11_readsTape 29 = .ok (.getfield 20, 3) := by decide +kernel
theorem dX11_readsTape_32 : decode cX11_readsTape 32 = .ok (.iload_n 2, 1) := by decide +kernel
theorem dX11_readsTape_33 : decode cX11_readsTape 33 = .ok (.iaload, 1) := by decide +kernel
theorem dX11_readsTape_34 : decode cX11_readsTape 34 = .ok (.bipush 10, 2) := by decide +kernel
theorem dX11_readsTape_36 : decode cX11_readsTape 36 = .ok (.if_icmp .ne 9, 3) := by decide +kernel
theorem dX11_readsTape_39 : decode cX11_readsTape 39 = .ok (.iinc 2 1, 3) := by decide +kernel
theorem dX11_readsTape_42 : decode cX11_readsTape 42 = .ok (.goto (-33), 3) := by decide +kernel
theorem dX11_readsTape_45 : decode cX11_readsTape 45 = .ok (.iload_n 2, 1) := by decide +kernel
theorem dX11_readsTape_46 : decode cX11_readsTape 46 = .ok (.istore_n 3, 1) := by decide +kernel
theorem dX11_readsTape_47 : decode cX11_readsTape 47 = .ok (.iload_n 1, 1) := by decide +kernel
theorem dX11_readsTape_48 : decode cX11_readsTape 48 = .ok (.ifCond .ne 86, 3) := by decide +kernel
theorem dX11_readsTape_51 : decode cX11_readsTape 51 = .ok (.aload_n 0, 1) := by decide +kernel
theorem dX11_readsTape_52 : decode cX11_readsTape 52 = .ok (.iload_n 2, 1) := by decide +kernel
theorem dX11_readsTape_53 : decode cX11_readsTape 53 = .ok (.invokevirtual 88, 3) := by decide +kernel
theorem dX11_readsTape_56 : decode cX11_readsTape 56 = .ok (.ifCond .eq 9, 3) := by decide +kernel
theorem dX11_readsTape_59 : decode cX11_readsTape 59 = .ok (.iinc 2 1, 3) := by decide +kernel
theorem dX11_readsTape_62 : decode cX11_readsTape 62 = .ok (.goto (-11), 3) := by decide +kernel
theorem dX11_readsTape_65 : decode cX11_readsTape 65 = .ok (.iload_n 2, 1) := by decide +kernel
theorem dX11_readsTape_66 : decode cX11_readsTape 66 = .ok (.iload_n 3, 1) := by decide +kernel
theorem dX11_readsTape_67 : decode cX11_readsTape 67 = .ok (.isub, 1) := by decide +kernel
theorem dX11_readsTape_68 : decode cX11_readsTape 68 = .ok (.iconst 1, 1) := by decide +kernel
theorem dX11_readsTape_69 : decode cX11_readsTape 69 = .ok (.iconst 4, 1) := by decide +kernel
theorem dX11_readsTape_70 : decode cX11_readsTape 70 = .ok (.invokestatic 69, 3) := by decide +kernel
theorem dX11_readsTape_73 : decode cX11_readsTape 73 = .ok (.ifCond .ne 5, 3) := by decide +kernel
theorem dX11_readsTape_76 : decode cX11_readsTape 76 = .ok (.iload_n 3, 1) := by decide +kernel
theorem dX11_readsTape_77 : decode cX11_readsTape 77 = .ok (.ireturn, 1) := by decide +kernel
theorem dX11_readsTape_78 : decode cX11_readsTape 78 = .ok (.aload_n 0, 1) := by decide +kernel
theorem dX11_readsTape_79 : decode cX11_readsTape 79 = .ok (.getfield 50, 3) := by decide +kernel
theorem dX11_readsTape_82 : decode cX11_readsTape 82 = .ok (.aload_n 0, 1) := by decide +kernel
theorem dX11_readsTape_83 : decode cX11_readsTape 83 = .ok (.getfield 229, 3) := by decide +kernel
theorem dX11_readsTape_86 : decode cX11_readsTape 86 = .ok (.aload_n 0, 1) := by decide +kernel
theorem dX11_readsTape_87 : decode cX11_readsTape 87 = .ok (.iload_n 3, 1) := by decide +kernel
theorem dX11_readsTape_88 : decode cX11_readsTape 88 = .ok (.invokevirtual 92, 3) := by decide +kernel
theorem dX11_readsTape_91 : decode cX11_readsTape 91 = .ok (.iastore, 1) := by decide +kernel
theorem dX11_readsTape_92 : decode cX11_readsTape 92 = .ok (.iconst 0, 1) := by decide +kernel
theorem dX11_readsTape_93 : decode cX11_readsTape 93 = .ok (.istore 4, 2) := by decide +kernel
theorem dX11_readsTape_95 : decode cX11_readsTape 95 = .ok (.iload 4, 2) := by decide +kernel
theorem dX11_readsTape_97 : decode cX11_readsTape 97 = .ok (.aload_n 0, 1) := by decide +kernel
theorem dX11_readsTape_98 : decode cX11_readsTape 98 = .ok (.getfield 229, 3) := by decide +kernel
theorem dX11_readsTape_101 : decode cX11_readsTape 101 = .ok (.if_icmp .ge 30, 3) := by decide +kernel
theorem dX11_readsTape_104 : decode cX11_readsTape 104 = .ok (.aload_n 0, 1) := by decide +kernel
theorem dX11_readsTape_105 : decode cX11_readsTape 105 = .ok (.getfield 50, 3) := by decide +kernel
theorem dX11_readsTape_108 : decode cX11_readsTape 108 = .ok (.iload 4, 2) := by decide +kernel
theorem dX11_readsTape_110 : decode cX11_readsTape 110 = .ok (.iaload, 1) := by decide +kernel
theorem dX11_readsTape_111 : decode cX11_readsTape 111 = .ok (.aload_n 0, 1) := by decide +kernel
theorem dX11_readsTape_112 : decode cX11_readsTape 112 = .ok (.getfield 50, 3) := by decide +kernel
theorem dX11_readsTape_115 : decode cX11_readsTape 115 = .ok (.aload_n 0, 1) := by decide +kernel
theorem dX11_readsTape_116 : decode cX11_readsTape 116 = .ok (.getfield 229, 3) := by decide +kernel
theorem dX11_readsTape_119 : decode cX11_readsTape 119 = .ok (.iaload, 1) := by decide +kernel
theorem dX11_readsTape_120 : decode cX11_readsTape 120 = .ok (.if_icmp .ne 5, 3) := by decide +kernel
theorem dX11_readsTape_123 : decode cX11_readsTape 123 = .ok (.iload_n 3, 1) := by decide +kernel
theorem dX11_readsTape_124 : decode cX11_readsTape 124 = .ok (.ireturn, 1) := by decide +kernel
theorem dX11_readsTape_125 : decode cX11_readsTape 125 = .ok (.iinc 4 1, 3) := by decide +kernel
theorem dX11_readsTape_128 : decode cX11_readsTape 128 = .ok (.goto (-33), 3) := by decide +kernel
theorem dX11_readsTape_131 : decode cX11_readsTape 131 = .ok (.goto 128, 3) := by decide +kernel
theorem dX11_readsTape_134 : decode cX11_readsTape 134 = .ok (.iload_n 1, 1) := by decide +kernel
theorem dX11_readsTape_135 : decode cX11_readsTape 135 = .ok (.iconst 5, 1) := by decide +kernel
theorem dX11_readsTape_136 : decode cX11_readsTape 136 = .ok (.if_icmp .ge 97, 3) := by decide +kernel
theorem dX11_readsTape_139 : decode cX11_readsTape 139 = .ok (.iconst 0, 1) := by decide +kernel
theorem dX11_readsTape_140 : decode cX11_readsTape 140 = .ok (.istore 4, 2) := by decide +kernel
theorem dX11_readsTape_142 : decode cX11_readsTape 142 = .ok (.aload_n 0, 1) := by decide +kernel
theorem dX11_readsTape_143 : decode cX11_readsTape 143 = .ok (.iload_n 2, 1) := by decide +kernel
theorem dX11_readsTape_144 : decode cX11_readsTape 144 = .ok (.invokevirtual 232, 3) := by decide +kernel
theorem dX11_readsTape_147 : decode cX11_readsTape 147 = .ok (.ifCond .eq 33, 3) := by decide +kernel
theorem dX11_readsTape_150 : decode cX11_readsTape 150 = .ok (.iload_n 2, 1) := by decide +kernel
theorem dX11_readsTape_151 : decode cX11_readsTape 151 = .ok (.iload_n 3, 1) := by decide +kernel
theorem dX11_readsTape_152 : decode cX11_readsTape 152 = .ok (.isub, 1) := by decide +kernel
theorem dX11_readsTape_153 : decode cX11_readsTape 153 = .ok (.iconst 5, 1) := by decide +kernel
theorem dX11_readsTape_154 : decode cX11_readsTape 154 = .ok (.if_icmp .ge 20, 3) := by decide +kernel
theorem dX11_readsTape_157 : decode cX11_readsTape 157 = .ok (.bipush 10, 2) := by decide +kernel
theorem dX11_readsTape_159 : decode cX11_readsTape 159 = .ok (.iload 4, 2) := by decide +kernel
theorem dX11_readsTape_161 : decode cX11_readsTape 161 = .ok (.imul, 1) := by decide +kernel
theorem dX11_readsTape_162 : decode cX11_readsTape 162 = .ok (.aload_n 0, 1) := by decide +kernel
theorem dX11_readsTape_163 : decode cX11_readsTape 163 = .ok (.getfield 20, 3) := by decide +kernel
theorem dX11_readsTape_166 : decode cX11_readsTape 166 = .ok (.iload_n 2, 1) := by decide +kernel
theorem dX11_readsTape_167 : decode cX11_readsTape 167 = .ok (.iaload, 1) := by decide +kernel
theorem dX11_readsTape_168 : decode cX11_readsTape 168 = .ok (.iadd, 1) := by decide +kernel
theorem dX11_readsTape_169 : decode cX11_readsTape 169 = .ok (.bipush 48, 2) := by decide +kernel
theorem dX11_readsTape_171 : decode cX11_readsTape 171 = .ok (.isub, 1) := by decide +kernel
theorem dX11_readsTape_172 : decode cX11_readsTape 172 = .ok (.istore 4, 2) := by decide +kernel
theorem dX11_readsTape_174 : decode cX11_readsTape 174 = .ok (.iinc 2 1, 3) := by decide +kernel
theorem dX11_readsTape_177 : decode cX11_readsTape 177 = .ok (.goto (-35), 3) := by decide +kernel
theorem dX11_readsTape_180 : decode cX11_readsTape 180 = .ok (.iload_n 2, 1) := by decide +kernel
theorem dX11_readsTape_181 : decode cX11_readsTape 181 = .ok (.iload_n 3, 1) := by decide +kernel
theorem dX11_readsTape_182 : decode cX11_readsTape 182 = .ok (.isub, 1) := by decide +kernel
theorem dX11_readsTape_183 : decode cX11_readsTape 183 = .ok (.iconst 1, 1) := by decide +kernel
theorem dX11_readsTape_184 : decode cX11_readsTape 184 = .ok (.iconst 5, 1) := by decide +kernel
theorem dX11_readsTape_185 : decode cX11_readsTape 185 = .ok (.invokestatic 69, 3) := by decide +kernel
theorem dX11_readsTape_188 : decode cX11_readsTape 188 = .ok (.ifCond .eq 23, 3) := by decide +kernel
theorem dX11_readsTape_191 : decode cX11_readsTape 191 = .ok (.iload 4, 2) := by decide +kernel
theorem dX11_readsTape_193 : decode cX11_readsTape 193 = .ok (.iload_n 1, 1) := by decide +kernel
theorem dX11_readsTape_194 : decode cX11_readsTape 194 = .ok (.iconst 1, 1) := by decide +kernel
theorem dX11_readsTape_195 : decode cX11_readsTape 195 = .ok (.isub, 1) := by decide +kernel
theorem dX11_readsTape_196 : decode cX11_readsTape 196 = .ok (.invokestatic 235, 3) := by decide +kernel
theorem dX11_readsTape_199 : decode cX11_readsTape 199 = .ok (.iload_n 1, 1) := by decide +kernel
theorem dX11_readsTape_200 : decode cX11_readsTape 200 = .ok (.iconst 1, 1) := by decide +kernel
theorem dX11_readsTape_201 : decode cX11_readsTape 201 = .ok (.isub, 1) := by decide +kernel
theorem dX11_readsTape_202 : decode cX11_readsTape 202 = .ok (.invokestatic 238, 3) := by decide +kernel
theorem dX11_readsTape_205 : decode cX11_readsTape 205 = .ok (.invokestatic 69, 3) := by decide +kernel
theorem dX11_readsTape_208 : decode cX11_readsTape 208 = .ok (.ifCond .ne 5, 3) := by decide +kernel
theorem dX11_readsTape_211 : decode cX11_readsTape 211 = .ok (.iload_n 3, 1) := by decide +kernel
theorem dX11_readsTape_212 : decode cX11_readsTape 212 = .ok (.ireturn, 1) := by decide +kernel
theorem dX11_readsTape_213 : decode cX11_readsTape 213 = .ok (.aload_n 0, 1) := by decide +kernel
theorem dX11_readsTape_214 : decode cX11_readsTape 214 = .ok (.getfield 53, 3) := by decide +kernel
theorem dX11_readsTape_217 : decode cX11_readsTape 217 = .ok (.iconst 4, 1) := by decide +kernel
theorem dX11_readsTape_218 : decode cX11_readsTape 218 = .ok (.aload_n 0, 1) := by decide +kernel
theorem dX11_readsTape_219 : decode cX11_readsTape 219 = .ok (.getfield 229, 3) := by decide +kernel
theorem dX11_readsTape_222 : decode cX11_readsTape 222 = .ok (.imul, 1) := by decide +kernel
theorem dX11_readsTape_223 : decode cX11_readsTape 223 = .ok (.iload_n 1, 1) := by decide +kernel
theorem dX11_readsTape_224 : decode cX11_readsTape 224 = .ok (.iadd, 1) := by decide +kernel
theorem dX11_readsTape_225 : decode cX11_readsTape 225 = .ok (.iconst 1, 1) := by decide +kernel
theorem dX11_readsTape_226 : decode cX11_readsTape 226 = .ok (.isub, 1) := by decide +kernel
theorem dX11_readsTape_227 : decode cX11_readsTape 227 = .ok (.iload 4, 2) := by decide +kernel
theorem dX11_readsTape_229 : decode cX11_readsTape 229 = .ok (.iastore, 1) := by decide +kernel
theorem dX11_readsTape_230 : decode cX11_readsTape 230 = .ok (.goto 29, 3) := by decide +kernel
theorem dX11_readsTape_233 : decode cX11_readsTape 233 = .ok (.aload_n 0, 1) := by decide +kernel
theorem dX11_readsTape_234 : decode cX11_readsTape 234 = .ok (.getfield 20, 3) := by decide +kernel
theorem dX11_readsTape_237 : decode cX11_readsTape 237 = .ok (.iload_n 2, 1) := by decide +kernel
theorem dX11_readsTape_238 : decode cX11_readsTape 238 = .ok (.iaload, 1) := by decide +kernel
theorem dX11_readsTape_239 : decode cX11_readsTape 239 = .ok (.bipush 59, 2) := by decide +kernel
theorem dX11_readsTape_241 : decode cX11_readsTape 241 = .ok (.if_icmp .eq 5, 3) := by decide +kernel
theorem dX11_readsTape_244 : decode cX11_readsTape 244 = .ok (.iload_n 3, 1) := by decide +kernel
theorem dX11_readsTape_245 : decode cX11_readsTape 245 = .ok (.ireturn, 1) := by decide +kernel
theorem dX11_readsTape_246 : decode cX11_readsTape 246 = .ok (.iinc 2 1, 3) := by decide +kernel
theorem dX11_readsTape_249 : decode cX11_readsTape 249 = .ok (.aload_n 0, 1) := by decide +kernel
theorem dX11_readsTape_250 : decode cX11_readsTape 250 = .ok (.dup, 1) := by decide +kernel
theorem dX11_readsTape_251 : decode cX11_readsTape 251 = .ok (.getfield 229, 3) := by decide +kernel
theorem dX11_readsTape_254 : decode cX11_readsTape 254 = .ok (.iconst 1, 1) := by decide +kernel
theorem dX11_readsTape_255 : decode cX11_readsTape 255 = .ok (.iadd, 1) := by decide +kernel
theorem dX11_readsTape_256 : decode cX11_readsTape 256 = .ok (.putfield 229, 3) := by decide +kernel
theorem dX11_readsTape_259 : decode cX11_readsTape 259 = .ok (.iload_n 1, 1) := by decide +kernel
theorem dX11_readsTape_260 : decode cX11_readsTape 260 = .ok (.iconst 1, 1) := by decide +kernel
theorem dX11_readsTape_261 : decode cX11_readsTape 261 = .ok (.iadd, 1) := by decide +kernel
theorem dX11_readsTape_262 : decode cX11_readsTape 262 = .ok (.bipush 6, 2) := by decide +kernel
theorem dX11_readsTape_264 : decode cX11_readsTape 264 = .ok (.irem, 1) := by decide +kernel
theorem dX11_readsTape_265 : decode cX11_readsTape 265 = .ok (.istore_n 1, 1) := by decide +kernel
theorem dX11_readsTape_266 : decode cX11_readsTape 266 = .ok (.goto (-257), 3) := by decide +kernel
theorem dX11_readsTape_269 : decode cX11_readsTape 269 = .ok (.iload_n 1, 1) := by decide +kernel
theorem dX11_readsTape_270 : decode cX11_readsTape 270 = .ok (.ifCond .ne 7, 3) := by decide +kernel
theorem dX11_readsTape_273 : decode cX11_readsTape 273 = .ok (.iconst (-1), 1) := by decide +kernel
theorem dX11_readsTape_274 : decode cX11_readsTape 274 = .ok (.goto 7, 3) := by decide +kernel
theorem dX11_readsTape_277 : decode cX11_readsTape 277 = .ok (.aload_n 0, 1) := by decide +kernel
theorem dX11_readsTape_278 : decode cX11_readsTape 278 = .ok (.getfield 77, 3) := by decide +kernel
theorem dX11_readsTape_281 : decode cX11_readsTape 281 = .ok (.ireturn, 1) := by decide +kernel
set_option maxRecDepth 20000 in
theorem ggX11_joins_X11_newPlace : GoodIn wsX11_joins wsX11_newPlace := goodIn_r _ [10, 1, 2, 35, 36, 37, 38, 39, 40, 41, 42, 43, 44, 45, 46, 47, 48, 49, 50, 51, 52, 53, 54, 55, 56] rfl (by decide +kernel)
set_option maxRecDepth 20000 in
theorem gX11_joins_X11_newPlace : GoodIn wsX11_joins (wsV RX11 241 RX11 yX11_newPlace wsX11_newPlace) := goodIn_app (goodIn_of _ (by decide +kernel)) ggX11_joins_X11_newPlace
set_option maxRecDepth 20000 in
theorem ggX11_joins_X11_withCode : GoodIn wsX11_joins wsX11_withCode := goodIn_r _ [14, 4, 15, 16, 17, 9, 18, 35, 36, 37, 38, 39, 40, 41, 42, 43, 44, 45, 46, 47, 48, 49, 50, 51, 52, 53, 54, 55, 56] rfl (by decide +kernel)
set_option maxRecDepth 20000 in
theorem gX11_joins_X11_withCode : GoodIn wsX11_joins (wsV RX11 99 RX11 yX11_withCode wsX11_withCode) := goodIn_app (goodIn_of _ (by decide +kernel)) ggX11_joins_X11_withCode
set_option maxRecDepth 20000 in
theorem ggX11_joins_X11_many : GoodIn wsX11_joins wsX11_many := goodIn_r _ [18, 4, 35, 36, 37, 38, 39, 40, 41, 42, 43, 44, 45, 46, 47, 48, 49, 50, 51, 52, 53, 54, 55, 56] rfl (by decide +kernel)
set_option maxRecDepth 20000 in
theorem gX11_joins_X11_many : GoodIn wsX11_joins (wsV RX11 65 RX11 yX11_many wsX11_many) := goodIn_app (goodIn_of _ (by decide +kernel)) ggX11_joins_X11_many
set_option maxRecDepth 20000 in
theorem ggX11_joins_X11_comes : GoodIn wsX11_joins wsX11_comes := goodIn_r _ [22, 4, 15, 16, 17, 9, 18, 35, 36, 37, 38, 39, 40, 41, 42, 43, 44, 45, 46, 47, 48, 49, 50, 51, 52, 53, 54, 55, 56] rfl (by decide +kernel)
set_option maxRecDepth 20000 in
theorem gX11_joins_X11_comes : GoodIn wsX11_joins (wsV RX11 105 RX11 yX11_comes wsX11_comes) := goodIn_app (goodIn_of _ (by decide +kernel)) ggX11_joins_X11_comes
set_option maxRecDepth 20000 in
theorem ggX11_joins_X11_looksAtDrawers : GoodIn wsX11_joins wsX11_looksAtDrawers := goodIn_r _ [26, 5, 4, 15, 16, 17, 9, 18, 35, 36, 37, 38, 39, 40, 41, 42, 43, 44, 45, 46, 47, 48, 49, 50, 51, 52, 53, 54, 55, 56] rfl (by decide +kernel)
set_option maxRecDepth 20000 in
theorem gX11_joins_X11_looksAtDrawers : GoodIn wsX11_joins (wsV RX11 162 RX11 yX11_looksAtDrawers wsX11_looksAtDrawers) := goodIn_app (goodIn_of _ (by decide +kernel)) ggX11_joins_X11_looksAtDrawers
set_option maxRecDepth 20000 in
theorem ggX11_joins_X11_why : GoodIn wsX11_joins wsX11_why := goodIn_r _ [30, 5, 4, 31, 32, 33, 9, 34, 35, 36, 37, 38, 39, 40, 41, 42, 43, 44, 45, 46, 47, 48, 49, 50, 51, 52, 53, 54, 55, 56] rfl (by decide +kernel)
set_option maxRecDepth 20000 in
theorem gX11_joins_X11_why : GoodIn wsX11_joins (wsV RX11 165 RX11 yX11_why wsX11_why) := goodIn_app (goodIn_of _ (by decide +kernel)) ggX11_joins_X11_why
theorem dX11_joins_0 : decode cX11_joins 0 = .ok (.iconst 0, 1) := by decide +kernel
theorem dX11_joins_1 : decode cX11_joins 1 = .ok (.istore_n 1, 1) := by decide +kernel
theorem dX11_joins_2 : decode cX11_joins 2 = .ok (.iconst 0, 1) := by decide +kernel
theorem dX11_joins_3 : decode cX11_joins 3 = .ok (.istore_n 2, 1) := by decide +kernel
theorem dX11_joins_4 : decode cX11_joins 4 = .ok (.iload_n 2, 1) := by decide +kernel
theorem dX11_joins_5 : decode cX11_joins 5 = .ok (.aload_n 0, 1) := by decide +kernel
theorem dX11_joins_6 : decode cX11_joins 6 = .ok (.getfield 229, 3) := by decide +kernel
theorem dX11_joins_9 : decode cX11_joins 9 = .ok (.if_icmp .ge 202, 3) := by decide +kernel
theorem dX11_joins_12 : decode cX11_joins 12 = .ok (.iconst (-1), 1) := by decide +kernel
theorem dX11_joins_13 : decode cX11_joins 13 = .ok (.istore_n 3, 1) := by decide +kernel
theorem dX11_joins_14 : decode cX11_joins 14 = .ok (.iconst 0, 1) := by decide +kernel
theorem dX11_joins_15 : decode cX11_joins 15 = .ok (.istore 4, 2) := by decide +kernel
theorem dX11_joins_17 : decode cX11_joins 17 = .ok (.iload 4, 2) := by decide +kernel
theorem dX11_joins_19 : decode cX11_joins 19 = .ok (.aload_n 0, 1) := by decide +kernel
theorem dX11_joins_20 : decode cX11_joins 20 = .ok (.getfield 229, 3) := by decide +kernel
theorem dX11_joins_23 : decode cX11_joins 23 = .ok (.if_icmp .ge 22, 3) := by decide +kernel
theorem dX11_joins_26 : decode cX11_joins 26 = .ok (.aload_n 0, 1) := by decide +kernel
theorem dX11_joins_27 : decode cX11_joins 27 = .ok (.iload 4, 2) := by decide +kernel
theorem dX11_joins_29 : decode cX11_joins 29 = .ok (.invokevirtual 241, 3) := by decide +kernel
theorem dX11_joins_32 : decode cX11_joins 32 = .ok (.iload_n 2, 1) := by decide +kernel
theorem dX11_joins_33 : decode cX11_joins 33 = .ok (.if_icmp .ne 6, 3) := by decide +kernel
theorem dX11_joins_36 : decode cX11_joins 36 = .ok (.iload 4, 2) := by decide +kernel
theorem dX11_joins_38 : decode cX11_joins 38 = .ok (.istore_n 3, 1) := by decide +kernel
theorem dX11_joins_39 : decode cX11_joins 39 = .ok (.iinc 4 1, 3) := by decide +kernel
theorem dX11_joins_42 : decode cX11_joins 42 = .ok (.goto (-25), 3) := by decide +kernel
theorem dX11_joins_45 : decode cX11_joins 45 = .ok (.aload_n 0, 1) := by decide +kernel
theorem dX11_joins_46 : decode cX11_joins 46 = .ok (.aload_n 0, 1) := by decide +kernel
theorem dX11_joins_47 : decode cX11_joins 47 = .ok (.getfield 50, 3) := by decide +kernel
theorem dX11_joins_50 : decode cX11_joins 50 = .ok (.iload_n 3, 1) := by decide +kernel
theorem dX11_joins_51 : decode cX11_joins 51 = .ok (.iaload, 1) := by decide +kernel
theorem dX11_joins_52 : decode cX11_joins 52 = .ok (.invokevirtual 99, 3) := by decide +kernel
theorem dX11_joins_55 : decode cX11_joins 55 = .ok (.istore 4, 2) := by decide +kernel
theorem dX11_joins_57 : decode cX11_joins 57 = .ok (.iload 4, 2) := by decide +kernel
theorem dX11_joins_59 : decode cX11_joins 59 = .ok (.iconst (-1), 1) := by decide +kernel
theorem dX11_joins_60 : decode cX11_joins 60 = .ok (.if_icmp .ne 14, 3) := by decide +kernel
theorem dX11_joins_63 : decode cX11_joins 63 = .ok (.aload_n 0, 1) := by decide +kernel
theorem dX11_joins_64 : decode cX11_joins 64 = .ok (.invokevirtual 65, 3) := by decide +kernel
theorem dX11_joins_67 : decode cX11_joins 67 = .ok (.bipush 10, 2) := by decide +kernel
theorem dX11_joins_69 : decode cX11_joins 69 = .ok (.if_icmp .ne 5, 3) := by decide +kernel
theorem dX11_joins_72 : decode cX11_joins 72 = .ok (.iconst (-1), 1) := by decide +kernel
theorem dX11_joins_73 : decode cX11_joins 73 = .ok (.ireturn, 1) := by decide +kernel
theorem dX11_joins_74 : decode cX11_joins 74 = .ok (.iload 4, 2) := by decide +kernel
theorem dX11_joins_76 : decode cX11_joins 76 = .ok (.iconst (-1), 1) := by decide +kernel
theorem dX11_joins_77 : decode cX11_joins 77 = .ok (.if_icmp .ne 56, 3) := by decide +kernel
theorem dX11_joins_80 : decode cX11_joins 80 = .ok (.aload_n 0, 1) := by decide +kernel
theorem dX11_joins_81 : decode cX11_joins 81 = .ok (.aload_n 0, 1) := by decide +kernel
theorem dX11_joins_82 : decode cX11_joins 82 = .ok (.getfield 50, 3) := by decide +kernel
theorem dX11_joins_85 : decode cX11_joins 85 = .ok (.iload_n 3, 1) := by decide +kernel
theorem dX11_joins_86 : decode cX11_joins 86 = .ok (.iaload, 1) := by decide +kernel
theorem dX11_joins_87 : decode cX11_joins 87 = .ok (.aload_n 0, 1) := by decide +kernel
theorem dX11_joins_88 : decode cX11_joins 88 = .ok (.getfield 53, 3) := by decide +kernel
theorem dX11_joins_91 : decode cX11_joins 91 = .ok (.iconst 4, 1) := by decide +kernel
theorem dX11_joins_92 : decode cX11_joins 92 = .ok (.iload_n 3, 1) := by decide +kernel
theorem dX11_joins_93 : decode cX11_joins 93 = .ok (.imul, 1) := by decide +kernel
theorem dX11_joins_94 : decode cX11_joins 94 = .ok (.iaload, 1) := by decide +kernel
theorem dX11_joins_95 : decode cX11_joins 95 = .ok (.aload_n 0, 1) := by decide +kernel
theorem dX11_joins_96 : decode cX11_joins 96 = .ok (.getfield 53, 3) := by decide +kernel
theorem dX11_joins_99 : decode cX11_joins 99 = .ok (.iconst 4, 1) := by decide +kernel
theorem dX11_joins_100 : decode cX11_joins 100 = .ok (.iload_n 3, 1) := by decide +kernel
theorem dX11_joins_101 : decode cX11_joins 101 = .ok (.imul, 1) := by decide +kernel
theorem dX11_joins_102 : decode cX11_joins 102 = .ok (.iconst 1, 1) := by decide +kernel
theorem dX11_joins_103 : decode cX11_joins 103 = .ok (.iadd, 1) := by decide +kernel
theorem dX11_joins_104 : decode cX11_joins 104 = .ok (.iaload, 1) := by decide +kernel
theorem dX11_joins_105 : decode cX11_joins 105 = .ok (.aload_n 0, 1) := by decide +kernel
theorem dX11_joins_106 : decode cX11_joins 106 = .ok (.getfield 53, 3) := by decide +kernel
theorem dX11_joins_109 : decode cX11_joins 109 = .ok (.iconst 4, 1) := by decide +kernel
theorem dX11_joins_110 : decode cX11_joins 110 = .ok (.iload_n 3, 1) := by decide +kernel
theorem dX11_joins_111 : decode cX11_joins 111 = .ok (.imul, 1) := by decide +kernel
theorem dX11_joins_112 : decode cX11_joins 112 = .ok (.iconst 2, 1) := by decide +kernel
theorem dX11_joins_113 : decode cX11_joins 113 = .ok (.iadd, 1) := by decide +kernel
theorem dX11_joins_114 : decode cX11_joins 114 = .ok (.iaload, 1) := by decide +kernel
theorem dX11_joins_115 : decode cX11_joins 115 = .ok (.aload_n 0, 1) := by decide +kernel
theorem dX11_joins_116 : decode cX11_joins 116 = .ok (.getfield 53, 3) := by decide +kernel
theorem dX11_joins_119 : decode cX11_joins 119 = .ok (.iconst 4, 1) := by decide +kernel
theorem dX11_joins_120 : decode cX11_joins 120 = .ok (.iload_n 3, 1) := by decide +kernel
theorem dX11_joins_121 : decode cX11_joins 121 = .ok (.imul, 1) := by decide +kernel
theorem dX11_joins_122 : decode cX11_joins 122 = .ok (.iconst 3, 1) := by decide +kernel
theorem dX11_joins_123 : decode cX11_joins 123 = .ok (.iadd, 1) := by decide +kernel
theorem dX11_joins_124 : decode cX11_joins 124 = .ok (.iaload, 1) := by decide +kernel
theorem dX11_joins_125 : decode cX11_joins 125 = .ok (.invokevirtual 105, 3) := by decide +kernel
theorem dX11_joins_128 : decode cX11_joins 128 = .ok (.istore 4, 2) := by decide +kernel
theorem dX11_joins_130 : decode cX11_joins 130 = .ok (.iinc 1 1, 3) := by decide +kernel
theorem dX11_joins_133 : decode cX11_joins 133 = .ok (.iconst 0, 1) := by decide +kernel
theorem dX11_joins_134 : decode cX11_joins 134 = .ok (.istore 5, 2) := by decide +kernel
theorem dX11_joins_136 : decode cX11_joins 136 = .ok (.iload 5, 2) := by decide +kernel
theorem dX11_joins_138 : decode cX11_joins 138 = .ok (.iconst 4, 1) := by decide +kernel
theorem dX11_joins_139 : decode cX11_joins 139 = .ok (.if_icmp .ge 66, 3) := by decide +kernel
theorem dX11_joins_142 : decode cX11_joins 142 = .ok (.aload_n 0, 1) := by decide +kernel
theorem dX11_joins_143 : decode cX11_joins 143 = .ok (.getfield 53, 3) := by decide +kernel
theorem dX11_joins_146 : decode cX11_joins 146 = .ok (.iconst 4, 1) := by decide +kernel
theorem dX11_joins_147 : decode cX11_joins 147 = .ok (.iload_n 3, 1) := by decide +kernel
theorem dX11_joins_148 : decode cX11_joins 148 = .ok (.imul, 1) := by decide +kernel
theorem dX11_joins_149 : decode cX11_joins 149 = .ok (.iload 5, 2) := by decide +kernel
theorem dX11_joins_151 : decode cX11_joins 151 = .ok (.iadd, 1) := by decide +kernel
theorem dX11_joins_152 : decode cX11_joins 152 = .ok (.iaload, 1) := by decide +kernel
theorem dX11_joins_153 : decode cX11_joins 153 = .ok (.aload_n 0, 1) := by decide +kernel
theorem dX11_joins_154 : decode cX11_joins 154 = .ok (.getfield 13, 3) := by decide +kernel
theorem dX11_joins_157 : decode cX11_joins 157 = .ok (.bipush 10, 2) := by decide +kernel
theorem dX11_joins_159 : decode cX11_joins 159 = .ok (.bipush 10, 2) := by decide +kernel
theorem dX11_joins_161 : decode cX11_joins 161 = .ok (.iload 5, 2) := by decide +kernel
theorem dX11_joins_163 : decode cX11_joins 163 = .ok (.imul, 1) := by decide +kernel
theorem dX11_joins_164 : decode cX11_joins 164 = .ok (.iadd, 1) := by decide +kernel
theorem dX11_joins_165 : decode cX11_joins 165 = .ok (.iload 4, 2) := by decide +kernel
theorem dX11_joins_167 : decode cX11_joins 167 = .ok (.iadd, 1) := by decide +kernel
theorem dX11_joins_168 : decode cX11_joins 168 = .ok (.iaload, 1) := by decide +kernel
theorem dX11_joins_169 : decode cX11_joins 169 = .ok (.if_icmp .le 30, 3) := by decide +kernel
theorem dX11_joins_172 : decode cX11_joins 172 = .ok (.aload_n 0, 1) := by decide +kernel
theorem dX11_joins_173 : decode cX11_joins 173 = .ok (.getfield 13, 3) := by decide +kernel
theorem dX11_joins_176 : decode cX11_joins 176 = .ok (.bipush 10, 2) := by decide +kernel
theorem dX11_joins_178 : decode cX11_joins 178 = .ok (.bipush 10, 2) := by decide +kernel
theorem dX11_joins_180 : decode cX11_joins 180 = .ok (.iload 5, 2) := by decide +kernel
theorem dX11_joins_182 : decode cX11_joins 182 = .ok (.imul, 1) := by decide +kernel
theorem dX11_joins_183 : decode cX11_joins 183 = .ok (.iadd, 1) := by decide +kernel
theorem dX11_joins_184 : decode cX11_joins 184 = .ok (.iload 4, 2) := by decide +kernel
theorem dX11_joins_186 : decode cX11_joins 186 = .ok (.iadd, 1) := by decide +kernel
theorem dX11_joins_187 : decode cX11_joins 187 = .ok (.aload_n 0, 1) := by decide +kernel
theorem dX11_joins_188 : decode cX11_joins 188 = .ok (.getfield 53, 3) := by decide +kernel
theorem dX11_joins_191 : decode cX11_joins 191 = .ok (.iconst 4, 1) := by decide +kernel
theorem dX11_joins_192 : decode cX11_joins 192 = .ok (.iload_n 3, 1) := by decide +kernel
theorem dX11_joins_193 : decode cX11_joins 193 = .ok (.imul, 1) := by decide +kernel
theorem dX11_joins_194 : decode cX11_joins 194 = .ok (.iload 5, 2) := by decide +kernel
theorem dX11_joins_196 : decode cX11_joins 196 = .ok (.iadd, 1) := by decide +kernel
theorem dX11_joins_197 : decode cX11_joins 197 = .ok (.iaload, 1) := by decide +kernel
theorem dX11_joins_198 : decode cX11_joins 198 = .ok (.iastore, 1) := by decide +kernel
theorem dX11_joins_199 : decode cX11_joins 199 = .ok (.iinc 5 1, 3) := by decide +kernel
theorem dX11_joins_202 : decode cX11_joins 202 = .ok (.goto (-66), 3) := by decide +kernel
theorem dX11_joins_205 : decode cX11_joins 205 = .ok (.iinc 2 1, 3) := by decide +kernel
theorem dX11_joins_208 : decode cX11_joins 208 = .ok (.goto (-204), 3) := by decide +kernel
theorem dX11_joins_211 : decode cX11_joins 211 = .ok (.aload_n 0, 1) := by decide +kernel
theorem dX11_joins_212 : decode cX11_joins 212 = .ok (.invokevirtual 162, 3) := by decide +kernel
theorem dX11_joins_215 : decode cX11_joins 215 = .ok (.iconst 0, 1) := by decide +kernel
theorem dX11_joins_216 : decode cX11_joins 216 = .ok (.istore_n 2, 1) := by decide +kernel
theorem dX11_joins_217 : decode cX11_joins 217 = .ok (.iload_n 2, 1) := by decide +kernel
theorem dX11_joins_218 : decode cX11_joins 218 = .ok (.aload_n 0, 1) := by decide +kernel
theorem dX11_joins_219 : decode cX11_joins 219 = .ok (.invokevirtual 65, 3) := by decide +kernel
theorem dX11_joins_222 : decode cX11_joins 222 = .ok (.if_icmp .ge 33, 3) := by decide +kernel
theorem dX11_joins_225 : decode cX11_joins 225 = .ok (.aload_n 0, 1) := by decide +kernel
theorem dX11_joins_226 : decode cX11_joins 226 = .ok (.getfield 38, 3) := by decide +kernel
theorem dX11_joins_229 : decode cX11_joins 229 = .ok (.iload_n 2, 1) := by decide +kernel
theorem dX11_joins_230 : decode cX11_joins 230 = .ok (.iaload, 1) := by decide +kernel
theorem dX11_joins_231 : decode cX11_joins 231 = .ok (.iconst (-1), 1) := by decide +kernel
theorem dX11_joins_232 : decode cX11_joins 232 = .ok (.if_icmp .eq 17, 3) := by decide +kernel
theorem dX11_joins_235 : decode cX11_joins 235 = .ok (.aload_n 0, 1) := by decide +kernel
theorem dX11_joins_236 : decode cX11_joins 236 = .ok (.iload_n 2, 1) := by decide +kernel
theorem dX11_joins_237 : decode cX11_joins 237 = .ok (.aload_n 0, 1) := by decide +kernel
theorem dX11_joins_238 : decode cX11_joins 238 = .ok (.invokevirtual 65, 3) := by decide +kernel
theorem dX11_joins_241 : decode cX11_joins 241 = .ok (.invokevirtual 165, 3) := by decide +kernel
theorem dX11_joins_244 : decode cX11_joins 244 = .ok (.ifCond .eq 5, 3) := by decide +kernel
theorem dX11_joins_247 : decode cX11_joins 247 = .ok (.iconst (-1), 1) := by decide +kernel
theorem dX11_joins_248 : decode cX11_joins 248 = .ok (.ireturn, 1) := by decide +kernel
theorem dX11_joins_249 : decode cX11_joins 249 = .ok (.iinc 2 1, 3) := by decide +kernel
theorem dX11_joins_252 : decode cX11_joins 252 = .ok (.goto (-35), 3) := by decide +kernel
theorem dX11_joins_255 : decode cX11_joins 255 = .ok (.iload_n 1, 1) := by decide +kernel
theorem dX11_joins_256 : decode cX11_joins 256 = .ok (.ireturn, 1) := by decide +kernel
theorem dX11_newPlace_0 : decode cX11_newPlace 0 = .ok (.iconst 0, 1) := by decide +kernel
theorem dX11_newPlace_1 : decode cX11_newPlace 1 = .ok (.istore_n 2, 1) := by decide +kernel
theorem dX11_newPlace_2 : decode cX11_newPlace 2 = .ok (.iconst 0, 1) := by decide +kernel
theorem dX11_newPlace_3 : decode cX11_newPlace 3 = .ok (.istore_n 3, 1) := by decide +kernel
theorem dX11_newPlace_4 : decode cX11_newPlace 4 = .ok (.iload_n 3, 1) := by decide +kernel
theorem dX11_newPlace_5 : decode cX11_newPlace 5 = .ok (.aload_n 0, 1) := by decide +kernel
theorem dX11_newPlace_6 : decode cX11_newPlace 6 = .ok (.getfield 229, 3) := by decide +kernel
theorem dX11_newPlace_9 : decode cX11_newPlace 9 = .ok (.if_icmp .ge 32, 3) := by decide +kernel
theorem dX11_newPlace_12 : decode cX11_newPlace 12 = .ok (.iload_n 2, 1) := by decide +kernel
theorem dX11_newPlace_13 : decode cX11_newPlace 13 = .ok (.aload_n 0, 1) := by decide +kernel
theorem dX11_newPlace_14 : decode cX11_newPlace 14 = .ok (.getfield 50, 3) := by decide +kernel
theorem dX11_newPlace_17 : decode cX11_newPlace 17 = .ok (.iload_n 3, 1) := by decide +kernel
theorem dX11_newPlace_18 : decode cX11_newPlace 18 = .ok (.iaload, 1) := by decide +kernel
theorem dX11_newPlace_19 : decode cX11_newPlace 19 = .ok (.aload_n 0, 1) := by decide +kernel
theorem dX11_newPlace_20 : decode cX11_newPlace 20 = .ok (.getfield 50, 3) := by decide +kernel
theorem dX11_newPlace_23 : decode cX11_newPlace 23 = .ok (.iload_n 1, 1) := by decide +kernel
theorem dX11_newPlace_24 : decode cX11_newPlace 24 = .ok (.iaload, 1) := by decide +kernel
theorem dX11_newPlace_25 : decode cX11_newPlace 25 = .ok (.if_icmp .ge 7, 3) := by decide +kernel
theorem dX11_newPlace_28 : decode cX11_newPlace 28 = .ok (.iconst 1, 1) := by decide +kernel
theorem dX11_newPlace_29 : decode cX11_newPlace 29 = .ok (.goto 4, 3) := by decide +kernel
theorem dX11_newPlace_32 : decode cX11_newPlace 32 = .ok (.iconst 0, 1) := by decide +kernel
theorem dX11_newPlace_33 : decode cX11_newPlace 33 = .ok (.iadd, 1) := by decide +kernel
theorem dX11_newPlace_34 : decode cX11_newPlace 34 = .ok (.istore_n 2, 1) := by decide +kernel
theorem dX11_newPlace_35 : decode cX11_newPlace 35 = .ok (.iinc 3 1, 3) := by decide +kernel
theorem dX11_newPlace_38 : decode cX11_newPlace 38 = .ok (.goto (-34), 3) := by decide +kernel
theorem dX11_newPlace_41 : decode cX11_newPlace 41 = .ok (.iload_n 2, 1) := by decide +kernel
theorem dX11_newPlace_42 : decode cX11_newPlace 42 = .ok (.ireturn, 1) := by decide +kernel
set_option maxRecDepth 20000 in
theorem ggX11_join_X11_readsTape : GoodIn wsX11_join wsX11_readsTape := goodIn_r _ [10, 11, 3, 12, 13, 14, 15, 16, 17, 9, 18, 19, 20, 21, 22, 23, 24, 25, 26, 27, 28, 29, 30, 31, 32, 33, 34, 35, 79, 80, 81, 82, 83, 84, 85, 86, 87, 88, 89, 90, 91, 92, 93, 94, 95, 96, 97, 98, 99, 100] rfl (by decide +kernel)
set_option maxRecDepth 20000 in
theorem gX11_join_X11_readsTape : GoodIn wsX11_join (wsV RX11 244 RX11 yX11_readsTape wsX11_readsTape) := goodIn_app (goodIn_of _ (by decide +kernel)) ggX11_join_X11_readsTape
set_option maxRecDepth 20000 in
theorem ggX11_join_X11_fails : GoodIn wsX11_join wsX11_fails := goodIn_r _ [39, 1, 79, 80, 81, 82, 83, 84, 85, 86, 87, 88, 89, 90, 91, 92, 93, 94, 95, 96, 97, 98, 99, 100] rfl (by decide +kernel)
set_option maxRecDepth 20000 in
theorem gX11_join_X11_fails : GoodIn wsX11_join (wsV RX11 73 RX11 yX11_fails wsX11_fails) := goodIn_app (goodIn_of _ (by decide +kernel)) ggX11_join_X11_fails
set_option maxRecDepth 20000 in
theorem ggX11_join_X11_joins : GoodIn wsX11_join wsX11_joins := goodIn_r _ [43, 11, 13, 14, 5, 44, 45, 46, 47, 9, 48, 49, 50, 51, 52, 53, 54, 55, 56, 57, 58, 59, 60, 61, 62, 63, 64, 65, 66, 67, 68, 69, 70, 71, 72, 79, 80, 81, 82, 83, 84, 85, 86, 87, 88, 89, 90, 91, 92, 93, 94, 95, 96, 97, 98, 99, 100] rfl (by decide +kernel)
set_option maxRecDepth 20000 in
theorem gX11_join_X11_joins : GoodIn wsX11_join (wsV RX11 247 RX11 yX11_joins wsX11_joins) := goodIn_app (goodIn_of _ (by decide +kernel)) ggX11_join_X11_joins
set_option maxRecDepth 20000 in
theorem ggX11_join_X11_keeps : GoodIn wsX11_join wsX11_keeps := goodIn_r _ [76, 77, 78, 5, 79, 80, 81, 82, 83, 84, 85, 86, 87, 88, 89, 90, 91, 92, 93, 94, 95, 96, 97, 98, 99, 100] rfl (by decide +kernel)
set_option maxRecDepth 20000 in
theorem gX11_join_X11_keeps : GoodIn wsX11_join (wsV RX11 102 RX11 yX11_keeps wsX11_keeps) := goodIn_app (goodIn_of _ (by decide +kernel)) ggX11_join_X11_keeps
theorem dX11_join_0 : decode cX11_join 0 = .ok (.aload_n 0, 1) := by decide +kernel
theorem dX11_join_1 : decode cX11_join 1 = .ok (.iconst 0, 1) := by decide +kernel
theorem dX11_join_2 : decode cX11_join 2 = .ok (.putfield 1, 3) := by decide +kernel
theorem dX11_join_5 : decode cX11_join 5 = .ok (.aload_n 0, 1) := by decide +kernel
theorem dX11_join_6 : decode cX11_join 6 = .ok (.aload_n 0, 1) := by decide +kernel
theorem dX11_join_7 : decode cX11_join 7 = .ok (.invokevirtual 244, 3) := by decide +kernel
theorem dX11_join_10 : decode cX11_join 10 = .ok (.putfield 23, 3) := by decide +kernel
theorem dX11_join_13 : decode cX11_join 13 = .ok (.aload_n 0, 1) := by decide +kernel
theorem dX11_join_14 : decode cX11_join 14 = .ok (.iconst 0, 1) := by decide +kernel
theorem dX11_join_15 : decode cX11_join 15 = .ok (.putfield 77, 3) := by decide +kernel
theorem dX11_join_18 : decode cX11_join 18 = .ok (.aload_n 0, 1) := by decide +kernel
theorem dX11_join_19 : decode cX11_join 19 = .ok (.aload_n 0, 1) := by decide +kernel
theorem dX11_join_20 : decode cX11_join 20 = .ok (.getfield 23, 3) := by decide +kernel
theorem dX11_join_23 : decode cX11_join 23 = .ok (.iconst (-1), 1) := by decide +kernel
theorem dX11_join_24 : decode cX11_join 24 = .ok (.if_icmp .ne 7, 3) := by decide +kernel
theorem dX11_join_27 : decode cX11_join 27 = .ok (.iconst 1, 1) := by decide +kernel
theorem dX11_join_28 : decode cX11_join 28 = .ok (.goto 4, 3) := by decide +kernel
theorem dX11_join_31 : decode cX11_join 31 = .ok (.iconst 0, 1) := by decide +kernel
theorem dX11_join_32 : decode cX11_join 32 = .ok (.iconst 1, 1) := by decide +kernel
theorem dX11_join_33 : decode cX11_join 33 = .ok (.invokevirtual 73, 3) := by decide +kernel
theorem dX11_join_36 : decode cX11_join 36 = .ok (.ifCond .eq 5, 3) := by decide +kernel
theorem dX11_join_39 : decode cX11_join 39 = .ok (.iconst 0, 1) := by decide +kernel
theorem dX11_join_40 : decode cX11_join 40 = .ok (.ireturn, 1) := by decide +kernel
theorem dX11_join_41 : decode cX11_join 41 = .ok (.iconst 0, 1) := by decide +kernel
theorem dX11_join_42 : decode cX11_join 42 = .ok (.istore_n 1, 1) := by decide +kernel
theorem dX11_join_43 : decode cX11_join 43 = .ok (.iload_n 1, 1) := by decide +kernel
theorem dX11_join_44 : decode cX11_join 44 = .ok (.sipush 574, 3) := by decide +kernel
theorem dX11_join_47 : decode cX11_join 47 = .ok (.if_icmp .ge 21, 3) := by decide +kernel
theorem dX11_join_50 : decode cX11_join 50 = .ok (.aload_n 0, 1) := by decide +kernel
theorem dX11_join_51 : decode cX11_join 51 = .ok (.getfield 56, 3) := by decide +kernel
theorem dX11_join_54 : decode cX11_join 54 = .ok (.iload_n 1, 1) := by decide +kernel
theorem dX11_join_55 : decode cX11_join 55 = .ok (.aload_n 0, 1) := by decide +kernel
theorem dX11_join_56 : decode cX11_join 56 = .ok (.getfield 13, 3) := by decide +kernel
theorem dX11_join_59 : decode cX11_join 59 = .ok (.iload_n 1, 1) := by decide +kernel
theorem dX11_join_60 : decode cX11_join 60 = .ok (.iaload, 1) := by decide +kernel
theorem dX11_join_61 : decode cX11_join 61 = .ok (.iastore, 1) := by decide +kernel
theorem dX11_join_62 : decode cX11_join 62 = .ok (.iinc 1 1, 3) := by decide +kernel
theorem dX11_join_65 : decode cX11_join 65 = .ok (.goto (-22), 3) := by decide +kernel
theorem dX11_join_68 : decode cX11_join 68 = .ok (.aload_n 0, 1) := by decide +kernel
theorem dX11_join_69 : decode cX11_join 69 = .ok (.invokevirtual 247, 3) := by decide +kernel
theorem dX11_join_72 : decode cX11_join 72 = .ok (.istore_n 1, 1) := by decide +kernel
theorem dX11_join_73 : decode cX11_join 73 = .ok (.iconst 0, 1) := by decide +kernel
theorem dX11_join_74 : decode cX11_join 74 = .ok (.istore_n 2, 1) := by decide +kernel
theorem dX11_join_75 : decode cX11_join 75 = .ok (.iload_n 2, 1) := by decide +kernel
theorem dX11_join_76 : decode cX11_join 76 = .ok (.sipush 574, 3) := by decide +kernel
theorem dX11_join_79 : decode cX11_join 79 = .ok (.if_icmp .ge 35, 3) := by decide +kernel
theorem dX11_join_82 : decode cX11_join 82 = .ok (.aload_n 0, 1) := by decide +kernel
theorem dX11_join_83 : decode cX11_join 83 = .ok (.getfield 13, 3) := by decide +kernel
theorem dX11_join_86 : decode cX11_join 86 = .ok (.iload_n 2, 1) := by decide +kernel
theorem dX11_join_87 : decode cX11_join 87 = .ok (.iaload, 1) := by decide +kernel
theorem dX11_join_88 : decode cX11_join 88 = .ok (.istore_n 3, 1) := by decide +kernel
theorem dX11_join_89 : decode cX11_join 89 = .ok (.aload_n 0, 1) := by decide +kernel
theorem dX11_join_90 : decode cX11_join 90 = .ok (.getfield 13, 3) := by decide +kernel
theorem dX11_join_93 : decode cX11_join 93 = .ok (.iload_n 2, 1) := by decide +kernel
theorem dX11_join_94 : decode cX11_join 94 = .ok (.aload_n 0, 1) := by decide +kernel
theorem dX11_join_95 : decode cX11_join 95 = .ok (.getfield 56, 3) := by decide +kernel
theorem dX11_join_98 : decode cX11_join 98 = .ok (.iload_n 2, 1) := by decide +kernel
theorem dX11_join_99 : decode cX11_join 99 = .ok (.iaload, 1) := by decide +kernel
theorem dX11_join_100 : decode cX11_join 100 = .ok (.iastore, 1) := by decide +kernel
theorem dX11_join_101 : decode cX11_join 101 = .ok (.aload_n 0, 1) := by decide +kernel
theorem dX11_join_102 : decode cX11_join 102 = .ok (.getfield 56, 3) := by decide +kernel
theorem dX11_join_105 : decode cX11_join 105 = .ok (.iload_n 2, 1) := by decide +kernel
theorem dX11_join_106 : decode cX11_join 106 = .ok (.iload_n 3, 1) := by decide +kernel
theorem dX11_join_107 : decode cX11_join 107 = .ok (.iastore, 1) := by decide +kernel
theorem dX11_join_108 : decode cX11_join 108 = .ok (.iinc 2 1, 3) := by decide +kernel
theorem dX11_join_111 : decode cX11_join 111 = .ok (.goto (-36), 3) := by decide +kernel
theorem dX11_join_114 : decode cX11_join 114 = .ok (.aload_n 0, 1) := by decide +kernel
theorem dX11_join_115 : decode cX11_join 115 = .ok (.iload_n 1, 1) := by decide +kernel
theorem dX11_join_116 : decode cX11_join 116 = .ok (.iconst (-1), 1) := by decide +kernel
theorem dX11_join_117 : decode cX11_join 117 = .ok (.if_icmp .eq 7, 3) := by decide +kernel
theorem dX11_join_120 : decode cX11_join 120 = .ok (.iconst 1, 1) := by decide +kernel
theorem dX11_join_121 : decode cX11_join 121 = .ok (.goto 4, 3) := by decide +kernel
theorem dX11_join_124 : decode cX11_join 124 = .ok (.iconst 0, 1) := by decide +kernel
theorem dX11_join_125 : decode cX11_join 125 = .ok (.iconst 2, 1) := by decide +kernel
theorem dX11_join_126 : decode cX11_join 126 = .ok (.invokevirtual 73, 3) := by decide +kernel
theorem dX11_join_129 : decode cX11_join 129 = .ok (.ifCond .eq 5, 3) := by decide +kernel
theorem dX11_join_132 : decode cX11_join 132 = .ok (.iconst 0, 1) := by decide +kernel
theorem dX11_join_133 : decode cX11_join 133 = .ok (.ireturn, 1) := by decide +kernel
theorem dX11_join_134 : decode cX11_join 134 = .ok (.aload_n 0, 1) := by decide +kernel
theorem dX11_join_135 : decode cX11_join 135 = .ok (.invokevirtual 102, 3) := by decide +kernel
theorem dX11_join_138 : decode cX11_join 138 = .ok (.iconst 0, 1) := by decide +kernel
theorem dX11_join_139 : decode cX11_join 139 = .ok (.istore_n 2, 1) := by decide +kernel
theorem dX11_join_140 : decode cX11_join 140 = .ok (.iload_n 2, 1) := by decide +kernel
theorem dX11_join_141 : decode cX11_join 141 = .ok (.sipush 574, 3) := by decide +kernel
theorem dX11_join_144 : decode cX11_join 144 = .ok (.if_icmp .ge 21, 3) := by decide +kernel
theorem dX11_join_147 : decode cX11_join 147 = .ok (.aload_n 0, 1) := by decide +kernel
theorem dX11_join_148 : decode cX11_join 148 = .ok (.getfield 13, 3) := by decide +kernel
theorem dX11_join_151 : decode cX11_join 151 = .ok (.iload_n 2, 1) := by decide +kernel
theorem dX11_join_152 : decode cX11_join 152 = .ok (.aload_n 0, 1) := by decide +kernel
theorem dX11_join_153 : decode cX11_join 153 = .ok (.getfield 56, 3) := by decide +kernel
theorem dX11_join_156 : decode cX11_join 156 = .ok (.iload_n 2, 1) := by decide +kernel
theorem dX11_join_157 : decode cX11_join 157 = .ok (.iaload, 1) := by decide +kernel
theorem dX11_join_158 : decode cX11_join 158 = .ok (.iastore, 1) := by decide +kernel
theorem dX11_join_159 : decode cX11_join 159 = .ok (.iinc 2 1, 3) := by decide +kernel
theorem dX11_join_162 : decode cX11_join 162 = .ok (.goto (-22), 3) := by decide +kernel
theorem dX11_join_165 : decode cX11_join 165 = .ok (.iload_n 1, 1) := by decide +kernel
theorem dX11_join_166 : decode cX11_join 166 = .ok (.ireturn, 1) := by decide +kernel
theorem dX11_writes_0 : decode cX11_writes 0 = .ok (.aload_n 0, 1) := by decide +kernel
theorem dX11_writes_1 : decode cX11_writes 1 = .ok (.getfield 59, 3) := by decide +kernel
theorem dX11_writes_4 : decode cX11_writes 4 = .ok (.aload_n 0, 1) := by decide +kernel
theorem dX11_writes_5 : decode cX11_writes 5 = .ok (.getfield 250, 3) := by decide +kernel
theorem dX11_writes_8 : decode cX11_writes 8 = .ok (.iload_n 1, 1) := by decide +kernel
theorem dX11_writes_9 : decode cX11_writes 9 = .ok (.iastore, 1) := by decide +kernel
theorem dX11_writes_10 : decode cX11_writes 10 = .ok (.aload_n 0, 1) := by decide +kernel
theorem dX11_writes_11 : decode cX11_writes 11 = .ok (.dup, 1) := by decide +kernel
theorem dX11_writes_12 : decode cX11_writes 12 = .ok (.getfield 250, 3) := by decide +kernel
theorem dX11_writes_15 : decode cX11_writes 15 = .ok (.iconst 1, 1) := by decide +kernel
theorem dX11_writes_16 : decode cX11_writes 16 = .ok (.iadd, 1) := by decide +kernel
theorem dX11_writes_17 : decode cX11_writes 17 = .ok (.putfield 250, 3) := by decide +kernel
theorem dX11_writes_20 : decode cX11_writes 20 = .ok (.return_, 1) := by decide +kernel
set_option maxRecDepth 20000 in
theorem ggX11_writesNumber_X11_writes : GoodIn wsX11_writesNumber wsX11_writes := goodIn_r _ [5, 6, 7, 8, 9, 10, 11, 12, 13, 14, 15, 16, 17, 18, 19, 20, 21, 22, 23, 24, 25, 26, 27, 28, 29] rfl (by decide +kernel)
set_option maxRecDepth 20000 in
theorem gX11_writesNumber_X11_writes : GoodIn wsX11_writesNumber (wsV RX11 253 RX11 yX11_writes wsX11_writes) := goodIn_app (goodIn_of _ (by decide +kernel)) ggX11_writesNumber_X11_writes
theorem dX11_writesNumber_0 : decode cX11_writesNumber 0 = .ok (.iconst 1, 1) := by decide +kernel
theorem dX11_writesNumber_1 : decode cX11_writesNumber 1 = .ok (.istore_n 2, 1) := by decide +kernel
theorem dX11_writesNumber_2 : decode cX11_writesNumber 2 = .ok (.iload_n 1, 1) := by decide +kernel
theorem dX11_writesNumber_3 : decode cX11_writesNumber 3 = .ok (.iload_n 2, 1) := by decide +kernel
theorem dX11_writesNumber_4 : decode cX11_writesNumber 4 = .ok (.idiv, 1) := by decide +kernel
theorem dX11_writesNumber_5 : decode cX11_writesNumber 5 = .ok (.bipush 10, 2) := by decide +kernel
theorem dX11_writesNumber_7 : decode cX11_writesNumber 7 = .ok (.if_icmp .lt 11, 3) := by decide +kernel
theorem dX11_writesNumber_10 : decode cX11_writesNumber 10 = .ok (.iload_n 2, 1) := by decide +kernel
theorem dX11_writesNumber_11 : decode cX11_writesNumber 11 = .ok (.bipush 10, 2) := by decide +kernel
theorem dX11_writesNumber_13 : decode cX11_writesNumber 13 = .ok (.imul, 1) := by decide +kernel
theorem dX11_writesNumber_14 : decode cX11_writesNumber 14 = .ok (.istore_n 2, 1) := by decide +kernel
theorem dX11_writesNumber_15 : decode cX11_writesNumber 15 = .ok (.goto (-13), 3) := by decide +kernel
theorem dX11_writesNumber_18 : decode cX11_writesNumber 18 = .ok (.iload_n 2, 1) := by decide +kernel
theorem dX11_writesNumber_19 : decode cX11_writesNumber 19 = .ok (.istore_n 3, 1) := by decide +kernel
theorem dX11_writesNumber_20 : decode cX11_writesNumber 20 = .ok (.iload_n 3, 1) := by decide +kernel
theorem dX11_writesNumber_21 : decode cX11_writesNumber 21 = .ok (.ifCond .le 24, 3) := by decide +kernel
theorem dX11_writesNumber_24 : decode cX11_writesNumber 24 = .ok (.aload_n 0, 1) := by decide +kernel
theorem dX11_writesNumber_25 : decode cX11_writesNumber 25 = .ok (.bipush 48, 2) := by decide +kernel
theorem dX11_writesNumber_27 : decode cX11_writesNumber 27 = .ok (.iload_n 1, 1) := by decide +kernel
theorem dX11_writesNumber_28 : decode cX11_writesNumber 28 = .ok (.iload_n 3, 1) := by decide +kernel
theorem dX11_writesNumber_29 : decode cX11_writesNumber 29 = .ok (.idiv, 1) := by decide +kernel
theorem dX11_writesNumber_30 : decode cX11_writesNumber 30 = .ok (.bipush 10, 2) := by decide +kernel
theorem dX11_writesNumber_32 : decode cX11_writesNumber 32 = .ok (.irem, 1) := by decide +kernel
theorem dX11_writesNumber_33 : decode cX11_writesNumber 33 = .ok (.iadd, 1) := by decide +kernel
theorem dX11_writesNumber_34 : decode cX11_writesNumber 34 = .ok (.invokevirtual 253, 3) := by decide +kernel
