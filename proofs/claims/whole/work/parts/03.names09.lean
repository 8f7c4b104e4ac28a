theorem dX11_writesNumber_37 : decode cX11_writesNumber 37 = .ok (.iload_n 3, 1) := by decide +kernel
theorem dX11_writesNumber_38 : decode cX11_writesNumber 38 = .ok (.bipush 10, 2) := by decide +kernel
theorem dX11_writesNumber_40 : decode cX11_writesNumber 40 = .ok (.idiv, 1) := by decide +kernel
theorem dX11_writesNumber_41 : decode cX11_writesNumber 41 = .ok (.istore_n 3, 1) := by decide +kernel
theorem dX11_writesNumber_42 : decode cX11_writesNumber 42 = .ok (.goto (-22), 3) := by decide +kernel
theorem dX11_writesNumber_45 : decode cX11_writesNumber 45 = .ok (.return_, 1) := by decide +kernel
set_option maxRecDepth 20000 in
theorem ggX11_write_X11_many : GoodIn wsX11_write wsX11_many := goodIn_r _ [8, 3, 22, 23, 24, 25, 26, 27, 28, 29, 30, 31, 32, 33, 34, 35, 36, 37, 38, 39, 40, 41, 42, 43] rfl (by decide +kernel)
set_option maxRecDepth 20000 in
theorem gX11_write_X11_many : GoodIn wsX11_write (wsV RX11 65 RX11 yX11_many wsX11_many) := goodIn_app (goodIn_of _ (by decide +kernel)) ggX11_write_X11_many
set_option maxRecDepth 20000 in
theorem ggX11_write_X11_placeOf : GoodIn wsX11_write wsX11_placeOf := goodIn_r _ [12, 3, 4, 5, 6, 7, 8, 22, 23, 24, 25, 26, 27, 28, 29, 30, 31, 32, 33, 34, 35, 36, 37, 38, 39, 40, 41, 42, 43] rfl (by decide +kernel)
set_option maxRecDepth 20000 in
theorem gX11_write_X11_placeOf : GoodIn wsX11_write (wsV RX11 112 RX11 yX11_placeOf wsX11_placeOf) := goodIn_app (goodIn_of _ (by decide +kernel)) ggX11_write_X11_placeOf
set_option maxRecDepth 20000 in
theorem ggX11_write_X11_writes : GoodIn wsX11_write wsX11_writes := goodIn_r _ [16, 17, 2, 22, 23, 24, 25, 26, 27, 28, 29, 30, 31, 32, 33, 34, 35, 36, 37, 38, 39, 40, 41, 42, 43] rfl (by decide +kernel)
set_option maxRecDepth 20000 in
theorem gX11_write_X11_writes : GoodIn wsX11_write (wsV RX11 253 RX11 yX11_writes wsX11_writes) := goodIn_app (goodIn_of _ (by decide +kernel)) ggX11_write_X11_writes
set_option maxRecDepth 20000 in
theorem ggX11_write_X11_writesNumber : GoodIn wsX11_write wsX11_writesNumber := goodIn_r _ [21, 13, 14, 15, 7, 16, 17, 2, 22, 23, 24, 25, 26, 27, 28, 29, 30, 31, 32, 33, 34, 35, 36, 37, 38, 39, 40, 41, 42, 43] rfl (by decide +kernel)
set_option maxRecDepth 20000 in
theorem gX11_write_X11_writesNumber : GoodIn wsX11_write (wsV RX11 256 RX11 yX11_writesNumber wsX11_writesNumber) := goodIn_app (goodIn_of _ (by decide +kernel)) ggX11_write_X11_writesNumber
theorem dX11_write_0 : decode cX11_write 0 = .ok (.aload_n 0, 1) := by decide +kernel
theorem dX11_write_1 : decode cX11_write 1 = .ok (.iconst 0, 1) := by decide +kernel
theorem dX11_write_2 : decode cX11_write 2 = .ok (.putfield 1, 3) := by decide +kernel
theorem dX11_write_5 : decode cX11_write 5 = .ok (.aload_n 0, 1) := by decide +kernel
theorem dX11_write_6 : decode cX11_write 6 = .ok (.iconst 0, 1) := by decide +kernel
theorem dX11_write_7 : decode cX11_write 7 = .ok (.putfield 250, 3) := by decide +kernel
theorem dX11_write_10 : decode cX11_write 10 = .ok (.iconst 0, 1) := by decide +kernel
theorem dX11_write_11 : decode cX11_write 11 = .ok (.istore_n 1, 1) := by decide +kernel
theorem dX11_write_12 : decode cX11_write 12 = .ok (.iload_n 1, 1) := by decide +kernel
theorem dX11_write_13 : decode cX11_write 13 = .ok (.aload_n 0, 1) := by decide +kernel
theorem dX11_write_14 : decode cX11_write 14 = .ok (.invokevirtual 65, 3) := by decide +kernel
theorem dX11_write_17 : decode cX11_write 17 = .ok (.if_icmp .ge 121, 3) := by decide +kernel
theorem dX11_write_20 : decode cX11_write 20 = .ok (.iconst 0, 1) := by decide +kernel
theorem dX11_write_21 : decode cX11_write 21 = .ok (.istore_n 2, 1) := by decide +kernel
theorem dX11_write_22 : decode cX11_write 22 = .ok (.aload_n 0, 1) := by decide +kernel
theorem dX11_write_23 : decode cX11_write 23 = .ok (.iload_n 2, 1) := by decide +kernel
theorem dX11_write_24 : decode cX11_write 24 = .ok (.invokevirtual 112, 3) := by decide +kernel
theorem dX11_write_27 : decode cX11_write 27 = .ok (.iload_n 1, 1) := by decide +kernel
theorem dX11_write_28 : decode cX11_write 28 = .ok (.if_icmp .eq 9, 3) := by decide +kernel
theorem dX11_write_31 : decode cX11_write 31 = .ok (.iinc 2 1, 3) := by decide +kernel
theorem dX11_write_34 : decode cX11_write 34 = .ok (.goto (-12), 3) := by decide +kernel
theorem dX11_write_37 : decode cX11_write 37 = .ok (.sipush 19683, 3) := by decide +kernel
theorem dX11_write_40 : decode cX11_write 40 = .ok (.istore_n 3, 1) := by decide +kernel
theorem dX11_write_41 : decode cX11_write 41 = .ok (.iload_n 3, 1) := by decide +kernel
theorem dX11_write_42 : decode cX11_write 42 = .ok (.ifCond .le 47, 3) := by decide +kernel
theorem dX11_write_45 : decode cX11_write 45 = .ok (.aload_n 0, 1) := by decide +kernel
theorem dX11_write_46 : decode cX11_write 46 = .ok (.getfield 13, 3) := by decide +kernel
theorem dX11_write_49 : decode cX11_write 49 = .ok (.iconst 0, 1) := by decide +kernel
theorem dX11_write_50 : decode cX11_write 50 = .ok (.iload_n 2, 1) := by decide +kernel
theorem dX11_write_51 : decode cX11_write 51 = .ok (.iadd, 1) := by decide +kernel
theorem dX11_write_52 : decode cX11_write 52 = .ok (.iaload, 1) := by decide +kernel
theorem dX11_write_53 : decode cX11_write 53 = .ok (.iload_n 3, 1) := by decide +kernel
theorem dX11_write_54 : decode cX11_write 54 = .ok (.idiv, 1) := by decide +kernel
theorem dX11_write_55 : decode cX11_write 55 = .ok (.bipush 27, 2) := by decide +kernel
theorem dX11_write_57 : decode cX11_write 57 = .ok (.irem, 1) := by decide +kernel
theorem dX11_write_58 : decode cX11_write 58 = .ok (.ifCond .le 23, 3) := by decide +kernel
theorem dX11_write_61 : decode cX11_write 61 = .ok (.aload_n 0, 1) := by decide +kernel
theorem dX11_write_62 : decode cX11_write 62 = .ok (.bipush 96, 2) := by decide +kernel
theorem dX11_write_64 : decode cX11_write 64 = .ok (.aload_n 0, 1) := by decide +kernel
theorem dX11_write_65 : decode cX11_write 65 = .ok (.getfield 13, 3) := by decide +kernel
theorem dX11_write_68 : decode cX11_write 68 = .ok (.iconst 0, 1) := by decide +kernel
theorem dX11_write_69 : decode cX11_write 69 = .ok (.iload_n 2, 1) := by decide +kernel
theorem dX11_write_70 : decode cX11_write 70 = .ok (.iadd, 1) := by decide +kernel
theorem dX11_write_71 : decode cX11_write 71 = .ok (.iaload, 1) := by decide +kernel
theorem dX11_write_72 : decode cX11_write 72 = .ok (.iload_n 3, 1) := by decide +kernel
theorem dX11_write_73 : decode cX11_write 73 = .ok (.idiv, 1) := by decide +kernel
theorem dX11_write_74 : decode cX11_write 74 = .ok (.bipush 27, 2) := by decide +kernel
theorem dX11_write_76 : decode cX11_write 76 = .ok (.irem, 1) := by decide +kernel
theorem dX11_write_77 : decode cX11_write 77 = .ok (.iadd, 1) := by decide +kernel
theorem dX11_write_78 : decode cX11_write 78 = .ok (.invokevirtual 253, 3) := by decide +kernel
theorem dX11_write_81 : decode cX11_write 81 = .ok (.iload_n 3, 1) := by decide +kernel
theorem dX11_write_82 : decode cX11_write 82 = .ok (.bipush 27, 2) := by decide +kernel
theorem dX11_write_84 : decode cX11_write 84 = .ok (.idiv, 1) := by decide +kernel
theorem dX11_write_85 : decode cX11_write 85 = .ok (.istore_n 3, 1) := by decide +kernel
theorem dX11_write_86 : decode cX11_write 86 = .ok (.goto (-45), 3) := by decide +kernel
theorem dX11_write_89 : decode cX11_write 89 = .ok (.iconst 0, 1) := by decide +kernel
theorem dX11_write_90 : decode cX11_write 90 = .ok (.istore_n 3, 1) := by decide +kernel
theorem dX11_write_91 : decode cX11_write 91 = .ok (.iload_n 3, 1) := by decide +kernel
theorem dX11_write_92 : decode cX11_write 92 = .ok (.iconst 4, 1) := by decide +kernel
theorem dX11_write_93 : decode cX11_write 93 = .ok (.if_icmp .ge 33, 3) := by decide +kernel
theorem dX11_write_96 : decode cX11_write 96 = .ok (.aload_n 0, 1) := by decide +kernel
theorem dX11_write_97 : decode cX11_write 97 = .ok (.bipush 32, 2) := by decide +kernel
theorem dX11_write_99 : decode cX11_write 99 = .ok (.invokevirtual 253, 3) := by decide +kernel
theorem dX11_write_102 : decode cX11_write 102 = .ok (.aload_n 0, 1) := by decide +kernel
theorem dX11_write_103 : decode cX11_write 103 = .ok (.aload_n 0, 1) := by decide +kernel
theorem dX11_write_104 : decode cX11_write 104 = .ok (.getfield 13, 3) := by decide +kernel
theorem dX11_write_107 : decode cX11_write 107 = .ok (.bipush 10, 2) := by decide +kernel
theorem dX11_write_109 : decode cX11_write 109 = .ok (.bipush 10, 2) := by decide +kernel
theorem dX11_write_111 : decode cX11_write 111 = .ok (.iload_n 3, 1) := by decide +kernel
theorem dX11_write_112 : decode cX11_write 112 = .ok (.imul, 1) := by decide +kernel
theorem dX11_write_113 : decode cX11_write 113 = .ok (.iadd, 1) := by decide +kernel
theorem dX11_write_114 : decode cX11_write 114 = .ok (.iload_n 2, 1) := by decide +kernel
theorem dX11_write_115 : decode cX11_write 115 = .ok (.iadd, 1) := by decide +kernel
theorem dX11_write_116 : decode cX11_write 116 = .ok (.iaload, 1) := by decide +kernel
theorem dX11_write_117 : decode cX11_write 117 = .ok (.invokevirtual 256, 3) := by decide +kernel
theorem dX11_write_120 : decode cX11_write 120 = .ok (.iinc 3 1, 3) := by decide +kernel
theorem dX11_write_123 : decode cX11_write 123 = .ok (.goto (-32), 3) := by decide +kernel
theorem dX11_write_126 : decode cX11_write 126 = .ok (.aload_n 0, 1) := by decide +kernel
theorem dX11_write_127 : decode cX11_write 127 = .ok (.bipush 59, 2) := by decide +kernel
theorem dX11_write_129 : decode cX11_write 129 = .ok (.invokevirtual 253, 3) := by decide +kernel
theorem dX11_write_132 : decode cX11_write 132 = .ok (.iinc 1 1, 3) := by decide +kernel
theorem dX11_write_135 : decode cX11_write 135 = .ok (.goto (-123), 3) := by decide +kernel
theorem dX11_write_138 : decode cX11_write 138 = .ok (.aload_n 0, 1) := by decide +kernel
theorem dX11_write_139 : decode cX11_write 139 = .ok (.getfield 250, 3) := by decide +kernel
theorem dX11_write_142 : decode cX11_write 142 = .ok (.ireturn, 1) := by decide +kernel
set_option maxRecDepth 20000 in
theorem ggX11_writtenAt_X11_in : GoodIn wsX11_writtenAt wsX11_in := goodIn_r _ [7] rfl (by decide +kernel)
set_option maxRecDepth 20000 in
theorem gX11_writtenAt_X11_in : GoodIn wsX11_writtenAt (va_wsS RX11 69 yX11_in wsX11_in) := goodIn_app (goodIn_of _ (by decide +kernel)) ggX11_writtenAt_X11_in
set_option maxRecDepth 20000 in
theorem ggX11_writtenAt_X11_fails : GoodIn wsX11_writtenAt wsX11_fails := goodIn_r _ [11, 1, 12, 13, 14, 15, 16, 17, 18, 19, 20, 21, 22, 23, 24, 25, 26, 27, 28, 29, 30, 31, 32, 33] rfl (by decide +kernel)
set_option maxRecDepth 20000 in
theorem gX11_writtenAt_X11_fails : GoodIn wsX11_writtenAt (wsV RX11 73 RX11 yX11_fails wsX11_fails) := goodIn_app (goodIn_of _ (by decide +kernel)) ggX11_writtenAt_X11_fails
theorem dX11_writtenAt_0 : decode cX11_writtenAt 0 = .ok (.aload_n 0, 1) := by decide +kernel
theorem dX11_writtenAt_1 : decode cX11_writtenAt 1 = .ok (.iconst 0, 1) := by decide +kernel
theorem dX11_writtenAt_2 : decode cX11_writtenAt 2 = .ok (.putfield 1, 3) := by decide +kernel
theorem dX11_writtenAt_5 : decode cX11_writtenAt 5 = .ok (.aload_n 0, 1) := by decide +kernel
theorem dX11_writtenAt_6 : decode cX11_writtenAt 6 = .ok (.iload_n 1, 1) := by decide +kernel
theorem dX11_writtenAt_7 : decode cX11_writtenAt 7 = .ok (.iconst 0, 1) := by decide +kernel
theorem dX11_writtenAt_8 : decode cX11_writtenAt 8 = .ok (.aload_n 0, 1) := by decide +kernel
theorem dX11_writtenAt_9 : decode cX11_writtenAt 9 = .ok (.getfield 250, 3) := by decide +kernel
theorem dX11_writtenAt_12 : decode cX11_writtenAt 12 = .ok (.iconst 1, 1) := by decide +kernel
theorem dX11_writtenAt_13 : decode cX11_writtenAt 13 = .ok (.isub, 1) := by decide +kernel
theorem dX11_writtenAt_14 : decode cX11_writtenAt 14 = .ok (.invokestatic 69, 3) := by decide +kernel
theorem dX11_writtenAt_17 : decode cX11_writtenAt 17 = .ok (.iconst 1, 1) := by decide +kernel
theorem dX11_writtenAt_18 : decode cX11_writtenAt 18 = .ok (.invokevirtual 73, 3) := by decide +kernel
theorem dX11_writtenAt_21 : decode cX11_writtenAt 21 = .ok (.ifCond .eq 8, 3) := by decide +kernel
theorem dX11_writtenAt_24 : decode cX11_writtenAt 24 = .ok (.bipush 32, 2) := by decide +kernel
theorem dX11_writtenAt_26 : decode cX11_writtenAt 26 = .ok (.goto 10, 3) := by decide +kernel
theorem dX11_writtenAt_29 : decode cX11_writtenAt 29 = .ok (.aload_n 0, 1) := by decide +kernel
theorem dX11_writtenAt_30 : decode cX11_writtenAt 30 = .ok (.getfield 59, 3) := by decide +kernel
theorem dX11_writtenAt_33 : decode cX11_writtenAt 33 = .ok (.iload_n 1, 1) := by decide +kernel
theorem dX11_writtenAt_34 : decode cX11_writtenAt 34 = .ok (.iaload, 1) := by decide +kernel
theorem dX11_writtenAt_35 : decode cX11_writtenAt 35 = .ok (.i2c, 1) := by decide +kernel
theorem dX11_writtenAt_36 : decode cX11_writtenAt 36 = .ok (.ireturn, 1) := by decide +kernel
set_option maxRecDepth 20000 in
theorem ggX11_checksum_X11_many : GoodIn wsX11_checksum wsX11_many := goodIn_r _ [7, 2, 8, 9, 10, 11, 12, 13, 14, 15, 16, 17, 18, 19, 20, 21, 22, 23, 24, 25, 26, 27, 28, 29] rfl (by decide +kernel)
set_option maxRecDepth 20000 in
theorem gX11_checksum_X11_many : GoodIn wsX11_checksum (wsV RX11 65 RX11 yX11_many wsX11_many) := goodIn_app (goodIn_of _ (by decide +kernel)) ggX11_checksum_X11_many
theorem dX11_checksum_0 : decode cX11_checksum 0 = .ok (.aload_n 0, 1) := by decide +kernel
theorem dX11_checksum_1 : decode cX11_checksum 1 = .ok (.iconst 0, 1) := by decide +kernel
theorem dX11_checksum_2 : decode cX11_checksum 2 = .ok (.putfield 1, 3) := by decide +kernel
theorem dX11_checksum_5 : decode cX11_checksum 5 = .ok (.bipush 17, 2) := by decide +kernel
theorem dX11_checksum_7 : decode cX11_checksum 7 = .ok (.istore_n 1, 1) := by decide +kernel
theorem dX11_checksum_8 : decode cX11_checksum 8 = .ok (.iconst 0, 1) := by decide +kernel
theorem dX11_checksum_9 : decode cX11_checksum 9 = .ok (.istore_n 2, 1) := by decide +kernel
theorem dX11_checksum_10 : decode cX11_checksum 10 = .ok (.iload_n 2, 1) := by decide +kernel
theorem dX11_checksum_11 : decode cX11_checksum 11 = .ok (.aload_n 0, 1) := by decide +kernel
theorem dX11_checksum_12 : decode cX11_checksum 12 = .ok (.invokevirtual 65, 3) := by decide +kernel
theorem dX11_checksum_15 : decode cX11_checksum 15 = .ok (.if_icmp .ge 64, 3) := by decide +kernel
theorem dX11_checksum_18 : decode cX11_checksum 18 = .ok (.bipush 31, 2) := by decide +kernel
theorem dX11_checksum_20 : decode cX11_checksum 20 = .ok (.iload_n 1, 1) := by decide +kernel
theorem dX11_checksum_21 : decode cX11_checksum 21 = .ok (.imul, 1) := by decide +kernel
theorem dX11_checksum_22 : decode cX11_checksum 22 = .ok (.aload_n 0, 1) := by decide +kernel
theorem dX11_checksum_23 : decode cX11_checksum 23 = .ok (.getfield 13, 3) := by decide +kernel
theorem dX11_checksum_26 : decode cX11_checksum 26 = .ok (.bipush 10, 2) := by decide +kernel
theorem dX11_checksum_28 : decode cX11_checksum 28 = .ok (.iload_n 2, 1) := by decide +kernel
theorem dX11_checksum_29 : decode cX11_checksum 29 = .ok (.iadd, 1) := by decide +kernel
theorem dX11_checksum_30 : decode cX11_checksum 30 = .ok (.iaload, 1) := by decide +kernel
theorem dX11_checksum_31 : decode cX11_checksum 31 = .ok (.iadd, 1) := by decide +kernel
theorem dX11_checksum_32 : decode cX11_checksum 32 = .ok (.aload_n 0, 1) := by decide +kernel
theorem dX11_checksum_33 : decode cX11_checksum 33 = .ok (.getfield 13, 3) := by decide +kernel
theorem dX11_checksum_36 : decode cX11_checksum 36 = .ok (.bipush 20, 2) := by decide +kernel
theorem dX11_checksum_38 : decode cX11_checksum 38 = .ok (.iload_n 2, 1) := by decide +kernel
theorem dX11_checksum_39 : decode cX11_checksum 39 = .ok (.iadd, 1) := by decide +kernel
theorem dX11_checksum_40 : decode cX11_checksum 40 = .ok (.iaload, 1) := by decide +kernel
theorem dX11_checksum_41 : decode cX11_checksum 41 = .ok (.iadd, 1) := by decide +kernel
theorem dX11_checksum_42 : decode cX11_checksum 42 = .ok (.aload_n 0, 1) := by decide +kernel
theorem dX11_checksum_43 : decode cX11_checksum 43 = .ok (.getfield 13, 3) := by decide +kernel
theorem dX11_checksum_46 : decode cX11_checksum 46 = .ok (.bipush 30, 2) := by decide +kernel
theorem dX11_checksum_48 : decode cX11_checksum 48 = .ok (.iload_n 2, 1) := by decide +kernel
theorem dX11_checksum_49 : decode cX11_checksum 49 = .ok (.iadd, 1) := by decide +kernel
theorem dX11_checksum_50 : decode cX11_checksum 50 = .ok (.iaload, 1) := by decide +kernel
theorem dX11_checksum_51 : decode cX11_checksum 51 = .ok (.iadd, 1) := by decide +kernel
theorem dX11_checksum_52 : decode cX11_checksum 52 = .ok (.aload_n 0, 1) := by decide +kernel
theorem dX11_checksum_53 : decode cX11_checksum 53 = .ok (.getfield 13, 3) := by decide +kernel
theorem dX11_checksum_56 : decode cX11_checksum 56 = .ok (.bipush 40, 2) := by decide +kernel
theorem dX11_checksum_58 : decode cX11_checksum 58 = .ok (.iload_n 2, 1) := by decide +kernel
theorem dX11_checksum_59 : decode cX11_checksum 59 = .ok (.iadd, 1) := by decide +kernel
theorem dX11_checksum_60 : decode cX11_checksum 60 = .ok (.iaload, 1) := by decide +kernel
theorem dX11_checksum_61 : decode cX11_checksum 61 = .ok (.iadd, 1) := by decide +kernel
theorem dX11_checksum_62 : decode cX11_checksum 62 = .ok (.aload_n 0, 1) := by decide +kernel
theorem dX11_checksum_63 : decode cX11_checksum 63 = .ok (.getfield 13, 3) := by decide +kernel
theorem dX11_checksum_66 : decode cX11_checksum 66 = .ok (.bipush 50, 2) := by decide +kernel
theorem dX11_checksum_68 : decode cX11_checksum 68 = .ok (.iload_n 2, 1) := by decide +kernel
theorem dX11_checksum_69 : decode cX11_checksum 69 = .ok (.iadd, 1) := by decide +kernel
theorem dX11_checksum_70 : decode cX11_checksum 70 = .ok (.iaload, 1) := by decide +kernel
theorem dX11_checksum_71 : decode cX11_checksum 71 = .ok (.iadd, 1) := by decide +kernel
theorem dX11_checksum_72 : decode cX11_checksum 72 = .ok (.istore_n 1, 1) := by decide +kernel
theorem dX11_checksum_73 : decode cX11_checksum 73 = .ok (.iinc 2 1, 3) := by decide +kernel
theorem dX11_checksum_76 : decode cX11_checksum 76 = .ok (.goto (-66), 3) := by decide +kernel
theorem dX11_checksum_79 : decode cX11_checksum 79 = .ok (.iload_n 1, 1) := by decide +kernel
theorem dX11_checksum_80 : decode cX11_checksum 80 = .ok (.ireturn, 1) := by decide +kernel
set_option maxRecDepth 20000 in
theorem ggX11_meanValue_X11_many : GoodIn wsX11_meanValue wsX11_many := goodIn_r _ [7, 2, 8, 9, 10, 11, 12, 13, 14, 15, 16, 17, 18, 19, 20, 21, 22, 23, 24, 25, 26, 27, 28, 29] rfl (by decide +kernel)
set_option maxRecDepth 20000 in
theorem gX11_meanValue_X11_many : GoodIn wsX11_meanValue (wsV RX11 65 RX11 yX11_many wsX11_many) := goodIn_app (goodIn_of _ (by decide +kernel)) ggX11_meanValue_X11_many
theorem dX11_meanValue_0 : decode cX11_meanValue 0 = .ok (.aload_n 0, 1) := by decide +kernel
theorem dX11_meanValue_1 : decode cX11_meanValue 1 = .ok (.iconst 0, 1) := by decide +kernel
theorem dX11_meanValue_2 : decode cX11_meanValue 2 = .ok (.putfield 1, 3) := by decide +kernel
theorem dX11_meanValue_5 : decode cX11_meanValue 5 = .ok (.iconst 0, 1) := by decide +kernel
theorem dX11_meanValue_6 : decode cX11_meanValue 6 = .ok (.istore_n 1, 1) := by decide +kernel
theorem dX11_meanValue_7 : decode cX11_meanValue 7 = .ok (.iconst 0, 1) := by decide +kernel
theorem dX11_meanValue_8 : decode cX11_meanValue 8 = .ok (.istore_n 2, 1) := by decide +kernel
theorem dX11_meanValue_9 : decode cX11_meanValue 9 = .ok (.iload_n 2, 1) := by decide +kernel
theorem dX11_meanValue_10 : decode cX11_meanValue 10 = .ok (.aload_n 0, 1) := by decide +kernel
theorem dX11_meanValue_11 : decode cX11_meanValue 11 = .ok (.invokevirtual 65, 3) := by decide +kernel
theorem dX11_meanValue_14 : decode cX11_meanValue 14 = .ok (.if_icmp .ge 21, 3) := by decide +kernel
theorem dX11_meanValue_17 : decode cX11_meanValue 17 = .ok (.iload_n 1, 1) := by decide +kernel
theorem dX11_meanValue_18 : decode cX11_meanValue 18 = .ok (.aload_n 0, 1) := by decide +kernel
theorem dX11_meanValue_19 : decode cX11_meanValue 19 = .ok (.getfield 13, 3) := by decide +kernel
theorem dX11_meanValue_22 : decode cX11_meanValue 22 = .ok (.bipush 40, 2) := by decide +kernel
theorem dX11_meanValue_24 : decode cX11_meanValue 24 = .ok (.iload_n 2, 1) := by decide +kernel
theorem dX11_meanValue_25 : decode cX11_meanValue 25 = .ok (.iadd, 1) := by decide +kernel
theorem dX11_meanValue_26 : decode cX11_meanValue 26 = .ok (.iaload, 1) := by decide +kernel
theorem dX11_meanValue_27 : decode cX11_meanValue 27 = .ok (.iadd, 1) := by decide +kernel
theorem dX11_meanValue_28 : decode cX11_meanValue 28 = .ok (.istore_n 1, 1) := by decide +kernel
theorem dX11_meanValue_29 : decode cX11_meanValue 29 = .ok (.iinc 2 1, 3) := by decide +kernel
theorem dX11_meanValue_32 : decode cX11_meanValue 32 = .ok (.goto (-23), 3) := by decide +kernel
theorem dX11_meanValue_35 : decode cX11_meanValue 35 = .ok (.aload_n 0, 1) := by decide +kernel
theorem dX11_meanValue_36 : decode cX11_meanValue 36 = .ok (.invokevirtual 65, 3) := by decide +kernel
theorem dX11_meanValue_39 : decode cX11_meanValue 39 = .ok (.ifCond .ne 7, 3) := by decide +kernel
theorem dX11_meanValue_42 : decode cX11_meanValue 42 = .ok (.dconst 0, 1) := by decide +kernel
theorem dX11_meanValue_43 : decode cX11_meanValue 43 = .ok (.goto 11, 3) := by decide +kernel
theorem dX11_meanValue_46 : decode cX11_meanValue 46 = .ok (.iload_n 1, 1) := by decide +kernel
theorem dX11_meanValue_47 : decode cX11_meanValue 47 = .ok (.i2d, 1) := by decide +kernel
theorem dX11_meanValue_48 : decode cX11_meanValue 48 = .ok (.aload_n 0, 1) := by decide +kernel
theorem dX11_meanValue_49 : decode cX11_meanValue 49 = .ok (.invokevirtual 65, 3) := by decide +kernel
theorem dX11_meanValue_52 : decode cX11_meanValue 52 = .ok (.i2d, 1) := by decide +kernel
theorem dX11_meanValue_53 : decode cX11_meanValue 53 = .ok (.ddiv, 1) := by decide +kernel
theorem dX11_meanValue_54 : decode cX11_meanValue 54 = .ok (.dreturn, 1) := by decide +kernel
set_option maxRecDepth 20000 in
theorem ggX11_laidShare_X11_many : GoodIn wsX11_laidShare wsX11_many := goodIn_r _ [7, 2, 8, 9, 10, 11, 12, 13, 14, 15, 16, 17, 18, 19, 20, 21, 22, 23, 24, 25, 26, 27, 28, 29] rfl (by decide +kernel)
set_option maxRecDepth 20000 in
theorem gX11_laidShare_X11_many : GoodIn wsX11_laidShare (wsV RX11 65 RX11 yX11_many wsX11_many) := goodIn_app (goodIn_of _ (by decide +kernel)) ggX11_laidShare_X11_many
theorem dX11_laidShare_0 : decode cX11_laidShare 0 = .ok (.aload_n 0, 1) := by decide +kernel
theorem dX11_laidShare_1 : decode cX11_laidShare 1 = .ok (.iconst 0, 1) := by decide +kernel
theorem dX11_laidShare_2 : decode cX11_laidShare 2 = .ok (.putfield 1, 3) := by decide +kernel
theorem dX11_laidShare_5 : decode cX11_laidShare 5 = .ok (.iconst 0, 1) := by decide +kernel
theorem dX11_laidShare_6 : decode cX11_laidShare 6 = .ok (.istore_n 1, 1) := by decide +kernel
theorem dX11_laidShare_7 : decode cX11_laidShare 7 = .ok (.iconst 0, 1) := by decide +kernel
theorem dX11_laidShare_8 : decode cX11_laidShare 8 = .ok (.istore_n 2, 1) := by decide +kernel
theorem dX11_laidShare_9 : decode cX11_laidShare 9 = .ok (.iload_n 2, 1) := by decide +kernel
theorem dX11_laidShare_10 : decode cX11_laidShare 10 = .ok (.aload_n 0, 1) := by decide +kernel
theorem dX11_laidShare_11 : decode cX11_laidShare 11 = .ok (.invokevirtual 65, 3) := by decide +kernel
theorem dX11_laidShare_14 : decode cX11_laidShare 14 = .ok (.if_icmp .ge 30, 3) := by decide +kernel
theorem dX11_laidShare_17 : decode cX11_laidShare 17 = .ok (.iload_n 1, 1) := by decide +kernel
theorem dX11_laidShare_18 : decode cX11_laidShare 18 = .ok (.aload_n 0, 1) := by decide +kernel
theorem dX11_laidShare_19 : decode cX11_laidShare 19 = .ok (.getfield 13, 3) := by decide +kernel
theorem dX11_laidShare_22 : decode cX11_laidShare 22 = .ok (.bipush 50, 2) := by decide +kernel
theorem dX11_laidShare_24 : decode cX11_laidShare 24 = .ok (.iload_n 2, 1) := by decide +kernel
theorem dX11_laidShare_25 : decode cX11_laidShare 25 = .ok (.iadd, 1) := by decide +kernel
theorem dX11_laidShare_26 : decode cX11_laidShare 26 = .ok (.iaload, 1) := by decide +kernel
theorem dX11_laidShare_27 : decode cX11_laidShare 27 = .ok (.iconst (-1), 1) := by decide +kernel
theorem dX11_laidShare_28 : decode cX11_laidShare 28 = .ok (.if_icmp .eq 7, 3) := by decide +kernel
theorem dX11_laidShare_31 : decode cX11_laidShare 31 = .ok (.iconst 1, 1) := by decide +kernel
theorem dX11_laidShare_32 : decode cX11_laidShare 32 = .ok (.goto 4, 3) := by decide +kernel
theorem dX11_laidShare_35 : decode cX11_laidShare 35 = .ok (.iconst 0, 1) := by decide +kernel
theorem dX11_laidShare_36 : decode cX11_laidShare 36 = .ok (.iadd, 1) := by decide +kernel
theorem dX11_laidShare_37 : decode cX11_laidShare 37 = .ok (.istore_n 1, 1) := by decide +kernel
theorem dX11_laidShare_38 : decode cX11_laidShare 38 = .ok (.iinc 2 1, 3) := by decide +kernel
theorem dX11_laidShare_41 : decode cX11_laidShare 41 = .ok (.goto (-32), 3) := by decide +kernel
theorem dX11_laidShare_44 : decode cX11_laidShare 44 = .ok (.aload_n 0, 1) := by decide +kernel
theorem dX11_laidShare_45 : decode cX11_laidShare 45 = .ok (.invokevirtual 65, 3) := by decide +kernel
theorem dX11_laidShare_48 : decode cX11_laidShare 48 = .ok (.ifCond .ne 7, 3) := by decide +kernel
theorem dX11_laidShare_51 : decode cX11_laidShare 51 = .ok (.fconst 0, 1) := by decide +kernel
theorem dX11_laidShare_52 : decode cX11_laidShare 52 = .ok (.goto 11, 3) := by decide +kernel
theorem dX11_laidShare_55 : decode cX11_laidShare 55 = .ok (.iload_n 1, 1) := by decide +kernel
theorem dX11_laidShare_56 : decode cX11_laidShare 56 = .ok (.i2f, 1) := by decide +kernel
theorem dX11_laidShare_57 : decode cX11_laidShare 57 = .ok (.aload_n 0, 1) := by decide +kernel
theorem dX11_laidShare_58 : decode cX11_laidShare 58 = .ok (.invokevirtual 65, 3) := by decide +kernel
theorem dX11_laidShare_61 : decode cX11_laidShare 61 = .ok (.i2f, 1) := by decide +kernel
theorem dX11_laidShare_62 : decode cX11_laidShare 62 = .ok (.fdiv, 1) := by decide +kernel
theorem dX11_laidShare_63 : decode cX11_laidShare 63 = .ok (.freturn, 1) := by decide +kernel
theorem dX11_errors_0 : decode cX11_errors 0 = .ok (.aload_n 0, 1) := by decide +kernel
theorem dX11_errors_1 : decode cX11_errors 1 = .ok (.iconst 0, 1) := by decide +kernel
theorem dX11_errors_2 : decode cX11_errors 2 = .ok (.putfield 1, 3) := by decide +kernel
theorem dX11_errors_5 : decode cX11_errors 5 = .ok (.iconst 0, 1) := by decide +kernel
theorem dX11_errors_6 : decode cX11_errors 6 = .ok (.ireturn, 1) := by decide +kernel
theorem dJ6_bitCount_0f7a4_0 : decode cJ6_bitCount_0f7a4 0 = .ok (.iload_n 0, 1) := by decide +kernel
theorem dJ6_bitCount_0f7a4_1 : decode cJ6_bitCount_0f7a4 1 = .ok (.iload_n 0, 1) := by decide +kernel
theorem dJ6_bitCount_0f7a4_2 : decode cJ6_bitCount_0f7a4 2 = .ok (.iconst 1, 1) := by decide +kernel
theorem dJ6_bitCount_0f7a4_3 : decode cJ6_bitCount_0f7a4 3 = .ok (.iushr, 1) := by decide +kernel
theorem dJ6_bitCount_0f7a4_4 : decode cJ6_bitCount_0f7a4 4 = .ok (.ldc_w 265, 3) := by decide +kernel
theorem dJ6_bitCount_0f7a4_7 : decode cJ6_bitCount_0f7a4 7 = .ok (.iand, 1) := by decide +kernel
theorem dJ6_bitCount_0f7a4_8 : decode cJ6_bitCount_0f7a4 8 = .ok (.isub, 1) := by decide +kernel
theorem dJ6_bitCount_0f7a4_9 : decode cJ6_bitCount_0f7a4 9 = .ok (.istore_n 0, 1) := by decide +kernel
theorem dJ6_bitCount_0f7a4_10 : decode cJ6_bitCount_0f7a4 10 = .ok (.iload_n 0, 1) := by decide +kernel
theorem dJ6_bitCount_0f7a4_11 : decode cJ6_bitCount_0f7a4 11 = .ok (.ldc_w 266, 3) := by decide +kernel
theorem dJ6_bitCount_0f7a4_14 : decode cJ6_bitCount_0f7a4 14 = .ok (.iand, 1) := by decide +kernel
theorem dJ6_bitCount_0f7a4_15 : decode cJ6_bitCount_0f7a4 15 = .ok (.iload_n 0, 1) := by decide +kernel
theorem dJ6_bitCount_0f7a4_16 : decode cJ6_bitCount_0f7a4 16 = .ok (.iconst 2, 1) := by decide +kernel
theorem dJ6_bitCount_0f7a4_17 : decode cJ6_bitCount_0f7a4 17 = .ok (.iushr, 1) := by decide +kernel
theorem dJ6_bitCount_0f7a4_18 : decode cJ6_bitCount_0f7a4 18 = .ok (.ldc_w 266, 3) := by decide +kernel
theorem dJ6_bitCount_0f7a4_21 : decode cJ6_bitCount_0f7a4 21 = .ok (.iand, 1) := by decide +kernel
theorem dJ6_bitCount_0f7a4_22 : decode cJ6_bitCount_0f7a4 22 = .ok (.iadd, 1) := by decide +kernel
theorem dJ6_bitCount_0f7a4_23 : decode cJ6_bitCount_0f7a4 23 = .ok (.istore_n 0, 1) := by decide +kernel
theorem dJ6_bitCount_0f7a4_24 : decode cJ6_bitCount_0f7a4 24 = .ok (.iload_n 0, 1) := by decide +kernel
theorem dJ6_bitCount_0f7a4_25 : decode cJ6_bitCount_0f7a4 25 = .ok (.iload_n 0, 1) := by decide +kernel
theorem dJ6_bitCount_0f7a4_26 : decode cJ6_bitCount_0f7a4 26 = .ok (.iconst 4, 1) := by decide +kernel
theorem dJ6_bitCount_0f7a4_27 : decode cJ6_bitCount_0f7a4 27 = .ok (.iushr, 1) := by decide +kernel
theorem dJ6_bitCount_0f7a4_28 : decode cJ6_bitCount_0f7a4 28 = .ok (.iadd, 1) := by decide +kernel
theorem dJ6_bitCount_0f7a4_29 : decode cJ6_bitCount_0f7a4 29 = .ok (.ldc_w 267, 3) := by decide +kernel
theorem dJ6_bitCount_0f7a4_32 : decode cJ6_bitCount_0f7a4 32 = .ok (.iand, 1) := by decide +kernel
theorem dJ6_bitCount_0f7a4_33 : decode cJ6_bitCount_0f7a4 33 = .ok (.istore_n 0, 1) := by decide +kernel
theorem dJ6_bitCount_0f7a4_34 : decode cJ6_bitCount_0f7a4 34 = .ok (.iload_n 0, 1) := by decide +kernel
theorem dJ6_bitCount_0f7a4_35 : decode cJ6_bitCount_0f7a4 35 = .ok (.iload_n 0, 1) := by decide +kernel
theorem dJ6_bitCount_0f7a4_36 : decode cJ6_bitCount_0f7a4 36 = .ok (.bipush 8, 2) := by decide +kernel
theorem dJ6_bitCount_0f7a4_38 : decode cJ6_bitCount_0f7a4 38 = .ok (.iushr, 1) := by decide +kernel
theorem dJ6_bitCount_0f7a4_39 : decode cJ6_bitCount_0f7a4 39 = .ok (.iadd, 1) := by decide +kernel
theorem dJ6_bitCount_0f7a4_40 : decode cJ6_bitCount_0f7a4 40 = .ok (.istore_n 0, 1) := by decide +kernel
theorem dJ6_bitCount_0f7a4_41 : decode cJ6_bitCount_0f7a4 41 = .ok (.iload_n 0, 1) := by decide +kernel
theorem dJ6_bitCount_0f7a4_42 : decode cJ6_bitCount_0f7a4 42 = .ok (.iload_n 0, 1) := by decide +kernel
theorem dJ6_bitCount_0f7a4_43 : decode cJ6_bitCount_0f7a4 43 = .ok (.bipush 16, 2) := by decide +kernel
theorem dJ6_bitCount_0f7a4_45 : decode cJ6_bitCount_0f7a4 45 = .ok (.iushr, 1) := by decide +kernel
theorem dJ6_bitCount_0f7a4_46 : decode cJ6_bitCount_0f7a4 46 = .ok (.iadd, 1) := by decide +kernel
theorem dJ6_bitCount_0f7a4_47 : decode cJ6_bitCount_0f7a4 47 = .ok (.istore_n 0, 1) := by decide +kernel
theorem dJ6_bitCount_0f7a4_48 : decode cJ6_bitCount_0f7a4 48 = .ok (.iload_n 0, 1) := by decide +kernel
theorem dJ6_bitCount_0f7a4_49 : decode cJ6_bitCount_0f7a4 49 = .ok (.bipush 63, 2) := by decide +kernel
theorem dJ6_bitCount_0f7a4_51 : decode cJ6_bitCount_0f7a4 51 = .ok (.iand, 1) := by decide +kernel
theorem dJ6_bitCount_0f7a4_52 : decode cJ6_bitCount_0f7a4 52 = .ok (.ireturn, 1) := by decide +kernel
theorem dJ9_max_7cf53_0 : decode cJ9_max_7cf53 0 = .ok (.iload_n 0, 1) := by decide +kernel
theorem dJ9_max_7cf53_1 : decode cJ9_max_7cf53 1 = .ok (.iload_n 1, 1) := by decide +kernel
theorem dJ9_max_7cf53_2 : decode cJ9_max_7cf53 2 = .ok (.if_icmp .lt 7, 3) := by decide +kernel
theorem dJ9_max_7cf53_5 : decode cJ9_max_7cf53 5 = .ok (.iload_n 0, 1) := by decide +kernel
theorem dJ9_max_7cf53_6 : decode cJ9_max_7cf53 6 = .ok (.goto 4, 3) := by decide +kernel
theorem dJ9_max_7cf53_9 : decode cJ9_max_7cf53 9 = .ok (.iload_n 1, 1) := by decide +kernel
theorem dJ9_max_7cf53_10 : decode cJ9_max_7cf53 10 = .ok (.ireturn, 1) := by decide +kernel
theorem dJ9_min_7cf53_0 : decode cJ9_min_7cf53 0 = .ok (.iload_n 0, 1) := by decide +kernel
theorem dJ9_min_7cf53_1 : decode cJ9_min_7cf53 1 = .ok (.iload_n 1, 1) := by decide +kernel
theorem dJ9_min_7cf53_2 : decode cJ9_min_7cf53 2 = .ok (.if_icmp .gt 7, 3) := by decide +kernel
theorem dJ9_min_7cf53_5 : decode cJ9_min_7cf53 5 = .ok (.iload_n 0, 1) := by decide +kernel
theorem dJ9_min_7cf53_6 : decode cJ9_min_7cf53 6 = .ok (.goto 4, 3) := by decide +kernel
theorem dJ9_min_7cf53_9 : decode cJ9_min_7cf53 9 = .ok (.iload_n 1, 1) := by decide +kernel
theorem dJ9_min_7cf53_10 : decode cJ9_min_7cf53 10 = .ok (.ireturn, 1) := by decide +kernel
theorem dJ7_fill_53178_0 : decode cJ7_fill_53178 0 = .ok (.iconst 0, 1) := by decide +kernel
theorem dJ7_fill_53178_1 : decode cJ7_fill_53178 1 = .ok (.istore_n 2, 1) := by decide +kernel
theorem dJ7_fill_53178_2 : decode cJ7_fill_53178 2 = .ok (.aload_n 0, 1) := by decide +kernel
theorem dJ7_fill_53178_3 : decode cJ7_fill_53178 3 = .ok (.arraylength, 1) := by decide +kernel
theorem dJ7_fill_53178_4 : decode cJ7_fill_53178 4 = .ok (.istore_n 3, 1) := by decide +kernel
theorem dJ7_fill_53178_5 : decode cJ7_fill_53178 5 = .ok (.iload_n 2, 1) := by decide +kernel
theorem dJ7_fill_53178_6 : decode cJ7_fill_53178 6 = .ok (.iload_n 3, 1) := by decide +kernel
theorem dJ7_fill_53178_7 : decode cJ7_fill_53178 7 = .ok (.if_icmp .ge 13, 3) := by decide +kernel
theorem dJ7_fill_53178_10 : decode cJ7_fill_53178 10 = .ok (.aload_n 0, 1) := by decide +kernel
theorem dJ7_fill_53178_11 : decode cJ7_fill_53178 11 = .ok (.iload_n 2, 1) := by decide +kernel
theorem dJ7_fill_53178_12 : decode cJ7_fill_53178 12 = .ok (.iload_n 1, 1) := by decide +kernel
theorem dJ7_fill_53178_13 : decode cJ7_fill_53178 13 = .ok (.iastore, 1) := by decide +kernel
theorem dJ7_fill_53178_14 : decode cJ7_fill_53178 14 = .ok (.iinc 2 1, 3) := by decide +kernel
theorem dJ7_fill_53178_17 : decode cJ7_fill_53178 17 = .ok (.goto (-12), 3) := by decide +kernel
theorem dJ7_fill_53178_20 : decode cJ7_fill_53178 20 = .ok (.return_, 1) := by decide +kernel
abbrev vwCl : List vw_C := [(RX1, TX1, 7), (RX2, TX2, 4), (RX3, TX3, 7), (RX5, TX5, 11), (RX6, TX6, 8), (RX7, TX7, 3), (RX8, TX8, 3), (RX9, TX9, 3), (RX10, TX10, 11), (RX11, TX11, 22)]
