set_option maxRecDepth 20000 in
theorem ggX3_partedFrom_X8_get : GoodIn wsX3_partedFrom wsX8_get := goodIn_r _ [5, 6, 7, 8, 24, 25, 26] rfl (by decide +kernel)
set_option maxRecDepth 20000 in
theorem gX3_partedFrom_X8_get : GoodIn wsX3_partedFrom (wsV RX3 86 RX8 yX8_get wsX8_get) := goodIn_app (goodIn_of _ (by decide +kernel)) ggX3_partedFrom_X8_get
set_option maxRecDepth 20000 in
theorem ggX3_partedFrom_X6_areParted : GoodIn wsX3_partedFrom wsX6_areParted := goodIn_r _ [13, 14, 15, 2, 3, 4, 5, 6, 7, 8, 16, 17, 18, 19, 20, 21, 22, 23, 24, 25, 26] rfl (by decide +kernel)
set_option maxRecDepth 20000 in
theorem gX3_partedFrom_X6_areParted : GoodIn wsX3_partedFrom (wsV RX3 89 RX6 yX6_areParted wsX6_areParted) := goodIn_app (goodIn_of _ (by decide +kernel)) ggX3_partedFrom_X6_areParted
theorem dX3_partedFrom_0 : decode cX3_partedFrom 0 = .ok (.iconst 0, 1) := by decide +kernel
theorem dX3_partedFrom_1 : decode cX3_partedFrom 1 = .ok (.istore_n 2, 1) := by decide +kernel
theorem dX3_partedFrom_2 : decode cX3_partedFrom 2 = .ok (.iconst 0, 1) := by decide +kernel
theorem dX3_partedFrom_3 : decode cX3_partedFrom 3 = .ok (.istore_n 3, 1) := by decide +kernel
theorem dX3_partedFrom_4 : decode cX3_partedFrom 4 = .ok (.iload_n 3, 1) := by decide +kernel
theorem dX3_partedFrom_5 : decode cX3_partedFrom 5 = .ok (.iload_n 1, 1) := by decide +kernel
theorem dX3_partedFrom_6 : decode cX3_partedFrom 6 = .ok (.if_icmp .ge 40, 3) := by decide +kernel
theorem dX3_partedFrom_9 : decode cX3_partedFrom 9 = .ok (.aload_n 0, 1) := by decide +kernel
theorem dX3_partedFrom_10 : decode cX3_partedFrom 10 = .ok (.aload_n 0, 1) := by decide +kernel
theorem dX3_partedFrom_11 : decode cX3_partedFrom 11 = .ok (.getfield 35, 3) := by decide +kernel
theorem dX3_partedFrom_14 : decode cX3_partedFrom 14 = .ok (.iload_n 1, 1) := by decide +kernel
theorem dX3_partedFrom_15 : decode cX3_partedFrom 15 = .ok (.iconst 0, 1) := by decide +kernel
theorem dX3_partedFrom_16 : decode cX3_partedFrom 16 = .ok (.invokevirtual 86, 3) := by decide +kernel
theorem dX3_partedFrom_19 : decode cX3_partedFrom 19 = .ok (.aload_n 0, 1) := by decide +kernel
theorem dX3_partedFrom_20 : decode cX3_partedFrom 20 = .ok (.getfield 35, 3) := by decide +kernel
theorem dX3_partedFrom_23 : decode cX3_partedFrom 23 = .ok (.iload_n 3, 1) := by decide +kernel
theorem dX3_partedFrom_24 : decode cX3_partedFrom 24 = .ok (.iconst 0, 1) := by decide +kernel
theorem dX3_partedFrom_25 : decode cX3_partedFrom 25 = .ok (.invokevirtual 86, 3) := by decide +kernel
theorem dX3_partedFrom_28 : decode cX3_partedFrom 28 = .ok (.invokevirtual 89, 3) := by decide +kernel
theorem dX3_partedFrom_31 : decode cX3_partedFrom 31 = .ok (.ifCond .eq 9, 3) := by decide +kernel
theorem dX3_partedFrom_34 : decode cX3_partedFrom 34 = .ok (.iload_n 2, 1) := by decide +kernel
theorem dX3_partedFrom_35 : decode cX3_partedFrom 35 = .ok (.iconst 1, 1) := by decide +kernel
theorem dX3_partedFrom_36 : decode cX3_partedFrom 36 = .ok (.iload_n 3, 1) := by decide +kernel
theorem dX3_partedFrom_37 : decode cX3_partedFrom 37 = .ok (.ishl, 1) := by decide +kernel
theorem dX3_partedFrom_38 : decode cX3_partedFrom 38 = .ok (.ior, 1) := by decide +kernel
theorem dX3_partedFrom_39 : decode cX3_partedFrom 39 = .ok (.istore_n 2, 1) := by decide +kernel
theorem dX3_partedFrom_40 : decode cX3_partedFrom 40 = .ok (.iinc 3 1, 3) := by decide +kernel
theorem dX3_partedFrom_43 : decode cX3_partedFrom 43 = .ok (.goto (-39), 3) := by decide +kernel
theorem dX3_partedFrom_46 : decode cX3_partedFrom 46 = .ok (.iload_n 2, 1) := by decide +kernel
theorem dX3_partedFrom_47 : decode cX3_partedFrom 47 = .ok (.ireturn, 1) := by decide +kernel
set_option maxRecDepth 20000 in
theorem ggX3_setPrices_X8_get : GoodIn wsX3_setPrices wsX8_get := goodIn_r _ [8, 9, 10, 11, 23, 24, 25] rfl (by decide +kernel)
set_option maxRecDepth 20000 in
theorem gX3_setPrices_X8_get : GoodIn wsX3_setPrices (wsV RX3 86 RX8 yX8_get wsX8_get) := goodIn_app (goodIn_of _ (by decide +kernel)) ggX3_setPrices_X8_get
set_option maxRecDepth 20000 in
theorem ggX3_setPrices_X3_digitOf : GoodIn wsX3_setPrices wsX3_digitOf := goodIn_r _ [15] rfl (by decide +kernel)
set_option maxRecDepth 20000 in
theorem gX3_setPrices_X3_digitOf : GoodIn wsX3_setPrices (va_wsS RX3 78 yX3_digitOf wsX3_digitOf) := goodIn_app (goodIn_of _ (by decide +kernel)) ggX3_setPrices_X3_digitOf
theorem dX3_setPrices_0 : decode cX3_setPrices 0 = .ok (.iconst 0, 1) := by decide +kernel
theorem dX3_setPrices_1 : decode cX3_setPrices 1 = .ok (.istore 4, 2) := by decide +kernel
theorem dX3_setPrices_3 : decode cX3_setPrices 3 = .ok (.iload 4, 2) := by decide +kernel
theorem dX3_setPrices_5 : decode cX3_setPrices 5 = .ok (.aload_n 0, 1) := by decide +kernel
theorem dX3_setPrices_6 : decode cX3_setPrices 6 = .ok (.getfield 27, 3) := by decide +kernel
theorem dX3_setPrices_9 : decode cX3_setPrices 9 = .ok (.if_icmp .ge 67, 3) := by decide +kernel
theorem dX3_setPrices_12 : decode cX3_setPrices 12 = .ok (.aload_n 1, 1) := by decide +kernel
theorem dX3_setPrices_13 : decode cX3_setPrices 13 = .ok (.iload 4, 2) := by decide +kernel
theorem dX3_setPrices_15 : decode cX3_setPrices 15 = .ok (.iconst 5, 1) := by decide +kernel
theorem dX3_setPrices_16 : decode cX3_setPrices 16 = .ok (.invokevirtual 86, 3) := by decide +kernel
theorem dX3_setPrices_19 : decode cX3_setPrices 19 = .ok (.istore 5, 2) := by decide +kernel
theorem dX3_setPrices_21 : decode cX3_setPrices 21 = .ok (.iload_n 3, 1) := by decide +kernel
theorem dX3_setPrices_22 : decode cX3_setPrices 22 = .ok (.ifCond .eq 19, 3) := by decide +kernel
theorem dX3_setPrices_25 : decode cX3_setPrices 25 = .ok (.iload 5, 2) := by decide +kernel
theorem dX3_setPrices_27 : decode cX3_setPrices 27 = .ok (.iconst (-1), 1) := by decide +kernel
theorem dX3_setPrices_28 : decode cX3_setPrices 28 = .ok (.if_icmp .eq 13, 3) := by decide +kernel
theorem dX3_setPrices_31 : decode cX3_setPrices 31 = .ok (.iload 5, 2) := by decide +kernel
theorem dX3_setPrices_33 : decode cX3_setPrices 33 = .ok (.iload_n 2, 1) := by decide +kernel
theorem dX3_setPrices_34 : decode cX3_setPrices 34 = .ok (.if_icmp .eq 7, 3) := by decide +kernel
theorem dX3_setPrices_37 : decode cX3_setPrices 37 = .ok (.iconst 1, 1) := by decide +kernel
theorem dX3_setPrices_38 : decode cX3_setPrices 38 = .ok (.goto 4, 3) := by decide +kernel
theorem dX3_setPrices_41 : decode cX3_setPrices 41 = .ok (.iconst 0, 1) := by decide +kernel
theorem dX3_setPrices_42 : decode cX3_setPrices 42 = .ok (.istore 6, 2) := by decide +kernel
theorem dX3_setPrices_44 : decode cX3_setPrices 44 = .ok (.aload_n 0, 1) := by decide +kernel
theorem dX3_setPrices_45 : decode cX3_setPrices 45 = .ok (.getfield 24, 3) := by decide +kernel
theorem dX3_setPrices_48 : decode cX3_setPrices 48 = .ok (.iload 4, 2) := by decide +kernel
theorem dX3_setPrices_50 : decode cX3_setPrices 50 = .ok (.iload_n 2, 1) := by decide +kernel
theorem dX3_setPrices_51 : decode cX3_setPrices 51 = .ok (.iload 4, 2) := by decide +kernel
theorem dX3_setPrices_53 : decode cX3_setPrices 53 = .ok (.invokestatic 78, 3) := by decide +kernel
theorem dX3_setPrices_56 : decode cX3_setPrices 56 = .ok (.ishl, 1) := by decide +kernel
theorem dX3_setPrices_57 : decode cX3_setPrices 57 = .ok (.iload 6, 2) := by decide +kernel
theorem dX3_setPrices_59 : decode cX3_setPrices 59 = .ok (.ifCond .eq 8, 3) := by decide +kernel
theorem dX3_setPrices_62 : decode cX3_setPrices 62 = .ok (.ldc 93, 2) := by decide +kernel
theorem dX3_setPrices_64 : decode cX3_setPrices 64 = .ok (.goto 4, 3) := by decide +kernel
theorem dX3_setPrices_67 : decode cX3_setPrices 67 = .ok (.iconst 0, 1) := by decide +kernel
theorem dX3_setPrices_68 : decode cX3_setPrices 68 = .ok (.iadd, 1) := by decide +kernel
theorem dX3_setPrices_69 : decode cX3_setPrices 69 = .ok (.iastore, 1) := by decide +kernel
theorem dX3_setPrices_70 : decode cX3_setPrices 70 = .ok (.iinc 4 1, 3) := by decide +kernel
theorem dX3_setPrices_73 : decode cX3_setPrices 73 = .ok (.goto (-70), 3) := by decide +kernel
theorem dX3_setPrices_76 : decode cX3_setPrices 76 = .ok (.return_, 1) := by decide +kernel
set_option maxRecDepth 20000 in
theorem ggX3_priceSets_X8_get : GoodIn wsX3_priceSets wsX8_get := goodIn_r _ [11, 12, 13, 14, 22, 23, 24] rfl (by decide +kernel)
set_option maxRecDepth 20000 in
theorem gX3_priceSets_X8_get : GoodIn wsX3_priceSets (wsV RX3 86 RX8 yX8_get wsX8_get) := goodIn_app (goodIn_of _ (by decide +kernel)) ggX3_priceSets_X8_get
theorem dX3_priceSets_0 : decode cX3_priceSets 0 = .ok (.aload_n 1, 1) := by decide +kernel
theorem dX3_priceSets_1 : decode cX3_priceSets 1 = .ok (.iload_n 2, 1) := by decide +kernel
theorem dX3_priceSets_2 : decode cX3_priceSets 2 = .ok (.iconst 0, 1) := by decide +kernel
theorem dX3_priceSets_3 : decode cX3_priceSets 3 = .ok (.invokevirtual 86, 3) := by decide +kernel
theorem dX3_priceSets_6 : decode cX3_priceSets 6 = .ok (.istore_n 3, 1) := by decide +kernel
theorem dX3_priceSets_7 : decode cX3_priceSets 7 = .ok (.aload_n 1, 1) := by decide +kernel
theorem dX3_priceSets_8 : decode cX3_priceSets 8 = .ok (.iload_n 2, 1) := by decide +kernel
theorem dX3_priceSets_9 : decode cX3_priceSets 9 = .ok (.iconst 1, 1) := by decide +kernel
theorem dX3_priceSets_10 : decode cX3_priceSets 10 = .ok (.invokevirtual 86, 3) := by decide +kernel
theorem dX3_priceSets_13 : decode cX3_priceSets 13 = .ok (.istore 4, 2) := by decide +kernel
theorem dX3_priceSets_15 : decode cX3_priceSets 15 = .ok (.aload_n 0, 1) := by decide +kernel
theorem dX3_priceSets_16 : decode cX3_priceSets 16 = .ok (.getfield 18, 3) := by decide +kernel
theorem dX3_priceSets_19 : decode cX3_priceSets 19 = .ok (.iconst 0, 1) := by decide +kernel
theorem dX3_priceSets_20 : decode cX3_priceSets 20 = .ok (.iconst 0, 1) := by decide +kernel
theorem dX3_priceSets_21 : decode cX3_priceSets 21 = .ok (.iastore, 1) := by decide +kernel
theorem dX3_priceSets_22 : decode cX3_priceSets 22 = .ok (.iconst 0, 1) := by decide +kernel
theorem dX3_priceSets_23 : decode cX3_priceSets 23 = .ok (.istore 5, 2) := by decide +kernel
theorem dX3_priceSets_25 : decode cX3_priceSets 25 = .ok (.iload 5, 2) := by decide +kernel
theorem dX3_priceSets_27 : decode cX3_priceSets 27 = .ok (.aload_n 0, 1) := by decide +kernel
theorem dX3_priceSets_28 : decode cX3_priceSets 28 = .ok (.getfield 27, 3) := by decide +kernel
theorem dX3_priceSets_31 : decode cX3_priceSets 31 = .ok (.if_icmp .ge 114, 3) := by decide +kernel
theorem dX3_priceSets_34 : decode cX3_priceSets 34 = .ok (.iconst 1, 1) := by decide +kernel
theorem dX3_priceSets_35 : decode cX3_priceSets 35 = .ok (.iload 5, 2) := by decide +kernel
theorem dX3_priceSets_37 : decode cX3_priceSets 37 = .ok (.ishl, 1) := by decide +kernel
theorem dX3_priceSets_38 : decode cX3_priceSets 38 = .ok (.istore 6, 2) := by decide +kernel
theorem dX3_priceSets_40 : decode cX3_priceSets 40 = .ok (.iconst 0, 1) := by decide +kernel
theorem dX3_priceSets_41 : decode cX3_priceSets 41 = .ok (.istore 7, 2) := by decide +kernel
theorem dX3_priceSets_43 : decode cX3_priceSets 43 = .ok (.iload 7, 2) := by decide +kernel
theorem dX3_priceSets_45 : decode cX3_priceSets 45 = .ok (.iload 6, 2) := by decide +kernel
theorem dX3_priceSets_47 : decode cX3_priceSets 47 = .ok (.if_icmp .ge 92, 3) := by decide +kernel
theorem dX3_priceSets_50 : decode cX3_priceSets 50 = .ok (.aload_n 0, 1) := by decide +kernel
theorem dX3_priceSets_51 : decode cX3_priceSets 51 = .ok (.getfield 18, 3) := by decide +kernel
theorem dX3_priceSets_54 : decode cX3_priceSets 54 = .ok (.iload 7, 2) := by decide +kernel
theorem dX3_priceSets_56 : decode cX3_priceSets 56 = .ok (.iaload, 1) := by decide +kernel
theorem dX3_priceSets_57 : decode cX3_priceSets 57 = .ok (.ldc 31, 2) := by decide +kernel
theorem dX3_priceSets_59 : decode cX3_priceSets 59 = .ok (.if_icmp .ge 36, 3) := by decide +kernel
theorem dX3_priceSets_62 : decode cX3_priceSets 62 = .ok (.aload_n 0, 1) := by decide +kernel
theorem dX3_priceSets_63 : decode cX3_priceSets 63 = .ok (.getfield 9, 3) := by decide +kernel
theorem dX3_priceSets_66 : decode cX3_priceSets 66 = .ok (.iload 7, 2) := by decide +kernel
theorem dX3_priceSets_68 : decode cX3_priceSets 68 = .ok (.iload 6, 2) := by decide +kernel
theorem dX3_priceSets_70 : decode cX3_priceSets 70 = .ok (.ior, 1) := by decide +kernel
theorem dX3_priceSets_71 : decode cX3_priceSets 71 = .ok (.iaload, 1) := by decide +kernel
theorem dX3_priceSets_72 : decode cX3_priceSets 72 = .ok (.iload_n 3, 1) := by decide +kernel
theorem dX3_priceSets_73 : decode cX3_priceSets 73 = .ok (.if_icmp .gt 22, 3) := by decide +kernel
theorem dX3_priceSets_76 : decode cX3_priceSets 76 = .ok (.aload_n 0, 1) := by decide +kernel
theorem dX3_priceSets_77 : decode cX3_priceSets 77 = .ok (.getfield 15, 3) := by decide +kernel
theorem dX3_priceSets_80 : decode cX3_priceSets 80 = .ok (.iload 7, 2) := by decide +kernel
theorem dX3_priceSets_82 : decode cX3_priceSets 82 = .ok (.iload 6, 2) := by decide +kernel
theorem dX3_priceSets_84 : decode cX3_priceSets 84 = .ok (.ior, 1) := by decide +kernel
theorem dX3_priceSets_85 : decode cX3_priceSets 85 = .ok (.iaload, 1) := by decide +kernel
theorem dX3_priceSets_86 : decode cX3_priceSets 86 = .ok (.iload 4, 2) := by decide +kernel
theorem dX3_priceSets_88 : decode cX3_priceSets 88 = .ok (.if_icmp .gt 7, 3) := by decide +kernel
theorem dX3_priceSets_91 : decode cX3_priceSets 91 = .ok (.iconst 1, 1) := by decide +kernel
theorem dX3_priceSets_92 : decode cX3_priceSets 92 = .ok (.goto 4, 3) := by decide +kernel
theorem dX3_priceSets_95 : decode cX3_priceSets 95 = .ok (.iconst 0, 1) := by decide +kernel
theorem dX3_priceSets_96 : decode cX3_priceSets 96 = .ok (.istore 8, 2) := by decide +kernel
theorem dX3_priceSets_98 : decode cX3_priceSets 98 = .ok (.aload_n 0, 1) := by decide +kernel
theorem dX3_priceSets_99 : decode cX3_priceSets 99 = .ok (.getfield 18, 3) := by decide +kernel
theorem dX3_priceSets_102 : decode cX3_priceSets 102 = .ok (.iload 7, 2) := by decide +kernel
theorem dX3_priceSets_104 : decode cX3_priceSets 104 = .ok (.iload 6, 2) := by decide +kernel
theorem dX3_priceSets_106 : decode cX3_priceSets 106 = .ok (.ior, 1) := by decide +kernel
theorem dX3_priceSets_107 : decode cX3_priceSets 107 = .ok (.iload 8, 2) := by decide +kernel
theorem dX3_priceSets_109 : decode cX3_priceSets 109 = .ok (.ifCond .eq 21, 3) := by decide +kernel
theorem dX3_priceSets_112 : decode cX3_priceSets 112 = .ok (.aload_n 0, 1) := by decide +kernel
theorem dX3_priceSets_113 : decode cX3_priceSets 113 = .ok (.getfield 18, 3) := by decide +kernel
theorem dX3_priceSets_116 : decode cX3_priceSets 116 = .ok (.iload 7, 2) := by decide +kernel
theorem dX3_priceSets_118 : decode cX3_priceSets 118 = .ok (.iaload, 1) := by decide +kernel
theorem dX3_priceSets_119 : decode cX3_priceSets 119 = .ok (.aload_n 0, 1) := by decide +kernel
theorem dX3_priceSets_120 : decode cX3_priceSets 120 = .ok (.getfield 24, 3) := by decide +kernel
theorem dX3_priceSets_123 : decode cX3_priceSets 123 = .ok (.iload 5, 2) := by decide +kernel
theorem dX3_priceSets_125 : decode cX3_priceSets 125 = .ok (.iaload, 1) := by decide +kernel
theorem dX3_priceSets_126 : decode cX3_priceSets 126 = .ok (.iadd, 1) := by decide +kernel
theorem dX3_priceSets_127 : decode cX3_priceSets 127 = .ok (.goto 5, 3) := by decide +kernel
theorem dX3_priceSets_130 : decode cX3_priceSets 130 = .ok (.ldc 31, 2) := by decide +kernel
theorem dX3_priceSets_132 : decode cX3_priceSets 132 = .ok (.iastore, 1) := by decide +kernel
theorem dX3_priceSets_133 : decode cX3_priceSets 133 = .ok (.iinc 7 1, 3) := by decide +kernel
theorem dX3_priceSets_136 : decode cX3_priceSets 136 = .ok (.goto (-93), 3) := by decide +kernel
theorem dX3_priceSets_139 : decode cX3_priceSets 139 = .ok (.iinc 5 1, 3) := by decide +kernel
theorem dX3_priceSets_142 : decode cX3_priceSets 142 = .ok (.goto (-117), 3) := by decide +kernel
theorem dX3_priceSets_145 : decode cX3_priceSets 145 = .ok (.return_, 1) := by decide +kernel
theorem dX3_addDrawer_0 : decode cX3_addDrawer 0 = .ok (.iconst 1, 1) := by decide +kernel
theorem dX3_addDrawer_1 : decode cX3_addDrawer 1 = .ok (.aload_n 0, 1) := by decide +kernel
theorem dX3_addDrawer_2 : decode cX3_addDrawer 2 = .ok (.getfield 27, 3) := by decide +kernel
theorem dX3_addDrawer_5 : decode cX3_addDrawer 5 = .ok (.ishl, 1) := by decide +kernel
theorem dX3_addDrawer_6 : decode cX3_addDrawer 6 = .ok (.iconst 1, 1) := by decide +kernel
theorem dX3_addDrawer_7 : decode cX3_addDrawer 7 = .ok (.isub, 1) := by decide +kernel
theorem dX3_addDrawer_8 : decode cX3_addDrawer 8 = .ok (.istore_n 2, 1) := by decide +kernel
theorem dX3_addDrawer_9 : decode cX3_addDrawer 9 = .ok (.iload_n 2, 1) := by decide +kernel
theorem dX3_addDrawer_10 : decode cX3_addDrawer 10 = .ok (.istore_n 3, 1) := by decide +kernel
theorem dX3_addDrawer_11 : decode cX3_addDrawer 11 = .ok (.iload_n 3, 1) := by decide +kernel
theorem dX3_addDrawer_12 : decode cX3_addDrawer 12 = .ok (.iload_n 1, 1) := by decide +kernel
theorem dX3_addDrawer_13 : decode cX3_addDrawer 13 = .ok (.if_icmp .lt 74, 3) := by decide +kernel
theorem dX3_addDrawer_16 : decode cX3_addDrawer 16 = .ok (.aload_n 0, 1) := by decide +kernel
theorem dX3_addDrawer_17 : decode cX3_addDrawer 17 = .ok (.getfield 21, 3) := by decide +kernel
theorem dX3_addDrawer_20 : decode cX3_addDrawer 20 = .ok (.iload_n 3, 1) := by decide +kernel
theorem dX3_addDrawer_21 : decode cX3_addDrawer 21 = .ok (.iaload, 1) := by decide +kernel
theorem dX3_addDrawer_22 : decode cX3_addDrawer 22 = .ok (.istore 4, 2) := by decide +kernel
theorem dX3_addDrawer_24 : decode cX3_addDrawer 24 = .ok (.iload_n 3, 1) := by decide +kernel
theorem dX3_addDrawer_25 : decode cX3_addDrawer 25 = .ok (.istore 5, 2) := by decide +kernel
theorem dX3_addDrawer_27 : decode cX3_addDrawer 27 = .ok (.iload 5, 2) := by decide +kernel
theorem dX3_addDrawer_29 : decode cX3_addDrawer 29 = .ok (.ifCond .le 44, 3) := by decide +kernel
theorem dX3_addDrawer_32 : decode cX3_addDrawer 32 = .ok (.aload_n 0, 1) := by decide +kernel
theorem dX3_addDrawer_33 : decode cX3_addDrawer 33 = .ok (.getfield 18, 3) := by decide +kernel
theorem dX3_addDrawer_36 : decode cX3_addDrawer 36 = .ok (.iload 5, 2) := by decide +kernel
theorem dX3_addDrawer_38 : decode cX3_addDrawer 38 = .ok (.iaload, 1) := by decide +kernel
theorem dX3_addDrawer_39 : decode cX3_addDrawer 39 = .ok (.aload_n 0, 1) := by decide +kernel
theorem dX3_addDrawer_40 : decode cX3_addDrawer 40 = .ok (.getfield 21, 3) := by decide +kernel
theorem dX3_addDrawer_43 : decode cX3_addDrawer 43 = .ok (.iload_n 3, 1) := by decide +kernel
theorem dX3_addDrawer_44 : decode cX3_addDrawer 44 = .ok (.iload 5, 2) := by decide +kernel
theorem dX3_addDrawer_46 : decode cX3_addDrawer 46 = .ok (.ixor, 1) := by decide +kernel
theorem dX3_addDrawer_47 : decode cX3_addDrawer 47 = .ok (.iaload, 1) := by decide +kernel
theorem dX3_addDrawer_48 : decode cX3_addDrawer 48 = .ok (.iadd, 1) := by decide +kernel
theorem dX3_addDrawer_49 : decode cX3_addDrawer 49 = .ok (.istore 6, 2) := by decide +kernel
theorem dX3_addDrawer_51 : decode cX3_addDrawer 51 = .ok (.iload 6, 2) := by decide +kernel
theorem dX3_addDrawer_53 : decode cX3_addDrawer 53 = .ok (.iload 4, 2) := by decide +kernel
theorem dX3_addDrawer_55 : decode cX3_addDrawer 55 = .ok (.if_icmp .ge 7, 3) := by decide +kernel
theorem dX3_addDrawer_58 : decode cX3_addDrawer 58 = .ok (.iload 6, 2) := by decide +kernel
theorem dX3_addDrawer_60 : decode cX3_addDrawer 60 = .ok (.istore 4, 2) := by decide +kernel
theorem dX3_addDrawer_62 : decode cX3_addDrawer 62 = .ok (.iload 5, 2) := by decide +kernel
theorem dX3_addDrawer_64 : decode cX3_addDrawer 64 = .ok (.iconst 1, 1) := by decide +kernel
theorem dX3_addDrawer_65 : decode cX3_addDrawer 65 = .ok (.isub, 1) := by decide +kernel
theorem dX3_addDrawer_66 : decode cX3_addDrawer 66 = .ok (.iload_n 3, 1) := by decide +kernel
theorem dX3_addDrawer_67 : decode cX3_addDrawer 67 = .ok (.iand, 1) := by decide +kernel
theorem dX3_addDrawer_68 : decode cX3_addDrawer 68 = .ok (.istore 5, 2) := by decide +kernel
theorem dX3_addDrawer_70 : decode cX3_addDrawer 70 = .ok (.goto (-43), 3) := by decide +kernel
theorem dX3_addDrawer_73 : decode cX3_addDrawer 73 = .ok (.aload_n 0, 1) := by decide +kernel
theorem dX3_addDrawer_74 : decode cX3_addDrawer 74 = .ok (.getfield 21, 3) := by decide +kernel
theorem dX3_addDrawer_77 : decode cX3_addDrawer 77 = .ok (.iload_n 3, 1) := by decide +kernel
theorem dX3_addDrawer_78 : decode cX3_addDrawer 78 = .ok (.iload 4, 2) := by decide +kernel
theorem dX3_addDrawer_80 : decode cX3_addDrawer 80 = .ok (.iastore, 1) := by decide +kernel
theorem dX3_addDrawer_81 : decode cX3_addDrawer 81 = .ok (.iinc 3 (-1), 3) := by decide +kernel
theorem dX3_addDrawer_84 : decode cX3_addDrawer 84 = .ok (.goto (-73), 3) := by decide +kernel
theorem dX3_addDrawer_87 : decode cX3_addDrawer 87 = .ok (.return_, 1) := by decide +kernel
set_option maxRecDepth 20000 in
theorem ggX4_inYear_X8_size : GoodIn wsX4_inYear wsX8_size := goodIn_r _ [12, 13, 48, 49, 50] rfl (by decide +kernel)
set_option maxRecDepth 20000 in
theorem gX4_inYear_X8_size : GoodIn wsX4_inYear (wsV RX4 15 RX8 yX8_size wsX8_size) := goodIn_app (goodIn_of _ (by decide +kernel)) ggX4_inYear_X8_size
set_option maxRecDepth 20000 in
theorem ggX4_inYear_X8_get : GoodIn wsX4_inYear wsX8_get := goodIn_r _ [17, 13, 18, 19, 48, 49, 50] rfl (by decide +kernel)
set_option maxRecDepth 20000 in
theorem gX4_inYear_X8_get : GoodIn wsX4_inYear (wsV RX4 21 RX8 yX8_get wsX8_get) := goodIn_app (goodIn_of _ (by decide +kernel)) ggX4_inYear_X8_get
set_option maxRecDepth 20000 in
theorem ggX4_inYear_X0_dayOf : GoodIn wsX4_inYear wsX0_dayOf := goodIn_r _ [23, 24, 25, 22, 26, 27, 28, 29, 30, 31, 32, 33, 2, 3, 4, 34, 6, 7, 35, 36, 37, 38] rfl (by decide +kernel)
set_option maxRecDepth 20000 in
theorem gX4_inYear_X0_dayOf : GoodIn wsX4_inYear (va_wsS RX4 25 yX0_dayOf wsX0_dayOf) := goodIn_app (goodIn_of _ (by decide +kernel)) ggX4_inYear_X0_dayOf
set_option maxRecDepth 20000 in
theorem ggX4_inYear_X0_newYear : GoodIn wsX4_inYear wsX0_newYear := goodIn_r _ [26, 27, 28, 22, 29] rfl (by decide +kernel)
set_option maxRecDepth 20000 in
theorem gX4_inYear_X0_newYear : GoodIn wsX4_inYear (va_wsS RX4 31 yX0_newYear wsX0_newYear) := goodIn_app (goodIn_of _ (by decide +kernel)) ggX4_inYear_X0_newYear
theorem dX4_inYear_0 : decode cX4_inYear 0 = .ok (.iconst 0, 1) := by decide +kernel
theorem dX4_inYear_1 : decode cX4_inYear 1 = .ok (.istore_n 3, 1) := by decide +kernel
theorem dX4_inYear_2 : decode cX4_inYear 2 = .ok (.iconst 0, 1) := by decide +kernel
theorem dX4_inYear_3 : decode cX4_inYear 3 = .ok (.istore 4, 2) := by decide +kernel
theorem dX4_inYear_5 : decode cX4_inYear 5 = .ok (.iload 4, 2) := by decide +kernel
theorem dX4_inYear_7 : decode cX4_inYear 7 = .ok (.aload_n 0, 1) := by decide +kernel
theorem dX4_inYear_8 : decode cX4_inYear 8 = .ok (.getfield 9, 3) := by decide +kernel
theorem dX4_inYear_11 : decode cX4_inYear 11 = .ok (.invokevirtual 15, 3) := by decide +kernel
theorem dX4_inYear_14 : decode cX4_inYear 14 = .ok (.if_icmp .ge 96, 3) := by decide +kernel
theorem dX4_inYear_17 : decode cX4_inYear 17 = .ok (.aload_n 0, 1) := by decide +kernel
theorem dX4_inYear_18 : decode cX4_inYear 18 = .ok (.getfield 9, 3) := by decide +kernel
theorem dX4_inYear_21 : decode cX4_inYear 21 = .ok (.iload 4, 2) := by decide +kernel
theorem dX4_inYear_23 : decode cX4_inYear 23 = .ok (.iconst 0, 1) := by decide +kernel
theorem dX4_inYear_24 : decode cX4_inYear 24 = .ok (.invokevirtual 21, 3) := by decide +kernel
theorem dX4_inYear_27 : decode cX4_inYear 27 = .ok (.iload_n 1, 1) := by decide +kernel
theorem dX4_inYear_28 : decode cX4_inYear 28 = .ok (.if_icmp .ne 76, 3) := by decide +kernel
theorem dX4_inYear_31 : decode cX4_inYear 31 = .ok (.aload_n 0, 1) := by decide +kernel
theorem dX4_inYear_32 : decode cX4_inYear 32 = .ok (.getfield 9, 3) := by decide +kernel
theorem dX4_inYear_35 : decode cX4_inYear 35 = .ok (.iload 4, 2) := by decide +kernel
theorem dX4_inYear_37 : decode cX4_inYear 37 = .ok (.iconst 1, 1) := by decide +kernel
theorem dX4_inYear_38 : decode cX4_inYear 38 = .ok (.invokevirtual 21, 3) := by decide +kernel
theorem dX4_inYear_41 : decode cX4_inYear 41 = .ok (.invokestatic 25, 3) := by decide +kernel
theorem dX4_inYear_44 : decode cX4_inYear 44 = .ok (.istore 5, 2) := by decide +kernel
theorem dX4_inYear_46 : decode cX4_inYear 46 = .ok (.iload 5, 2) := by decide +kernel
theorem dX4_inYear_48 : decode cX4_inYear 48 = .ok (.aload_n 0, 1) := by decide +kernel
theorem dX4_inYear_49 : decode cX4_inYear 49 = .ok (.getfield 9, 3) := by decide +kernel
theorem dX4_inYear_52 : decode cX4_inYear 52 = .ok (.iload 4, 2) := by decide +kernel
theorem dX4_inYear_54 : decode cX4_inYear 54 = .ok (.iconst 2, 1) := by decide +kernel
theorem dX4_inYear_55 : decode cX4_inYear 55 = .ok (.invokevirtual 21, 3) := by decide +kernel
theorem dX4_inYear_58 : decode cX4_inYear 58 = .ok (.iadd, 1) := by decide +kernel
theorem dX4_inYear_59 : decode cX4_inYear 59 = .ok (.istore 6, 2) := by decide +kernel
theorem dX4_inYear_61 : decode cX4_inYear 61 = .ok (.iload 6, 2) := by decide +kernel
theorem dX4_inYear_63 : decode cX4_inYear 63 = .ok (.iload_n 2, 1) := by decide +kernel
theorem dX4_inYear_64 : decode cX4_inYear 64 = .ok (.iconst 1, 1) := by decide +kernel
theorem dX4_inYear_65 : decode cX4_inYear 65 = .ok (.iadd, 1) := by decide +kernel
theorem dX4_inYear_66 : decode cX4_inYear 66 = .ok (.invokestatic 31, 3) := by decide +kernel
theorem dX4_inYear_69 : decode cX4_inYear 69 = .ok (.invokestatic 34, 3) := by decide +kernel
theorem dX4_inYear_72 : decode cX4_inYear 72 = .ok (.iload 5, 2) := by decide +kernel
theorem dX4_inYear_74 : decode cX4_inYear 74 = .ok (.iload_n 2, 1) := by decide +kernel
theorem dX4_inYear_75 : decode cX4_inYear 75 = .ok (.invokestatic 31, 3) := by decide +kernel
theorem dX4_inYear_78 : decode cX4_inYear 78 = .ok (.invokestatic 39, 3) := by decide +kernel
theorem dX4_inYear_81 : decode cX4_inYear 81 = .ok (.isub, 1) := by decide +kernel
theorem dX4_inYear_82 : decode cX4_inYear 82 = .ok (.istore 7, 2) := by decide +kernel
theorem dX4_inYear_84 : decode cX4_inYear 84 = .ok (.iload_n 3, 1) := by decide +kernel
theorem dX4_inYear_85 : decode cX4_inYear 85 = .ok (.iconst 0, 1) := by decide +kernel
theorem dX4_inYear_86 : decode cX4_inYear 86 = .ok (.iload 7, 2) := by decide +kernel
theorem dX4_inYear_88 : decode cX4_inYear 88 = .ok (.invokestatic 39, 3) := by decide +kernel
theorem dX4_inYear_91 : decode cX4_inYear 91 = .ok (.aload_n 0, 1) := by decide +kernel
theorem dX4_inYear_92 : decode cX4_inYear 92 = .ok (.getfield 9, 3) := by decide +kernel
theorem dX4_inYear_95 : decode cX4_inYear 95 = .ok (.iload 4, 2) := by decide +kernel
theorem dX4_inYear_97 : decode cX4_inYear 97 = .ok (.iconst 3, 1) := by decide +kernel
theorem dX4_inYear_98 : decode cX4_inYear 98 = .ok (.invokevirtual 21, 3) := by decide +kernel
theorem dX4_inYear_101 : decode cX4_inYear 101 = .ok (.imul, 1) := by decide +kernel
theorem dX4_inYear_102 : decode cX4_inYear 102 = .ok (.iadd, 1) := by decide +kernel
theorem dX4_inYear_103 : decode cX4_inYear 103 = .ok (.istore_n 3, 1) := by decide +kernel
theorem dX4_inYear_104 : decode cX4_inYear 104 = .ok (.iinc 4 1, 3) := by decide +kernel
theorem dX4_inYear_107 : decode cX4_inYear 107 = .ok (.goto (-102), 3) := by decide +kernel
theorem dX4_inYear_110 : decode cX4_inYear 110 = .ok (.iload_n 3, 1) := by decide +kernel
theorem dX4_inYear_111 : decode cX4_inYear 111 = .ok (.ireturn, 1) := by decide +kernel
set_option maxRecDepth 20000 in
theorem ggX4_isOver_X8_size : GoodIn wsX4_isOver wsX8_size := goodIn_r _ [5, 6, 55, 56, 57] rfl (by decide +kernel)
set_option maxRecDepth 20000 in
theorem gX4_isOver_X8_size : GoodIn wsX4_isOver (wsV RX4 15 RX8 yX8_size wsX8_size) := goodIn_app (goodIn_of _ (by decide +kernel)) ggX4_isOver_X8_size
set_option maxRecDepth 20000 in
theorem ggX4_isOver_X8_get : GoodIn wsX4_isOver wsX8_get := goodIn_r _ [10, 6, 11, 12, 55, 56, 57] rfl (by decide +kernel)
set_option maxRecDepth 20000 in
theorem gX4_isOver_X8_get : GoodIn wsX4_isOver (wsV RX4 21 RX8 yX8_get wsX8_get) := goodIn_app (goodIn_of _ (by decide +kernel)) ggX4_isOver_X8_get
set_option maxRecDepth 20000 in
theorem ggX4_isOver_X4_isOverDuring : GoodIn wsX4_isOver wsX4_isOverDuring := goodIn_r _ [16, 7, 8, 9, 4, 10, 6, 11, 12, 17, 18, 19, 20, 21, 22, 23, 24, 25, 26, 27, 28, 29, 30, 31, 32, 33, 34, 35, 36, 37, 38, 39, 40, 41, 42, 43, 15, 44, 45, 46, 1, 2, 3, 5, 47, 48, 49, 50, 51, 52, 53, 54, 55, 56, 57] rfl (by decide +kernel)
set_option maxRecDepth 20000 in
theorem gX4_isOver_X4_isOverDuring : GoodIn wsX4_isOver (va_wsS RX4 42 yX4_isOverDuring wsX4_isOverDuring) := goodIn_app (goodIn_of _ (by decide +kernel)) ggX4_isOver_X4_isOverDuring
theorem dX4_isOver_0 : decode cX4_isOver 0 = .ok (.iconst 0, 1) := by decide +kernel
theorem dX4_isOver_1 : decode cX4_isOver 1 = .ok (.istore_n 3, 1) := by decide +kernel
theorem dX4_isOver_2 : decode cX4_isOver 2 = .ok (.iload_n 3, 1) := by decide +kernel
theorem dX4_isOver_3 : decode cX4_isOver 3 = .ok (.aload_n 0, 1) := by decide +kernel
theorem dX4_isOver_4 : decode cX4_isOver 4 = .ok (.getfield 9, 3) := by decide +kernel
theorem dX4_isOver_7 : decode cX4_isOver 7 = .ok (.invokevirtual 15, 3) := by decide +kernel
theorem dX4_isOver_10 : decode cX4_isOver 10 = .ok (.if_icmp .ge 33, 3) := by decide +kernel
theorem dX4_isOver_13 : decode cX4_isOver 13 = .ok (.aload_n 0, 1) := by decide +kernel
theorem dX4_isOver_14 : decode cX4_isOver 14 = .ok (.getfield 9, 3) := by decide +kernel
theorem dX4_isOver_17 : decode cX4_isOver 17 = .ok (.iload_n 3, 1) := by decide +kernel
theorem dX4_isOver_18 : decode cX4_isOver 18 = .ok (.iconst 0, 1) := by decide +kernel
theorem dX4_isOver_19 : decode cX4_isOver 19 = .ok (.invokevirtual 21, 3) := by decide +kernel
theorem dX4_isOver_22 : decode cX4_isOver 22 = .ok (.iload_n 1, 1) := by decide +kernel
theorem dX4_isOver_23 : decode cX4_isOver 23 = .ok (.if_icmp .ne 14, 3) := by decide +kernel
theorem dX4_isOver_26 : decode cX4_isOver 26 = .ok (.aload_n 0, 1) := by decide +kernel
theorem dX4_isOver_27 : decode cX4_isOver 27 = .ok (.iload_n 3, 1) := by decide +kernel
theorem dX4_isOver_28 : decode cX4_isOver 28 = .ok (.iload_n 2, 1) := by decide +kernel
theorem dX4_isOver_29 : decode cX4_isOver 29 = .ok (.invokestatic 42, 3) := by decide +kernel
theorem dX4_isOver_32 : decode cX4_isOver 32 = .ok (.ifCond .eq 5, 3) := by decide +kernel
theorem dX4_isOver_35 : decode cX4_isOver 35 = .ok (.iconst 1, 1) := by decide +kernel
theorem dX4_isOver_36 : decode cX4_isOver 36 = .ok (.ireturn, 1) := by decide +kernel
theorem dX4_isOver_37 : decode cX4_isOver 37 = .ok (.iinc 3 1, 3) := by decide +kernel
theorem dX4_isOver_40 : decode cX4_isOver 40 = .ok (.goto (-38), 3) := by decide +kernel
theorem dX4_isOver_43 : decode cX4_isOver 43 = .ok (.iconst 0, 1) := by decide +kernel
theorem dX4_isOver_44 : decode cX4_isOver 44 = .ok (.ireturn, 1) := by decide +kernel
set_option maxRecDepth 20000 in
theorem ggX4_isOverDuring_X8_get : GoodIn wsX4_isOverDuring wsX8_get := goodIn_r _ [5, 6, 7, 8, 52, 53, 54] rfl (by decide +kernel)
set_option maxRecDepth 20000 in
theorem gX4_isOverDuring_X8_get : GoodIn wsX4_isOverDuring (wsV RX4 21 RX8 yX8_get wsX8_get) := goodIn_app (goodIn_of _ (by decide +kernel)) ggX4_isOverDuring_X8_get
set_option maxRecDepth 20000 in
theorem ggX4_isOverDuring_X0_dayOf : GoodIn wsX4_isOverDuring wsX0_dayOf := goodIn_r _ [12, 13, 14, 11, 15, 16, 17, 18, 19, 20, 21, 22, 23, 24, 25, 26, 27, 28, 29, 30, 31, 32] rfl (by decide +kernel)
set_option maxRecDepth 20000 in
theorem gX4_isOverDuring_X0_dayOf : GoodIn wsX4_isOverDuring (va_wsS RX4 25 yX0_dayOf wsX0_dayOf) := goodIn_app (goodIn_of _ (by decide +kernel)) ggX4_isOverDuring_X0_dayOf
set_option maxRecDepth 20000 in
theorem ggX4_isOverDuring_X0_newYear : GoodIn wsX4_isOverDuring wsX0_newYear := goodIn_r _ [15, 16, 17, 11, 18] rfl (by decide +kernel)
set_option maxRecDepth 20000 in
theorem gX4_isOverDuring_X0_newYear : GoodIn wsX4_isOverDuring (va_wsS RX4 31 yX0_newYear wsX0_newYear) := goodIn_app (goodIn_of _ (by decide +kernel)) ggX4_isOverDuring_X0_newYear
set_option maxRecDepth 20000 in
theorem ggX4_isOverDuring_X4_inYear : GoodIn wsX4_isOverDuring wsX4_inYear := goodIn_r _ [37, 38, 23, 24, 25, 39, 27, 28, 40, 41, 42, 4, 43, 6, 1, 2, 3, 5, 7, 8, 9, 10, 11, 12, 13, 14, 15, 16, 17, 18, 19, 20, 21, 22, 26, 29, 30, 31, 32, 33, 44, 45, 46, 47, 48, 49, 50, 51, 52, 53, 54] rfl (by decide +kernel)
set_option maxRecDepth 20000 in
theorem gX4_isOverDuring_X4_inYear : GoodIn wsX4_isOverDuring (va_wsS RX4 48 yX4_inYear wsX4_inYear) := goodIn_app (goodIn_of _ (by decide +kernel)) ggX4_isOverDuring_X4_inYear
theorem dX4_isOverDuring_0 : decode cX4_isOverDuring 0 = .ok (.aload_n 0, 1) := by decide +kernel
theorem dX4_isOverDuring_1 : decode cX4_isOverDuring 1 = .ok (.getfield 9, 3) := by decide +kernel
theorem dX4_isOverDuring_4 : decode cX4_isOverDuring 4 = .ok (.iload_n 1, 1) := by decide +kernel
theorem dX4_isOverDuring_5 : decode cX4_isOverDuring 5 = .ok (.iconst 1, 1) := by decide +kernel
theorem dX4_isOverDuring_6 : decode cX4_isOverDuring 6 = .ok (.invokevirtual 21, 3) := by decide +kernel
theorem dX4_isOverDuring_9 : decode cX4_isOverDuring 9 = .ok (.istore_n 3, 1) := by decide +kernel
theorem dX4_isOverDuring_10 : decode cX4_isOverDuring 10 = .ok (.iload_n 3, 1) := by decide +kernel
theorem dX4_isOverDuring_11 : decode cX4_isOverDuring 11 = .ok (.invokestatic 25, 3) := by decide +kernel
theorem dX4_isOverDuring_14 : decode cX4_isOverDuring 14 = .ok (.aload_n 0, 1) := by decide +kernel
theorem dX4_isOverDuring_15 : decode cX4_isOverDuring 15 = .ok (.getfield 9, 3) := by decide +kernel
theorem dX4_isOverDuring_18 : decode cX4_isOverDuring 18 = .ok (.iload_n 1, 1) := by decide +kernel
theorem dX4_isOverDuring_19 : decode cX4_isOverDuring 19 = .ok (.iconst 2, 1) := by decide +kernel
theorem dX4_isOverDuring_20 : decode cX4_isOverDuring 20 = .ok (.invokevirtual 21, 3) := by decide +kernel
theorem dX4_isOverDuring_23 : decode cX4_isOverDuring 23 = .ok (.iadd, 1) := by decide +kernel
theorem dX4_isOverDuring_24 : decode cX4_isOverDuring 24 = .ok (.istore 4, 2) := by decide +kernel
theorem dX4_isOverDuring_26 : decode cX4_isOverDuring 26 = .ok (.iload_n 3, 1) := by decide +kernel
theorem dX4_isOverDuring_27 : decode cX4_isOverDuring 27 = .ok (.sipush 10000, 3) := by decide +kernel
theorem dX4_isOverDuring_30 : decode cX4_isOverDuring 30 = .ok (.idiv, 1) := by decide +kernel
theorem dX4_isOverDuring_31 : decode cX4_isOverDuring 31 = .ok (.istore 5, 2) := by decide +kernel
theorem dX4_isOverDuring_33 : decode cX4_isOverDuring 33 = .ok (.iload 5, 2) := by decide +kernel
theorem dX4_isOverDuring_35 : decode cX4_isOverDuring 35 = .ok (.sipush 2199, 3) := by decide +kernel
theorem dX4_isOverDuring_38 : decode cX4_isOverDuring 38 = .ok (.if_icmp .gt 40, 3) := by decide +kernel
theorem dX4_isOverDuring_41 : decode cX4_isOverDuring 41 = .ok (.iload 5, 2) := by decide +kernel
theorem dX4_isOverDuring_43 : decode cX4_isOverDuring 43 = .ok (.invokestatic 31, 3) := by decide +kernel
theorem dX4_isOverDuring_46 : decode cX4_isOverDuring 46 = .ok (.iload 4, 2) := by decide +kernel
theorem dX4_isOverDuring_48 : decode cX4_isOverDuring 48 = .ok (.if_icmp .ge 30, 3) := by decide +kernel
theorem dX4_isOverDuring_51 : decode cX4_isOverDuring 51 = .ok (.aload_n 0, 1) := by decide +kernel
theorem dX4_isOverDuring_52 : decode cX4_isOverDuring 52 = .ok (.aload_n 0, 1) := by decide +kernel
theorem dX4_isOverDuring_53 : decode cX4_isOverDuring 53 = .ok (.getfield 9, 3) := by decide +kernel
theorem dX4_isOverDuring_56 : decode cX4_isOverDuring 56 = .ok (.iload_n 1, 1) := by decide +kernel
theorem dX4_isOverDuring_57 : decode cX4_isOverDuring 57 = .ok (.iconst 0, 1) := by decide +kernel
theorem dX4_isOverDuring_58 : decode cX4_isOverDuring 58 = .ok (.invokevirtual 21, 3) := by decide +kernel
theorem dX4_isOverDuring_61 : decode cX4_isOverDuring 61 = .ok (.iload 5, 2) := by decide +kernel
theorem dX4_isOverDuring_63 : decode cX4_isOverDuring 63 = .ok (.invokestatic 48, 3) := by decide +kernel
theorem dX4_isOverDuring_66 : decode cX4_isOverDuring 66 = .ok (.iload_n 2, 1) := by decide +kernel
theorem dX4_isOverDuring_67 : decode cX4_isOverDuring 67 = .ok (.if_icmp .le 5, 3) := by decide +kernel
theorem dX4_isOverDuring_70 : decode cX4_isOverDuring 70 = .ok (.iconst 1, 1) := by decide +kernel
theorem dX4_isOverDuring_71 : decode cX4_isOverDuring 71 = .ok (.ireturn, 1) := by decide +kernel
theorem dX4_isOverDuring_72 : decode cX4_isOverDuring 72 = .ok (.iinc 5 1, 3) := by decide +kernel
theorem dX4_isOverDuring_75 : decode cX4_isOverDuring 75 = .ok (.goto (-42), 3) := by decide +kernel
theorem dX4_isOverDuring_78 : decode cX4_isOverDuring 78 = .ok (.iconst 0, 1) := by decide +kernel
theorem dX4_isOverDuring_79 : decode cX4_isOverDuring 79 = .ok (.ireturn, 1) := by decide +kernel
set_option maxRecDepth 20000 in
theorem ggX4_daysPossible_X0_daysLeft : GoodIn wsX4_daysPossible wsX0_daysLeft := goodIn_r _ [11, 12, 13, 10, 14, 15, 16, 17, 18, 19, 20, 21, 22, 23, 24, 2, 3, 4, 25, 6, 7, 26, 27, 28, 29] rfl (by decide +kernel)
set_option maxRecDepth 20000 in
theorem gX4_daysPossible_X0_daysLeft : GoodIn wsX4_daysPossible (va_wsS RX4 52 yX0_daysLeft wsX0_daysLeft) := goodIn_app (goodIn_of _ (by decide +kernel)) ggX4_daysPossible_X0_daysLeft
set_option maxRecDepth 20000 in
theorem ggX4_daysPossible_X0_dayOf : GoodIn wsX4_daysPossible wsX0_dayOf := goodIn_r _ [20, 12, 13, 10, 14, 15, 16, 17, 21, 22, 23, 24, 2, 3, 4, 25, 6, 7, 26, 27, 28, 29] rfl (by decide +kernel)
set_option maxRecDepth 20000 in
theorem gX4_daysPossible_X0_dayOf : GoodIn wsX4_daysPossible (va_wsS RX4 25 yX0_dayOf wsX0_dayOf) := goodIn_app (goodIn_of _ (by decide +kernel)) ggX4_daysPossible_X0_dayOf
set_option maxRecDepth 20000 in
theorem ggX4_daysPossible_X0_newYear : GoodIn wsX4_daysPossible wsX0_newYear := goodIn_r _ [14, 15, 16, 10, 17] rfl (by decide +kernel)
set_option maxRecDepth 20000 in
theorem gX4_daysPossible_X0_newYear : GoodIn wsX4_daysPossible (va_wsS RX4 31 yX0_newYear wsX0_newYear) := goodIn_app (goodIn_of _ (by decide +kernel)) ggX4_daysPossible_X0_newYear
set_option maxRecDepth 20000 in
theorem ggX4_daysPossible_X8_get : GoodIn wsX4_daysPossible wsX8_get := goodIn_r _ [36, 37, 38, 39, 56, 57, 58] rfl (by decide +kernel)
set_option maxRecDepth 20000 in
theorem gX4_daysPossible_X8_get : GoodIn wsX4_daysPossible (wsV RX4 21 RX8 yX8_get wsX8_get) := goodIn_app (goodIn_of _ (by decide +kernel)) ggX4_daysPossible_X8_get
set_option maxRecDepth 20000 in
theorem ggX4_daysPossible_X4_inYear : GoodIn wsX4_daysPossible wsX4_inYear := goodIn_r _ [43, 1, 2, 3, 4, 5, 6, 7, 44, 45, 46, 35, 47, 37, 32, 33, 34, 36, 38, 39, 30, 19, 10, 20, 12, 13, 14, 15, 16, 17, 21, 22, 23, 24, 25, 26, 27, 28, 29, 31, 48, 49, 50, 51, 52, 53, 54, 55, 56, 57, 58] rfl (by decide +kernel)
set_option maxRecDepth 20000 in
theorem gX4_daysPossible_X4_inYear : GoodIn wsX4_daysPossible (va_wsS RX4 48 yX4_inYear wsX4_inYear) := goodIn_app (goodIn_of _ (by decide +kernel)) ggX4_daysPossible_X4_inYear
theorem dX4_daysPossible_0 : decode cX4_daysPossible 0 = .ok (.sipush 400, 3) := by decide +kernel
theorem dX4_daysPossible_3 : decode cX4_daysPossible 3 = .ok (.iload_n 2, 1) := by decide +kernel
theorem dX4_daysPossible_4 : decode cX4_daysPossible 4 = .ok (.invokestatic 52, 3) := by decide +kernel
theorem dX4_daysPossible_7 : decode cX4_daysPossible 7 = .ok (.invokestatic 34, 3) := by decide +kernel
theorem dX4_daysPossible_10 : decode cX4_daysPossible 10 = .ok (.istore 4, 2) := by decide +kernel
theorem dX4_daysPossible_12 : decode cX4_daysPossible 12 = .ok (.iload_n 2, 1) := by decide +kernel
theorem dX4_daysPossible_13 : decode cX4_daysPossible 13 = .ok (.invokestatic 25, 3) := by decide +kernel
theorem dX4_daysPossible_16 : decode cX4_daysPossible 16 = .ok (.istore 5, 2) := by decide +kernel
theorem dX4_daysPossible_18 : decode cX4_daysPossible 18 = .ok (.iconst 0, 1) := by decide +kernel
theorem dX4_daysPossible_19 : decode cX4_daysPossible 19 = .ok (.istore 6, 2) := by decide +kernel
theorem dX4_daysPossible_21 : decode cX4_daysPossible 21 = .ok (.iload_n 2, 1) := by decide +kernel
theorem dX4_daysPossible_22 : decode cX4_daysPossible 22 = .ok (.sipush 10000, 3) := by decide +kernel
theorem dX4_daysPossible_25 : decode cX4_daysPossible 25 = .ok (.idiv, 1) := by decide +kernel
theorem dX4_daysPossible_26 : decode cX4_daysPossible 26 = .ok (.istore 7, 2) := by decide +kernel
theorem dX4_daysPossible_28 : decode cX4_daysPossible 28 = .ok (.iload 7, 2) := by decide +kernel
theorem dX4_daysPossible_30 : decode cX4_daysPossible 30 = .ok (.sipush 2199, 3) := by decide +kernel
theorem dX4_daysPossible_33 : decode cX4_daysPossible 33 = .ok (.if_icmp .gt 86, 3) := by decide +kernel
theorem dX4_daysPossible_36 : decode cX4_daysPossible 36 = .ok (.iload 6, 2) := by decide +kernel
theorem dX4_daysPossible_38 : decode cX4_daysPossible 38 = .ok (.iload 4, 2) := by decide +kernel
theorem dX4_daysPossible_40 : decode cX4_daysPossible 40 = .ok (.if_icmp .ge 79, 3) := by decide +kernel
theorem dX4_daysPossible_43 : decode cX4_daysPossible 43 = .ok (.iload_n 3, 1) := by decide +kernel
theorem dX4_daysPossible_44 : decode cX4_daysPossible 44 = .ok (.ifCond .le 75, 3) := by decide +kernel
theorem dX4_daysPossible_47 : decode cX4_daysPossible 47 = .ok (.iload 7, 2) := by decide +kernel
theorem dX4_daysPossible_49 : decode cX4_daysPossible 49 = .ok (.iconst 1, 1) := by decide +kernel
theorem dX4_daysPossible_50 : decode cX4_daysPossible 50 = .ok (.iadd, 1) := by decide +kernel
theorem dX4_daysPossible_51 : decode cX4_daysPossible 51 = .ok (.invokestatic 31, 3) := by decide +kernel
theorem dX4_daysPossible_54 : decode cX4_daysPossible 54 = .ok (.iload 5, 2) := by decide +kernel
theorem dX4_daysPossible_56 : decode cX4_daysPossible 56 = .ok (.isub, 1) := by decide +kernel
theorem dX4_daysPossible_57 : decode cX4_daysPossible 57 = .ok (.iload 6, 2) := by decide +kernel
theorem dX4_daysPossible_59 : decode cX4_daysPossible 59 = .ok (.isub, 1) := by decide +kernel
theorem dX4_daysPossible_60 : decode cX4_daysPossible 60 = .ok (.istore 8, 2) := by decide +kernel
theorem dX4_daysPossible_62 : decode cX4_daysPossible 62 = .ok (.aload_n 0, 1) := by decide +kernel
theorem dX4_daysPossible_63 : decode cX4_daysPossible 63 = .ok (.getfield 55, 3) := by decide +kernel
theorem dX4_daysPossible_66 : decode cX4_daysPossible 66 = .ok (.iload_n 1, 1) := by decide +kernel
theorem dX4_daysPossible_67 : decode cX4_daysPossible 67 = .ok (.bipush 6, 2) := by decide +kernel
theorem dX4_daysPossible_69 : decode cX4_daysPossible 69 = .ok (.invokevirtual 21, 3) := by decide +kernel
theorem dX4_daysPossible_72 : decode cX4_daysPossible 72 = .ok (.aload_n 0, 1) := by decide +kernel
theorem dX4_daysPossible_73 : decode cX4_daysPossible 73 = .ok (.iload_n 1, 1) := by decide +kernel
theorem dX4_daysPossible_74 : decode cX4_daysPossible 74 = .ok (.iload 7, 2) := by decide +kernel
theorem dX4_daysPossible_76 : decode cX4_daysPossible 76 = .ok (.invokestatic 48, 3) := by decide +kernel
theorem dX4_daysPossible_79 : decode cX4_daysPossible 79 = .ok (.isub, 1) := by decide +kernel
theorem dX4_daysPossible_80 : decode cX4_daysPossible 80 = .ok (.iload_n 3, 1) := by decide +kernel
theorem dX4_daysPossible_81 : decode cX4_daysPossible 81 = .ok (.idiv, 1) := by decide +kernel
theorem dX4_daysPossible_82 : decode cX4_daysPossible 82 = .ok (.istore 9, 2) := by decide +kernel
theorem dX4_daysPossible_84 : decode cX4_daysPossible 84 = .ok (.iload 9, 2) := by decide +kernel
theorem dX4_daysPossible_86 : decode cX4_daysPossible 86 = .ok (.iload 8, 2) := by decide +kernel
theorem dX4_daysPossible_88 : decode cX4_daysPossible 88 = .ok (.if_icmp .ge 18, 3) := by decide +kernel
theorem dX4_daysPossible_91 : decode cX4_daysPossible 91 = .ok (.iload 4, 2) := by decide +kernel
theorem dX4_daysPossible_93 : decode cX4_daysPossible 93 = .ok (.iload 6, 2) := by decide +kernel
theorem dX4_daysPossible_95 : decode cX4_daysPossible 95 = .ok (.iconst 0, 1) := by decide +kernel
theorem dX4_daysPossible_96 : decode cX4_daysPossible 96 = .ok (.iload 9, 2) := by decide +kernel
theorem dX4_daysPossible_98 : decode cX4_daysPossible 98 = .ok (.invokestatic 39, 3) := by decide +kernel
theorem dX4_daysPossible_101 : decode cX4_daysPossible 101 = .ok (.iadd, 1) := by decide +kernel
theorem dX4_daysPossible_102 : decode cX4_daysPossible 102 = .ok (.invokestatic 34, 3) := by decide +kernel
theorem dX4_daysPossible_105 : decode cX4_daysPossible 105 = .ok (.ireturn, 1) := by decide +kernel
theorem dX4_daysPossible_106 : decode cX4_daysPossible 106 = .ok (.iload 6, 2) := by decide +kernel
theorem dX4_daysPossible_108 : decode cX4_daysPossible 108 = .ok (.iload 8, 2) := by decide +kernel
theorem dX4_daysPossible_110 : decode cX4_daysPossible 110 = .ok (.iadd, 1) := by decide +kernel
theorem dX4_daysPossible_111 : decode cX4_daysPossible 111 = .ok (.istore 6, 2) := by decide +kernel
theorem dX4_daysPossible_113 : decode cX4_daysPossible 113 = .ok (.iinc 7 1, 3) := by decide +kernel
theorem dX4_daysPossible_116 : decode cX4_daysPossible 116 = .ok (.goto (-88), 3) := by decide +kernel
theorem dX4_daysPossible_119 : decode cX4_daysPossible 119 = .ok (.iload 4, 2) := by decide +kernel
theorem dX4_daysPossible_121 : decode cX4_daysPossible 121 = .ok (.iload 6, 2) := by decide +kernel
theorem dX4_daysPossible_123 : decode cX4_daysPossible 123 = .ok (.invokestatic 34, 3) := by decide +kernel
theorem dX4_daysPossible_126 : decode cX4_daysPossible 126 = .ok (.ireturn, 1) := by decide +kernel
theorem dX5_init_0 : decode cX5_init 0 = .ok (.aload_n 0, 1) := by decide +kernel
theorem dX5_init_1 : decode cX5_init 1 = .ok (.invokespecial 3, 3) := by decide +kernel
theorem dX5_init_4 : decode cX5_init 4 = .ok (.aload_n 0, 1) := by decide +kernel
theorem dX5_init_5 : decode cX5_init 5 = .ok (.bipush 10, 2) := by decide +kernel
theorem dX5_init_7 : decode cX5_init 7 = .ok (.newarray .int, 2) := by decide +kernel
theorem dX5_init_9 : decode cX5_init 9 = .ok (.putfield 9, 3) := by decide +kernel
theorem dX5_init_12 : decode cX5_init 12 = .ok (.aload_n 0, 1) := by decide +kernel
theorem dX5_init_13 : decode cX5_init 13 = .ok (.bipush 10, 2) := by decide +kernel
theorem dX5_init_15 : decode cX5_init 15 = .ok (.newarray .int, 2) := by decide +kernel
theorem dX5_init_17 : decode cX5_init 17 = .ok (.putfield 15, 3) := by decide +kernel
theorem dX5_init_20 : decode cX5_init 20 = .ok (.aload_n 0, 1) := by decide +kernel
theorem dX5_init_21 : decode cX5_init 21 = .ok (.bipush 10, 2) := by decide +kernel
theorem dX5_init_23 : decode cX5_init 23 = .ok (.newarray .int, 2) := by decide +kernel
theorem dX5_init_25 : decode cX5_init 25 = .ok (.putfield 18, 3) := by decide +kernel
theorem dX5_init_28 : decode cX5_init 28 = .ok (.aload_n 0, 1) := by decide +kernel
theorem dX5_init_29 : decode cX5_init 29 = .ok (.sipush 1024, 3) := by decide +kernel
theorem dX5_init_32 : decode cX5_init 32 = .ok (.newarray .int, 2) := by decide +kernel
theorem dX5_init_34 : decode cX5_init 34 = .ok (.putfield 21, 3) := by decide +kernel
theorem dX5_init_37 : decode cX5_init 37 = .ok (.aload_n 0, 1) := by decide +kernel
theorem dX5_init_38 : decode cX5_init 38 = .ok (.sipush 1024, 3) := by decide +kernel
theorem dX5_init_41 : decode cX5_init 41 = .ok (.newarray .int, 2) := by decide +kernel
theorem dX5_init_43 : decode cX5_init 43 = .ok (.putfield 24, 3) := by decide +kernel
theorem dX5_init_46 : decode cX5_init 46 = .ok (.aload_n 0, 1) := by decide +kernel
theorem dX5_init_47 : decode cX5_init 47 = .ok (.bipush 100, 2) := by decide +kernel
theorem dX5_init_49 : decode cX5_init 49 = .ok (.newarray .int, 2) := by decide +kernel
theorem dX5_init_51 : decode cX5_init 51 = .ok (.putfield 27, 3) := by decide +kernel
theorem dX5_init_54 : decode cX5_init 54 = .ok (.aload_n 0, 1) := by decide +kernel
theorem dX5_init_55 : decode cX5_init 55 = .ok (.bipush 100, 2) := by decide +kernel
theorem dX5_init_57 : decode cX5_init 57 = .ok (.newarray .int, 2) := by decide +kernel
theorem dX5_init_59 : decode cX5_init 59 = .ok (.putfield 30, 3) := by decide +kernel
theorem dX5_init_62 : decode cX5_init 62 = .ok (.aload_n 0, 1) := by decide +kernel
theorem dX5_init_63 : decode cX5_init 63 = .ok (.bipush 11, 2) := by decide +kernel
theorem dX5_init_65 : decode cX5_init 65 = .ok (.newarray .int, 2) := by decide +kernel
theorem dX5_init_67 : decode cX5_init 67 = .ok (.putfield 33, 3) := by decide +kernel
theorem dX5_init_70 : decode cX5_init 70 = .ok (.aload_n 0, 1) := by decide +kernel
theorem dX5_init_71 : decode cX5_init 71 = .ok (.bipush 10, 2) := by decide +kernel
theorem dX5_init_73 : decode cX5_init 73 = .ok (.newarray .int, 2) := by decide +kernel
theorem dX5_init_75 : decode cX5_init 75 = .ok (.putfield 36, 3) := by decide +kernel
theorem dX5_init_78 : decode cX5_init 78 = .ok (.aload_n 0, 1) := by decide +kernel
theorem dX5_init_79 : decode cX5_init 79 = .ok (.iconst 0, 1) := by decide +kernel
theorem dX5_init_80 : decode cX5_init 80 = .ok (.putfield 39, 3) := by decide +kernel
theorem dX5_init_83 : decode cX5_init 83 = .ok (.aload_n 0, 1) := by decide +kernel
theorem dX5_init_84 : decode cX5_init 84 = .ok (.iconst (-1), 1) := by decide +kernel
theorem dX5_init_85 : decode cX5_init 85 = .ok (.putfield 43, 3) := by decide +kernel
theorem dX5_init_88 : decode cX5_init 88 = .ok (.return_, 1) := by decide +kernel
set_option maxRecDepth 20000 in
theorem ggX5_lookAt_X8_size : GoodIn wsX5_lookAt wsX8_size := goodIn_r _ [12, 13, 109, 110, 111] rfl (by decide +kernel)
set_option maxRecDepth 20000 in
theorem gX5_lookAt_X8_size : GoodIn wsX5_lookAt (wsV RX5 52 RX8 yX8_size wsX8_size) := goodIn_app (goodIn_of _ (by decide +kernel)) ggX5_lookAt_X8_size
set_option maxRecDepth 20000 in
theorem ggX5_lookAt_X5_readScratches : GoodIn wsX5_lookAt wsX5_readScratches := goodIn_r _ [18, 6, 19, 20, 21, 22, 8, 9, 10, 11, 12, 13, 23, 24, 25, 26, 27, 28, 29, 30, 17, 31, 98, 99, 100, 101, 102, 103, 104, 105, 106, 107, 108, 109, 110, 111] rfl (by decide +kernel)
set_option maxRecDepth 20000 in
theorem gX5_lookAt_X5_readScratches : GoodIn wsX5_lookAt (wsV RX5 67 RX5 yX5_readScratches wsX5_readScratches) := goodIn_app (goodIn_of _ (by decide +kernel)) ggX5_lookAt_X5_readScratches
set_option maxRecDepth 20000 in
theorem ggX5_lookAt_X5_takeScratches : GoodIn wsX5_lookAt wsX5_takeScratches := goodIn_r _ [35, 36, 7, 6, 19, 20, 21, 22, 98, 99, 100, 101, 102, 103, 104, 105, 106, 107, 108] rfl (by decide +kernel)
set_option maxRecDepth 20000 in
theorem gX5_lookAt_X5_takeScratches : GoodIn wsX5_lookAt (wsV RX5 71 RX5 yX5_takeScratches wsX5_takeScratches) := goodIn_app (goodIn_of _ (by decide +kernel)) ggX5_lookAt_X5_takeScratches
set_option maxRecDepth 20000 in
theorem ggX5_lookAt_X5_countWaysAhead : GoodIn wsX5_lookAt wsX5_countWaysAhead := goodIn_r _ [40, 41, 5, 19, 20, 21, 22, 42, 43, 44, 17, 45, 46, 47, 48, 49, 36, 98, 99, 100, 101, 102, 103, 104, 105, 106, 107, 108] rfl (by decide +kernel)
set_option maxRecDepth 20000 in
theorem gX5_lookAt_X5_countWaysAhead : GoodIn wsX5_lookAt (wsV RX5 74 RX5 yX5_countWaysAhead wsX5_countWaysAhead) := goodIn_app (goodIn_of _ (by decide +kernel)) ggX5_lookAt_X5_countWaysAhead
set_option maxRecDepth 20000 in
theorem ggX5_lookAt_X5_countWaysBehind : GoodIn wsX5_lookAt wsX5_countWaysBehind := goodIn_r _ [53, 54, 55, 56, 41, 5, 19, 20, 21, 22, 42, 43, 44, 17, 45, 46, 47, 48, 49, 36, 57, 58, 59, 60, 61, 62, 63, 64, 65, 66, 67, 68, 69, 70, 71, 98, 99, 100, 101, 102, 103, 104, 105, 106, 107, 108] rfl (by decide +kernel)
set_option maxRecDepth 20000 in
theorem gX5_lookAt_X5_countWaysBehind : GoodIn wsX5_lookAt (wsV RX5 77 RX5 yX5_countWaysBehind wsX5_countWaysBehind) := goodIn_app (goodIn_of _ (by decide +kernel)) ggX5_lookAt_X5_countWaysBehind
set_option maxRecDepth 20000 in
theorem ggX5_lookAt_X5_findRing : GoodIn wsX5_lookAt wsX5_findRing := goodIn_r _ [75, 76, 5, 77, 78, 79, 17, 80, 81, 7, 82, 83, 84, 85, 86, 87, 88, 89, 98, 99, 100, 101, 102, 103, 104, 105, 106, 107, 108] rfl (by decide +kernel)
set_option maxRecDepth 20000 in
theorem gX5_lookAt_X5_findRing : GoodIn wsX5_lookAt (wsV RX5 80 RX5 yX5_findRing wsX5_findRing) := goodIn_app (goodIn_of _ (by decide +kernel)) ggX5_lookAt_X5_findRing
theorem dX5_lookAt_0 : decode cX5_lookAt 0 = .ok (.aload_n 1, 1) := by decide +kernel
theorem dX5_lookAt_1 : decode cX5_lookAt 1 = .ok (.getfield 46, 3) := by decide +kernel
theorem dX5_lookAt_4 : decode cX5_lookAt 4 = .ok (.invokevirtual 52, 3) := by decide +kernel
theorem dX5_lookAt_7 : decode cX5_lookAt 7 = .ok (.bipush 10, 2) := by decide +kernel
theorem dX5_lookAt_9 : decode cX5_lookAt 9 = .ok (.invokestatic 58, 3) := by decide +kernel
theorem dX5_lookAt_12 : decode cX5_lookAt 12 = .ok (.istore_n 2, 1) := by decide +kernel
theorem dX5_lookAt_13 : decode cX5_lookAt 13 = .ok (.iload_n 2, 1) := by decide +kernel
theorem dX5_lookAt_14 : decode cX5_lookAt 14 = .ok (.aload_n 0, 1) := by decide +kernel
theorem dX5_lookAt_15 : decode cX5_lookAt 15 = .ok (.getfield 43, 3) := by decide +kernel
theorem dX5_lookAt_18 : decode cX5_lookAt 18 = .ok (.if_icmp .ne 7, 3) := by decide +kernel
theorem dX5_lookAt_21 : decode cX5_lookAt 21 = .ok (.iconst 1, 1) := by decide +kernel
theorem dX5_lookAt_22 : decode cX5_lookAt 22 = .ok (.goto 4, 3) := by decide +kernel
theorem dX5_lookAt_25 : decode cX5_lookAt 25 = .ok (.iconst 0, 1) := by decide +kernel
theorem dX5_lookAt_26 : decode cX5_lookAt 26 = .ok (.istore_n 3, 1) := by decide +kernel
theorem dX5_lookAt_27 : decode cX5_lookAt 27 = .ok (.aload_n 0, 1) := by decide +kernel
theorem dX5_lookAt_28 : decode cX5_lookAt 28 = .ok (.aload_n 1, 1) := by decide +kernel
theorem dX5_lookAt_29 : decode cX5_lookAt 29 = .ok (.getfield 64, 3) := by decide +kernel
theorem dX5_lookAt_32 : decode cX5_lookAt 32 = .ok (.invokevirtual 67, 3) := by decide +kernel
theorem dX5_lookAt_35 : decode cX5_lookAt 35 = .ok (.iconst 0, 1) := by decide +kernel
theorem dX5_lookAt_36 : decode cX5_lookAt 36 = .ok (.istore 4, 2) := by decide +kernel
theorem dX5_lookAt_38 : decode cX5_lookAt 38 = .ok (.iload 4, 2) := by decide +kernel
theorem dX5_lookAt_40 : decode cX5_lookAt 40 = .ok (.bipush 10, 2) := by decide +kernel
theorem dX5_lookAt_42 : decode cX5_lookAt 42 = .ok (.if_icmp .ge 36, 3) := by decide +kernel
theorem dX5_lookAt_45 : decode cX5_lookAt 45 = .ok (.iload_n 3, 1) := by decide +kernel
theorem dX5_lookAt_46 : decode cX5_lookAt 46 = .ok (.ifCond .eq 24, 3) := by decide +kernel
theorem dX5_lookAt_49 : decode cX5_lookAt 49 = .ok (.aload_n 0, 1) := by decide +kernel
theorem dX5_lookAt_50 : decode cX5_lookAt 50 = .ok (.getfield 9, 3) := by decide +kernel
theorem dX5_lookAt_53 : decode cX5_lookAt 53 = .ok (.iload 4, 2) := by decide +kernel
theorem dX5_lookAt_55 : decode cX5_lookAt 55 = .ok (.iaload, 1) := by decide +kernel
theorem dX5_lookAt_56 : decode cX5_lookAt 56 = .ok (.aload_n 0, 1) := by decide +kernel
theorem dX5_lookAt_57 : decode cX5_lookAt 57 = .ok (.getfield 15, 3) := by decide +kernel
theorem dX5_lookAt_60 : decode cX5_lookAt 60 = .ok (.iload 4, 2) := by decide +kernel
theorem dX5_lookAt_62 : decode cX5_lookAt 62 = .ok (.iaload, 1) := by decide +kernel
theorem dX5_lookAt_63 : decode cX5_lookAt 63 = .ok (.if_icmp .ne 7, 3) := by decide +kernel
theorem dX5_lookAt_66 : decode cX5_lookAt 66 = .ok (.iconst 1, 1) := by decide +kernel
theorem dX5_lookAt_67 : decode cX5_lookAt 67 = .ok (.goto 4, 3) := by decide +kernel
theorem dX5_lookAt_70 : decode cX5_lookAt 70 = .ok (.iconst 0, 1) := by decide +kernel
theorem dX5_lookAt_71 : decode cX5_lookAt 71 = .ok (.istore_n 3, 1) := by decide +kernel
theorem dX5_lookAt_72 : decode cX5_lookAt 72 = .ok (.iinc 4 1, 3) := by decide +kernel
theorem dX5_lookAt_75 : decode cX5_lookAt 75 = .ok (.goto (-37), 3) := by decide +kernel
theorem dX5_lookAt_78 : decode cX5_lookAt 78 = .ok (.iload_n 3, 1) := by decide +kernel
theorem dX5_lookAt_79 : decode cX5_lookAt 79 = .ok (.ifCond .ne 24, 3) := by decide +kernel
theorem dX5_lookAt_82 : decode cX5_lookAt 82 = .ok (.aload_n 0, 1) := by decide +kernel
theorem dX5_lookAt_83 : decode cX5_lookAt 83 = .ok (.iload_n 2, 1) := by decide +kernel
theorem dX5_lookAt_84 : decode cX5_lookAt 84 = .ok (.putfield 43, 3) := by decide +kernel
theorem dX5_lookAt_87 : decode cX5_lookAt 87 = .ok (.aload_n 0, 1) := by decide +kernel
theorem dX5_lookAt_88 : decode cX5_lookAt 88 = .ok (.invokevirtual 71, 3) := by decide +kernel
theorem dX5_lookAt_91 : decode cX5_lookAt 91 = .ok (.aload_n 0, 1) := by decide +kernel
theorem dX5_lookAt_92 : decode cX5_lookAt 92 = .ok (.invokevirtual 74, 3) := by decide +kernel
theorem dX5_lookAt_95 : decode cX5_lookAt 95 = .ok (.aload_n 0, 1) := by decide +kernel
theorem dX5_lookAt_96 : decode cX5_lookAt 96 = .ok (.invokevirtual 77, 3) := by decide +kernel
theorem dX5_lookAt_99 : decode cX5_lookAt 99 = .ok (.aload_n 0, 1) := by decide +kernel
theorem dX5_lookAt_100 : decode cX5_lookAt 100 = .ok (.invokevirtual 80, 3) := by decide +kernel
theorem dX5_lookAt_103 : decode cX5_lookAt 103 = .ok (.return_, 1) := by decide +kernel
set_option maxRecDepth 20000 in
theorem ggX5_readScratches_J7_fill_53178 : GoodIn wsX5_readScratches wsJ7_fill_53178 := goodIn_r _ [5] rfl (by decide +kernel)
set_option maxRecDepth 20000 in
theorem gX5_readScratches_J7_fill_53178 : GoodIn wsX5_readScratches (va_wsS RX5 83 yJ7_fill_53178 wsJ7_fill_53178) := goodIn_app (goodIn_of _ (by decide +kernel)) ggX5_readScratches_J7_fill_53178
set_option maxRecDepth 20000 in
theorem ggX5_readScratches_X8_size : GoodIn wsX5_readScratches wsX8_size := goodIn_r _ [10, 11, 33, 34, 35] rfl (by decide +kernel)
set_option maxRecDepth 20000 in
theorem gX5_readScratches_X8_size : GoodIn wsX5_readScratches (wsV RX5 52 RX8 yX8_size wsX8_size) := goodIn_app (goodIn_of _ (by decide +kernel)) ggX5_readScratches_X8_size
set_option maxRecDepth 20000 in
theorem ggX5_readScratches_X8_get : GoodIn wsX5_readScratches wsX8_get := goodIn_r _ [15, 11, 16, 17, 33, 34, 35] rfl (by decide +kernel)
set_option maxRecDepth 20000 in
theorem gX5_readScratches_X8_get : GoodIn wsX5_readScratches (wsV RX5 89 RX8 yX8_get wsX8_get) := goodIn_app (goodIn_of _ (by decide +kernel)) ggX5_readScratches_X8_get
set_option maxRecDepth 20000 in
theorem ggX5_readScratches_X5_isStone : GoodIn wsX5_readScratches wsX5_isStone := goodIn_r _ [21] rfl (by decide +kernel)
set_option maxRecDepth 20000 in
theorem gX5_readScratches_X5_isStone : GoodIn wsX5_readScratches (va_wsS RX5 92 yX5_isStone wsX5_isStone) := goodIn_app (goodIn_of _ (by decide +kernel)) ggX5_readScratches_X5_isStone
theorem dX5_readScratches_0 : decode cX5_readScratches 0 = .ok (.aload_n 0, 1) := by decide +kernel
theorem dX5_readScratches_1 : decode cX5_readScratches 1 = .ok (.getfield 9, 3) := by decide +kernel
theorem dX5_readScratches_4 : decode cX5_readScratches 4 = .ok (.iconst 0, 1) := by decide +kernel
theorem dX5_readScratches_5 : decode cX5_readScratches 5 = .ok (.invokestatic 83, 3) := by decide +kernel
theorem dX5_readScratches_8 : decode cX5_readScratches 8 = .ok (.iconst 0, 1) := by decide +kernel
theorem dX5_readScratches_9 : decode cX5_readScratches 9 = .ok (.istore_n 2, 1) := by decide +kernel
theorem dX5_readScratches_10 : decode cX5_readScratches 10 = .ok (.iload_n 2, 1) := by decide +kernel
theorem dX5_readScratches_11 : decode cX5_readScratches 11 = .ok (.aload_n 1, 1) := by decide +kernel
theorem dX5_readScratches_12 : decode cX5_readScratches 12 = .ok (.invokevirtual 52, 3) := by decide +kernel
theorem dX5_readScratches_15 : decode cX5_readScratches 15 = .ok (.if_icmp .ge 52, 3) := by decide +kernel
theorem dX5_readScratches_18 : decode cX5_readScratches 18 = .ok (.aload_n 1, 1) := by decide +kernel
theorem dX5_readScratches_19 : decode cX5_readScratches 19 = .ok (.iload_n 2, 1) := by decide +kernel
theorem dX5_readScratches_20 : decode cX5_readScratches 20 = .ok (.iconst 0, 1) := by decide +kernel
theorem dX5_readScratches_21 : decode cX5_readScratches 21 = .ok (.invokevirtual 89, 3) := by decide +kernel
theorem dX5_readScratches_24 : decode cX5_readScratches 24 = .ok (.istore_n 3, 1) := by decide +kernel
theorem dX5_readScratches_25 : decode cX5_readScratches 25 = .ok (.aload_n 1, 1) := by decide +kernel
theorem dX5_readScratches_26 : decode cX5_readScratches 26 = .ok (.iload_n 2, 1) := by decide +kernel
theorem dX5_readScratches_27 : decode cX5_readScratches 27 = .ok (.iconst 1, 1) := by decide +kernel
theorem dX5_readScratches_28 : decode cX5_readScratches 28 = .ok (.invokevirtual 89, 3) := by decide +kernel
theorem dX5_readScratches_31 : decode cX5_readScratches 31 = .ok (.istore 4, 2) := by decide +kernel
theorem dX5_readScratches_33 : decode cX5_readScratches 33 = .ok (.iload_n 3, 1) := by decide +kernel
theorem dX5_readScratches_34 : decode cX5_readScratches 34 = .ok (.invokestatic 92, 3) := by decide +kernel
theorem dX5_readScratches_37 : decode cX5_readScratches 37 = .ok (.ifCond .eq 24, 3) := by decide +kernel
theorem dX5_readScratches_40 : decode cX5_readScratches 40 = .ok (.iload 4, 2) := by decide +kernel
theorem dX5_readScratches_42 : decode cX5_readScratches 42 = .ok (.invokestatic 92, 3) := by decide +kernel
theorem dX5_readScratches_45 : decode cX5_readScratches 45 = .ok (.ifCond .eq 16, 3) := by decide +kernel
theorem dX5_readScratches_48 : decode cX5_readScratches 48 = .ok (.aload_n 0, 1) := by decide +kernel
theorem dX5_readScratches_49 : decode cX5_readScratches 49 = .ok (.getfield 9, 3) := by decide +kernel
theorem dX5_readScratches_52 : decode cX5_readScratches 52 = .ok (.iload_n 3, 1) := by decide +kernel
theorem dX5_readScratches_53 : decode cX5_readScratches 53 = .ok (.dup2, 1) := by decide +kernel
theorem dX5_readScratches_54 : decode cX5_readScratches 54 = .ok (.iaload, 1) := by decide +kernel
theorem dX5_readScratches_55 : decode cX5_readScratches 55 = .ok (.iconst 1, 1) := by decide +kernel
theorem dX5_readScratches_56 : decode cX5_readScratches 56 = .ok (.iload 4, 2) := by decide +kernel
theorem dX5_readScratches_58 : decode cX5_readScratches 58 = .ok (.ishl, 1) := by decide +kernel
theorem dX5_readScratches_59 : decode cX5_readScratches 59 = .ok (.ior, 1) := by decide +kernel
theorem dX5_readScratches_60 : decode cX5_readScratches 60 = .ok (.iastore, 1) := by decide +kernel
theorem dX5_readScratches_61 : decode cX5_readScratches 61 = .ok (.iinc 2 1, 3) := by decide +kernel
theorem dX5_readScratches_64 : decode cX5_readScratches 64 = .ok (.goto (-54), 3) := by decide +kernel
theorem dX5_readScratches_67 : decode cX5_readScratches 67 = .ok (.return_, 1) := by decide +kernel
theorem dX5_isStone_0 : decode cX5_isStone 0 = .ok (.iload_n 0, 1) := by decide +kernel
theorem dX5_isStone_1 : decode cX5_isStone 1 = .ok (.ifCond .lt 13, 3) := by decide +kernel
theorem dX5_isStone_4 : decode cX5_isStone 4 = .ok (.iload_n 0, 1) := by decide +kernel
theorem dX5_isStone_5 : decode cX5_isStone 5 = .ok (.bipush 10, 2) := by decide +kernel
theorem dX5_isStone_7 : decode cX5_isStone 7 = .ok (.if_icmp .ge 7, 3) := by decide +kernel
theorem dX5_isStone_10 : decode cX5_isStone 10 = .ok (.iconst 1, 1) := by decide +kernel
theorem dX5_isStone_11 : decode cX5_isStone 11 = .ok (.goto 4, 3) := by decide +kernel
theorem dX5_isStone_14 : decode cX5_isStone 14 = .ok (.iconst 0, 1) := by decide +kernel
theorem dX5_isStone_15 : decode cX5_isStone 15 = .ok (.ireturn, 1) := by decide +kernel
set_option maxRecDepth 20000 in
theorem ggX5_takeScratches_J7_fill_53178 : GoodIn wsX5_takeScratches wsJ7_fill_53178 := goodIn_r _ [7] rfl (by decide +kernel)
set_option maxRecDepth 20000 in
theorem gX5_takeScratches_J7_fill_53178 : GoodIn wsX5_takeScratches (va_wsS RX5 83 yJ7_fill_53178 wsJ7_fill_53178) := goodIn_app (goodIn_of _ (by decide +kernel)) ggX5_takeScratches_J7_fill_53178
theorem dX5_takeScratches_0 : decode cX5_takeScratches 0 = .ok (.aload_n 0, 1) := by decide +kernel
theorem dX5_takeScratches_1 : decode cX5_takeScratches 1 = .ok (.getfield 18, 3) := by decide +kernel
theorem dX5_takeScratches_4 : decode cX5_takeScratches 4 = .ok (.iconst 0, 1) := by decide +kernel
theorem dX5_takeScratches_5 : decode cX5_takeScratches 5 = .ok (.invokestatic 83, 3) := by decide +kernel
theorem dX5_takeScratches_8 : decode cX5_takeScratches 8 = .ok (.iconst 0, 1) := by decide +kernel
theorem dX5_takeScratches_9 : decode cX5_takeScratches 9 = .ok (.istore_n 1, 1) := by decide +kernel
theorem dX5_takeScratches_10 : decode cX5_takeScratches 10 = .ok (.iload_n 1, 1) := by decide +kernel
theorem dX5_takeScratches_11 : decode cX5_takeScratches 11 = .ok (.bipush 10, 2) := by decide +kernel
theorem dX5_takeScratches_13 : decode cX5_takeScratches 13 = .ok (.if_icmp .ge 60, 3) := by decide +kernel
theorem dX5_takeScratches_16 : decode cX5_takeScratches 16 = .ok (.aload_n 0, 1) := by decide +kernel
theorem dX5_takeScratches_17 : decode cX5_takeScratches 17 = .ok (.getfield 15, 3) := by decide +kernel
theorem dX5_takeScratches_20 : decode cX5_takeScratches 20 = .ok (.iload_n 1, 1) := by decide +kernel
theorem dX5_takeScratches_21 : decode cX5_takeScratches 21 = .ok (.aload_n 0, 1) := by decide +kernel
theorem dX5_takeScratches_22 : decode cX5_takeScratches 22 = .ok (.getfield 9, 3) := by decide +kernel
theorem dX5_takeScratches_25 : decode cX5_takeScratches 25 = .ok (.iload_n 1, 1) := by decide +kernel
theorem dX5_takeScratches_26 : decode cX5_takeScratches 26 = .ok (.iaload, 1) := by decide +kernel
theorem dX5_takeScratches_27 : decode cX5_takeScratches 27 = .ok (.iastore, 1) := by decide +kernel
theorem dX5_takeScratches_28 : decode cX5_takeScratches 28 = .ok (.iconst 0, 1) := by decide +kernel
theorem dX5_takeScratches_29 : decode cX5_takeScratches 29 = .ok (.istore_n 2, 1) := by decide +kernel
theorem dX5_takeScratches_30 : decode cX5_takeScratches 30 = .ok (.iload_n 2, 1) := by decide +kernel
theorem dX5_takeScratches_31 : decode cX5_takeScratches 31 = .ok (.bipush 10, 2) := by decide +kernel
theorem dX5_takeScratches_33 : decode cX5_takeScratches 33 = .ok (.if_icmp .ge 34, 3) := by decide +kernel
theorem dX5_takeScratches_36 : decode cX5_takeScratches 36 = .ok (.aload_n 0, 1) := by decide +kernel
theorem dX5_takeScratches_37 : decode cX5_takeScratches 37 = .ok (.getfield 9, 3) := by decide +kernel
theorem dX5_takeScratches_40 : decode cX5_takeScratches 40 = .ok (.iload_n 1, 1) := by decide +kernel
theorem dX5_takeScratches_41 : decode cX5_takeScratches 41 = .ok (.iaload, 1) := by decide +kernel
theorem dX5_takeScratches_42 : decode cX5_takeScratches 42 = .ok (.iload_n 2, 1) := by decide +kernel
theorem dX5_takeScratches_43 : decode cX5_takeScratches 43 = .ok (.ishr, 1) := by decide +kernel
theorem dX5_takeScratches_44 : decode cX5_takeScratches 44 = .ok (.iconst 1, 1) := by decide +kernel
theorem dX5_takeScratches_45 : decode cX5_takeScratches 45 = .ok (.iand, 1) := by decide +kernel
theorem dX5_takeScratches_46 : decode cX5_takeScratches 46 = .ok (.ifCond .eq 15, 3) := by decide +kernel
theorem dX5_takeScratches_49 : decode cX5_takeScratches 49 = .ok (.aload_n 0, 1) := by decide +kernel
theorem dX5_takeScratches_50 : decode cX5_takeScratches 50 = .ok (.getfield 18, 3) := by decide +kernel
theorem dX5_takeScratches_53 : decode cX5_takeScratches 53 = .ok (.iload_n 2, 1) := by decide +kernel
theorem dX5_takeScratches_54 : decode cX5_takeScratches 54 = .ok (.dup2, 1) := by decide +kernel
theorem dX5_takeScratches_55 : decode cX5_takeScratches 55 = .ok (.iaload, 1) := by decide +kernel
theorem dX5_takeScratches_56 : decode cX5_takeScratches 56 = .ok (.iconst 1, 1) := by decide +kernel
theorem dX5_takeScratches_57 : decode cX5_takeScratches 57 = .ok (.iload_n 1, 1) := by decide +kernel
theorem dX5_takeScratches_58 : decode cX5_takeScratches 58 = .ok (.ishl, 1) := by decide +kernel
theorem dX5_takeScratches_59 : decode cX5_takeScratches 59 = .ok (.ior, 1) := by decide +kernel
theorem dX5_takeScratches_60 : decode cX5_takeScratches 60 = .ok (.iastore, 1) := by decide +kernel
theorem dX5_takeScratches_61 : decode cX5_takeScratches 61 = .ok (.iinc 2 1, 3) := by decide +kernel
theorem dX5_takeScratches_64 : decode cX5_takeScratches 64 = .ok (.goto (-34), 3) := by decide +kernel
theorem dX5_takeScratches_67 : decode cX5_takeScratches 67 = .ok (.iinc 1 1, 3) := by decide +kernel
theorem dX5_takeScratches_70 : decode cX5_takeScratches 70 = .ok (.goto (-60), 3) := by decide +kernel
theorem dX5_takeScratches_73 : decode cX5_takeScratches 73 = .ok (.return_, 1) := by decide +kernel
theorem dX5_fullSet_0 : decode cX5_fullSet 0 = .ok (.aload_n 0, 1) := by decide +kernel
theorem dX5_fullSet_1 : decode cX5_fullSet 1 = .ok (.getfield 43, 3) := by decide +kernel
theorem dX5_fullSet_4 : decode cX5_fullSet 4 = .ok (.ifCond .gt 7, 3) := by decide +kernel
theorem dX5_fullSet_7 : decode cX5_fullSet 7 = .ok (.iconst 0, 1) := by decide +kernel
theorem dX5_fullSet_8 : decode cX5_fullSet 8 = .ok (.goto 11, 3) := by decide +kernel
theorem dX5_fullSet_11 : decode cX5_fullSet 11 = .ok (.iconst 1, 1) := by decide +kernel
theorem dX5_fullSet_12 : decode cX5_fullSet 12 = .ok (.aload_n 0, 1) := by decide +kernel
theorem dX5_fullSet_13 : decode cX5_fullSet 13 = .ok (.getfield 43, 3) := by decide +kernel
theorem dX5_fullSet_16 : decode cX5_fullSet 16 = .ok (.ishl, 1) := by decide +kernel
theorem dX5_fullSet_17 : decode cX5_fullSet 17 = .ok (.iconst 1, 1) := by decide +kernel
theorem dX5_fullSet_18 : decode cX5_fullSet 18 = .ok (.isub, 1) := by decide +kernel
theorem dX5_fullSet_19 : decode cX5_fullSet 19 = .ok (.ireturn, 1) := by decide +kernel
theorem dX5_canBeNext_0 : decode cX5_canBeNext 0 = .ok (.iload_n 2, 1) := by decide +kernel
theorem dX5_canBeNext_1 : decode cX5_canBeNext 1 = .ok (.iload_n 1, 1) := by decide +kernel
theorem dX5_canBeNext_2 : decode cX5_canBeNext 2 = .ok (.ishr, 1) := by decide +kernel
theorem dX5_canBeNext_3 : decode cX5_canBeNext 3 = .ok (.iconst 1, 1) := by decide +kernel
theorem dX5_canBeNext_4 : decode cX5_canBeNext 4 = .ok (.iand, 1) := by decide +kernel
theorem dX5_canBeNext_5 : decode cX5_canBeNext 5 = .ok (.ifCond .ne 20, 3) := by decide +kernel
theorem dX5_canBeNext_8 : decode cX5_canBeNext 8 = .ok (.aload_n 0, 1) := by decide +kernel
theorem dX5_canBeNext_9 : decode cX5_canBeNext 9 = .ok (.getfield 18, 3) := by decide +kernel
theorem dX5_canBeNext_12 : decode cX5_canBeNext 12 = .ok (.iload_n 1, 1) := by decide +kernel
theorem dX5_canBeNext_13 : decode cX5_canBeNext 13 = .ok (.iaload, 1) := by decide +kernel
theorem dX5_canBeNext_14 : decode cX5_canBeNext 14 = .ok (.iload_n 2, 1) := by decide +kernel
theorem dX5_canBeNext_15 : decode cX5_canBeNext 15 = .ok (.iconst (-1), 1) := by decide +kernel
theorem dX5_canBeNext_16 : decode cX5_canBeNext 16 = .ok (.ixor, 1) := by decide +kernel
theorem dX5_canBeNext_17 : decode cX5_canBeNext 17 = .ok (.iand, 1) := by decide +kernel
theorem dX5_canBeNext_18 : decode cX5_canBeNext 18 = .ok (.ifCond .ne 7, 3) := by decide +kernel
theorem dX5_canBeNext_21 : decode cX5_canBeNext 21 = .ok (.iconst 1, 1) := by decide +kernel
theorem dX5_canBeNext_22 : decode cX5_canBeNext 22 = .ok (.goto 4, 3) := by decide +kernel
theorem dX5_canBeNext_25 : decode cX5_canBeNext 25 = .ok (.iconst 0, 1) := by decide +kernel
theorem dX5_canBeNext_26 : decode cX5_canBeNext 26 = .ok (.ireturn, 1) := by decide +kernel
set_option maxRecDepth 20000 in
theorem ggX5_countWaysAhead_J7_fill_53178 : GoodIn wsX5_countWaysAhead wsJ7_fill_53178 := goodIn_r _ [6] rfl (by decide +kernel)
set_option maxRecDepth 20000 in
theorem gX5_countWaysAhead_J7_fill_53178 : GoodIn wsX5_countWaysAhead (va_wsS RX5 83 yJ7_fill_53178 wsJ7_fill_53178) := goodIn_app (goodIn_of _ (by decide +kernel)) ggX5_countWaysAhead_J7_fill_53178
set_option maxRecDepth 20000 in
theorem ggX5_countWaysAhead_X5_fullSet : GoodIn wsX5_countWaysAhead wsX5_fullSet := goodIn_r _ [11, 2, 17, 18, 19, 20, 21, 22, 23, 24, 25, 26, 27] rfl (by decide +kernel)
set_option maxRecDepth 20000 in
theorem gX5_countWaysAhead_X5_fullSet : GoodIn wsX5_countWaysAhead (wsV RX5 96 RX5 yX5_fullSet wsX5_fullSet) := goodIn_app (goodIn_of _ (by decide +kernel)) ggX5_countWaysAhead_X5_fullSet
set_option maxRecDepth 20000 in
theorem ggX5_countWaysAhead_X5_canBeNext : GoodIn wsX5_countWaysAhead wsX5_canBeNext := goodIn_r _ [15, 16, 17, 18, 19, 20, 21, 22, 23, 24, 25, 26, 27] rfl (by decide +kernel)
set_option maxRecDepth 20000 in
theorem gX5_countWaysAhead_X5_canBeNext : GoodIn wsX5_countWaysAhead (wsV RX5 99 RX5 yX5_canBeNext wsX5_canBeNext) := goodIn_app (goodIn_of _ (by decide +kernel)) ggX5_countWaysAhead_X5_canBeNext
theorem dX5_countWaysAhead_0 : decode cX5_countWaysAhead 0 = .ok (.aload_n 0, 1) := by decide +kernel
theorem dX5_countWaysAhead_1 : decode cX5_countWaysAhead 1 = .ok (.getfield 21, 3) := by decide +kernel
theorem dX5_countWaysAhead_4 : decode cX5_countWaysAhead 4 = .ok (.iconst 0, 1) := by decide +kernel
theorem dX5_countWaysAhead_5 : decode cX5_countWaysAhead 5 = .ok (.invokestatic 83, 3) := by decide +kernel
theorem dX5_countWaysAhead_8 : decode cX5_countWaysAhead 8 = .ok (.aload_n 0, 1) := by decide +kernel
theorem dX5_countWaysAhead_9 : decode cX5_countWaysAhead 9 = .ok (.invokevirtual 96, 3) := by decide +kernel
theorem dX5_countWaysAhead_12 : decode cX5_countWaysAhead 12 = .ok (.istore_n 1, 1) := by decide +kernel
theorem dX5_countWaysAhead_13 : decode cX5_countWaysAhead 13 = .ok (.aload_n 0, 1) := by decide +kernel
theorem dX5_countWaysAhead_14 : decode cX5_countWaysAhead 14 = .ok (.getfield 21, 3) := by decide +kernel
theorem dX5_countWaysAhead_17 : decode cX5_countWaysAhead 17 = .ok (.iconst 0, 1) := by decide +kernel
theorem dX5_countWaysAhead_18 : decode cX5_countWaysAhead 18 = .ok (.iconst 1, 1) := by decide +kernel
theorem dX5_countWaysAhead_19 : decode cX5_countWaysAhead 19 = .ok (.iastore, 1) := by decide +kernel
theorem dX5_countWaysAhead_20 : decode cX5_countWaysAhead 20 = .ok (.iconst 0, 1) := by decide +kernel
theorem dX5_countWaysAhead_21 : decode cX5_countWaysAhead 21 = .ok (.istore_n 2, 1) := by decide +kernel
theorem dX5_countWaysAhead_22 : decode cX5_countWaysAhead 22 = .ok (.iload_n 2, 1) := by decide +kernel
theorem dX5_countWaysAhead_23 : decode cX5_countWaysAhead 23 = .ok (.iload_n 1, 1) := by decide +kernel
theorem dX5_countWaysAhead_24 : decode cX5_countWaysAhead 24 = .ok (.if_icmp .gt 62, 3) := by decide +kernel
theorem dX5_countWaysAhead_27 : decode cX5_countWaysAhead 27 = .ok (.iconst 0, 1) := by decide +kernel
theorem dX5_countWaysAhead_28 : decode cX5_countWaysAhead 28 = .ok (.istore_n 3, 1) := by decide +kernel
theorem dX5_countWaysAhead_29 : decode cX5_countWaysAhead 29 = .ok (.aload_n 0, 1) := by decide +kernel
theorem dX5_countWaysAhead_30 : decode cX5_countWaysAhead 30 = .ok (.getfield 21, 3) := by decide +kernel
theorem dX5_countWaysAhead_33 : decode cX5_countWaysAhead 33 = .ok (.iload_n 2, 1) := by decide +kernel
theorem dX5_countWaysAhead_34 : decode cX5_countWaysAhead 34 = .ok (.iaload, 1) := by decide +kernel
theorem dX5_countWaysAhead_35 : decode cX5_countWaysAhead 35 = .ok (.ifCond .le 45, 3) := by decide +kernel
theorem dX5_countWaysAhead_38 : decode cX5_countWaysAhead 38 = .ok (.iload_n 3, 1) := by decide +kernel
theorem dX5_countWaysAhead_39 : decode cX5_countWaysAhead 39 = .ok (.aload_n 0, 1) := by decide +kernel
theorem dX5_countWaysAhead_40 : decode cX5_countWaysAhead 40 = .ok (.getfield 43, 3) := by decide +kernel
theorem dX5_countWaysAhead_43 : decode cX5_countWaysAhead 43 = .ok (.if_icmp .ge 37, 3) := by decide +kernel
theorem dX5_countWaysAhead_46 : decode cX5_countWaysAhead 46 = .ok (.aload_n 0, 1) := by decide +kernel
theorem dX5_countWaysAhead_47 : decode cX5_countWaysAhead 47 = .ok (.iload_n 3, 1) := by decide +kernel
theorem dX5_countWaysAhead_48 : decode cX5_countWaysAhead 48 = .ok (.iload_n 2, 1) := by decide +kernel
theorem dX5_countWaysAhead_49 : decode cX5_countWaysAhead 49 = .ok (.invokevirtual 99, 3) := by decide +kernel
theorem dX5_countWaysAhead_52 : decode cX5_countWaysAhead 52 = .ok (.ifCond .eq 22, 3) := by decide +kernel
theorem dX5_countWaysAhead_55 : decode cX5_countWaysAhead 55 = .ok (.aload_n 0, 1) := by decide +kernel
theorem dX5_countWaysAhead_56 : decode cX5_countWaysAhead 56 = .ok (.getfield 21, 3) := by decide +kernel
theorem dX5_countWaysAhead_59 : decode cX5_countWaysAhead 59 = .ok (.iload_n 2, 1) := by decide +kernel
theorem dX5_countWaysAhead_60 : decode cX5_countWaysAhead 60 = .ok (.iconst 1, 1) := by decide +kernel
theorem dX5_countWaysAhead_61 : decode cX5_countWaysAhead 61 = .ok (.iload_n 3, 1) := by decide +kernel
theorem dX5_countWaysAhead_62 : decode cX5_countWaysAhead 62 = .ok (.ishl, 1) := by decide +kernel
theorem dX5_countWaysAhead_63 : decode cX5_countWaysAhead 63 = .ok (.ior, 1) := by decide +kernel
theorem dX5_countWaysAhead_64 : decode cX5_countWaysAhead 64 = .ok (.dup2, 1) := by decide +kernel
theorem dX5_countWaysAhead_65 : decode cX5_countWaysAhead 65 = .ok (.iaload, 1) := by decide +kernel
theorem dX5_countWaysAhead_66 : decode cX5_countWaysAhead 66 = .ok (.aload_n 0, 1) := by decide +kernel
theorem dX5_countWaysAhead_67 : decode cX5_countWaysAhead 67 = .ok (.getfield 21, 3) := by decide +kernel
theorem dX5_countWaysAhead_70 : decode cX5_countWaysAhead 70 = .ok (.iload_n 2, 1) := by decide +kernel
theorem dX5_countWaysAhead_71 : decode cX5_countWaysAhead 71 = .ok (.iaload, 1) := by decide +kernel
theorem dX5_countWaysAhead_72 : decode cX5_countWaysAhead 72 = .ok (.iadd, 1) := by decide +kernel
theorem dX5_countWaysAhead_73 : decode cX5_countWaysAhead 73 = .ok (.iastore, 1) := by decide +kernel
theorem dX5_countWaysAhead_74 : decode cX5_countWaysAhead 74 = .ok (.iinc 3 1, 3) := by decide +kernel
theorem dX5_countWaysAhead_77 : decode cX5_countWaysAhead 77 = .ok (.goto (-48), 3) := by decide +kernel
theorem dX5_countWaysAhead_80 : decode cX5_countWaysAhead 80 = .ok (.iinc 2 1, 3) := by decide +kernel
theorem dX5_countWaysAhead_83 : decode cX5_countWaysAhead 83 = .ok (.goto (-61), 3) := by decide +kernel
theorem dX5_countWaysAhead_86 : decode cX5_countWaysAhead 86 = .ok (.return_, 1) := by decide +kernel
set_option maxRecDepth 20000 in
theorem ggX5_countWaysBehind_J7_fill_53178 : GoodIn wsX5_countWaysBehind wsJ7_fill_53178 := goodIn_r _ [9] rfl (by decide +kernel)
set_option maxRecDepth 20000 in
theorem gX5_countWaysBehind_J7_fill_53178 : GoodIn wsX5_countWaysBehind (va_wsS RX5 83 yJ7_fill_53178 wsJ7_fill_53178) := goodIn_app (goodIn_of _ (by decide +kernel)) ggX5_countWaysBehind_J7_fill_53178
set_option maxRecDepth 20000 in
theorem ggX5_countWaysBehind_X5_fullSet : GoodIn wsX5_countWaysBehind wsX5_fullSet := goodIn_r _ [14, 5, 35, 36, 37, 38, 39, 40, 41, 42, 43, 44, 45] rfl (by decide +kernel)
set_option maxRecDepth 20000 in
theorem gX5_countWaysBehind_X5_fullSet : GoodIn wsX5_countWaysBehind (wsV RX5 96 RX5 yX5_fullSet wsX5_fullSet) := goodIn_app (goodIn_of _ (by decide +kernel)) ggX5_countWaysBehind_X5_fullSet
set_option maxRecDepth 20000 in
theorem ggX5_countWaysBehind_X5_canBeNext : GoodIn wsX5_countWaysBehind wsX5_canBeNext := goodIn_r _ [18, 19, 35, 36, 37, 38, 39, 40, 41, 42, 43, 44, 45] rfl (by decide +kernel)
set_option maxRecDepth 20000 in
theorem gX5_countWaysBehind_X5_canBeNext : GoodIn wsX5_countWaysBehind (wsV RX5 99 RX5 yX5_canBeNext wsX5_canBeNext) := goodIn_app (goodIn_of _ (by decide +kernel)) ggX5_countWaysBehind_X5_canBeNext
set_option maxRecDepth 20000 in
theorem ggX5_countWaysBehind_X5_addWays : GoodIn wsX5_countWaysBehind wsX5_addWays := goodIn_r _ [23, 2, 24, 25, 26, 27, 28, 29, 30, 31, 32, 33, 13, 34, 5, 3, 35, 36, 37, 38, 39, 40, 41, 42, 43, 44, 45] rfl (by decide +kernel)
set_option maxRecDepth 20000 in
theorem gX5_countWaysBehind_X5_addWays : GoodIn wsX5_countWaysBehind (wsV RX5 103 RX5 yX5_addWays wsX5_addWays) := goodIn_app (goodIn_of _ (by decide +kernel)) ggX5_countWaysBehind_X5_addWays
theorem dX5_countWaysBehind_0 : decode cX5_countWaysBehind 0 = .ok (.aload_n 0, 1) := by decide +kernel
theorem dX5_countWaysBehind_1 : decode cX5_countWaysBehind 1 = .ok (.getfield 24, 3) := by decide +kernel
theorem dX5_countWaysBehind_4 : decode cX5_countWaysBehind 4 = .ok (.iconst 0, 1) := by decide +kernel
theorem dX5_countWaysBehind_5 : decode cX5_countWaysBehind 5 = .ok (.invokestatic 83, 3) := by decide +kernel
theorem dX5_countWaysBehind_8 : decode cX5_countWaysBehind 8 = .ok (.aload_n 0, 1) := by decide +kernel
theorem dX5_countWaysBehind_9 : decode cX5_countWaysBehind 9 = .ok (.getfield 27, 3) := by decide +kernel
theorem dX5_countWaysBehind_12 : decode cX5_countWaysBehind 12 = .ok (.iconst 0, 1) := by decide +kernel
theorem dX5_countWaysBehind_13 : decode cX5_countWaysBehind 13 = .ok (.invokestatic 83, 3) := by decide +kernel
theorem dX5_countWaysBehind_16 : decode cX5_countWaysBehind 16 = .ok (.aload_n 0, 1) := by decide +kernel
theorem dX5_countWaysBehind_17 : decode cX5_countWaysBehind 17 = .ok (.getfield 30, 3) := by decide +kernel
theorem dX5_countWaysBehind_20 : decode cX5_countWaysBehind 20 = .ok (.iconst 0, 1) := by decide +kernel
theorem dX5_countWaysBehind_21 : decode cX5_countWaysBehind 21 = .ok (.invokestatic 83, 3) := by decide +kernel
theorem dX5_countWaysBehind_24 : decode cX5_countWaysBehind 24 = .ok (.aload_n 0, 1) := by decide +kernel
theorem dX5_countWaysBehind_25 : decode cX5_countWaysBehind 25 = .ok (.invokevirtual 96, 3) := by decide +kernel
theorem dX5_countWaysBehind_28 : decode cX5_countWaysBehind 28 = .ok (.istore_n 1, 1) := by decide +kernel
theorem dX5_countWaysBehind_29 : decode cX5_countWaysBehind 29 = .ok (.aload_n 0, 1) := by decide +kernel
theorem dX5_countWaysBehind_30 : decode cX5_countWaysBehind 30 = .ok (.getfield 24, 3) := by decide +kernel
theorem dX5_countWaysBehind_33 : decode cX5_countWaysBehind 33 = .ok (.iload_n 1, 1) := by decide +kernel
theorem dX5_countWaysBehind_34 : decode cX5_countWaysBehind 34 = .ok (.iconst 1, 1) := by decide +kernel
theorem dX5_countWaysBehind_35 : decode cX5_countWaysBehind 35 = .ok (.iastore, 1) := by decide +kernel
theorem dX5_countWaysBehind_36 : decode cX5_countWaysBehind 36 = .ok (.iload_n 1, 1) := by decide +kernel
theorem dX5_countWaysBehind_37 : decode cX5_countWaysBehind 37 = .ok (.iconst 1, 1) := by decide +kernel
theorem dX5_countWaysBehind_38 : decode cX5_countWaysBehind 38 = .ok (.isub, 1) := by decide +kernel
theorem dX5_countWaysBehind_39 : decode cX5_countWaysBehind 39 = .ok (.istore_n 2, 1) := by decide +kernel
theorem dX5_countWaysBehind_40 : decode cX5_countWaysBehind 40 = .ok (.iload_n 2, 1) := by decide +kernel
theorem dX5_countWaysBehind_41 : decode cX5_countWaysBehind 41 = .ok (.ifCond .lt 86, 3) := by decide +kernel
theorem dX5_countWaysBehind_44 : decode cX5_countWaysBehind 44 = .ok (.iconst 0, 1) := by decide +kernel
theorem dX5_countWaysBehind_45 : decode cX5_countWaysBehind 45 = .ok (.istore_n 3, 1) := by decide +kernel
theorem dX5_countWaysBehind_46 : decode cX5_countWaysBehind 46 = .ok (.aload_n 0, 1) := by decide +kernel
theorem dX5_countWaysBehind_47 : decode cX5_countWaysBehind 47 = .ok (.getfield 21, 3) := by decide +kernel
theorem dX5_countWaysBehind_50 : decode cX5_countWaysBehind 50 = .ok (.iload_n 2, 1) := by decide +kernel
theorem dX5_countWaysBehind_51 : decode cX5_countWaysBehind 51 = .ok (.iaload, 1) := by decide +kernel
theorem dX5_countWaysBehind_52 : decode cX5_countWaysBehind 52 = .ok (.ifCond .le 69, 3) := by decide +kernel
theorem dX5_countWaysBehind_55 : decode cX5_countWaysBehind 55 = .ok (.iload_n 3, 1) := by decide +kernel
theorem dX5_countWaysBehind_56 : decode cX5_countWaysBehind 56 = .ok (.aload_n 0, 1) := by decide +kernel
theorem dX5_countWaysBehind_57 : decode cX5_countWaysBehind 57 = .ok (.getfield 43, 3) := by decide +kernel
theorem dX5_countWaysBehind_60 : decode cX5_countWaysBehind 60 = .ok (.if_icmp .ge 61, 3) := by decide +kernel
theorem dX5_countWaysBehind_63 : decode cX5_countWaysBehind 63 = .ok (.aload_n 0, 1) := by decide +kernel
theorem dX5_countWaysBehind_64 : decode cX5_countWaysBehind 64 = .ok (.iload_n 3, 1) := by decide +kernel
theorem dX5_countWaysBehind_65 : decode cX5_countWaysBehind 65 = .ok (.iload_n 2, 1) := by decide +kernel
theorem dX5_countWaysBehind_66 : decode cX5_countWaysBehind 66 = .ok (.invokevirtual 99, 3) := by decide +kernel
theorem dX5_countWaysBehind_69 : decode cX5_countWaysBehind 69 = .ok (.ifCond .eq 46, 3) := by decide +kernel
theorem dX5_countWaysBehind_72 : decode cX5_countWaysBehind 72 = .ok (.iload_n 2, 1) := by decide +kernel
theorem dX5_countWaysBehind_73 : decode cX5_countWaysBehind 73 = .ok (.iconst 1, 1) := by decide +kernel
theorem dX5_countWaysBehind_74 : decode cX5_countWaysBehind 74 = .ok (.iload_n 3, 1) := by decide +kernel
theorem dX5_countWaysBehind_75 : decode cX5_countWaysBehind 75 = .ok (.ishl, 1) := by decide +kernel
theorem dX5_countWaysBehind_76 : decode cX5_countWaysBehind 76 = .ok (.ior, 1) := by decide +kernel
theorem dX5_countWaysBehind_77 : decode cX5_countWaysBehind 77 = .ok (.istore 4, 2) := by decide +kernel
theorem dX5_countWaysBehind_79 : decode cX5_countWaysBehind 79 = .ok (.aload_n 0, 1) := by decide +kernel
theorem dX5_countWaysBehind_80 : decode cX5_countWaysBehind 80 = .ok (.getfield 24, 3) := by decide +kernel
theorem dX5_countWaysBehind_83 : decode cX5_countWaysBehind 83 = .ok (.iload_n 2, 1) := by decide +kernel
theorem dX5_countWaysBehind_84 : decode cX5_countWaysBehind 84 = .ok (.dup2, 1) := by decide +kernel
theorem dX5_countWaysBehind_85 : decode cX5_countWaysBehind 85 = .ok (.iaload, 1) := by decide +kernel
theorem dX5_countWaysBehind_86 : decode cX5_countWaysBehind 86 = .ok (.aload_n 0, 1) := by decide +kernel
theorem dX5_countWaysBehind_87 : decode cX5_countWaysBehind 87 = .ok (.getfield 24, 3) := by decide +kernel
theorem dX5_countWaysBehind_90 : decode cX5_countWaysBehind 90 = .ok (.iload 4, 2) := by decide +kernel
theorem dX5_countWaysBehind_92 : decode cX5_countWaysBehind 92 = .ok (.iaload, 1) := by decide +kernel
theorem dX5_countWaysBehind_93 : decode cX5_countWaysBehind 93 = .ok (.iadd, 1) := by decide +kernel
theorem dX5_countWaysBehind_94 : decode cX5_countWaysBehind 94 = .ok (.iastore, 1) := by decide +kernel
theorem dX5_countWaysBehind_95 : decode cX5_countWaysBehind 95 = .ok (.aload_n 0, 1) := by decide +kernel
theorem dX5_countWaysBehind_96 : decode cX5_countWaysBehind 96 = .ok (.iload_n 2, 1) := by decide +kernel
theorem dX5_countWaysBehind_97 : decode cX5_countWaysBehind 97 = .ok (.iload_n 3, 1) := by decide +kernel
theorem dX5_countWaysBehind_98 : decode cX5_countWaysBehind 98 = .ok (.aload_n 0, 1) := by decide +kernel
theorem dX5_countWaysBehind_99 : decode cX5_countWaysBehind 99 = .ok (.getfield 21, 3) := by decide +kernel
theorem dX5_countWaysBehind_102 : decode cX5_countWaysBehind 102 = .ok (.iload_n 2, 1) := by decide +kernel
theorem dX5_countWaysBehind_103 : decode cX5_countWaysBehind 103 = .ok (.iaload, 1) := by decide +kernel
theorem dX5_countWaysBehind_104 : decode cX5_countWaysBehind 104 = .ok (.aload_n 0, 1) := by decide +kernel
theorem dX5_countWaysBehind_105 : decode cX5_countWaysBehind 105 = .ok (.getfield 24, 3) := by decide +kernel
theorem dX5_countWaysBehind_108 : decode cX5_countWaysBehind 108 = .ok (.iload 4, 2) := by decide +kernel
theorem dX5_countWaysBehind_110 : decode cX5_countWaysBehind 110 = .ok (.iaload, 1) := by decide +kernel
theorem dX5_countWaysBehind_111 : decode cX5_countWaysBehind 111 = .ok (.imul, 1) := by decide +kernel
theorem dX5_countWaysBehind_112 : decode cX5_countWaysBehind 112 = .ok (.invokevirtual 103, 3) := by decide +kernel
theorem dX5_countWaysBehind_115 : decode cX5_countWaysBehind 115 = .ok (.iinc 3 1, 3) := by decide +kernel
theorem dX5_countWaysBehind_118 : decode cX5_countWaysBehind 118 = .ok (.goto (-72), 3) := by decide +kernel
theorem dX5_countWaysBehind_121 : decode cX5_countWaysBehind 121 = .ok (.iinc 2 (-1), 3) := by decide +kernel
theorem dX5_countWaysBehind_124 : decode cX5_countWaysBehind 124 = .ok (.goto (-84), 3) := by decide +kernel
theorem dX5_countWaysBehind_127 : decode cX5_countWaysBehind 127 = .ok (.return_, 1) := by decide +kernel
set_option maxRecDepth 20000 in
theorem ggX5_addWays_J6_bitCount_0f7a4 : GoodIn wsX5_addWays wsJ6_bitCount_0f7a4 := goodIn_r _ [5, 6, 7, 8] rfl (by decide +kernel)
set_option maxRecDepth 20000 in
theorem gX5_addWays_J6_bitCount_0f7a4 : GoodIn wsX5_addWays (va_wsS RX5 107 yJ6_bitCount_0f7a4 wsJ6_bitCount_0f7a4) := goodIn_app (goodIn_of _ (by decide +kernel)) ggX5_addWays_J6_bitCount_0f7a4
set_option maxRecDepth 20000 in
theorem ggX5_addWays_X5_addPairs : GoodIn wsX5_addWays wsX5_addPairs := goodIn_r _ [13, 14, 15, 16, 17, 18, 19, 20, 21, 22, 23, 24, 25, 26] rfl (by decide +kernel)
set_option maxRecDepth 20000 in
theorem gX5_addWays_X5_addPairs : GoodIn wsX5_addWays (wsV RX5 113 RX5 yX5_addPairs wsX5_addPairs) := goodIn_app (goodIn_of _ (by decide +kernel)) ggX5_addWays_X5_addPairs
theorem dX5_addWays_0 : decode cX5_addWays 0 = .ok (.iload_n 3, 1) := by decide +kernel
theorem dX5_addWays_1 : decode cX5_addWays 1 = .ok (.ifCond .le 28, 3) := by decide +kernel
theorem dX5_addWays_4 : decode cX5_addWays 4 = .ok (.aload_n 0, 1) := by decide +kernel
theorem dX5_addWays_5 : decode cX5_addWays 5 = .ok (.getfield 27, 3) := by decide +kernel
theorem dX5_addWays_8 : decode cX5_addWays 8 = .ok (.iload_n 2, 1) := by decide +kernel
theorem dX5_addWays_9 : decode cX5_addWays 9 = .ok (.bipush 10, 2) := by decide +kernel
theorem dX5_addWays_11 : decode cX5_addWays 11 = .ok (.imul, 1) := by decide +kernel
theorem dX5_addWays_12 : decode cX5_addWays 12 = .ok (.iload_n 1, 1) := by decide +kernel
theorem dX5_addWays_13 : decode cX5_addWays 13 = .ok (.invokestatic 107, 3) := by decide +kernel
theorem dX5_addWays_16 : decode cX5_addWays 16 = .ok (.iadd, 1) := by decide +kernel
theorem dX5_addWays_17 : decode cX5_addWays 17 = .ok (.dup2, 1) := by decide +kernel
theorem dX5_addWays_18 : decode cX5_addWays 18 = .ok (.iaload, 1) := by decide +kernel
theorem dX5_addWays_19 : decode cX5_addWays 19 = .ok (.iload_n 3, 1) := by decide +kernel
theorem dX5_addWays_20 : decode cX5_addWays 20 = .ok (.iadd, 1) := by decide +kernel
theorem dX5_addWays_21 : decode cX5_addWays 21 = .ok (.iastore, 1) := by decide +kernel
theorem dX5_addWays_22 : decode cX5_addWays 22 = .ok (.aload_n 0, 1) := by decide +kernel
theorem dX5_addWays_23 : decode cX5_addWays 23 = .ok (.iload_n 1, 1) := by decide +kernel
theorem dX5_addWays_24 : decode cX5_addWays 24 = .ok (.iload_n 2, 1) := by decide +kernel
theorem dX5_addWays_25 : decode cX5_addWays 25 = .ok (.iload_n 3, 1) := by decide +kernel
theorem dX5_addWays_26 : decode cX5_addWays 26 = .ok (.invokevirtual 113, 3) := by decide +kernel
theorem dX5_addWays_29 : decode cX5_addWays 29 = .ok (.return_, 1) := by decide +kernel
theorem dX5_addPairs_0 : decode cX5_addPairs 0 = .ok (.iconst 0, 1) := by decide +kernel
theorem dX5_addPairs_1 : decode cX5_addPairs 1 = .ok (.istore 4, 2) := by decide +kernel
theorem dX5_addPairs_3 : decode cX5_addPairs 3 = .ok (.iload 4, 2) := by decide +kernel
theorem dX5_addPairs_5 : decode cX5_addPairs 5 = .ok (.aload_n 0, 1) := by decide +kernel
theorem dX5_addPairs_6 : decode cX5_addPairs 6 = .ok (.getfield 43, 3) := by decide +kernel
theorem dX5_addPairs_9 : decode cX5_addPairs 9 = .ok (.if_icmp .ge 34, 3) := by decide +kernel
theorem dX5_addPairs_12 : decode cX5_addPairs 12 = .ok (.iload_n 1, 1) := by decide +kernel
theorem dX5_addPairs_13 : decode cX5_addPairs 13 = .ok (.iload 4, 2) := by decide +kernel
theorem dX5_addPairs_15 : decode cX5_addPairs 15 = .ok (.ishr, 1) := by decide +kernel
theorem dX5_addPairs_16 : decode cX5_addPairs 16 = .ok (.iconst 1, 1) := by decide +kernel
theorem dX5_addPairs_17 : decode cX5_addPairs 17 = .ok (.iand, 1) := by decide +kernel
theorem dX5_addPairs_18 : decode cX5_addPairs 18 = .ok (.ifCond .eq 19, 3) := by decide +kernel
theorem dX5_addPairs_21 : decode cX5_addPairs 21 = .ok (.aload_n 0, 1) := by decide +kernel
theorem dX5_addPairs_22 : decode cX5_addPairs 22 = .ok (.getfield 30, 3) := by decide +kernel
theorem dX5_addPairs_25 : decode cX5_addPairs 25 = .ok (.iload 4, 2) := by decide +kernel
theorem dX5_addPairs_27 : decode cX5_addPairs 27 = .ok (.bipush 10, 2) := by decide +kernel
theorem dX5_addPairs_29 : decode cX5_addPairs 29 = .ok (.imul, 1) := by decide +kernel
theorem dX5_addPairs_30 : decode cX5_addPairs 30 = .ok (.iload_n 2, 1) := by decide +kernel
theorem dX5_addPairs_31 : decode cX5_addPairs 31 = .ok (.iadd, 1) := by decide +kernel
theorem dX5_addPairs_32 : decode cX5_addPairs 32 = .ok (.dup2, 1) := by decide +kernel
theorem dX5_addPairs_33 : decode cX5_addPairs 33 = .ok (.iaload, 1) := by decide +kernel
theorem dX5_addPairs_34 : decode cX5_addPairs 34 = .ok (.iload_n 3, 1) := by decide +kernel
theorem dX5_addPairs_35 : decode cX5_addPairs 35 = .ok (.iadd, 1) := by decide +kernel
theorem dX5_addPairs_36 : decode cX5_addPairs 36 = .ok (.iastore, 1) := by decide +kernel
theorem dX5_addPairs_37 : decode cX5_addPairs 37 = .ok (.iinc 4 1, 3) := by decide +kernel
theorem dX5_addPairs_40 : decode cX5_addPairs 40 = .ok (.goto (-37), 3) := by decide +kernel
theorem dX5_addPairs_43 : decode cX5_addPairs 43 = .ok (.return_, 1) := by decide +kernel
set_option maxRecDepth 20000 in
theorem ggX5_total_X5_fullSet : GoodIn wsX5_total wsX5_fullSet := goodIn_r _ [6, 7, 8, 9, 10, 11, 12, 13, 14, 15, 16, 17, 18] rfl (by decide +kernel)
set_option maxRecDepth 20000 in
theorem gX5_total_X5_fullSet : GoodIn wsX5_total (wsV RX5 96 RX5 yX5_fullSet wsX5_fullSet) := goodIn_app (goodIn_of _ (by decide +kernel)) ggX5_total_X5_fullSet
theorem dX5_total_0 : decode cX5_total 0 = .ok (.aload_n 0, 1) := by decide +kernel
theorem dX5_total_1 : decode cX5_total 1 = .ok (.getfield 21, 3) := by decide +kernel
theorem dX5_total_4 : decode cX5_total 4 = .ok (.aload_n 0, 1) := by decide +kernel
theorem dX5_total_5 : decode cX5_total 5 = .ok (.invokevirtual 96, 3) := by decide +kernel
theorem dX5_total_8 : decode cX5_total 8 = .ok (.iaload, 1) := by decide +kernel
theorem dX5_total_9 : decode cX5_total 9 = .ok (.ireturn, 1) := by decide +kernel
set_option maxRecDepth 20000 in
theorem ggX5_countAt_X5_isStone : GoodIn wsX5_countAt wsX5_isStone := goodIn_r _ [5] rfl (by decide +kernel)
set_option maxRecDepth 20000 in
theorem gX5_countAt_X5_isStone : GoodIn wsX5_countAt (va_wsS RX5 92 yX5_isStone wsX5_isStone) := goodIn_app (goodIn_of _ (by decide +kernel)) ggX5_countAt_X5_isStone
theorem dX5_countAt_0 : decode cX5_countAt 0 = .ok (.iload_n 1, 1) := by decide +kernel
theorem dX5_countAt_1 : decode cX5_countAt 1 = .ok (.invokestatic 92, 3) := by decide +kernel
theorem dX5_countAt_4 : decode cX5_countAt 4 = .ok (.ifCond .eq 24, 3) := by decide +kernel
theorem dX5_countAt_7 : decode cX5_countAt 7 = .ok (.iload_n 2, 1) := by decide +kernel
theorem dX5_countAt_8 : decode cX5_countAt 8 = .ok (.invokestatic 92, 3) := by decide +kernel
theorem dX5_countAt_11 : decode cX5_countAt 11 = .ok (.ifCond .eq 17, 3) := by decide +kernel
theorem dX5_countAt_14 : decode cX5_countAt 14 = .ok (.aload_n 0, 1) := by decide +kernel
theorem dX5_countAt_15 : decode cX5_countAt 15 = .ok (.getfield 27, 3) := by decide +kernel
theorem dX5_countAt_18 : decode cX5_countAt 18 = .ok (.iload_n 1, 1) := by decide +kernel
theorem dX5_countAt_19 : decode cX5_countAt 19 = .ok (.bipush 10, 2) := by decide +kernel
theorem dX5_countAt_21 : decode cX5_countAt 21 = .ok (.imul, 1) := by decide +kernel
theorem dX5_countAt_22 : decode cX5_countAt 22 = .ok (.iload_n 2, 1) := by decide +kernel
theorem dX5_countAt_23 : decode cX5_countAt 23 = .ok (.iadd, 1) := by decide +kernel
theorem dX5_countAt_24 : decode cX5_countAt 24 = .ok (.iaload, 1) := by decide +kernel
theorem dX5_countAt_25 : decode cX5_countAt 25 = .ok (.goto 4, 3) := by decide +kernel
theorem dX5_countAt_28 : decode cX5_countAt 28 = .ok (.iconst 0, 1) := by decide +kernel
theorem dX5_countAt_29 : decode cX5_countAt 29 = .ok (.ireturn, 1) := by decide +kernel
set_option maxRecDepth 20000 in
theorem ggX5_countAhead_X5_isStone : GoodIn wsX5_countAhead wsX5_isStone := goodIn_r _ [5] rfl (by decide +kernel)
set_option maxRecDepth 20000 in
theorem gX5_countAhead_X5_isStone : GoodIn wsX5_countAhead (va_wsS RX5 92 yX5_isStone wsX5_isStone) := goodIn_app (goodIn_of _ (by decide +kernel)) ggX5_countAhead_X5_isStone
theorem dX5_countAhead_0 : decode cX5_countAhead 0 = .ok (.iload_n 1, 1) := by decide +kernel
theorem dX5_countAhead_1 : decode cX5_countAhead 1 = .ok (.invokestatic 92, 3) := by decide +kernel
theorem dX5_countAhead_4 : decode cX5_countAhead 4 = .ok (.ifCond .eq 24, 3) := by decide +kernel
theorem dX5_countAhead_7 : decode cX5_countAhead 7 = .ok (.iload_n 2, 1) := by decide +kernel
theorem dX5_countAhead_8 : decode cX5_countAhead 8 = .ok (.invokestatic 92, 3) := by decide +kernel
theorem dX5_countAhead_11 : decode cX5_countAhead 11 = .ok (.ifCond .eq 17, 3) := by decide +kernel
theorem dX5_countAhead_14 : decode cX5_countAhead 14 = .ok (.aload_n 0, 1) := by decide +kernel
theorem dX5_countAhead_15 : decode cX5_countAhead 15 = .ok (.getfield 30, 3) := by decide +kernel
theorem dX5_countAhead_18 : decode cX5_countAhead 18 = .ok (.iload_n 1, 1) := by decide +kernel
theorem dX5_countAhead_19 : decode cX5_countAhead 19 = .ok (.bipush 10, 2) := by decide +kernel
theorem dX5_countAhead_21 : decode cX5_countAhead 21 = .ok (.imul, 1) := by decide +kernel
theorem dX5_countAhead_22 : decode cX5_countAhead 22 = .ok (.iload_n 2, 1) := by decide +kernel
theorem dX5_countAhead_23 : decode cX5_countAhead 23 = .ok (.iadd, 1) := by decide +kernel
theorem dX5_countAhead_24 : decode cX5_countAhead 24 = .ok (.iaload, 1) := by decide +kernel
theorem dX5_countAhead_25 : decode cX5_countAhead 25 = .ok (.goto 4, 3) := by decide +kernel
theorem dX5_countAhead_28 : decode cX5_countAhead 28 = .ok (.iconst 0, 1) := by decide +kernel
theorem dX5_countAhead_29 : decode cX5_countAhead 29 = .ok (.ireturn, 1) := by decide +kernel
set_option maxRecDepth 20000 in
theorem ggX5_bestTest_X5_countAhead : GoodIn wsX5_bestTest wsX5_countAhead := goodIn_r _ [10, 11, 12, 13, 9, 14, 15, 16, 17, 18, 19, 20, 21, 22, 23, 24, 25] rfl (by decide +kernel)
set_option maxRecDepth 20000 in
theorem gX5_bestTest_X5_countAhead : GoodIn wsX5_bestTest (wsV RX5 116 RX5 yX5_countAhead wsX5_countAhead) := goodIn_app (goodIn_of _ (by decide +kernel)) ggX5_bestTest_X5_countAhead
theorem dX5_bestTest_0 : decode cX5_bestTest 0 = .ok (.iconst (-1), 1) := by decide +kernel
theorem dX5_bestTest_1 : decode cX5_bestTest 1 = .ok (.istore_n 2, 1) := by decide +kernel
theorem dX5_bestTest_2 : decode cX5_bestTest 2 = .ok (.iconst (-1), 1) := by decide +kernel
theorem dX5_bestTest_3 : decode cX5_bestTest 3 = .ok (.istore_n 3, 1) := by decide +kernel
theorem dX5_bestTest_4 : decode cX5_bestTest 4 = .ok (.iconst 0, 1) := by decide +kernel
theorem dX5_bestTest_5 : decode cX5_bestTest 5 = .ok (.istore 4, 2) := by decide +kernel
theorem dX5_bestTest_7 : decode cX5_bestTest 7 = .ok (.iload 4, 2) := by decide +kernel
theorem dX5_bestTest_9 : decode cX5_bestTest 9 = .ok (.aload_n 0, 1) := by decide +kernel
theorem dX5_bestTest_10 : decode cX5_bestTest 10 = .ok (.getfield 43, 3) := by decide +kernel
theorem dX5_bestTest_13 : decode cX5_bestTest 13 = .ok (.if_icmp .ge 74, 3) := by decide +kernel
theorem dX5_bestTest_16 : decode cX5_bestTest 16 = .ok (.iload 4, 2) := by decide +kernel
theorem dX5_bestTest_18 : decode cX5_bestTest 18 = .ok (.iconst 1, 1) := by decide +kernel
theorem dX5_bestTest_19 : decode cX5_bestTest 19 = .ok (.iadd, 1) := by decide +kernel
theorem dX5_bestTest_20 : decode cX5_bestTest 20 = .ok (.istore 5, 2) := by decide +kernel
theorem dX5_bestTest_22 : decode cX5_bestTest 22 = .ok (.iload 5, 2) := by decide +kernel
theorem dX5_bestTest_24 : decode cX5_bestTest 24 = .ok (.aload_n 0, 1) := by decide +kernel
theorem dX5_bestTest_25 : decode cX5_bestTest 25 = .ok (.getfield 43, 3) := by decide +kernel
theorem dX5_bestTest_28 : decode cX5_bestTest 28 = .ok (.if_icmp .ge 53, 3) := by decide +kernel
theorem dX5_bestTest_31 : decode cX5_bestTest 31 = .ok (.aload_n 0, 1) := by decide +kernel
theorem dX5_bestTest_32 : decode cX5_bestTest 32 = .ok (.iload 4, 2) := by decide +kernel
theorem dX5_bestTest_34 : decode cX5_bestTest 34 = .ok (.iload 5, 2) := by decide +kernel
theorem dX5_bestTest_36 : decode cX5_bestTest 36 = .ok (.invokevirtual 116, 3) := by decide +kernel
theorem dX5_bestTest_39 : decode cX5_bestTest 39 = .ok (.aload_n 0, 1) := by decide +kernel
theorem dX5_bestTest_40 : decode cX5_bestTest 40 = .ok (.iload 5, 2) := by decide +kernel
theorem dX5_bestTest_42 : decode cX5_bestTest 42 = .ok (.iload 4, 2) := by decide +kernel
theorem dX5_bestTest_44 : decode cX5_bestTest 44 = .ok (.invokevirtual 116, 3) := by decide +kernel
theorem dX5_bestTest_47 : decode cX5_bestTest 47 = .ok (.invokestatic 119, 3) := by decide +kernel
theorem dX5_bestTest_50 : decode cX5_bestTest 50 = .ok (.istore 6, 2) := by decide +kernel
theorem dX5_bestTest_52 : decode cX5_bestTest 52 = .ok (.iload_n 2, 1) := by decide +kernel
theorem dX5_bestTest_53 : decode cX5_bestTest 53 = .ok (.iconst (-1), 1) := by decide +kernel
theorem dX5_bestTest_54 : decode cX5_bestTest 54 = .ok (.if_icmp .eq 9, 3) := by decide +kernel
theorem dX5_bestTest_57 : decode cX5_bestTest 57 = .ok (.iload 6, 2) := by decide +kernel
theorem dX5_bestTest_59 : decode cX5_bestTest 59 = .ok (.iload_n 2, 1) := by decide +kernel
theorem dX5_bestTest_60 : decode cX5_bestTest 60 = .ok (.if_icmp .ge 15, 3) := by decide +kernel
theorem dX5_bestTest_63 : decode cX5_bestTest 63 = .ok (.iload 6, 2) := by decide +kernel
theorem dX5_bestTest_65 : decode cX5_bestTest 65 = .ok (.istore_n 2, 1) := by decide +kernel
theorem dX5_bestTest_66 : decode cX5_bestTest 66 = .ok (.bipush 10, 2) := by decide +kernel
theorem dX5_bestTest_68 : decode cX5_bestTest 68 = .ok (.iload 4, 2) := by decide +kernel
theorem dX5_bestTest_70 : decode cX5_bestTest 70 = .ok (.imul, 1) := by decide +kernel
theorem dX5_bestTest_71 : decode cX5_bestTest 71 = .ok (.iload 5, 2) := by decide +kernel
theorem dX5_bestTest_73 : decode cX5_bestTest 73 = .ok (.iadd, 1) := by decide +kernel
theorem dX5_bestTest_74 : decode cX5_bestTest 74 = .ok (.istore_n 3, 1) := by decide +kernel
theorem dX5_bestTest_75 : decode cX5_bestTest 75 = .ok (.iinc 5 1, 3) := by decide +kernel
theorem dX5_bestTest_78 : decode cX5_bestTest 78 = .ok (.goto (-56), 3) := by decide +kernel
theorem dX5_bestTest_81 : decode cX5_bestTest 81 = .ok (.iinc 4 1, 3) := by decide +kernel
theorem dX5_bestTest_84 : decode cX5_bestTest 84 = .ok (.goto (-77), 3) := by decide +kernel
theorem dX5_bestTest_87 : decode cX5_bestTest 87 = .ok (.iload_n 1, 1) := by decide +kernel
theorem dX5_bestTest_88 : decode cX5_bestTest 88 = .ok (.ifCond .eq 7, 3) := by decide +kernel
theorem dX5_bestTest_91 : decode cX5_bestTest 91 = .ok (.iload_n 2, 1) := by decide +kernel
theorem dX5_bestTest_92 : decode cX5_bestTest 92 = .ok (.goto 4, 3) := by decide +kernel
theorem dX5_bestTest_95 : decode cX5_bestTest 95 = .ok (.iload_n 3, 1) := by decide +kernel
theorem dX5_bestTest_96 : decode cX5_bestTest 96 = .ok (.ireturn, 1) := by decide +kernel
set_option maxRecDepth 20000 in
theorem ggX5_stoneInFirst_X5_canBeNext : GoodIn wsX5_stoneInFirst wsX5_canBeNext := goodIn_r _ [6, 7, 8, 9, 10, 11, 12, 13, 14, 15, 16, 17, 18] rfl (by decide +kernel)
set_option maxRecDepth 20000 in
theorem gX5_stoneInFirst_X5_canBeNext : GoodIn wsX5_stoneInFirst (wsV RX5 99 RX5 yX5_canBeNext wsX5_canBeNext) := goodIn_app (goodIn_of _ (by decide +kernel)) ggX5_stoneInFirst_X5_canBeNext
theorem dX5_stoneInFirst_0 : decode cX5_stoneInFirst 0 = .ok (.iconst 0, 1) := by decide +kernel
theorem dX5_stoneInFirst_1 : decode cX5_stoneInFirst 1 = .ok (.istore_n 2, 1) := by decide +kernel
theorem dX5_stoneInFirst_2 : decode cX5_stoneInFirst 2 = .ok (.iconst (-1), 1) := by decide +kernel
theorem dX5_stoneInFirst_3 : decode cX5_stoneInFirst 3 = .ok (.istore_n 3, 1) := by decide +kernel
theorem dX5_stoneInFirst_4 : decode cX5_stoneInFirst 4 = .ok (.iconst 0, 1) := by decide +kernel
theorem dX5_stoneInFirst_5 : decode cX5_stoneInFirst 5 = .ok (.istore 4, 2) := by decide +kernel
theorem dX5_stoneInFirst_7 : decode cX5_stoneInFirst 7 = .ok (.iload 4, 2) := by decide +kernel
theorem dX5_stoneInFirst_9 : decode cX5_stoneInFirst 9 = .ok (.iload_n 1, 1) := by decide +kernel
theorem dX5_stoneInFirst_10 : decode cX5_stoneInFirst 10 = .ok (.if_icmp .gt 71, 3) := by decide +kernel
theorem dX5_stoneInFirst_13 : decode cX5_stoneInFirst 13 = .ok (.iload 4, 2) := by decide +kernel
theorem dX5_stoneInFirst_15 : decode cX5_stoneInFirst 15 = .ok (.aload_n 0, 1) := by decide +kernel
theorem dX5_stoneInFirst_16 : decode cX5_stoneInFirst 16 = .ok (.getfield 43, 3) := by decide +kernel
theorem dX5_stoneInFirst_19 : decode cX5_stoneInFirst 19 = .ok (.if_icmp .ge 62, 3) := by decide +kernel
theorem dX5_stoneInFirst_22 : decode cX5_stoneInFirst 22 = .ok (.iconst (-1), 1) := by decide +kernel
theorem dX5_stoneInFirst_23 : decode cX5_stoneInFirst 23 = .ok (.istore_n 3, 1) := by decide +kernel
theorem dX5_stoneInFirst_24 : decode cX5_stoneInFirst 24 = .ok (.iconst 0, 1) := by decide +kernel
theorem dX5_stoneInFirst_25 : decode cX5_stoneInFirst 25 = .ok (.istore 5, 2) := by decide +kernel
theorem dX5_stoneInFirst_27 : decode cX5_stoneInFirst 27 = .ok (.iload 5, 2) := by decide +kernel
theorem dX5_stoneInFirst_29 : decode cX5_stoneInFirst 29 = .ok (.aload_n 0, 1) := by decide +kernel
theorem dX5_stoneInFirst_30 : decode cX5_stoneInFirst 30 = .ok (.getfield 43, 3) := by decide +kernel
theorem dX5_stoneInFirst_33 : decode cX5_stoneInFirst 33 = .ok (.if_icmp .ge 27, 3) := by decide +kernel
theorem dX5_stoneInFirst_36 : decode cX5_stoneInFirst 36 = .ok (.iload_n 3, 1) := by decide +kernel
theorem dX5_stoneInFirst_37 : decode cX5_stoneInFirst 37 = .ok (.iconst (-1), 1) := by decide +kernel
theorem dX5_stoneInFirst_38 : decode cX5_stoneInFirst 38 = .ok (.if_icmp .ne 22, 3) := by decide +kernel
theorem dX5_stoneInFirst_41 : decode cX5_stoneInFirst 41 = .ok (.aload_n 0, 1) := by decide +kernel
theorem dX5_stoneInFirst_42 : decode cX5_stoneInFirst 42 = .ok (.iload 5, 2) := by decide +kernel
theorem dX5_stoneInFirst_44 : decode cX5_stoneInFirst 44 = .ok (.iload_n 2, 1) := by decide +kernel
theorem dX5_stoneInFirst_45 : decode cX5_stoneInFirst 45 = .ok (.invokevirtual 99, 3) := by decide +kernel
theorem dX5_stoneInFirst_48 : decode cX5_stoneInFirst 48 = .ok (.ifCond .eq 6, 3) := by decide +kernel
theorem dX5_stoneInFirst_51 : decode cX5_stoneInFirst 51 = .ok (.iload 5, 2) := by decide +kernel
theorem dX5_stoneInFirst_53 : decode cX5_stoneInFirst 53 = .ok (.istore_n 3, 1) := by decide +kernel
theorem dX5_stoneInFirst_54 : decode cX5_stoneInFirst 54 = .ok (.iinc 5 1, 3) := by decide +kernel
theorem dX5_stoneInFirst_57 : decode cX5_stoneInFirst 57 = .ok (.goto (-30), 3) := by decide +kernel
theorem dX5_stoneInFirst_60 : decode cX5_stoneInFirst 60 = .ok (.iload_n 2, 1) := by decide +kernel
theorem dX5_stoneInFirst_61 : decode cX5_stoneInFirst 61 = .ok (.iload_n 3, 1) := by decide +kernel
theorem dX5_stoneInFirst_62 : decode cX5_stoneInFirst 62 = .ok (.iconst (-1), 1) := by decide +kernel
theorem dX5_stoneInFirst_63 : decode cX5_stoneInFirst 63 = .ok (.if_icmp .ne 7, 3) := by decide +kernel
theorem dX5_stoneInFirst_66 : decode cX5_stoneInFirst 66 = .ok (.iconst 0, 1) := by decide +kernel
theorem dX5_stoneInFirst_67 : decode cX5_stoneInFirst 67 = .ok (.goto 6, 3) := by decide +kernel
theorem dX5_stoneInFirst_70 : decode cX5_stoneInFirst 70 = .ok (.iconst 1, 1) := by decide +kernel
theorem dX5_stoneInFirst_71 : decode cX5_stoneInFirst 71 = .ok (.iload_n 3, 1) := by decide +kernel
theorem dX5_stoneInFirst_72 : decode cX5_stoneInFirst 72 = .ok (.ishl, 1) := by decide +kernel
theorem dX5_stoneInFirst_73 : decode cX5_stoneInFirst 73 = .ok (.ior, 1) := by decide +kernel
theorem dX5_stoneInFirst_74 : decode cX5_stoneInFirst 74 = .ok (.istore_n 2, 1) := by decide +kernel
theorem dX5_stoneInFirst_75 : decode cX5_stoneInFirst 75 = .ok (.iinc 4 1, 3) := by decide +kernel
theorem dX5_stoneInFirst_78 : decode cX5_stoneInFirst 78 = .ok (.goto (-71), 3) := by decide +kernel
theorem dX5_stoneInFirst_81 : decode cX5_stoneInFirst 81 = .ok (.iload_n 3, 1) := by decide +kernel
theorem dX5_stoneInFirst_82 : decode cX5_stoneInFirst 82 = .ok (.ireturn, 1) := by decide +kernel
set_option maxRecDepth 20000 in
theorem ggX5_findRing_X5_stepsRound : GoodIn wsX5_findRing wsX5_stepsRound := goodIn_r _ [7, 8, 2, 9, 18, 19, 20, 21, 22, 23, 24, 25, 26, 27, 28] rfl (by decide +kernel)
set_option maxRecDepth 20000 in
theorem gX5_findRing_X5_stepsRound : GoodIn wsX5_findRing (wsV RX5 122 RX5 yX5_stepsRound wsX5_stepsRound) := goodIn_app (goodIn_of _ (by decide +kernel)) ggX5_findRing_X5_stepsRound
set_option maxRecDepth 20000 in
theorem ggX5_findRing_X5_walkRing : GoodIn wsX5_findRing wsX5_walkRing := goodIn_r _ [13, 14, 1, 9, 8, 15, 16, 6, 17, 18, 19, 20, 21, 22, 23, 24, 25, 26, 27, 28] rfl (by decide +kernel)
set_option maxRecDepth 20000 in
theorem gX5_findRing_X5_walkRing : GoodIn wsX5_findRing (wsV RX5 125 RX5 yX5_walkRing wsX5_walkRing) := goodIn_app (goodIn_of _ (by decide +kernel)) ggX5_findRing_X5_walkRing
theorem dX5_findRing_0 : decode cX5_findRing 0 = .ok (.aload_n 0, 1) := by decide +kernel
theorem dX5_findRing_1 : decode cX5_findRing 1 = .ok (.iconst 0, 1) := by decide +kernel
theorem dX5_findRing_2 : decode cX5_findRing 2 = .ok (.putfield 39, 3) := by decide +kernel
theorem dX5_findRing_5 : decode cX5_findRing 5 = .ok (.iconst 0, 1) := by decide +kernel
theorem dX5_findRing_6 : decode cX5_findRing 6 = .ok (.istore_n 1, 1) := by decide +kernel
theorem dX5_findRing_7 : decode cX5_findRing 7 = .ok (.iload_n 1, 1) := by decide +kernel
theorem dX5_findRing_8 : decode cX5_findRing 8 = .ok (.aload_n 0, 1) := by decide +kernel
theorem dX5_findRing_9 : decode cX5_findRing 9 = .ok (.getfield 43, 3) := by decide +kernel
theorem dX5_findRing_12 : decode cX5_findRing 12 = .ok (.if_icmp .ge 44, 3) := by decide +kernel
theorem dX5_findRing_15 : decode cX5_findRing 15 = .ok (.aload_n 0, 1) := by decide +kernel
theorem dX5_findRing_16 : decode cX5_findRing 16 = .ok (.iload_n 1, 1) := by decide +kernel
theorem dX5_findRing_17 : decode cX5_findRing 17 = .ok (.invokevirtual 122, 3) := by decide +kernel
theorem dX5_findRing_20 : decode cX5_findRing 20 = .ok (.istore_n 2, 1) := by decide +kernel
theorem dX5_findRing_21 : decode cX5_findRing 21 = .ok (.iload_n 2, 1) := by decide +kernel
theorem dX5_findRing_22 : decode cX5_findRing 22 = .ok (.ifCond .le 28, 3) := by decide +kernel
theorem dX5_findRing_25 : decode cX5_findRing 25 = .ok (.aload_n 0, 1) := by decide +kernel
theorem dX5_findRing_26 : decode cX5_findRing 26 = .ok (.getfield 39, 3) := by decide +kernel
theorem dX5_findRing_29 : decode cX5_findRing 29 = .ok (.ifCond .eq 11, 3) := by decide +kernel
theorem dX5_findRing_32 : decode cX5_findRing 32 = .ok (.iload_n 2, 1) := by decide +kernel
theorem dX5_findRing_33 : decode cX5_findRing 33 = .ok (.aload_n 0, 1) := by decide +kernel
theorem dX5_findRing_34 : decode cX5_findRing 34 = .ok (.getfield 39, 3) := by decide +kernel
theorem dX5_findRing_37 : decode cX5_findRing 37 = .ok (.if_icmp .ge 13, 3) := by decide +kernel
theorem dX5_findRing_40 : decode cX5_findRing 40 = .ok (.aload_n 0, 1) := by decide +kernel
theorem dX5_findRing_41 : decode cX5_findRing 41 = .ok (.iload_n 2, 1) := by decide +kernel
theorem dX5_findRing_42 : decode cX5_findRing 42 = .ok (.putfield 39, 3) := by decide +kernel
theorem dX5_findRing_45 : decode cX5_findRing 45 = .ok (.aload_n 0, 1) := by decide +kernel
theorem dX5_findRing_46 : decode cX5_findRing 46 = .ok (.iload_n 1, 1) := by decide +kernel
theorem dX5_findRing_47 : decode cX5_findRing 47 = .ok (.invokevirtual 125, 3) := by decide +kernel
theorem dX5_findRing_50 : decode cX5_findRing 50 = .ok (.iinc 1 1, 3) := by decide +kernel
theorem dX5_findRing_53 : decode cX5_findRing 53 = .ok (.goto (-46), 3) := by decide +kernel
theorem dX5_findRing_56 : decode cX5_findRing 56 = .ok (.return_, 1) := by decide +kernel
theorem dX5_stepsRound_0 : decode cX5_stepsRound 0 = .ok (.aload_n 0, 1) := by decide +kernel
theorem dX5_stepsRound_1 : decode cX5_stepsRound 1 = .ok (.getfield 33, 3) := by decide +kernel
theorem dX5_stepsRound_4 : decode cX5_stepsRound 4 = .ok (.iconst 0, 1) := by decide +kernel
theorem dX5_stepsRound_5 : decode cX5_stepsRound 5 = .ok (.iconst 1, 1) := by decide +kernel
theorem dX5_stepsRound_6 : decode cX5_stepsRound 6 = .ok (.iload_n 1, 1) := by decide +kernel
theorem dX5_stepsRound_7 : decode cX5_stepsRound 7 = .ok (.ishl, 1) := by decide +kernel
theorem dX5_stepsRound_8 : decode cX5_stepsRound 8 = .ok (.iastore, 1) := by decide +kernel
theorem dX5_stepsRound_9 : decode cX5_stepsRound 9 = .ok (.iconst 1, 1) := by decide +kernel
theorem dX5_stepsRound_10 : decode cX5_stepsRound 10 = .ok (.istore_n 2, 1) := by decide +kernel
theorem dX5_stepsRound_11 : decode cX5_stepsRound 11 = .ok (.iload_n 2, 1) := by decide +kernel
theorem dX5_stepsRound_12 : decode cX5_stepsRound 12 = .ok (.aload_n 0, 1) := by decide +kernel
theorem dX5_stepsRound_13 : decode cX5_stepsRound 13 = .ok (.getfield 43, 3) := by decide +kernel
theorem dX5_stepsRound_16 : decode cX5_stepsRound 16 = .ok (.if_icmp .gt 84, 3) := by decide +kernel
theorem dX5_stepsRound_19 : decode cX5_stepsRound 19 = .ok (.aload_n 0, 1) := by decide +kernel
theorem dX5_stepsRound_20 : decode cX5_stepsRound 20 = .ok (.getfield 15, 3) := by decide +kernel
theorem dX5_stepsRound_23 : decode cX5_stepsRound 23 = .ok (.iload_n 1, 1) := by decide +kernel
theorem dX5_stepsRound_24 : decode cX5_stepsRound 24 = .ok (.iaload, 1) := by decide +kernel
theorem dX5_stepsRound_25 : decode cX5_stepsRound 25 = .ok (.aload_n 0, 1) := by decide +kernel
theorem dX5_stepsRound_26 : decode cX5_stepsRound 26 = .ok (.getfield 33, 3) := by decide +kernel
theorem dX5_stepsRound_29 : decode cX5_stepsRound 29 = .ok (.iload_n 2, 1) := by decide +kernel
theorem dX5_stepsRound_30 : decode cX5_stepsRound 30 = .ok (.iconst 1, 1) := by decide +kernel
theorem dX5_stepsRound_31 : decode cX5_stepsRound 31 = .ok (.isub, 1) := by decide +kernel
theorem dX5_stepsRound_32 : decode cX5_stepsRound 32 = .ok (.iaload, 1) := by decide +kernel
theorem dX5_stepsRound_33 : decode cX5_stepsRound 33 = .ok (.iand, 1) := by decide +kernel
theorem dX5_stepsRound_34 : decode cX5_stepsRound 34 = .ok (.ifCond .eq 5, 3) := by decide +kernel
theorem dX5_stepsRound_37 : decode cX5_stepsRound 37 = .ok (.iload_n 2, 1) := by decide +kernel
theorem dX5_stepsRound_38 : decode cX5_stepsRound 38 = .ok (.ireturn, 1) := by decide +kernel
theorem dX5_stepsRound_39 : decode cX5_stepsRound 39 = .ok (.aload_n 0, 1) := by decide +kernel
theorem dX5_stepsRound_40 : decode cX5_stepsRound 40 = .ok (.getfield 33, 3) := by decide +kernel
theorem dX5_stepsRound_43 : decode cX5_stepsRound 43 = .ok (.iload_n 2, 1) := by decide +kernel
theorem dX5_stepsRound_44 : decode cX5_stepsRound 44 = .ok (.iconst 0, 1) := by decide +kernel
theorem dX5_stepsRound_45 : decode cX5_stepsRound 45 = .ok (.iastore, 1) := by decide +kernel
theorem dX5_stepsRound_46 : decode cX5_stepsRound 46 = .ok (.iload_n 1, 1) := by decide +kernel
theorem dX5_stepsRound_47 : decode cX5_stepsRound 47 = .ok (.iconst 1, 1) := by decide +kernel
theorem dX5_stepsRound_48 : decode cX5_stepsRound 48 = .ok (.iadd, 1) := by decide +kernel
theorem dX5_stepsRound_49 : decode cX5_stepsRound 49 = .ok (.istore_n 3, 1) := by decide +kernel
theorem dX5_stepsRound_50 : decode cX5_stepsRound 50 = .ok (.iload_n 3, 1) := by decide +kernel
theorem dX5_stepsRound_51 : decode cX5_stepsRound 51 = .ok (.aload_n 0, 1) := by decide +kernel
theorem dX5_stepsRound_52 : decode cX5_stepsRound 52 = .ok (.getfield 43, 3) := by decide +kernel
theorem dX5_stepsRound_55 : decode cX5_stepsRound 55 = .ok (.if_icmp .ge 39, 3) := by decide +kernel
theorem dX5_stepsRound_58 : decode cX5_stepsRound 58 = .ok (.aload_n 0, 1) := by decide +kernel
theorem dX5_stepsRound_59 : decode cX5_stepsRound 59 = .ok (.getfield 15, 3) := by decide +kernel
theorem dX5_stepsRound_62 : decode cX5_stepsRound 62 = .ok (.iload_n 3, 1) := by decide +kernel
theorem dX5_stepsRound_63 : decode cX5_stepsRound 63 = .ok (.iaload, 1) := by decide +kernel
theorem dX5_stepsRound_64 : decode cX5_stepsRound 64 = .ok (.aload_n 0, 1) := by decide +kernel
theorem dX5_stepsRound_65 : decode cX5_stepsRound 65 = .ok (.getfield 33, 3) := by decide +kernel
theorem dX5_stepsRound_68 : decode cX5_stepsRound 68 = .ok (.iload_n 2, 1) := by decide +kernel
theorem dX5_stepsRound_69 : decode cX5_stepsRound 69 = .ok (.iconst 1, 1) := by decide +kernel
theorem dX5_stepsRound_70 : decode cX5_stepsRound 70 = .ok (.isub, 1) := by decide +kernel
theorem dX5_stepsRound_71 : decode cX5_stepsRound 71 = .ok (.iaload, 1) := by decide +kernel
theorem dX5_stepsRound_72 : decode cX5_stepsRound 72 = .ok (.iand, 1) := by decide +kernel
theorem dX5_stepsRound_73 : decode cX5_stepsRound 73 = .ok (.ifCond .eq 15, 3) := by decide +kernel
theorem dX5_stepsRound_76 : decode cX5_stepsRound 76 = .ok (.aload_n 0, 1) := by decide +kernel
theorem dX5_stepsRound_77 : decode cX5_stepsRound 77 = .ok (.getfield 33, 3) := by decide +kernel
theorem dX5_stepsRound_80 : decode cX5_stepsRound 80 = .ok (.iload_n 2, 1) := by decide +kernel
theorem dX5_stepsRound_81 : decode cX5_stepsRound 81 = .ok (.dup2, 1) := by decide +kernel
theorem dX5_stepsRound_82 : decode cX5_stepsRound 82 = .ok (.iaload, 1) := by decide +kernel
theorem dX5_stepsRound_83 : decode cX5_stepsRound 83 = .ok (.iconst 1, 1) := by decide +kernel
theorem dX5_stepsRound_84 : decode cX5_stepsRound 84 = .ok (.iload_n 3, 1) := by decide +kernel
theorem dX5_stepsRound_85 : decode cX5_stepsRound 85 = .ok (.ishl, 1) := by decide +kernel
theorem dX5_stepsRound_86 : decode cX5_stepsRound 86 = .ok (.ior, 1) := by decide +kernel
theorem dX5_stepsRound_87 : decode cX5_stepsRound 87 = .ok (.iastore, 1) := by decide +kernel
theorem dX5_stepsRound_88 : decode cX5_stepsRound 88 = .ok (.iinc 3 1, 3) := by decide +kernel
theorem dX5_stepsRound_91 : decode cX5_stepsRound 91 = .ok (.goto (-41), 3) := by decide +kernel
theorem dX5_stepsRound_94 : decode cX5_stepsRound 94 = .ok (.iinc 2 1, 3) := by decide +kernel
theorem dX5_stepsRound_97 : decode cX5_stepsRound 97 = .ok (.goto (-86), 3) := by decide +kernel
theorem dX5_stepsRound_100 : decode cX5_stepsRound 100 = .ok (.iconst 0, 1) := by decide +kernel
theorem dX5_stepsRound_101 : decode cX5_stepsRound 101 = .ok (.ireturn, 1) := by decide +kernel
set_option maxRecDepth 20000 in
theorem ggX5_walkRing_X5_leastOf : GoodIn wsX5_walkRing wsX5_leastOf := goodIn_r _ [8] rfl (by decide +kernel)
set_option maxRecDepth 20000 in
theorem gX5_walkRing_X5_leastOf : GoodIn wsX5_walkRing (va_wsS RX5 129 yX5_leastOf wsX5_leastOf) := goodIn_app (goodIn_of _ (by decide +kernel)) ggX5_walkRing_X5_leastOf
theorem dX5_walkRing_0 : decode cX5_walkRing 0 = .ok (.iload_n 1, 1) := by decide +kernel
theorem dX5_walkRing_1 : decode cX5_walkRing 1 = .ok (.istore_n 2, 1) := by decide +kernel
theorem dX5_walkRing_2 : decode cX5_walkRing 2 = .ok (.aload_n 0, 1) := by decide +kernel
theorem dX5_walkRing_3 : decode cX5_walkRing 3 = .ok (.getfield 36, 3) := by decide +kernel
theorem dX5_walkRing_6 : decode cX5_walkRing 6 = .ok (.iconst 0, 1) := by decide +kernel
theorem dX5_walkRing_7 : decode cX5_walkRing 7 = .ok (.iload_n 1, 1) := by decide +kernel
theorem dX5_walkRing_8 : decode cX5_walkRing 8 = .ok (.iastore, 1) := by decide +kernel
theorem dX5_walkRing_9 : decode cX5_walkRing 9 = .ok (.iconst 1, 1) := by decide +kernel
theorem dX5_walkRing_10 : decode cX5_walkRing 10 = .ok (.istore_n 3, 1) := by decide +kernel
theorem dX5_walkRing_11 : decode cX5_walkRing 11 = .ok (.iload_n 3, 1) := by decide +kernel
theorem dX5_walkRing_12 : decode cX5_walkRing 12 = .ok (.aload_n 0, 1) := by decide +kernel
theorem dX5_walkRing_13 : decode cX5_walkRing 13 = .ok (.getfield 39, 3) := by decide +kernel
theorem dX5_walkRing_16 : decode cX5_walkRing 16 = .ok (.if_icmp .ge 38, 3) := by decide +kernel
theorem dX5_walkRing_19 : decode cX5_walkRing 19 = .ok (.aload_n 0, 1) := by decide +kernel
theorem dX5_walkRing_20 : decode cX5_walkRing 20 = .ok (.getfield 15, 3) := by decide +kernel
theorem dX5_walkRing_23 : decode cX5_walkRing 23 = .ok (.iload_n 2, 1) := by decide +kernel
theorem dX5_walkRing_24 : decode cX5_walkRing 24 = .ok (.iaload, 1) := by decide +kernel
theorem dX5_walkRing_25 : decode cX5_walkRing 25 = .ok (.aload_n 0, 1) := by decide +kernel
theorem dX5_walkRing_26 : decode cX5_walkRing 26 = .ok (.getfield 33, 3) := by decide +kernel
theorem dX5_walkRing_29 : decode cX5_walkRing 29 = .ok (.aload_n 0, 1) := by decide +kernel
theorem dX5_walkRing_30 : decode cX5_walkRing 30 = .ok (.getfield 39, 3) := by decide +kernel
theorem dX5_walkRing_33 : decode cX5_walkRing 33 = .ok (.iload_n 3, 1) := by decide +kernel
theorem dX5_walkRing_34 : decode cX5_walkRing 34 = .ok (.isub, 1) := by decide +kernel
theorem dX5_walkRing_35 : decode cX5_walkRing 35 = .ok (.iaload, 1) := by decide +kernel
theorem dX5_walkRing_36 : decode cX5_walkRing 36 = .ok (.iand, 1) := by decide +kernel
theorem dX5_walkRing_37 : decode cX5_walkRing 37 = .ok (.invokestatic 129, 3) := by decide +kernel
theorem dX5_walkRing_40 : decode cX5_walkRing 40 = .ok (.istore_n 2, 1) := by decide +kernel
theorem dX5_walkRing_41 : decode cX5_walkRing 41 = .ok (.aload_n 0, 1) := by decide +kernel
theorem dX5_walkRing_42 : decode cX5_walkRing 42 = .ok (.getfield 36, 3) := by decide +kernel
theorem dX5_walkRing_45 : decode cX5_walkRing 45 = .ok (.iload_n 3, 1) := by decide +kernel
theorem dX5_walkRing_46 : decode cX5_walkRing 46 = .ok (.iload_n 2, 1) := by decide +kernel
theorem dX5_walkRing_47 : decode cX5_walkRing 47 = .ok (.iastore, 1) := by decide +kernel
theorem dX5_walkRing_48 : decode cX5_walkRing 48 = .ok (.iinc 3 1, 3) := by decide +kernel
theorem dX5_walkRing_51 : decode cX5_walkRing 51 = .ok (.goto (-40), 3) := by decide +kernel
theorem dX5_walkRing_54 : decode cX5_walkRing 54 = .ok (.return_, 1) := by decide +kernel
theorem dX5_leastOf_0 : decode cX5_leastOf 0 = .ok (.iconst 0, 1) := by decide +kernel
theorem dX5_leastOf_1 : decode cX5_leastOf 1 = .ok (.istore_n 1, 1) := by decide +kernel
theorem dX5_leastOf_2 : decode cX5_leastOf 2 = .ok (.iload_n 1, 1) := by decide +kernel
theorem dX5_leastOf_3 : decode cX5_leastOf 3 = .ok (.bipush 10, 2) := by decide +kernel
theorem dX5_leastOf_5 : decode cX5_leastOf 5 = .ok (.if_icmp .ge 19, 3) := by decide +kernel
theorem dX5_leastOf_8 : decode cX5_leastOf 8 = .ok (.iload_n 0, 1) := by decide +kernel
theorem dX5_leastOf_9 : decode cX5_leastOf 9 = .ok (.iload_n 1, 1) := by decide +kernel
theorem dX5_leastOf_10 : decode cX5_leastOf 10 = .ok (.ishr, 1) := by decide +kernel
theorem dX5_leastOf_11 : decode cX5_leastOf 11 = .ok (.iconst 1, 1) := by decide +kernel
theorem dX5_leastOf_12 : decode cX5_leastOf 12 = .ok (.iand, 1) := by decide +kernel
theorem dX5_leastOf_13 : decode cX5_leastOf 13 = .ok (.ifCond .eq 5, 3) := by decide +kernel
theorem dX5_leastOf_16 : decode cX5_leastOf 16 = .ok (.iload_n 1, 1) := by decide +kernel
theorem dX5_leastOf_17 : decode cX5_leastOf 17 = .ok (.ireturn, 1) := by decide +kernel
theorem dX5_leastOf_18 : decode cX5_leastOf 18 = .ok (.iinc 1 1, 3) := by decide +kernel
theorem dX5_leastOf_21 : decode cX5_leastOf 21 = .ok (.goto (-19), 3) := by decide +kernel
theorem dX5_leastOf_24 : decode cX5_leastOf 24 = .ok (.iconst 0, 1) := by decide +kernel
theorem dX5_leastOf_25 : decode cX5_leastOf 25 = .ok (.ireturn, 1) := by decide +kernel
theorem dX5_ringSize_0 : decode cX5_ringSize 0 = .ok (.aload_n 0, 1) := by decide +kernel
theorem dX5_ringSize_1 : decode cX5_ringSize 1 = .ok (.getfield 39, 3) := by decide +kernel
theorem dX5_ringSize_4 : decode cX5_ringSize 4 = .ok (.ireturn, 1) := by decide +kernel
set_option maxRecDepth 20000 in
theorem ggX5_ringStone_X5_isStone : GoodIn wsX5_ringStone wsX5_isStone := goodIn_r _ [5] rfl (by decide +kernel)
set_option maxRecDepth 20000 in
theorem gX5_ringStone_X5_isStone : GoodIn wsX5_ringStone (va_wsS RX5 92 yX5_isStone wsX5_isStone) := goodIn_app (goodIn_of _ (by decide +kernel)) ggX5_ringStone_X5_isStone
theorem dX5_ringStone_0 : decode cX5_ringStone 0 = .ok (.iload_n 1, 1) := by decide +kernel
theorem dX5_ringStone_1 : decode cX5_ringStone 1 = .ok (.invokestatic 92, 3) := by decide +kernel
theorem dX5_ringStone_4 : decode cX5_ringStone 4 = .ok (.ifCond .eq 12, 3) := by decide +kernel
theorem dX5_ringStone_7 : decode cX5_ringStone 7 = .ok (.aload_n 0, 1) := by decide +kernel
theorem dX5_ringStone_8 : decode cX5_ringStone 8 = .ok (.getfield 36, 3) := by decide +kernel
theorem dX5_ringStone_11 : decode cX5_ringStone 11 = .ok (.iload_n 1, 1) := by decide +kernel
theorem dX5_ringStone_12 : decode cX5_ringStone 12 = .ok (.iaload, 1) := by decide +kernel
theorem dX5_ringStone_13 : decode cX5_ringStone 13 = .ok (.goto 4, 3) := by decide +kernel
theorem dX5_ringStone_16 : decode cX5_ringStone 16 = .ok (.iconst (-1), 1) := by decide +kernel
theorem dX5_ringStone_17 : decode cX5_ringStone 17 = .ok (.ireturn, 1) := by decide +kernel
set_option maxRecDepth 20000 in
theorem ggX5_miscounts_X5_total : GoodIn wsX5_miscounts wsX5_total := goodIn_r _ [7, 8, 9, 10, 11, 6, 12, 2, 26, 27, 28, 29, 30, 31, 32, 33, 34, 35, 36] rfl (by decide +kernel)
set_option maxRecDepth 20000 in
theorem gX5_miscounts_X5_total : GoodIn wsX5_miscounts (wsV RX5 132 RX5 yX5_total wsX5_total) := goodIn_app (goodIn_of _ (by decide +kernel)) ggX5_miscounts_X5_total
set_option maxRecDepth 20000 in
theorem ggX5_miscounts_X5_countAt : GoodIn wsX5_miscounts wsX5_countAt := goodIn_r _ [16, 17, 18, 19, 6, 20, 26, 27, 28, 29, 30, 31, 32, 33, 34, 35, 36] rfl (by decide +kernel)
set_option maxRecDepth 20000 in
theorem gX5_miscounts_X5_countAt : GoodIn wsX5_miscounts (wsV RX5 135 RX5 yX5_countAt wsX5_countAt) := goodIn_app (goodIn_of _ (by decide +kernel)) ggX5_miscounts_X5_countAt
set_option maxRecDepth 20000 in
theorem ggX5_miscounts_X5_countAhead : GoodIn wsX5_miscounts wsX5_countAhead := goodIn_r _ [24, 25, 18, 19, 6, 20, 26, 27, 28, 29, 30, 31, 32, 33, 34, 35, 36] rfl (by decide +kernel)
set_option maxRecDepth 20000 in
theorem gX5_miscounts_X5_countAhead : GoodIn wsX5_miscounts (wsV RX5 116 RX5 yX5_countAhead wsX5_countAhead) := goodIn_app (goodIn_of _ (by decide +kernel)) ggX5_miscounts_X5_countAhead
theorem dX5_miscounts_0 : decode cX5_miscounts 0 = .ok (.aload_n 0, 1) := by decide +kernel
theorem dX5_miscounts_1 : decode cX5_miscounts 1 = .ok (.getfield 39, 3) := by decide +kernel
theorem dX5_miscounts_4 : decode cX5_miscounts 4 = .ok (.ifCond .le 7, 3) := by decide +kernel
theorem dX5_miscounts_7 : decode cX5_miscounts 7 = .ok (.iconst 1, 1) := by decide +kernel
theorem dX5_miscounts_8 : decode cX5_miscounts 8 = .ok (.goto 4, 3) := by decide +kernel
theorem dX5_miscounts_11 : decode cX5_miscounts 11 = .ok (.iconst 0, 1) := by decide +kernel
theorem dX5_miscounts_12 : decode cX5_miscounts 12 = .ok (.aload_n 0, 1) := by decide +kernel
theorem dX5_miscounts_13 : decode cX5_miscounts 13 = .ok (.invokevirtual 132, 3) := by decide +kernel
theorem dX5_miscounts_16 : decode cX5_miscounts 16 = .ok (.ifCond .le 7, 3) := by decide +kernel
theorem dX5_miscounts_19 : decode cX5_miscounts 19 = .ok (.iconst 1, 1) := by decide +kernel
theorem dX5_miscounts_20 : decode cX5_miscounts 20 = .ok (.goto 4, 3) := by decide +kernel
theorem dX5_miscounts_23 : decode cX5_miscounts 23 = .ok (.iconst 0, 1) := by decide +kernel
theorem dX5_miscounts_24 : decode cX5_miscounts 24 = .ok (.if_icmp .ne 7, 3) := by decide +kernel
theorem dX5_miscounts_27 : decode cX5_miscounts 27 = .ok (.iconst 1, 1) := by decide +kernel
theorem dX5_miscounts_28 : decode cX5_miscounts 28 = .ok (.goto 4, 3) := by decide +kernel
theorem dX5_miscounts_31 : decode cX5_miscounts 31 = .ok (.iconst 0, 1) := by decide +kernel
theorem dX5_miscounts_32 : decode cX5_miscounts 32 = .ok (.istore_n 1, 1) := by decide +kernel
theorem dX5_miscounts_33 : decode cX5_miscounts 33 = .ok (.iconst 0, 1) := by decide +kernel
theorem dX5_miscounts_34 : decode cX5_miscounts 34 = .ok (.istore_n 2, 1) := by decide +kernel
theorem dX5_miscounts_35 : decode cX5_miscounts 35 = .ok (.iload_n 2, 1) := by decide +kernel
theorem dX5_miscounts_36 : decode cX5_miscounts 36 = .ok (.aload_n 0, 1) := by decide +kernel
theorem dX5_miscounts_37 : decode cX5_miscounts 37 = .ok (.getfield 43, 3) := by decide +kernel
theorem dX5_miscounts_40 : decode cX5_miscounts 40 = .ok (.if_icmp .ge 105, 3) := by decide +kernel
theorem dX5_miscounts_43 : decode cX5_miscounts 43 = .ok (.iconst 0, 1) := by decide +kernel
theorem dX5_miscounts_44 : decode cX5_miscounts 44 = .ok (.istore_n 3, 1) := by decide +kernel
theorem dX5_miscounts_45 : decode cX5_miscounts 45 = .ok (.iconst 0, 1) := by decide +kernel
theorem dX5_miscounts_46 : decode cX5_miscounts 46 = .ok (.istore 4, 2) := by decide +kernel
theorem dX5_miscounts_48 : decode cX5_miscounts 48 = .ok (.iload 4, 2) := by decide +kernel
theorem dX5_miscounts_50 : decode cX5_miscounts 50 = .ok (.aload_n 0, 1) := by decide +kernel
theorem dX5_miscounts_51 : decode cX5_miscounts 51 = .ok (.getfield 43, 3) := by decide +kernel
theorem dX5_miscounts_54 : decode cX5_miscounts 54 = .ok (.if_icmp .ge 19, 3) := by decide +kernel
theorem dX5_miscounts_57 : decode cX5_miscounts 57 = .ok (.iload_n 3, 1) := by decide +kernel
theorem dX5_miscounts_58 : decode cX5_miscounts 58 = .ok (.aload_n 0, 1) := by decide +kernel
theorem dX5_miscounts_59 : decode cX5_miscounts 59 = .ok (.iload_n 2, 1) := by decide +kernel
theorem dX5_miscounts_60 : decode cX5_miscounts 60 = .ok (.iload 4, 2) := by decide +kernel
theorem dX5_miscounts_62 : decode cX5_miscounts 62 = .ok (.invokevirtual 135, 3) := by decide +kernel
theorem dX5_miscounts_65 : decode cX5_miscounts 65 = .ok (.iadd, 1) := by decide +kernel
theorem dX5_miscounts_66 : decode cX5_miscounts 66 = .ok (.istore_n 3, 1) := by decide +kernel
theorem dX5_miscounts_67 : decode cX5_miscounts 67 = .ok (.iinc 4 1, 3) := by decide +kernel
theorem dX5_miscounts_70 : decode cX5_miscounts 70 = .ok (.goto (-22), 3) := by decide +kernel
theorem dX5_miscounts_73 : decode cX5_miscounts 73 = .ok (.iload_n 1, 1) := by decide +kernel
theorem dX5_miscounts_74 : decode cX5_miscounts 74 = .ok (.iload_n 3, 1) := by decide +kernel
theorem dX5_miscounts_75 : decode cX5_miscounts 75 = .ok (.aload_n 0, 1) := by decide +kernel
theorem dX5_miscounts_76 : decode cX5_miscounts 76 = .ok (.invokevirtual 132, 3) := by decide +kernel
theorem dX5_miscounts_79 : decode cX5_miscounts 79 = .ok (.if_icmp .ne 7, 3) := by decide +kernel
theorem dX5_miscounts_82 : decode cX5_miscounts 82 = .ok (.iconst 0, 1) := by decide +kernel
theorem dX5_miscounts_83 : decode cX5_miscounts 83 = .ok (.goto 4, 3) := by decide +kernel
theorem dX5_miscounts_86 : decode cX5_miscounts 86 = .ok (.iconst 1, 1) := by decide +kernel
theorem dX5_miscounts_87 : decode cX5_miscounts 87 = .ok (.iadd, 1) := by decide +kernel
theorem dX5_miscounts_88 : decode cX5_miscounts 88 = .ok (.istore_n 1, 1) := by decide +kernel
theorem dX5_miscounts_89 : decode cX5_miscounts 89 = .ok (.iload_n 2, 1) := by decide +kernel
theorem dX5_miscounts_90 : decode cX5_miscounts 90 = .ok (.iconst 1, 1) := by decide +kernel
theorem dX5_miscounts_91 : decode cX5_miscounts 91 = .ok (.iadd, 1) := by decide +kernel
theorem dX5_miscounts_92 : decode cX5_miscounts 92 = .ok (.istore 4, 2) := by decide +kernel
theorem dX5_miscounts_94 : decode cX5_miscounts 94 = .ok (.iload 4, 2) := by decide +kernel
theorem dX5_miscounts_96 : decode cX5_miscounts 96 = .ok (.aload_n 0, 1) := by decide +kernel
theorem dX5_miscounts_97 : decode cX5_miscounts 97 = .ok (.getfield 43, 3) := by decide +kernel
theorem dX5_miscounts_100 : decode cX5_miscounts 100 = .ok (.if_icmp .ge 39, 3) := by decide +kernel
theorem dX5_miscounts_103 : decode cX5_miscounts 103 = .ok (.iload_n 1, 1) := by decide +kernel
theorem dX5_miscounts_104 : decode cX5_miscounts 104 = .ok (.aload_n 0, 1) := by decide +kernel
theorem dX5_miscounts_105 : decode cX5_miscounts 105 = .ok (.iload_n 2, 1) := by decide +kernel
theorem dX5_miscounts_106 : decode cX5_miscounts 106 = .ok (.iload 4, 2) := by decide +kernel
theorem dX5_miscounts_108 : decode cX5_miscounts 108 = .ok (.invokevirtual 116, 3) := by decide +kernel
theorem dX5_miscounts_111 : decode cX5_miscounts 111 = .ok (.aload_n 0, 1) := by decide +kernel
theorem dX5_miscounts_112 : decode cX5_miscounts 112 = .ok (.iload 4, 2) := by decide +kernel
theorem dX5_miscounts_114 : decode cX5_miscounts 114 = .ok (.iload_n 2, 1) := by decide +kernel
theorem dX5_miscounts_115 : decode cX5_miscounts 115 = .ok (.invokevirtual 116, 3) := by decide +kernel
theorem dX5_miscounts_118 : decode cX5_miscounts 118 = .ok (.iadd, 1) := by decide +kernel
theorem dX5_miscounts_119 : decode cX5_miscounts 119 = .ok (.aload_n 0, 1) := by decide +kernel
theorem dX5_miscounts_120 : decode cX5_miscounts 120 = .ok (.invokevirtual 132, 3) := by decide +kernel
theorem dX5_miscounts_123 : decode cX5_miscounts 123 = .ok (.if_icmp .ne 7, 3) := by decide +kernel
theorem dX5_miscounts_126 : decode cX5_miscounts 126 = .ok (.iconst 0, 1) := by decide +kernel
theorem dX5_miscounts_127 : decode cX5_miscounts 127 = .ok (.goto 4, 3) := by decide +kernel
theorem dX5_miscounts_130 : decode cX5_miscounts 130 = .ok (.iconst 1, 1) := by decide +kernel
theorem dX5_miscounts_131 : decode cX5_miscounts 131 = .ok (.iadd, 1) := by decide +kernel
theorem dX5_miscounts_132 : decode cX5_miscounts 132 = .ok (.istore_n 1, 1) := by decide +kernel
theorem dX5_miscounts_133 : decode cX5_miscounts 133 = .ok (.iinc 4 1, 3) := by decide +kernel
theorem dX5_miscounts_136 : decode cX5_miscounts 136 = .ok (.goto (-42), 3) := by decide +kernel
theorem dX5_miscounts_139 : decode cX5_miscounts 139 = .ok (.iinc 2 1, 3) := by decide +kernel
theorem dX5_miscounts_142 : decode cX5_miscounts 142 = .ok (.goto (-107), 3) := by decide +kernel
theorem dX5_miscounts_145 : decode cX5_miscounts 145 = .ok (.iload_n 1, 1) := by decide +kernel
theorem dX5_miscounts_146 : decode cX5_miscounts 146 = .ok (.ireturn, 1) := by decide +kernel
set_option maxRecDepth 20000 in
theorem ggX6_init_X8_init : GoodIn wsX6_init wsX8_init := goodIn_r _ [17, 18, 2, 3, 19, 20, 21, 22, 23, 24, 25, 26, 40, 41, 42] rfl (by decide +kernel)
set_option maxRecDepth 20000 in
theorem gX6_init_X8_init : GoodIn wsX6_init (wsX8_init) := ggX6_init_X8_init
set_option maxRecDepth 20000 in
theorem ggX6_init_X8_add : GoodIn wsX6_init wsX8_add := goodIn_r _ [30, 19, 24, 31, 32, 33, 6, 34, 26, 35, 36, 37, 38, 40, 41, 42] rfl (by decide +kernel)
set_option maxRecDepth 20000 in
theorem gX6_init_X8_add : GoodIn wsX6_init (wsV RX6 42 RX8 yX8_add wsX8_add) := goodIn_app (goodIn_of _ (by decide +kernel)) ggX6_init_X8_add
set_option maxRecDepth 20000 in
theorem ggX6_init_X8_set : GoodIn wsX6_init wsX8_set := goodIn_r _ [38, 19, 24, 26, 40, 41, 42] rfl (by decide +kernel)
set_option maxRecDepth 20000 in
theorem gX6_init_X8_set : GoodIn wsX6_init (wsV RX6 46 RX8 yX8_set wsX8_set) := goodIn_app (goodIn_of _ (by decide +kernel)) ggX6_init_X8_set
theorem dX6_init_0 : decode cX6_init 0 = .ok (.aload_n 0, 1) := by decide +kernel
theorem dX6_init_1 : decode cX6_init 1 = .ok (.invokespecial 3, 3) := by decide +kernel
theorem dX6_init_4 : decode cX6_init 4 = .ok (.aload_n 0, 1) := by decide +kernel
theorem dX6_init_5 : decode cX6_init 5 = .ok (.new 9, 3) := by decide +kernel
theorem dX6_init_8 : decode cX6_init 8 = .ok (.dup, 1) := by decide +kernel
theorem dX6_init_9 : decode cX6_init 9 = .ok (.bipush 10, 2) := by decide +kernel
theorem dX6_init_11 : decode cX6_init 11 = .ok (.bipush 7, 2) := by decide +kernel
theorem dX6_init_13 : decode cX6_init 13 = .ok (.invokespecial 11, 3) := by decide +kernel
theorem dX6_init_16 : decode cX6_init 16 = .ok (.putfield 14, 3) := by decide +kernel
theorem dX6_init_19 : decode cX6_init 19 = .ok (.aload_n 0, 1) := by decide +kernel
theorem dX6_init_20 : decode cX6_init 20 = .ok (.new 9, 3) := by decide +kernel
theorem dX6_init_23 : decode cX6_init 23 = .ok (.dup, 1) := by decide +kernel
theorem dX6_init_24 : decode cX6_init 24 = .ok (.bipush 40, 2) := by decide +kernel
theorem dX6_init_26 : decode cX6_init 26 = .ok (.iconst 2, 1) := by decide +kernel
theorem dX6_init_27 : decode cX6_init 27 = .ok (.invokespecial 11, 3) := by decide +kernel
theorem dX6_init_30 : decode cX6_init 30 = .ok (.putfield 20, 3) := by decide +kernel
theorem dX6_init_33 : decode cX6_init 33 = .ok (.aload_n 0, 1) := by decide +kernel
theorem dX6_init_34 : decode cX6_init 34 = .ok (.new 9, 3) := by decide +kernel
theorem dX6_init_37 : decode cX6_init 37 = .ok (.dup, 1) := by decide +kernel
theorem dX6_init_38 : decode cX6_init 38 = .ok (.iconst 4, 1) := by decide +kernel
theorem dX6_init_39 : decode cX6_init 39 = .ok (.iconst 2, 1) := by decide +kernel
theorem dX6_init_40 : decode cX6_init 40 = .ok (.invokespecial 11, 3) := by decide +kernel
theorem dX6_init_43 : decode cX6_init 43 = .ok (.putfield 23, 3) := by decide +kernel
theorem dX6_init_46 : decode cX6_init 46 = .ok (.aload_n 0, 1) := by decide +kernel
theorem dX6_init_47 : decode cX6_init 47 = .ok (.new 9, 3) := by decide +kernel
theorem dX6_init_50 : decode cX6_init 50 = .ok (.dup, 1) := by decide +kernel
theorem dX6_init_51 : decode cX6_init 51 = .ok (.bipush 6, 2) := by decide +kernel
theorem dX6_init_53 : decode cX6_init 53 = .ok (.bipush 6, 2) := by decide +kernel
theorem dX6_init_55 : decode cX6_init 55 = .ok (.invokespecial 11, 3) := by decide +kernel
theorem dX6_init_58 : decode cX6_init 58 = .ok (.putfield 26, 3) := by decide +kernel
theorem dX6_init_61 : decode cX6_init 61 = .ok (.aload_n 0, 1) := by decide +kernel
theorem dX6_init_62 : decode cX6_init 62 = .ok (.new 9, 3) := by decide +kernel
theorem dX6_init_65 : decode cX6_init 65 = .ok (.dup, 1) := by decide +kernel
theorem dX6_init_66 : decode cX6_init 66 = .ok (.bipush 60, 2) := by decide +kernel
theorem dX6_init_68 : decode cX6_init 68 = .ok (.iconst 5, 1) := by decide +kernel
theorem dX6_init_69 : decode cX6_init 69 = .ok (.invokespecial 11, 3) := by decide +kernel
theorem dX6_init_72 : decode cX6_init 72 = .ok (.putfield 29, 3) := by decide +kernel
theorem dX6_init_75 : decode cX6_init 75 = .ok (.aload_n 0, 1) := by decide +kernel
theorem dX6_init_76 : decode cX6_init 76 = .ok (.new 9, 3) := by decide +kernel
theorem dX6_init_79 : decode cX6_init 79 = .ok (.dup, 1) := by decide +kernel
theorem dX6_init_80 : decode cX6_init 80 = .ok (.bipush 20, 2) := by decide +kernel
theorem dX6_init_82 : decode cX6_init 82 = .ok (.iconst 4, 1) := by decide +kernel
theorem dX6_init_83 : decode cX6_init 83 = .ok (.invokespecial 11, 3) := by decide +kernel
theorem dX6_init_86 : decode cX6_init 86 = .ok (.putfield 32, 3) := by decide +kernel
theorem dX6_init_89 : decode cX6_init 89 = .ok (.aload_n 0, 1) := by decide +kernel
theorem dX6_init_90 : decode cX6_init 90 = .ok (.new 9, 3) := by decide +kernel
theorem dX6_init_93 : decode cX6_init 93 = .ok (.dup, 1) := by decide +kernel
theorem dX6_init_94 : decode cX6_init 94 = .ok (.bipush 8, 2) := by decide +kernel
theorem dX6_init_96 : decode cX6_init 96 = .ok (.iconst 3, 1) := by decide +kernel
theorem dX6_init_97 : decode cX6_init 97 = .ok (.invokespecial 11, 3) := by decide +kernel
theorem dX6_init_100 : decode cX6_init 100 = .ok (.putfield 35, 3) := by decide +kernel
theorem dX6_init_103 : decode cX6_init 103 = .ok (.aload_n 0, 1) := by decide +kernel
theorem dX6_init_104 : decode cX6_init 104 = .ok (.iconst 0, 1) := by decide +kernel
theorem dX6_init_105 : decode cX6_init 105 = .ok (.putfield 38, 3) := by decide +kernel
theorem dX6_init_108 : decode cX6_init 108 = .ok (.iconst 0, 1) := by decide +kernel
theorem dX6_init_109 : decode cX6_init 109 = .ok (.istore_n 1, 1) := by decide +kernel
theorem dX6_init_110 : decode cX6_init 110 = .ok (.iload_n 1, 1) := by decide +kernel
theorem dX6_init_111 : decode cX6_init 111 = .ok (.iconst 4, 1) := by decide +kernel
theorem dX6_init_112 : decode cX6_init 112 = .ok (.if_icmp .ge 40, 3) := by decide +kernel
theorem dX6_init_115 : decode cX6_init 115 = .ok (.aload_n 0, 1) := by decide +kernel
theorem dX6_init_116 : decode cX6_init 116 = .ok (.getfield 23, 3) := by decide +kernel
theorem dX6_init_119 : decode cX6_init 119 = .ok (.invokevirtual 42, 3) := by decide +kernel
theorem dX6_init_122 : decode cX6_init 122 = .ok (.pop, 1) := by decide +kernel
theorem dX6_init_123 : decode cX6_init 123 = .ok (.aload_n 0, 1) := by decide +kernel
theorem dX6_init_124 : decode cX6_init 124 = .ok (.getfield 23, 3) := by decide +kernel
theorem dX6_init_127 : decode cX6_init 127 = .ok (.iload_n 1, 1) := by decide +kernel
theorem dX6_init_128 : decode cX6_init 128 = .ok (.iconst 0, 1) := by decide +kernel
theorem dX6_init_129 : decode cX6_init 129 = .ok (.bipush 20, 2) := by decide +kernel
theorem dX6_init_131 : decode cX6_init 131 = .ok (.invokevirtual 46, 3) := by decide +kernel
theorem dX6_init_134 : decode cX6_init 134 = .ok (.aload_n 0, 1) := by decide +kernel
theorem dX6_init_135 : decode cX6_init 135 = .ok (.getfield 23, 3) := by decide +kernel
theorem dX6_init_138 : decode cX6_init 138 = .ok (.iload_n 1, 1) := by decide +kernel
theorem dX6_init_139 : decode cX6_init 139 = .ok (.iconst 1, 1) := by decide +kernel
theorem dX6_init_140 : decode cX6_init 140 = .ok (.sipush 200, 3) := by decide +kernel
theorem dX6_init_143 : decode cX6_init 143 = .ok (.invokevirtual 46, 3) := by decide +kernel
theorem dX6_init_146 : decode cX6_init 146 = .ok (.iinc 1 1, 3) := by decide +kernel
theorem dX6_init_149 : decode cX6_init 149 = .ok (.goto (-39), 3) := by decide +kernel
theorem dX6_init_152 : decode cX6_init 152 = .ok (.iconst 0, 1) := by decide +kernel
theorem dX6_init_153 : decode cX6_init 153 = .ok (.istore_n 1, 1) := by decide +kernel
theorem dX6_init_154 : decode cX6_init 154 = .ok (.iload_n 1, 1) := by decide +kernel
theorem dX6_init_155 : decode cX6_init 155 = .ok (.bipush 6, 2) := by decide +kernel
theorem dX6_init_157 : decode cX6_init 157 = .ok (.if_icmp .ge 17, 3) := by decide +kernel
theorem dX6_init_160 : decode cX6_init 160 = .ok (.aload_n 0, 1) := by decide +kernel
theorem dX6_init_161 : decode cX6_init 161 = .ok (.getfield 26, 3) := by decide +kernel
theorem dX6_init_164 : decode cX6_init 164 = .ok (.invokevirtual 42, 3) := by decide +kernel
theorem dX6_init_167 : decode cX6_init 167 = .ok (.pop, 1) := by decide +kernel
theorem dX6_init_168 : decode cX6_init 168 = .ok (.iinc 1 1, 3) := by decide +kernel
theorem dX6_init_171 : decode cX6_init 171 = .ok (.goto (-17), 3) := by decide +kernel
theorem dX6_init_174 : decode cX6_init 174 = .ok (.return_, 1) := by decide +kernel
set_option maxRecDepth 20000 in
theorem ggX6_copyFrom_X8_copyFrom : GoodIn wsX6_copyFrom wsX8_copyFrom := goodIn_r _ [13, 14, 15, 16, 17, 18, 19, 20, 29, 30, 31] rfl (by decide +kernel)
set_option maxRecDepth 20000 in
theorem gX6_copyFrom_X8_copyFrom : GoodIn wsX6_copyFrom (wsV RX6 50 RX8 yX8_copyFrom wsX8_copyFrom) := goodIn_app (goodIn_of _ (by decide +kernel)) ggX6_copyFrom_X8_copyFrom
theorem dX6_copyFrom_0 : decode cX6_copyFrom 0 = .ok (.aload_n 0, 1) := by decide +kernel
