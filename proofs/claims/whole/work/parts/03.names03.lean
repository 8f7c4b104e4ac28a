theorem dX6_copyFrom_1 : decode cX6_copyFrom 1 = .ok (.getfield 14, 3) := by decide +kernel
theorem dX6_copyFrom_4 : decode cX6_copyFrom 4 = .ok (.aload_n 1, 1) := by decide +kernel
theorem dX6_copyFrom_5 : decode cX6_copyFrom 5 = .ok (.getfield 14, 3) := by decide +kernel
theorem dX6_copyFrom_8 : decode cX6_copyFrom 8 = .ok (.invokevirtual 50, 3) := by decide +kernel
theorem dX6_copyFrom_11 : decode cX6_copyFrom 11 = .ok (.aload_n 0, 1) := by decide +kernel
theorem dX6_copyFrom_12 : decode cX6_copyFrom 12 = .ok (.getfield 20, 3) := by decide +kernel
theorem dX6_copyFrom_15 : decode cX6_copyFrom 15 = .ok (.aload_n 1, 1) := by decide +kernel
theorem dX6_copyFrom_16 : decode cX6_copyFrom 16 = .ok (.getfield 20, 3) := by decide +kernel
theorem dX6_copyFrom_19 : decode cX6_copyFrom 19 = .ok (.invokevirtual 50, 3) := by decide +kernel
theorem dX6_copyFrom_22 : decode cX6_copyFrom 22 = .ok (.aload_n 0, 1) := by decide +kernel
theorem dX6_copyFrom_23 : decode cX6_copyFrom 23 = .ok (.getfield 23, 3) := by decide +kernel
theorem dX6_copyFrom_26 : decode cX6_copyFrom 26 = .ok (.aload_n 1, 1) := by decide +kernel
theorem dX6_copyFrom_27 : decode cX6_copyFrom 27 = .ok (.getfield 23, 3) := by decide +kernel
theorem dX6_copyFrom_30 : decode cX6_copyFrom 30 = .ok (.invokevirtual 50, 3) := by decide +kernel
theorem dX6_copyFrom_33 : decode cX6_copyFrom 33 = .ok (.aload_n 0, 1) := by decide +kernel
theorem dX6_copyFrom_34 : decode cX6_copyFrom 34 = .ok (.getfield 26, 3) := by decide +kernel
theorem dX6_copyFrom_37 : decode cX6_copyFrom 37 = .ok (.aload_n 1, 1) := by decide +kernel
theorem dX6_copyFrom_38 : decode cX6_copyFrom 38 = .ok (.getfield 26, 3) := by decide +kernel
theorem dX6_copyFrom_41 : decode cX6_copyFrom 41 = .ok (.invokevirtual 50, 3) := by decide +kernel
theorem dX6_copyFrom_44 : decode cX6_copyFrom 44 = .ok (.aload_n 0, 1) := by decide +kernel
theorem dX6_copyFrom_45 : decode cX6_copyFrom 45 = .ok (.getfield 29, 3) := by decide +kernel
theorem dX6_copyFrom_48 : decode cX6_copyFrom 48 = .ok (.aload_n 1, 1) := by decide +kernel
theorem dX6_copyFrom_49 : decode cX6_copyFrom 49 = .ok (.getfield 29, 3) := by decide +kernel
theorem dX6_copyFrom_52 : decode cX6_copyFrom 52 = .ok (.invokevirtual 50, 3) := by decide +kernel
theorem dX6_copyFrom_55 : decode cX6_copyFrom 55 = .ok (.aload_n 0, 1) := by decide +kernel
theorem dX6_copyFrom_56 : decode cX6_copyFrom 56 = .ok (.getfield 32, 3) := by decide +kernel
theorem dX6_copyFrom_59 : decode cX6_copyFrom 59 = .ok (.aload_n 1, 1) := by decide +kernel
theorem dX6_copyFrom_60 : decode cX6_copyFrom 60 = .ok (.getfield 32, 3) := by decide +kernel
theorem dX6_copyFrom_63 : decode cX6_copyFrom 63 = .ok (.invokevirtual 50, 3) := by decide +kernel
theorem dX6_copyFrom_66 : decode cX6_copyFrom 66 = .ok (.aload_n 0, 1) := by decide +kernel
theorem dX6_copyFrom_67 : decode cX6_copyFrom 67 = .ok (.getfield 35, 3) := by decide +kernel
theorem dX6_copyFrom_70 : decode cX6_copyFrom 70 = .ok (.aload_n 1, 1) := by decide +kernel
theorem dX6_copyFrom_71 : decode cX6_copyFrom 71 = .ok (.getfield 35, 3) := by decide +kernel
theorem dX6_copyFrom_74 : decode cX6_copyFrom 74 = .ok (.invokevirtual 50, 3) := by decide +kernel
theorem dX6_copyFrom_77 : decode cX6_copyFrom 77 = .ok (.aload_n 0, 1) := by decide +kernel
theorem dX6_copyFrom_78 : decode cX6_copyFrom 78 = .ok (.aload_n 1, 1) := by decide +kernel
theorem dX6_copyFrom_79 : decode cX6_copyFrom 79 = .ok (.getfield 38, 3) := by decide +kernel
theorem dX6_copyFrom_82 : decode cX6_copyFrom 82 = .ok (.putfield 38, 3) := by decide +kernel
theorem dX6_copyFrom_85 : decode cX6_copyFrom 85 = .ok (.return_, 1) := by decide +kernel
theorem dX6_isInRange_0 : decode cX6_isInRange 0 = .ok (.iload_n 0, 1) := by decide +kernel
theorem dX6_isInRange_1 : decode cX6_isInRange 1 = .ok (.tableswitch 77 0 2 #[27, 43, 60], 27) := by decide +kernel
theorem dX6_isInRange_28 : decode cX6_isInRange 28 = .ok (.iload_n 1, 1) := by decide +kernel
theorem dX6_isInRange_29 : decode cX6_isInRange 29 = .ok (.ifCond .lt 13, 3) := by decide +kernel
theorem dX6_isInRange_32 : decode cX6_isInRange 32 = .ok (.iload_n 1, 1) := by decide +kernel
theorem dX6_isInRange_33 : decode cX6_isInRange 33 = .ok (.bipush 6, 2) := by decide +kernel
theorem dX6_isInRange_35 : decode cX6_isInRange 35 = .ok (.if_icmp .ge 7, 3) := by decide +kernel
theorem dX6_isInRange_38 : decode cX6_isInRange 38 = .ok (.iconst 1, 1) := by decide +kernel
theorem dX6_isInRange_39 : decode cX6_isInRange 39 = .ok (.goto 4, 3) := by decide +kernel
theorem dX6_isInRange_42 : decode cX6_isInRange 42 = .ok (.iconst 0, 1) := by decide +kernel
theorem dX6_isInRange_43 : decode cX6_isInRange 43 = .ok (.ireturn, 1) := by decide +kernel
theorem dX6_isInRange_44 : decode cX6_isInRange 44 = .ok (.iload_n 1, 1) := by decide +kernel
theorem dX6_isInRange_45 : decode cX6_isInRange 45 = .ok (.iconst 1, 1) := by decide +kernel
theorem dX6_isInRange_46 : decode cX6_isInRange 46 = .ok (.if_icmp .lt 13, 3) := by decide +kernel
theorem dX6_isInRange_49 : decode cX6_isInRange 49 = .ok (.iload_n 1, 1) := by decide +kernel
theorem dX6_isInRange_50 : decode cX6_isInRange 50 = .ok (.bipush 9, 2) := by decide +kernel
theorem dX6_isInRange_52 : decode cX6_isInRange 52 = .ok (.if_icmp .gt 7, 3) := by decide +kernel
theorem dX6_isInRange_55 : decode cX6_isInRange 55 = .ok (.iconst 1, 1) := by decide +kernel
theorem dX6_isInRange_56 : decode cX6_isInRange 56 = .ok (.goto 4, 3) := by decide +kernel
theorem dX6_isInRange_59 : decode cX6_isInRange 59 = .ok (.iconst 0, 1) := by decide +kernel
theorem dX6_isInRange_60 : decode cX6_isInRange 60 = .ok (.ireturn, 1) := by decide +kernel
theorem dX6_isInRange_61 : decode cX6_isInRange 61 = .ok (.iload_n 1, 1) := by decide +kernel
theorem dX6_isInRange_62 : decode cX6_isInRange 62 = .ok (.iconst 1, 1) := by decide +kernel
theorem dX6_isInRange_63 : decode cX6_isInRange 63 = .ok (.if_icmp .lt 13, 3) := by decide +kernel
theorem dX6_isInRange_66 : decode cX6_isInRange 66 = .ok (.iload_n 1, 1) := by decide +kernel
theorem dX6_isInRange_67 : decode cX6_isInRange 67 = .ok (.bipush 99, 2) := by decide +kernel
theorem dX6_isInRange_69 : decode cX6_isInRange 69 = .ok (.if_icmp .gt 7, 3) := by decide +kernel
theorem dX6_isInRange_72 : decode cX6_isInRange 72 = .ok (.iconst 1, 1) := by decide +kernel
theorem dX6_isInRange_73 : decode cX6_isInRange 73 = .ok (.goto 4, 3) := by decide +kernel
theorem dX6_isInRange_76 : decode cX6_isInRange 76 = .ok (.iconst 0, 1) := by decide +kernel
theorem dX6_isInRange_77 : decode cX6_isInRange 77 = .ok (.ireturn, 1) := by decide +kernel
theorem dX6_isInRange_78 : decode cX6_isInRange 78 = .ok (.iload_n 1, 1) := by decide +kernel
theorem dX6_isInRange_79 : decode cX6_isInRange 79 = .ok (.ifCond .lt 14, 3) := by decide +kernel
theorem dX6_isInRange_82 : decode cX6_isInRange 82 = .ok (.iload_n 1, 1) := by decide +kernel
theorem dX6_isInRange_83 : decode cX6_isInRange 83 = .ok (.sipush 10000, 3) := by decide +kernel
theorem dX6_isInRange_86 : decode cX6_isInRange 86 = .ok (.if_icmp .gt 7, 3) := by decide +kernel
theorem dX6_isInRange_89 : decode cX6_isInRange 89 = .ok (.iconst 1, 1) := by decide +kernel
theorem dX6_isInRange_90 : decode cX6_isInRange 90 = .ok (.goto 4, 3) := by decide +kernel
theorem dX6_isInRange_93 : decode cX6_isInRange 93 = .ok (.iconst 0, 1) := by decide +kernel
theorem dX6_isInRange_94 : decode cX6_isInRange 94 = .ok (.ireturn, 1) := by decide +kernel
set_option maxRecDepth 20000 in
theorem ggX6_addStone_X8_add : GoodIn wsX6_addStone wsX8_add := goodIn_r _ [6, 7, 8, 9, 10, 11, 5, 12, 13, 14, 15, 16, 17, 27, 28, 29] rfl (by decide +kernel)
set_option maxRecDepth 20000 in
theorem gX6_addStone_X8_add : GoodIn wsX6_addStone (wsV RX6 42 RX8 yX8_add wsX8_add) := goodIn_app (goodIn_of _ (by decide +kernel)) ggX6_addStone_X8_add
set_option maxRecDepth 20000 in
theorem ggX6_addStone_X8_set : GoodIn wsX6_addStone wsX8_set := goodIn_r _ [17, 7, 8, 13, 27, 28, 29] rfl (by decide +kernel)
set_option maxRecDepth 20000 in
theorem gX6_addStone_X8_set : GoodIn wsX6_addStone (wsV RX6 46 RX8 yX8_set wsX8_set) := goodIn_app (goodIn_of _ (by decide +kernel)) ggX6_addStone_X8_set
theorem dX6_addStone_0 : decode cX6_addStone 0 = .ok (.aload_n 0, 1) := by decide +kernel
theorem dX6_addStone_1 : decode cX6_addStone 1 = .ok (.getfield 14, 3) := by decide +kernel
theorem dX6_addStone_4 : decode cX6_addStone 4 = .ok (.invokevirtual 42, 3) := by decide +kernel
theorem dX6_addStone_7 : decode cX6_addStone 7 = .ok (.istore 6, 2) := by decide +kernel
theorem dX6_addStone_9 : decode cX6_addStone 9 = .ok (.aload_n 0, 1) := by decide +kernel
theorem dX6_addStone_10 : decode cX6_addStone 10 = .ok (.getfield 14, 3) := by decide +kernel
theorem dX6_addStone_13 : decode cX6_addStone 13 = .ok (.iload 6, 2) := by decide +kernel
theorem dX6_addStone_15 : decode cX6_addStone 15 = .ok (.iconst 4, 1) := by decide +kernel
theorem dX6_addStone_16 : decode cX6_addStone 16 = .ok (.iload_n 1, 1) := by decide +kernel
theorem dX6_addStone_17 : decode cX6_addStone 17 = .ok (.invokevirtual 46, 3) := by decide +kernel
theorem dX6_addStone_20 : decode cX6_addStone 20 = .ok (.aload_n 0, 1) := by decide +kernel
theorem dX6_addStone_21 : decode cX6_addStone 21 = .ok (.getfield 14, 3) := by decide +kernel
theorem dX6_addStone_24 : decode cX6_addStone 24 = .ok (.iload 6, 2) := by decide +kernel
theorem dX6_addStone_26 : decode cX6_addStone 26 = .ok (.iconst 0, 1) := by decide +kernel
theorem dX6_addStone_27 : decode cX6_addStone 27 = .ok (.iload_n 2, 1) := by decide +kernel
theorem dX6_addStone_28 : decode cX6_addStone 28 = .ok (.invokevirtual 46, 3) := by decide +kernel
theorem dX6_addStone_31 : decode cX6_addStone 31 = .ok (.aload_n 0, 1) := by decide +kernel
theorem dX6_addStone_32 : decode cX6_addStone 32 = .ok (.getfield 14, 3) := by decide +kernel
theorem dX6_addStone_35 : decode cX6_addStone 35 = .ok (.iload 6, 2) := by decide +kernel
theorem dX6_addStone_37 : decode cX6_addStone 37 = .ok (.iconst 1, 1) := by decide +kernel
theorem dX6_addStone_38 : decode cX6_addStone 38 = .ok (.iload_n 3, 1) := by decide +kernel
theorem dX6_addStone_39 : decode cX6_addStone 39 = .ok (.invokevirtual 46, 3) := by decide +kernel
theorem dX6_addStone_42 : decode cX6_addStone 42 = .ok (.aload_n 0, 1) := by decide +kernel
theorem dX6_addStone_43 : decode cX6_addStone 43 = .ok (.getfield 14, 3) := by decide +kernel
theorem dX6_addStone_46 : decode cX6_addStone 46 = .ok (.iload 6, 2) := by decide +kernel
theorem dX6_addStone_48 : decode cX6_addStone 48 = .ok (.iconst 2, 1) := by decide +kernel
theorem dX6_addStone_49 : decode cX6_addStone 49 = .ok (.iload 4, 2) := by decide +kernel
theorem dX6_addStone_51 : decode cX6_addStone 51 = .ok (.invokevirtual 46, 3) := by decide +kernel
theorem dX6_addStone_54 : decode cX6_addStone 54 = .ok (.aload_n 0, 1) := by decide +kernel
theorem dX6_addStone_55 : decode cX6_addStone 55 = .ok (.getfield 14, 3) := by decide +kernel
theorem dX6_addStone_58 : decode cX6_addStone 58 = .ok (.iload 6, 2) := by decide +kernel
theorem dX6_addStone_60 : decode cX6_addStone 60 = .ok (.iconst 3, 1) := by decide +kernel
theorem dX6_addStone_61 : decode cX6_addStone 61 = .ok (.iload 5, 2) := by decide +kernel
theorem dX6_addStone_63 : decode cX6_addStone 63 = .ok (.invokevirtual 46, 3) := by decide +kernel
theorem dX6_addStone_66 : decode cX6_addStone 66 = .ok (.aload_n 0, 1) := by decide +kernel
theorem dX6_addStone_67 : decode cX6_addStone 67 = .ok (.getfield 14, 3) := by decide +kernel
theorem dX6_addStone_70 : decode cX6_addStone 70 = .ok (.iload 6, 2) := by decide +kernel
theorem dX6_addStone_72 : decode cX6_addStone 72 = .ok (.iconst 5, 1) := by decide +kernel
theorem dX6_addStone_73 : decode cX6_addStone 73 = .ok (.iconst (-1), 1) := by decide +kernel
theorem dX6_addStone_74 : decode cX6_addStone 74 = .ok (.invokevirtual 46, 3) := by decide +kernel
theorem dX6_addStone_77 : decode cX6_addStone 77 = .ok (.aload_n 0, 1) := by decide +kernel
theorem dX6_addStone_78 : decode cX6_addStone 78 = .ok (.getfield 14, 3) := by decide +kernel
theorem dX6_addStone_81 : decode cX6_addStone 81 = .ok (.iload 6, 2) := by decide +kernel
theorem dX6_addStone_83 : decode cX6_addStone 83 = .ok (.bipush 6, 2) := by decide +kernel
theorem dX6_addStone_85 : decode cX6_addStone 85 = .ok (.sipush 5000, 3) := by decide +kernel
theorem dX6_addStone_88 : decode cX6_addStone 88 = .ok (.invokevirtual 46, 3) := by decide +kernel
theorem dX6_addStone_91 : decode cX6_addStone 91 = .ok (.iload 6, 2) := by decide +kernel
theorem dX6_addStone_93 : decode cX6_addStone 93 = .ok (.ireturn, 1) := by decide +kernel
set_option maxRecDepth 20000 in
theorem ggX6_numberOf_X8_size : GoodIn wsX6_numberOf wsX8_size := goodIn_r _ [6, 7, 22, 23, 24] rfl (by decide +kernel)
set_option maxRecDepth 20000 in
theorem gX6_numberOf_X8_size : GoodIn wsX6_numberOf (wsV RX6 54 RX8 yX8_size wsX8_size) := goodIn_app (goodIn_of _ (by decide +kernel)) ggX6_numberOf_X8_size
set_option maxRecDepth 20000 in
theorem ggX6_numberOf_X8_get : GoodIn wsX6_numberOf wsX8_get := goodIn_r _ [11, 7, 12, 13, 22, 23, 24] rfl (by decide +kernel)
set_option maxRecDepth 20000 in
theorem gX6_numberOf_X8_get : GoodIn wsX6_numberOf (wsV RX6 57 RX8 yX8_get wsX8_get) := goodIn_app (goodIn_of _ (by decide +kernel)) ggX6_numberOf_X8_get
theorem dX6_numberOf_0 : decode cX6_numberOf 0 = .ok (.iconst 0, 1) := by decide +kernel
theorem dX6_numberOf_1 : decode cX6_numberOf 1 = .ok (.istore_n 2, 1) := by decide +kernel
theorem dX6_numberOf_2 : decode cX6_numberOf 2 = .ok (.iload_n 2, 1) := by decide +kernel
theorem dX6_numberOf_3 : decode cX6_numberOf 3 = .ok (.aload_n 0, 1) := by decide +kernel
theorem dX6_numberOf_4 : decode cX6_numberOf 4 = .ok (.getfield 14, 3) := by decide +kernel
theorem dX6_numberOf_7 : decode cX6_numberOf 7 = .ok (.invokevirtual 54, 3) := by decide +kernel
theorem dX6_numberOf_10 : decode cX6_numberOf 10 = .ok (.if_icmp .ge 24, 3) := by decide +kernel
theorem dX6_numberOf_13 : decode cX6_numberOf 13 = .ok (.aload_n 0, 1) := by decide +kernel
theorem dX6_numberOf_14 : decode cX6_numberOf 14 = .ok (.getfield 14, 3) := by decide +kernel
theorem dX6_numberOf_17 : decode cX6_numberOf 17 = .ok (.iload_n 2, 1) := by decide +kernel
theorem dX6_numberOf_18 : decode cX6_numberOf 18 = .ok (.iconst 4, 1) := by decide +kernel
theorem dX6_numberOf_19 : decode cX6_numberOf 19 = .ok (.invokevirtual 57, 3) := by decide +kernel
theorem dX6_numberOf_22 : decode cX6_numberOf 22 = .ok (.iload_n 1, 1) := by decide +kernel
theorem dX6_numberOf_23 : decode cX6_numberOf 23 = .ok (.if_icmp .ne 5, 3) := by decide +kernel
theorem dX6_numberOf_26 : decode cX6_numberOf 26 = .ok (.iload_n 2, 1) := by decide +kernel
theorem dX6_numberOf_27 : decode cX6_numberOf 27 = .ok (.ireturn, 1) := by decide +kernel
theorem dX6_numberOf_28 : decode cX6_numberOf 28 = .ok (.iinc 2 1, 3) := by decide +kernel
theorem dX6_numberOf_31 : decode cX6_numberOf 31 = .ok (.goto (-29), 3) := by decide +kernel
theorem dX6_numberOf_34 : decode cX6_numberOf 34 = .ok (.iconst (-1), 1) := by decide +kernel
theorem dX6_numberOf_35 : decode cX6_numberOf 35 = .ok (.ireturn, 1) := by decide +kernel
set_option maxRecDepth 20000 in
theorem ggX6_placeOf_X8_size : GoodIn wsX6_placeOf wsX8_size := goodIn_r _ [6, 7, 22, 23, 24] rfl (by decide +kernel)
set_option maxRecDepth 20000 in
theorem gX6_placeOf_X8_size : GoodIn wsX6_placeOf (wsV RX6 54 RX8 yX8_size wsX8_size) := goodIn_app (goodIn_of _ (by decide +kernel)) ggX6_placeOf_X8_size
set_option maxRecDepth 20000 in
theorem ggX6_placeOf_X8_get : GoodIn wsX6_placeOf wsX8_get := goodIn_r _ [11, 7, 12, 13, 22, 23, 24] rfl (by decide +kernel)
set_option maxRecDepth 20000 in
theorem gX6_placeOf_X8_get : GoodIn wsX6_placeOf (wsV RX6 57 RX8 yX8_get wsX8_get) := goodIn_app (goodIn_of _ (by decide +kernel)) ggX6_placeOf_X8_get
theorem dX6_placeOf_0 : decode cX6_placeOf 0 = .ok (.iconst 0, 1) := by decide +kernel
theorem dX6_placeOf_1 : decode cX6_placeOf 1 = .ok (.istore_n 2, 1) := by decide +kernel
theorem dX6_placeOf_2 : decode cX6_placeOf 2 = .ok (.iconst 0, 1) := by decide +kernel
theorem dX6_placeOf_3 : decode cX6_placeOf 3 = .ok (.istore_n 3, 1) := by decide +kernel
theorem dX6_placeOf_4 : decode cX6_placeOf 4 = .ok (.iload_n 3, 1) := by decide +kernel
theorem dX6_placeOf_5 : decode cX6_placeOf 5 = .ok (.aload_n 0, 1) := by decide +kernel
theorem dX6_placeOf_6 : decode cX6_placeOf 6 = .ok (.getfield 14, 3) := by decide +kernel
theorem dX6_placeOf_9 : decode cX6_placeOf 9 = .ok (.invokevirtual 54, 3) := by decide +kernel
theorem dX6_placeOf_12 : decode cX6_placeOf 12 = .ok (.if_icmp .ge 33, 3) := by decide +kernel
theorem dX6_placeOf_15 : decode cX6_placeOf 15 = .ok (.aload_n 0, 1) := by decide +kernel
theorem dX6_placeOf_16 : decode cX6_placeOf 16 = .ok (.getfield 14, 3) := by decide +kernel
theorem dX6_placeOf_19 : decode cX6_placeOf 19 = .ok (.iload_n 3, 1) := by decide +kernel
theorem dX6_placeOf_20 : decode cX6_placeOf 20 = .ok (.iconst 4, 1) := by decide +kernel
theorem dX6_placeOf_21 : decode cX6_placeOf 21 = .ok (.invokevirtual 57, 3) := by decide +kernel
theorem dX6_placeOf_24 : decode cX6_placeOf 24 = .ok (.aload_n 0, 1) := by decide +kernel
theorem dX6_placeOf_25 : decode cX6_placeOf 25 = .ok (.getfield 14, 3) := by decide +kernel
theorem dX6_placeOf_28 : decode cX6_placeOf 28 = .ok (.iload_n 1, 1) := by decide +kernel
theorem dX6_placeOf_29 : decode cX6_placeOf 29 = .ok (.iconst 4, 1) := by decide +kernel
theorem dX6_placeOf_30 : decode cX6_placeOf 30 = .ok (.invokevirtual 57, 3) := by decide +kernel
theorem dX6_placeOf_33 : decode cX6_placeOf 33 = .ok (.if_icmp .ge 6, 3) := by decide +kernel
theorem dX6_placeOf_36 : decode cX6_placeOf 36 = .ok (.iinc 2 1, 3) := by decide +kernel
theorem dX6_placeOf_39 : decode cX6_placeOf 39 = .ok (.iinc 3 1, 3) := by decide +kernel
theorem dX6_placeOf_42 : decode cX6_placeOf 42 = .ok (.goto (-38), 3) := by decide +kernel
theorem dX6_placeOf_45 : decode cX6_placeOf 45 = .ok (.iload_n 2, 1) := by decide +kernel
theorem dX6_placeOf_46 : decode cX6_placeOf 46 = .ok (.ireturn, 1) := by decide +kernel
set_option maxRecDepth 20000 in
theorem ggX6_countIn_X8_size : GoodIn wsX6_countIn wsX8_size := goodIn_r _ [6, 7, 22, 23, 24] rfl (by decide +kernel)
set_option maxRecDepth 20000 in
theorem gX6_countIn_X8_size : GoodIn wsX6_countIn (wsV RX6 54 RX8 yX8_size wsX8_size) := goodIn_app (goodIn_of _ (by decide +kernel)) ggX6_countIn_X8_size
set_option maxRecDepth 20000 in
theorem ggX6_countIn_X8_get : GoodIn wsX6_countIn wsX8_get := goodIn_r _ [11, 7, 12, 13, 22, 23, 24] rfl (by decide +kernel)
set_option maxRecDepth 20000 in
theorem gX6_countIn_X8_get : GoodIn wsX6_countIn (wsV RX6 57 RX8 yX8_get wsX8_get) := goodIn_app (goodIn_of _ (by decide +kernel)) ggX6_countIn_X8_get
theorem dX6_countIn_0 : decode cX6_countIn 0 = .ok (.iconst 0, 1) := by decide +kernel
theorem dX6_countIn_1 : decode cX6_countIn 1 = .ok (.istore_n 2, 1) := by decide +kernel
theorem dX6_countIn_2 : decode cX6_countIn 2 = .ok (.iconst 0, 1) := by decide +kernel
theorem dX6_countIn_3 : decode cX6_countIn 3 = .ok (.istore_n 3, 1) := by decide +kernel
theorem dX6_countIn_4 : decode cX6_countIn 4 = .ok (.iload_n 3, 1) := by decide +kernel
theorem dX6_countIn_5 : decode cX6_countIn 5 = .ok (.aload_n 0, 1) := by decide +kernel
theorem dX6_countIn_6 : decode cX6_countIn 6 = .ok (.getfield 14, 3) := by decide +kernel
theorem dX6_countIn_9 : decode cX6_countIn 9 = .ok (.invokevirtual 54, 3) := by decide +kernel
theorem dX6_countIn_12 : decode cX6_countIn 12 = .ok (.if_icmp .ge 25, 3) := by decide +kernel
theorem dX6_countIn_15 : decode cX6_countIn 15 = .ok (.aload_n 0, 1) := by decide +kernel
theorem dX6_countIn_16 : decode cX6_countIn 16 = .ok (.getfield 14, 3) := by decide +kernel
theorem dX6_countIn_19 : decode cX6_countIn 19 = .ok (.iload_n 3, 1) := by decide +kernel
theorem dX6_countIn_20 : decode cX6_countIn 20 = .ok (.iconst 5, 1) := by decide +kernel
theorem dX6_countIn_21 : decode cX6_countIn 21 = .ok (.invokevirtual 57, 3) := by decide +kernel
theorem dX6_countIn_24 : decode cX6_countIn 24 = .ok (.iload_n 1, 1) := by decide +kernel
theorem dX6_countIn_25 : decode cX6_countIn 25 = .ok (.if_icmp .ne 6, 3) := by decide +kernel
theorem dX6_countIn_28 : decode cX6_countIn 28 = .ok (.iinc 2 1, 3) := by decide +kernel
theorem dX6_countIn_31 : decode cX6_countIn 31 = .ok (.iinc 3 1, 3) := by decide +kernel
theorem dX6_countIn_34 : decode cX6_countIn 34 = .ok (.goto (-30), 3) := by decide +kernel
theorem dX6_countIn_37 : decode cX6_countIn 37 = .ok (.iload_n 2, 1) := by decide +kernel
theorem dX6_countIn_38 : decode cX6_countIn 38 = .ok (.ireturn, 1) := by decide +kernel
set_option maxRecDepth 20000 in
theorem ggX6_sumIn_X8_size : GoodIn wsX6_sumIn wsX8_size := goodIn_r _ [6, 7, 22, 23, 24] rfl (by decide +kernel)
set_option maxRecDepth 20000 in
theorem gX6_sumIn_X8_size : GoodIn wsX6_sumIn (wsV RX6 54 RX8 yX8_size wsX8_size) := goodIn_app (goodIn_of _ (by decide +kernel)) ggX6_sumIn_X8_size
set_option maxRecDepth 20000 in
theorem ggX6_sumIn_X8_get : GoodIn wsX6_sumIn wsX8_get := goodIn_r _ [11, 7, 12, 13, 22, 23, 24] rfl (by decide +kernel)
set_option maxRecDepth 20000 in
theorem gX6_sumIn_X8_get : GoodIn wsX6_sumIn (wsV RX6 57 RX8 yX8_get wsX8_get) := goodIn_app (goodIn_of _ (by decide +kernel)) ggX6_sumIn_X8_get
theorem dX6_sumIn_0 : decode cX6_sumIn 0 = .ok (.iconst 0, 1) := by decide +kernel
theorem dX6_sumIn_1 : decode cX6_sumIn 1 = .ok (.istore_n 3, 1) := by decide +kernel
theorem dX6_sumIn_2 : decode cX6_sumIn 2 = .ok (.iconst 0, 1) := by decide +kernel
theorem dX6_sumIn_3 : decode cX6_sumIn 3 = .ok (.istore 4, 2) := by decide +kernel
theorem dX6_sumIn_5 : decode cX6_sumIn 5 = .ok (.iload 4, 2) := by decide +kernel
theorem dX6_sumIn_7 : decode cX6_sumIn 7 = .ok (.aload_n 0, 1) := by decide +kernel
theorem dX6_sumIn_8 : decode cX6_sumIn 8 = .ok (.getfield 14, 3) := by decide +kernel
theorem dX6_sumIn_11 : decode cX6_sumIn 11 = .ok (.invokevirtual 54, 3) := by decide +kernel
theorem dX6_sumIn_14 : decode cX6_sumIn 14 = .ok (.if_icmp .ge 36, 3) := by decide +kernel
theorem dX6_sumIn_17 : decode cX6_sumIn 17 = .ok (.aload_n 0, 1) := by decide +kernel
theorem dX6_sumIn_18 : decode cX6_sumIn 18 = .ok (.getfield 14, 3) := by decide +kernel
theorem dX6_sumIn_21 : decode cX6_sumIn 21 = .ok (.iload 4, 2) := by decide +kernel
theorem dX6_sumIn_23 : decode cX6_sumIn 23 = .ok (.iconst 5, 1) := by decide +kernel
theorem dX6_sumIn_24 : decode cX6_sumIn 24 = .ok (.invokevirtual 57, 3) := by decide +kernel
theorem dX6_sumIn_27 : decode cX6_sumIn 27 = .ok (.iload_n 1, 1) := by decide +kernel
theorem dX6_sumIn_28 : decode cX6_sumIn 28 = .ok (.if_icmp .ne 16, 3) := by decide +kernel
theorem dX6_sumIn_31 : decode cX6_sumIn 31 = .ok (.iload_n 3, 1) := by decide +kernel
theorem dX6_sumIn_32 : decode cX6_sumIn 32 = .ok (.aload_n 0, 1) := by decide +kernel
theorem dX6_sumIn_33 : decode cX6_sumIn 33 = .ok (.getfield 14, 3) := by decide +kernel
theorem dX6_sumIn_36 : decode cX6_sumIn 36 = .ok (.iload 4, 2) := by decide +kernel
theorem dX6_sumIn_38 : decode cX6_sumIn 38 = .ok (.iload_n 2, 1) := by decide +kernel
theorem dX6_sumIn_39 : decode cX6_sumIn 39 = .ok (.invokevirtual 57, 3) := by decide +kernel
theorem dX6_sumIn_42 : decode cX6_sumIn 42 = .ok (.iadd, 1) := by decide +kernel
theorem dX6_sumIn_43 : decode cX6_sumIn 43 = .ok (.istore_n 3, 1) := by decide +kernel
theorem dX6_sumIn_44 : decode cX6_sumIn 44 = .ok (.iinc 4 1, 3) := by decide +kernel
theorem dX6_sumIn_47 : decode cX6_sumIn 47 = .ok (.goto (-42), 3) := by decide +kernel
theorem dX6_sumIn_50 : decode cX6_sumIn 50 = .ok (.iload_n 3, 1) := by decide +kernel
theorem dX6_sumIn_51 : decode cX6_sumIn 51 = .ok (.ireturn, 1) := by decide +kernel
set_option maxRecDepth 20000 in
theorem ggX6_areParted_X8_get : GoodIn wsX6_areParted wsX8_get := goodIn_r _ [6, 7, 8, 9, 18, 19, 20] rfl (by decide +kernel)
set_option maxRecDepth 20000 in
theorem gX6_areParted_X8_get : GoodIn wsX6_areParted (wsV RX6 57 RX8 yX8_get wsX8_get) := goodIn_app (goodIn_of _ (by decide +kernel)) ggX6_areParted_X8_get
theorem dX6_areParted_0 : decode cX6_areParted 0 = .ok (.aload_n 0, 1) := by decide +kernel
theorem dX6_areParted_1 : decode cX6_areParted 1 = .ok (.getfield 26, 3) := by decide +kernel
theorem dX6_areParted_4 : decode cX6_areParted 4 = .ok (.iload_n 1, 1) := by decide +kernel
theorem dX6_areParted_5 : decode cX6_areParted 5 = .ok (.iload_n 2, 1) := by decide +kernel
theorem dX6_areParted_6 : decode cX6_areParted 6 = .ok (.invokevirtual 57, 3) := by decide +kernel
theorem dX6_areParted_9 : decode cX6_areParted 9 = .ok (.ifCond .eq 7, 3) := by decide +kernel
theorem dX6_areParted_12 : decode cX6_areParted 12 = .ok (.iconst 1, 1) := by decide +kernel
theorem dX6_areParted_13 : decode cX6_areParted 13 = .ok (.goto 4, 3) := by decide +kernel
theorem dX6_areParted_16 : decode cX6_areParted 16 = .ok (.iconst 0, 1) := by decide +kernel
theorem dX6_areParted_17 : decode cX6_areParted 17 = .ok (.ireturn, 1) := by decide +kernel
set_option maxRecDepth 20000 in
theorem ggX6_setParted_X8_set : GoodIn wsX6_setParted wsX8_set := goodIn_r _ [6, 7, 8, 9, 18, 19, 20] rfl (by decide +kernel)
set_option maxRecDepth 20000 in
theorem gX6_setParted_X8_set : GoodIn wsX6_setParted (wsV RX6 46 RX8 yX8_set wsX8_set) := goodIn_app (goodIn_of _ (by decide +kernel)) ggX6_setParted_X8_set
theorem dX6_setParted_0 : decode cX6_setParted 0 = .ok (.aload_n 0, 1) := by decide +kernel
theorem dX6_setParted_1 : decode cX6_setParted 1 = .ok (.getfield 26, 3) := by decide +kernel
theorem dX6_setParted_4 : decode cX6_setParted 4 = .ok (.iload_n 1, 1) := by decide +kernel
theorem dX6_setParted_5 : decode cX6_setParted 5 = .ok (.iload_n 2, 1) := by decide +kernel
theorem dX6_setParted_6 : decode cX6_setParted 6 = .ok (.iload_n 3, 1) := by decide +kernel
theorem dX6_setParted_7 : decode cX6_setParted 7 = .ok (.ifCond .eq 7, 3) := by decide +kernel
theorem dX6_setParted_10 : decode cX6_setParted 10 = .ok (.iconst 1, 1) := by decide +kernel
theorem dX6_setParted_11 : decode cX6_setParted 11 = .ok (.goto 4, 3) := by decide +kernel
theorem dX6_setParted_14 : decode cX6_setParted 14 = .ok (.iconst 0, 1) := by decide +kernel
theorem dX6_setParted_15 : decode cX6_setParted 15 = .ok (.invokevirtual 46, 3) := by decide +kernel
theorem dX6_setParted_18 : decode cX6_setParted 18 = .ok (.aload_n 0, 1) := by decide +kernel
theorem dX6_setParted_19 : decode cX6_setParted 19 = .ok (.getfield 26, 3) := by decide +kernel
theorem dX6_setParted_22 : decode cX6_setParted 22 = .ok (.iload_n 2, 1) := by decide +kernel
theorem dX6_setParted_23 : decode cX6_setParted 23 = .ok (.iload_n 1, 1) := by decide +kernel
theorem dX6_setParted_24 : decode cX6_setParted 24 = .ok (.iload_n 3, 1) := by decide +kernel
theorem dX6_setParted_25 : decode cX6_setParted 25 = .ok (.ifCond .eq 7, 3) := by decide +kernel
theorem dX6_setParted_28 : decode cX6_setParted 28 = .ok (.iconst 1, 1) := by decide +kernel
theorem dX6_setParted_29 : decode cX6_setParted 29 = .ok (.goto 4, 3) := by decide +kernel
theorem dX6_setParted_32 : decode cX6_setParted 32 = .ok (.iconst 0, 1) := by decide +kernel
theorem dX6_setParted_33 : decode cX6_setParted 33 = .ok (.invokevirtual 46, 3) := by decide +kernel
theorem dX6_setParted_36 : decode cX6_setParted 36 = .ok (.return_, 1) := by decide +kernel
set_option maxRecDepth 20000 in
theorem ggX6_lieTogether_X8_size : GoodIn wsX6_lieTogether wsX8_size := goodIn_r _ [6, 7, 27, 28, 29] rfl (by decide +kernel)
set_option maxRecDepth 20000 in
theorem gX6_lieTogether_X8_size : GoodIn wsX6_lieTogether (wsV RX6 54 RX8 yX8_size wsX8_size) := goodIn_app (goodIn_of _ (by decide +kernel)) ggX6_lieTogether_X8_size
set_option maxRecDepth 20000 in
theorem ggX6_lieTogether_X6_areInOneDrawer : GoodIn wsX6_lieTogether wsX6_areInOneDrawer := goodIn_r _ [12, 1, 13, 14, 15, 5, 16, 7, 17, 18, 19, 20, 21, 22, 23, 24, 25, 26, 27, 28, 29] rfl (by decide +kernel)
set_option maxRecDepth 20000 in
theorem gX6_lieTogether_X6_areInOneDrawer : GoodIn wsX6_lieTogether (wsV RX6 61 RX6 yX6_areInOneDrawer wsX6_areInOneDrawer) := goodIn_app (goodIn_of _ (by decide +kernel)) ggX6_lieTogether_X6_areInOneDrawer
set_option maxRecDepth 20000 in
theorem ggX6_lieTogether_X8_get : GoodIn wsX6_lieTogether wsX8_get := goodIn_r _ [16, 7, 17, 18, 27, 28, 29] rfl (by decide +kernel)
set_option maxRecDepth 20000 in
theorem gX6_lieTogether_X8_get : GoodIn wsX6_lieTogether (wsV RX6 57 RX8 yX8_get wsX8_get) := goodIn_app (goodIn_of _ (by decide +kernel)) ggX6_lieTogether_X8_get
theorem dX6_lieTogether_0 : decode cX6_lieTogether 0 = .ok (.iconst 0, 1) := by decide +kernel
theorem dX6_lieTogether_1 : decode cX6_lieTogether 1 = .ok (.istore_n 3, 1) := by decide +kernel
theorem dX6_lieTogether_2 : decode cX6_lieTogether 2 = .ok (.iload_n 3, 1) := by decide +kernel
theorem dX6_lieTogether_3 : decode cX6_lieTogether 3 = .ok (.aload_n 0, 1) := by decide +kernel
theorem dX6_lieTogether_4 : decode cX6_lieTogether 4 = .ok (.getfield 14, 3) := by decide +kernel
theorem dX6_lieTogether_7 : decode cX6_lieTogether 7 = .ok (.invokevirtual 54, 3) := by decide +kernel
theorem dX6_lieTogether_10 : decode cX6_lieTogether 10 = .ok (.if_icmp .ge 69, 3) := by decide +kernel
theorem dX6_lieTogether_13 : decode cX6_lieTogether 13 = .ok (.iconst 0, 1) := by decide +kernel
theorem dX6_lieTogether_14 : decode cX6_lieTogether 14 = .ok (.istore 4, 2) := by decide +kernel
theorem dX6_lieTogether_16 : decode cX6_lieTogether 16 = .ok (.iload 4, 2) := by decide +kernel
theorem dX6_lieTogether_18 : decode cX6_lieTogether 18 = .ok (.aload_n 0, 1) := by decide +kernel
theorem dX6_lieTogether_19 : decode cX6_lieTogether 19 = .ok (.getfield 14, 3) := by decide +kernel
theorem dX6_lieTogether_22 : decode cX6_lieTogether 22 = .ok (.invokevirtual 54, 3) := by decide +kernel
theorem dX6_lieTogether_25 : decode cX6_lieTogether 25 = .ok (.if_icmp .ge 48, 3) := by decide +kernel
theorem dX6_lieTogether_28 : decode cX6_lieTogether 28 = .ok (.aload_n 0, 1) := by decide +kernel
theorem dX6_lieTogether_29 : decode cX6_lieTogether 29 = .ok (.iload_n 3, 1) := by decide +kernel
theorem dX6_lieTogether_30 : decode cX6_lieTogether 30 = .ok (.iload 4, 2) := by decide +kernel
theorem dX6_lieTogether_32 : decode cX6_lieTogether 32 = .ok (.invokevirtual 61, 3) := by decide +kernel
theorem dX6_lieTogether_35 : decode cX6_lieTogether 35 = .ok (.ifCond .eq 32, 3) := by decide +kernel
theorem dX6_lieTogether_38 : decode cX6_lieTogether 38 = .ok (.aload_n 0, 1) := by decide +kernel
theorem dX6_lieTogether_39 : decode cX6_lieTogether 39 = .ok (.getfield 14, 3) := by decide +kernel
theorem dX6_lieTogether_42 : decode cX6_lieTogether 42 = .ok (.iload_n 3, 1) := by decide +kernel
theorem dX6_lieTogether_43 : decode cX6_lieTogether 43 = .ok (.iconst 0, 1) := by decide +kernel
theorem dX6_lieTogether_44 : decode cX6_lieTogether 44 = .ok (.invokevirtual 57, 3) := by decide +kernel
theorem dX6_lieTogether_47 : decode cX6_lieTogether 47 = .ok (.iload_n 1, 1) := by decide +kernel
theorem dX6_lieTogether_48 : decode cX6_lieTogether 48 = .ok (.if_icmp .ne 19, 3) := by decide +kernel
theorem dX6_lieTogether_51 : decode cX6_lieTogether 51 = .ok (.aload_n 0, 1) := by decide +kernel
theorem dX6_lieTogether_52 : decode cX6_lieTogether 52 = .ok (.getfield 14, 3) := by decide +kernel
theorem dX6_lieTogether_55 : decode cX6_lieTogether 55 = .ok (.iload 4, 2) := by decide +kernel
theorem dX6_lieTogether_57 : decode cX6_lieTogether 57 = .ok (.iconst 0, 1) := by decide +kernel
theorem dX6_lieTogether_58 : decode cX6_lieTogether 58 = .ok (.invokevirtual 57, 3) := by decide +kernel
theorem dX6_lieTogether_61 : decode cX6_lieTogether 61 = .ok (.iload_n 2, 1) := by decide +kernel
theorem dX6_lieTogether_62 : decode cX6_lieTogether 62 = .ok (.if_icmp .ne 5, 3) := by decide +kernel
theorem dX6_lieTogether_65 : decode cX6_lieTogether 65 = .ok (.iconst 1, 1) := by decide +kernel
theorem dX6_lieTogether_66 : decode cX6_lieTogether 66 = .ok (.ireturn, 1) := by decide +kernel
theorem dX6_lieTogether_67 : decode cX6_lieTogether 67 = .ok (.iinc 4 1, 3) := by decide +kernel
theorem dX6_lieTogether_70 : decode cX6_lieTogether 70 = .ok (.goto (-54), 3) := by decide +kernel
theorem dX6_lieTogether_73 : decode cX6_lieTogether 73 = .ok (.iinc 3 1, 3) := by decide +kernel
theorem dX6_lieTogether_76 : decode cX6_lieTogether 76 = .ok (.goto (-74), 3) := by decide +kernel
theorem dX6_lieTogether_79 : decode cX6_lieTogether 79 = .ok (.iconst 0, 1) := by decide +kernel
theorem dX6_lieTogether_80 : decode cX6_lieTogether 80 = .ok (.ireturn, 1) := by decide +kernel
set_option maxRecDepth 20000 in
theorem ggX6_areInOneDrawer_X8_get : GoodIn wsX6_areInOneDrawer wsX8_get := goodIn_r _ [6, 7, 8, 9, 18, 19, 20] rfl (by decide +kernel)
set_option maxRecDepth 20000 in
theorem gX6_areInOneDrawer_X8_get : GoodIn wsX6_areInOneDrawer (wsV RX6 57 RX8 yX8_get wsX8_get) := goodIn_app (goodIn_of _ (by decide +kernel)) ggX6_areInOneDrawer_X8_get
theorem dX6_areInOneDrawer_0 : decode cX6_areInOneDrawer 0 = .ok (.aload_n 0, 1) := by decide +kernel
theorem dX6_areInOneDrawer_1 : decode cX6_areInOneDrawer 1 = .ok (.getfield 14, 3) := by decide +kernel
theorem dX6_areInOneDrawer_4 : decode cX6_areInOneDrawer 4 = .ok (.iload_n 1, 1) := by decide +kernel
theorem dX6_areInOneDrawer_5 : decode cX6_areInOneDrawer 5 = .ok (.iconst 5, 1) := by decide +kernel
theorem dX6_areInOneDrawer_6 : decode cX6_areInOneDrawer 6 = .ok (.invokevirtual 57, 3) := by decide +kernel
theorem dX6_areInOneDrawer_9 : decode cX6_areInOneDrawer 9 = .ok (.istore_n 3, 1) := by decide +kernel
theorem dX6_areInOneDrawer_10 : decode cX6_areInOneDrawer 10 = .ok (.iload_n 1, 1) := by decide +kernel
theorem dX6_areInOneDrawer_11 : decode cX6_areInOneDrawer 11 = .ok (.iload_n 2, 1) := by decide +kernel
theorem dX6_areInOneDrawer_12 : decode cX6_areInOneDrawer 12 = .ok (.if_icmp .eq 25, 3) := by decide +kernel
theorem dX6_areInOneDrawer_15 : decode cX6_areInOneDrawer 15 = .ok (.iload_n 3, 1) := by decide +kernel
theorem dX6_areInOneDrawer_16 : decode cX6_areInOneDrawer 16 = .ok (.iconst (-1), 1) := by decide +kernel
theorem dX6_areInOneDrawer_17 : decode cX6_areInOneDrawer 17 = .ok (.if_icmp .eq 20, 3) := by decide +kernel
theorem dX6_areInOneDrawer_20 : decode cX6_areInOneDrawer 20 = .ok (.iload_n 3, 1) := by decide +kernel
theorem dX6_areInOneDrawer_21 : decode cX6_areInOneDrawer 21 = .ok (.aload_n 0, 1) := by decide +kernel
theorem dX6_areInOneDrawer_22 : decode cX6_areInOneDrawer 22 = .ok (.getfield 14, 3) := by decide +kernel
theorem dX6_areInOneDrawer_25 : decode cX6_areInOneDrawer 25 = .ok (.iload_n 2, 1) := by decide +kernel
theorem dX6_areInOneDrawer_26 : decode cX6_areInOneDrawer 26 = .ok (.iconst 5, 1) := by decide +kernel
theorem dX6_areInOneDrawer_27 : decode cX6_areInOneDrawer 27 = .ok (.invokevirtual 57, 3) := by decide +kernel
theorem dX6_areInOneDrawer_30 : decode cX6_areInOneDrawer 30 = .ok (.if_icmp .ne 7, 3) := by decide +kernel
theorem dX6_areInOneDrawer_33 : decode cX6_areInOneDrawer 33 = .ok (.iconst 1, 1) := by decide +kernel
theorem dX6_areInOneDrawer_34 : decode cX6_areInOneDrawer 34 = .ok (.goto 4, 3) := by decide +kernel
theorem dX6_areInOneDrawer_37 : decode cX6_areInOneDrawer 37 = .ok (.iconst 0, 1) := by decide +kernel
theorem dX6_areInOneDrawer_38 : decode cX6_areInOneDrawer 38 = .ok (.ireturn, 1) := by decide +kernel
set_option maxRecDepth 20000 in
theorem ggX6_whyNot_X6_sumIn : GoodIn wsX6_whyNot wsX6_sumIn := goodIn_r _ [7, 2, 8, 9, 10, 11, 12, 13, 14, 15, 16, 17, 18, 19, 29, 30, 31, 32, 33, 34, 35, 36, 37, 38, 39] rfl (by decide +kernel)
set_option maxRecDepth 20000 in
theorem gX6_whyNot_X6_sumIn : GoodIn wsX6_whyNot (wsV RX6 65 RX6 yX6_sumIn wsX6_sumIn) := goodIn_app (goodIn_of _ (by decide +kernel)) ggX6_whyNot_X6_sumIn
set_option maxRecDepth 20000 in
theorem ggX6_whyNot_X8_get : GoodIn wsX6_whyNot wsX8_get := goodIn_r _ [17, 13, 18, 19, 37, 38, 39] rfl (by decide +kernel)
set_option maxRecDepth 20000 in
theorem gX6_whyNot_X8_get : GoodIn wsX6_whyNot (wsV RX6 57 RX8 yX8_get wsX8_get) := goodIn_app (goodIn_of _ (by decide +kernel)) ggX6_whyNot_X8_get
set_option maxRecDepth 20000 in
theorem ggX6_whyNot_X8_size : GoodIn wsX6_whyNot wsX8_size := goodIn_r _ [12, 13, 37, 38, 39] rfl (by decide +kernel)
set_option maxRecDepth 20000 in
theorem gX6_whyNot_X8_size : GoodIn wsX6_whyNot (wsV RX6 54 RX8 yX8_size wsX8_size) := goodIn_app (goodIn_of _ (by decide +kernel)) ggX6_whyNot_X8_size
set_option maxRecDepth 20000 in
theorem ggX6_whyNot_X6_areInOneDrawer : GoodIn wsX6_whyNot wsX6_areInOneDrawer := goodIn_r _ [23, 2, 14, 15, 16, 11, 17, 13, 18, 19, 29, 30, 31, 32, 33, 34, 35, 36, 37, 38, 39] rfl (by decide +kernel)
set_option maxRecDepth 20000 in
theorem gX6_whyNot_X6_areInOneDrawer : GoodIn wsX6_whyNot (wsV RX6 61 RX6 yX6_areInOneDrawer wsX6_areInOneDrawer) := goodIn_app (goodIn_of _ (by decide +kernel)) ggX6_whyNot_X6_areInOneDrawer
set_option maxRecDepth 20000 in
theorem ggX6_whyNot_X6_areParted : GoodIn wsX6_whyNot wsX6_areParted := goodIn_r _ [27, 28, 14, 15, 16, 11, 17, 13, 18, 19, 29, 30, 31, 32, 33, 34, 35, 36, 37, 38, 39] rfl (by decide +kernel)
set_option maxRecDepth 20000 in
theorem gX6_whyNot_X6_areParted : GoodIn wsX6_whyNot (wsV RX6 68 RX6 yX6_areParted wsX6_areParted) := goodIn_app (goodIn_of _ (by decide +kernel)) ggX6_whyNot_X6_areParted
theorem dX6_whyNot_0 : decode cX6_whyNot 0 = .ok (.aload_n 0, 1) := by decide +kernel
theorem dX6_whyNot_1 : decode cX6_whyNot 1 = .ok (.iload_n 1, 1) := by decide +kernel
theorem dX6_whyNot_2 : decode cX6_whyNot 2 = .ok (.iconst 1, 1) := by decide +kernel
theorem dX6_whyNot_3 : decode cX6_whyNot 3 = .ok (.invokevirtual 65, 3) := by decide +kernel
theorem dX6_whyNot_6 : decode cX6_whyNot 6 = .ok (.aload_n 0, 1) := by decide +kernel
theorem dX6_whyNot_7 : decode cX6_whyNot 7 = .ok (.getfield 23, 3) := by decide +kernel
theorem dX6_whyNot_10 : decode cX6_whyNot 10 = .ok (.iload_n 1, 1) := by decide +kernel
theorem dX6_whyNot_11 : decode cX6_whyNot 11 = .ok (.iconst 0, 1) := by decide +kernel
theorem dX6_whyNot_12 : decode cX6_whyNot 12 = .ok (.invokevirtual 57, 3) := by decide +kernel
theorem dX6_whyNot_15 : decode cX6_whyNot 15 = .ok (.if_icmp .le 5, 3) := by decide +kernel
theorem dX6_whyNot_18 : decode cX6_whyNot 18 = .ok (.iconst 1, 1) := by decide +kernel
theorem dX6_whyNot_19 : decode cX6_whyNot 19 = .ok (.ireturn, 1) := by decide +kernel
theorem dX6_whyNot_20 : decode cX6_whyNot 20 = .ok (.aload_n 0, 1) := by decide +kernel
theorem dX6_whyNot_21 : decode cX6_whyNot 21 = .ok (.iload_n 1, 1) := by decide +kernel
theorem dX6_whyNot_22 : decode cX6_whyNot 22 = .ok (.iconst 2, 1) := by decide +kernel
theorem dX6_whyNot_23 : decode cX6_whyNot 23 = .ok (.invokevirtual 65, 3) := by decide +kernel
theorem dX6_whyNot_26 : decode cX6_whyNot 26 = .ok (.aload_n 0, 1) := by decide +kernel
theorem dX6_whyNot_27 : decode cX6_whyNot 27 = .ok (.getfield 23, 3) := by decide +kernel
theorem dX6_whyNot_30 : decode cX6_whyNot 30 = .ok (.iload_n 1, 1) := by decide +kernel
theorem dX6_whyNot_31 : decode cX6_whyNot 31 = .ok (.iconst 1, 1) := by decide +kernel
theorem dX6_whyNot_32 : decode cX6_whyNot 32 = .ok (.invokevirtual 57, 3) := by decide +kernel
theorem dX6_whyNot_35 : decode cX6_whyNot 35 = .ok (.if_icmp .le 5, 3) := by decide +kernel
theorem dX6_whyNot_38 : decode cX6_whyNot 38 = .ok (.iconst 2, 1) := by decide +kernel
theorem dX6_whyNot_39 : decode cX6_whyNot 39 = .ok (.ireturn, 1) := by decide +kernel
theorem dX6_whyNot_40 : decode cX6_whyNot 40 = .ok (.iconst 0, 1) := by decide +kernel
theorem dX6_whyNot_41 : decode cX6_whyNot 41 = .ok (.istore_n 2, 1) := by decide +kernel
theorem dX6_whyNot_42 : decode cX6_whyNot 42 = .ok (.iload_n 2, 1) := by decide +kernel
theorem dX6_whyNot_43 : decode cX6_whyNot 43 = .ok (.aload_n 0, 1) := by decide +kernel
theorem dX6_whyNot_44 : decode cX6_whyNot 44 = .ok (.getfield 14, 3) := by decide +kernel
theorem dX6_whyNot_47 : decode cX6_whyNot 47 = .ok (.invokevirtual 54, 3) := by decide +kernel
theorem dX6_whyNot_50 : decode cX6_whyNot 50 = .ok (.if_icmp .ge 71, 3) := by decide +kernel
theorem dX6_whyNot_53 : decode cX6_whyNot 53 = .ok (.iconst 0, 1) := by decide +kernel
theorem dX6_whyNot_54 : decode cX6_whyNot 54 = .ok (.istore_n 3, 1) := by decide +kernel
theorem dX6_whyNot_55 : decode cX6_whyNot 55 = .ok (.iload_n 3, 1) := by decide +kernel
theorem dX6_whyNot_56 : decode cX6_whyNot 56 = .ok (.iload_n 2, 1) := by decide +kernel
theorem dX6_whyNot_57 : decode cX6_whyNot 57 = .ok (.if_icmp .ge 58, 3) := by decide +kernel
theorem dX6_whyNot_60 : decode cX6_whyNot 60 = .ok (.aload_n 0, 1) := by decide +kernel
theorem dX6_whyNot_61 : decode cX6_whyNot 61 = .ok (.getfield 14, 3) := by decide +kernel
theorem dX6_whyNot_64 : decode cX6_whyNot 64 = .ok (.iload_n 2, 1) := by decide +kernel
theorem dX6_whyNot_65 : decode cX6_whyNot 65 = .ok (.iconst 5, 1) := by decide +kernel
theorem dX6_whyNot_66 : decode cX6_whyNot 66 = .ok (.invokevirtual 57, 3) := by decide +kernel
theorem dX6_whyNot_69 : decode cX6_whyNot 69 = .ok (.iload_n 1, 1) := by decide +kernel
theorem dX6_whyNot_70 : decode cX6_whyNot 70 = .ok (.if_icmp .ne 39, 3) := by decide +kernel
theorem dX6_whyNot_73 : decode cX6_whyNot 73 = .ok (.aload_n 0, 1) := by decide +kernel
theorem dX6_whyNot_74 : decode cX6_whyNot 74 = .ok (.iload_n 2, 1) := by decide +kernel
theorem dX6_whyNot_75 : decode cX6_whyNot 75 = .ok (.iload_n 3, 1) := by decide +kernel
theorem dX6_whyNot_76 : decode cX6_whyNot 76 = .ok (.invokevirtual 61, 3) := by decide +kernel
theorem dX6_whyNot_79 : decode cX6_whyNot 79 = .ok (.ifCond .eq 30, 3) := by decide +kernel
theorem dX6_whyNot_82 : decode cX6_whyNot 82 = .ok (.aload_n 0, 1) := by decide +kernel
theorem dX6_whyNot_83 : decode cX6_whyNot 83 = .ok (.aload_n 0, 1) := by decide +kernel
theorem dX6_whyNot_84 : decode cX6_whyNot 84 = .ok (.getfield 14, 3) := by decide +kernel
theorem dX6_whyNot_87 : decode cX6_whyNot 87 = .ok (.iload_n 2, 1) := by decide +kernel
theorem dX6_whyNot_88 : decode cX6_whyNot 88 = .ok (.iconst 0, 1) := by decide +kernel
theorem dX6_whyNot_89 : decode cX6_whyNot 89 = .ok (.invokevirtual 57, 3) := by decide +kernel
theorem dX6_whyNot_92 : decode cX6_whyNot 92 = .ok (.aload_n 0, 1) := by decide +kernel
theorem dX6_whyNot_93 : decode cX6_whyNot 93 = .ok (.getfield 14, 3) := by decide +kernel
theorem dX6_whyNot_96 : decode cX6_whyNot 96 = .ok (.iload_n 3, 1) := by decide +kernel
theorem dX6_whyNot_97 : decode cX6_whyNot 97 = .ok (.iconst 0, 1) := by decide +kernel
theorem dX6_whyNot_98 : decode cX6_whyNot 98 = .ok (.invokevirtual 57, 3) := by decide +kernel
theorem dX6_whyNot_101 : decode cX6_whyNot 101 = .ok (.invokevirtual 68, 3) := by decide +kernel
theorem dX6_whyNot_104 : decode cX6_whyNot 104 = .ok (.ifCond .eq 5, 3) := by decide +kernel
theorem dX6_whyNot_107 : decode cX6_whyNot 107 = .ok (.iconst 3, 1) := by decide +kernel
theorem dX6_whyNot_108 : decode cX6_whyNot 108 = .ok (.ireturn, 1) := by decide +kernel
theorem dX6_whyNot_109 : decode cX6_whyNot 109 = .ok (.iinc 3 1, 3) := by decide +kernel
theorem dX6_whyNot_112 : decode cX6_whyNot 112 = .ok (.goto (-57), 3) := by decide +kernel
theorem dX6_whyNot_115 : decode cX6_whyNot 115 = .ok (.iinc 2 1, 3) := by decide +kernel
theorem dX6_whyNot_118 : decode cX6_whyNot 118 = .ok (.goto (-76), 3) := by decide +kernel
theorem dX6_whyNot_121 : decode cX6_whyNot 121 = .ok (.iconst 0, 1) := by decide +kernel
theorem dX6_whyNot_122 : decode cX6_whyNot 122 = .ok (.ireturn, 1) := by decide +kernel
set_option maxRecDepth 20000 in
theorem ggX6_allLieAsTheyMay_X6_whyNot : GoodIn wsX6_allLieAsTheyMay wsX6_whyNot := goodIn_r _ [5, 6, 7, 8, 9, 10, 4, 11, 12, 13, 14, 15, 16, 17, 18, 19, 20, 21, 22, 23, 24, 25, 26, 27, 28, 29, 30, 31, 32, 33, 34, 35, 36, 37, 38, 39, 40, 41, 42, 43] rfl (by decide +kernel)
set_option maxRecDepth 20000 in
theorem gX6_allLieAsTheyMay_X6_whyNot : GoodIn wsX6_allLieAsTheyMay (wsV RX6 71 RX6 yX6_whyNot wsX6_whyNot) := goodIn_app (goodIn_of _ (by decide +kernel)) ggX6_allLieAsTheyMay_X6_whyNot
theorem dX6_allLieAsTheyMay_0 : decode cX6_allLieAsTheyMay 0 = .ok (.iconst 0, 1) := by decide +kernel
theorem dX6_allLieAsTheyMay_1 : decode cX6_allLieAsTheyMay 1 = .ok (.istore_n 1, 1) := by decide +kernel
theorem dX6_allLieAsTheyMay_2 : decode cX6_allLieAsTheyMay 2 = .ok (.iload_n 1, 1) := by decide +kernel
theorem dX6_allLieAsTheyMay_3 : decode cX6_allLieAsTheyMay 3 = .ok (.iconst 4, 1) := by decide +kernel
theorem dX6_allLieAsTheyMay_4 : decode cX6_allLieAsTheyMay 4 = .ok (.if_icmp .ge 19, 3) := by decide +kernel
theorem dX6_allLieAsTheyMay_7 : decode cX6_allLieAsTheyMay 7 = .ok (.aload_n 0, 1) := by decide +kernel
theorem dX6_allLieAsTheyMay_8 : decode cX6_allLieAsTheyMay 8 = .ok (.iload_n 1, 1) := by decide +kernel
theorem dX6_allLieAsTheyMay_9 : decode cX6_allLieAsTheyMay 9 = .ok (.invokevirtual 71, 3) := by decide +kernel
theorem dX6_allLieAsTheyMay_12 : decode cX6_allLieAsTheyMay 12 = .ok (.ifCond .eq 5, 3) := by decide +kernel
theorem dX6_allLieAsTheyMay_15 : decode cX6_allLieAsTheyMay 15 = .ok (.iconst 0, 1) := by decide +kernel
theorem dX6_allLieAsTheyMay_16 : decode cX6_allLieAsTheyMay 16 = .ok (.ireturn, 1) := by decide +kernel
theorem dX6_allLieAsTheyMay_17 : decode cX6_allLieAsTheyMay 17 = .ok (.iinc 1 1, 3) := by decide +kernel
theorem dX6_allLieAsTheyMay_20 : decode cX6_allLieAsTheyMay 20 = .ok (.goto (-18), 3) := by decide +kernel
theorem dX6_allLieAsTheyMay_23 : decode cX6_allLieAsTheyMay 23 = .ok (.iconst 1, 1) := by decide +kernel
theorem dX6_allLieAsTheyMay_24 : decode cX6_allLieAsTheyMay 24 = .ok (.ireturn, 1) := by decide +kernel
theorem dX7_init_0 : decode cX7_init 0 = .ok (.aload_n 0, 1) := by decide +kernel
theorem dX7_init_1 : decode cX7_init 1 = .ok (.invokespecial 3, 3) := by decide +kernel
theorem dX7_init_4 : decode cX7_init 4 = .ok (.aload_n 0, 1) := by decide +kernel
theorem dX7_init_5 : decode cX7_init 5 = .ok (.bipush 61, 2) := by decide +kernel
theorem dX7_init_7 : decode cX7_init 7 = .ok (.newarray .int, 2) := by decide +kernel
theorem dX7_init_9 : decode cX7_init 9 = .ok (.putfield 9, 3) := by decide +kernel
theorem dX7_init_12 : decode cX7_init 12 = .ok (.aload_n 0, 1) := by decide +kernel
theorem dX7_init_13 : decode cX7_init 13 = .ok (.bipush 61, 2) := by decide +kernel
theorem dX7_init_15 : decode cX7_init 15 = .ok (.newarray .int, 2) := by decide +kernel
theorem dX7_init_17 : decode cX7_init 17 = .ok (.putfield 15, 3) := by decide +kernel
theorem dX7_init_20 : decode cX7_init 20 = .ok (.aload_n 0, 1) := by decide +kernel
theorem dX7_init_21 : decode cX7_init 21 = .ok (.iconst 0, 1) := by decide +kernel
theorem dX7_init_22 : decode cX7_init 22 = .ok (.putfield 18, 3) := by decide +kernel
theorem dX7_init_25 : decode cX7_init 25 = .ok (.return_, 1) := by decide +kernel
set_option maxRecDepth 20000 in
theorem ggX7_lookAt_X8_size : GoodIn wsX7_lookAt wsX8_size := goodIn_r _ [8, 9, 43, 44, 45] rfl (by decide +kernel)
set_option maxRecDepth 20000 in
theorem gX7_lookAt_X8_size : GoodIn wsX7_lookAt (wsV RX7 28 RX8 yX8_size wsX8_size) := goodIn_app (goodIn_of _ (by decide +kernel)) ggX7_lookAt_X8_size
set_option maxRecDepth 20000 in
theorem ggX7_lookAt_X8_get : GoodIn wsX7_lookAt wsX8_get := goodIn_r _ [13, 9, 14, 15, 43, 44, 45] rfl (by decide +kernel)
set_option maxRecDepth 20000 in
theorem gX7_lookAt_X8_get : GoodIn wsX7_lookAt (wsV RX7 34 RX8 yX8_get wsX8_get) := goodIn_app (goodIn_of _ (by decide +kernel)) ggX7_lookAt_X8_get
set_option maxRecDepth 20000 in
theorem ggX7_lookAt_X7_isKnown : GoodIn wsX7_lookAt wsX7_isKnown := goodIn_r _ [19, 10, 11, 12, 7, 13, 9, 14, 15, 43, 44, 45] rfl (by decide +kernel)
set_option maxRecDepth 20000 in
theorem gX7_lookAt_X7_isKnown : GoodIn wsX7_lookAt (va_wsS RX7 38 yX7_isKnown wsX7_isKnown) := goodIn_app (goodIn_of _ (by decide +kernel)) ggX7_lookAt_X7_isKnown
set_option maxRecDepth 20000 in
theorem ggX7_lookAt_X7_insert : GoodIn wsX7_lookAt wsX7_insert := goodIn_r _ [23, 3, 1, 2, 24, 25, 26, 27, 40, 41, 42] rfl (by decide +kernel)
set_option maxRecDepth 20000 in
theorem gX7_lookAt_X7_insert : GoodIn wsX7_lookAt (wsV RX7 42 RX7 yX7_insert wsX7_insert) := goodIn_app (goodIn_of _ (by decide +kernel)) ggX7_lookAt_X7_insert
set_option maxRecDepth 20000 in
theorem ggX7_lookAt_X7_meltSameHands : GoodIn wsX7_lookAt wsX7_meltSameHands := goodIn_r _ [31, 3, 2, 1, 40, 41, 42] rfl (by decide +kernel)
set_option maxRecDepth 20000 in
theorem gX7_lookAt_X7_meltSameHands : GoodIn wsX7_lookAt (wsV RX7 46 RX7 yX7_meltSameHands wsX7_meltSameHands) := goodIn_app (goodIn_of _ (by decide +kernel)) ggX7_lookAt_X7_meltSameHands
theorem dX7_lookAt_0 : decode cX7_lookAt 0 = .ok (.aload_n 1, 1) := by decide +kernel
theorem dX7_lookAt_1 : decode cX7_lookAt 1 = .ok (.getfield 22, 3) := by decide +kernel
theorem dX7_lookAt_4 : decode cX7_lookAt 4 = .ok (.astore 4, 2) := by decide +kernel
theorem dX7_lookAt_6 : decode cX7_lookAt 6 = .ok (.aload_n 0, 1) := by decide +kernel
theorem dX7_lookAt_7 : decode cX7_lookAt 7 = .ok (.getfield 9, 3) := by decide +kernel
theorem dX7_lookAt_10 : decode cX7_lookAt 10 = .ok (.iconst 0, 1) := by decide +kernel
theorem dX7_lookAt_11 : decode cX7_lookAt 11 = .ok (.iconst (-1), 1) := by decide +kernel
theorem dX7_lookAt_12 : decode cX7_lookAt 12 = .ok (.iastore, 1) := by decide +kernel
theorem dX7_lookAt_13 : decode cX7_lookAt 13 = .ok (.aload_n 0, 1) := by decide +kernel
theorem dX7_lookAt_14 : decode cX7_lookAt 14 = .ok (.getfield 15, 3) := by decide +kernel
theorem dX7_lookAt_17 : decode cX7_lookAt 17 = .ok (.iconst 0, 1) := by decide +kernel
theorem dX7_lookAt_18 : decode cX7_lookAt 18 = .ok (.bipush 6, 2) := by decide +kernel
theorem dX7_lookAt_20 : decode cX7_lookAt 20 = .ok (.iastore, 1) := by decide +kernel
theorem dX7_lookAt_21 : decode cX7_lookAt 21 = .ok (.aload_n 0, 1) := by decide +kernel
theorem dX7_lookAt_22 : decode cX7_lookAt 22 = .ok (.iconst 1, 1) := by decide +kernel
theorem dX7_lookAt_23 : decode cX7_lookAt 23 = .ok (.putfield 18, 3) := by decide +kernel
theorem dX7_lookAt_26 : decode cX7_lookAt 26 = .ok (.iconst 0, 1) := by decide +kernel
theorem dX7_lookAt_27 : decode cX7_lookAt 27 = .ok (.istore 5, 2) := by decide +kernel
theorem dX7_lookAt_29 : decode cX7_lookAt 29 = .ok (.iload 5, 2) := by decide +kernel
theorem dX7_lookAt_31 : decode cX7_lookAt 31 = .ok (.aload 4, 2) := by decide +kernel
theorem dX7_lookAt_33 : decode cX7_lookAt 33 = .ok (.invokevirtual 28, 3) := by decide +kernel
theorem dX7_lookAt_36 : decode cX7_lookAt 36 = .ok (.if_icmp .ge 52, 3) := by decide +kernel
theorem dX7_lookAt_39 : decode cX7_lookAt 39 = .ok (.aload 4, 2) := by decide +kernel
theorem dX7_lookAt_41 : decode cX7_lookAt 41 = .ok (.iload 5, 2) := by decide +kernel
theorem dX7_lookAt_43 : decode cX7_lookAt 43 = .ok (.iconst 0, 1) := by decide +kernel
theorem dX7_lookAt_44 : decode cX7_lookAt 44 = .ok (.invokevirtual 34, 3) := by decide +kernel
theorem dX7_lookAt_47 : decode cX7_lookAt 47 = .ok (.iload_n 2, 1) := by decide +kernel
theorem dX7_lookAt_48 : decode cX7_lookAt 48 = .ok (.if_icmp .ne 34, 3) := by decide +kernel
theorem dX7_lookAt_51 : decode cX7_lookAt 51 = .ok (.aload 4, 2) := by decide +kernel
theorem dX7_lookAt_53 : decode cX7_lookAt 53 = .ok (.iload 5, 2) := by decide +kernel
theorem dX7_lookAt_55 : decode cX7_lookAt 55 = .ok (.iload_n 3, 1) := by decide +kernel
theorem dX7_lookAt_56 : decode cX7_lookAt 56 = .ok (.invokestatic 38, 3) := by decide +kernel
theorem dX7_lookAt_59 : decode cX7_lookAt 59 = .ok (.ifCond .eq 23, 3) := by decide +kernel
theorem dX7_lookAt_62 : decode cX7_lookAt 62 = .ok (.aload_n 0, 1) := by decide +kernel
theorem dX7_lookAt_63 : decode cX7_lookAt 63 = .ok (.aload 4, 2) := by decide +kernel
theorem dX7_lookAt_65 : decode cX7_lookAt 65 = .ok (.iload 5, 2) := by decide +kernel
theorem dX7_lookAt_67 : decode cX7_lookAt 67 = .ok (.iconst 1, 1) := by decide +kernel
theorem dX7_lookAt_68 : decode cX7_lookAt 68 = .ok (.invokevirtual 34, 3) := by decide +kernel
theorem dX7_lookAt_71 : decode cX7_lookAt 71 = .ok (.aload 4, 2) := by decide +kernel
theorem dX7_lookAt_73 : decode cX7_lookAt 73 = .ok (.iload 5, 2) := by decide +kernel
theorem dX7_lookAt_75 : decode cX7_lookAt 75 = .ok (.iconst 2, 1) := by decide +kernel
theorem dX7_lookAt_76 : decode cX7_lookAt 76 = .ok (.invokevirtual 34, 3) := by decide +kernel
theorem dX7_lookAt_79 : decode cX7_lookAt 79 = .ok (.invokevirtual 42, 3) := by decide +kernel
theorem dX7_lookAt_82 : decode cX7_lookAt 82 = .ok (.iinc 5 1, 3) := by decide +kernel
theorem dX7_lookAt_85 : decode cX7_lookAt 85 = .ok (.goto (-56), 3) := by decide +kernel
theorem dX7_lookAt_88 : decode cX7_lookAt 88 = .ok (.aload_n 0, 1) := by decide +kernel
theorem dX7_lookAt_89 : decode cX7_lookAt 89 = .ok (.invokevirtual 46, 3) := by decide +kernel
theorem dX7_lookAt_92 : decode cX7_lookAt 92 = .ok (.return_, 1) := by decide +kernel
set_option maxRecDepth 20000 in
theorem ggX7_isKnown_X8_get : GoodIn wsX7_isKnown wsX8_get := goodIn_r _ [5, 6, 7, 8, 9, 10, 11] rfl (by decide +kernel)
set_option maxRecDepth 20000 in
theorem gX7_isKnown_X8_get : GoodIn wsX7_isKnown (wsV RX7 34 RX8 yX8_get wsX8_get) := goodIn_app (goodIn_of _ (by decide +kernel)) ggX7_isKnown_X8_get
theorem dX7_isKnown_0 : decode cX7_isKnown 0 = .ok (.aload_n 0, 1) := by decide +kernel
theorem dX7_isKnown_1 : decode cX7_isKnown 1 = .ok (.iload_n 1, 1) := by decide +kernel
theorem dX7_isKnown_2 : decode cX7_isKnown 2 = .ok (.iconst 4, 1) := by decide +kernel
theorem dX7_isKnown_3 : decode cX7_isKnown 3 = .ok (.invokevirtual 34, 3) := by decide +kernel
theorem dX7_isKnown_6 : decode cX7_isKnown 6 = .ok (.istore_n 3, 1) := by decide +kernel
theorem dX7_isKnown_7 : decode cX7_isKnown 7 = .ok (.aload_n 0, 1) := by decide +kernel
theorem dX7_isKnown_8 : decode cX7_isKnown 8 = .ok (.iload_n 1, 1) := by decide +kernel
theorem dX7_isKnown_9 : decode cX7_isKnown 9 = .ok (.iconst 3, 1) := by decide +kernel
theorem dX7_isKnown_10 : decode cX7_isKnown 10 = .ok (.invokevirtual 34, 3) := by decide +kernel
theorem dX7_isKnown_13 : decode cX7_isKnown 13 = .ok (.iload_n 2, 1) := by decide +kernel
theorem dX7_isKnown_14 : decode cX7_isKnown 14 = .ok (.if_icmp .gt 17, 3) := by decide +kernel
theorem dX7_isKnown_17 : decode cX7_isKnown 17 = .ok (.iload_n 3, 1) := by decide +kernel
theorem dX7_isKnown_18 : decode cX7_isKnown 18 = .ok (.iconst (-1), 1) := by decide +kernel
theorem dX7_isKnown_19 : decode cX7_isKnown 19 = .ok (.if_icmp .eq 8, 3) := by decide +kernel
theorem dX7_isKnown_22 : decode cX7_isKnown 22 = .ok (.iload_n 3, 1) := by decide +kernel
theorem dX7_isKnown_23 : decode cX7_isKnown 23 = .ok (.iload_n 2, 1) := by decide +kernel
theorem dX7_isKnown_24 : decode cX7_isKnown 24 = .ok (.if_icmp .le 7, 3) := by decide +kernel
theorem dX7_isKnown_27 : decode cX7_isKnown 27 = .ok (.iconst 1, 1) := by decide +kernel
theorem dX7_isKnown_28 : decode cX7_isKnown 28 = .ok (.goto 4, 3) := by decide +kernel
theorem dX7_isKnown_31 : decode cX7_isKnown 31 = .ok (.iconst 0, 1) := by decide +kernel
theorem dX7_isKnown_32 : decode cX7_isKnown 32 = .ok (.ireturn, 1) := by decide +kernel
theorem dX7_insert_0 : decode cX7_insert 0 = .ok (.aload_n 0, 1) := by decide +kernel
theorem dX7_insert_1 : decode cX7_insert 1 = .ok (.getfield 18, 3) := by decide +kernel
theorem dX7_insert_4 : decode cX7_insert 4 = .ok (.istore_n 3, 1) := by decide +kernel
theorem dX7_insert_5 : decode cX7_insert 5 = .ok (.iload_n 3, 1) := by decide +kernel
theorem dX7_insert_6 : decode cX7_insert 6 = .ok (.iconst 1, 1) := by decide +kernel
theorem dX7_insert_7 : decode cX7_insert 7 = .ok (.if_icmp .le 21, 3) := by decide +kernel
theorem dX7_insert_10 : decode cX7_insert 10 = .ok (.aload_n 0, 1) := by decide +kernel
theorem dX7_insert_11 : decode cX7_insert 11 = .ok (.getfield 9, 3) := by decide +kernel
theorem dX7_insert_14 : decode cX7_insert 14 = .ok (.iload_n 3, 1) := by decide +kernel
theorem dX7_insert_15 : decode cX7_insert 15 = .ok (.iconst 1, 1) := by decide +kernel
theorem dX7_insert_16 : decode cX7_insert 16 = .ok (.isub, 1) := by decide +kernel
theorem dX7_insert_17 : decode cX7_insert 17 = .ok (.iaload, 1) := by decide +kernel
theorem dX7_insert_18 : decode cX7_insert 18 = .ok (.iload_n 1, 1) := by decide +kernel
theorem dX7_insert_19 : decode cX7_insert 19 = .ok (.if_icmp .lt 9, 3) := by decide +kernel
theorem dX7_insert_22 : decode cX7_insert 22 = .ok (.iinc 3 (-1), 3) := by decide +kernel
theorem dX7_insert_25 : decode cX7_insert 25 = .ok (.goto (-20), 3) := by decide +kernel
theorem dX7_insert_28 : decode cX7_insert 28 = .ok (.iload_n 3, 1) := by decide +kernel
theorem dX7_insert_29 : decode cX7_insert 29 = .ok (.aload_n 0, 1) := by decide +kernel
theorem dX7_insert_30 : decode cX7_insert 30 = .ok (.getfield 18, 3) := by decide +kernel
theorem dX7_insert_33 : decode cX7_insert 33 = .ok (.if_icmp .ge 23, 3) := by decide +kernel
theorem dX7_insert_36 : decode cX7_insert 36 = .ok (.aload_n 0, 1) := by decide +kernel
theorem dX7_insert_37 : decode cX7_insert 37 = .ok (.getfield 9, 3) := by decide +kernel
theorem dX7_insert_40 : decode cX7_insert 40 = .ok (.iload_n 3, 1) := by decide +kernel
theorem dX7_insert_41 : decode cX7_insert 41 = .ok (.iaload, 1) := by decide +kernel
theorem dX7_insert_42 : decode cX7_insert 42 = .ok (.iload_n 1, 1) := by decide +kernel
theorem dX7_insert_43 : decode cX7_insert 43 = .ok (.if_icmp .ne 13, 3) := by decide +kernel
theorem dX7_insert_46 : decode cX7_insert 46 = .ok (.aload_n 0, 1) := by decide +kernel
theorem dX7_insert_47 : decode cX7_insert 47 = .ok (.getfield 15, 3) := by decide +kernel
theorem dX7_insert_50 : decode cX7_insert 50 = .ok (.iload_n 3, 1) := by decide +kernel
theorem dX7_insert_51 : decode cX7_insert 51 = .ok (.iload_n 2, 1) := by decide +kernel
theorem dX7_insert_52 : decode cX7_insert 52 = .ok (.iastore, 1) := by decide +kernel
theorem dX7_insert_53 : decode cX7_insert 53 = .ok (.goto 81, 3) := by decide +kernel
theorem dX7_insert_56 : decode cX7_insert 56 = .ok (.aload_n 0, 1) := by decide +kernel
theorem dX7_insert_57 : decode cX7_insert 57 = .ok (.getfield 18, 3) := by decide +kernel
theorem dX7_insert_60 : decode cX7_insert 60 = .ok (.aload_n 0, 1) := by decide +kernel
theorem dX7_insert_61 : decode cX7_insert 61 = .ok (.getfield 9, 3) := by decide +kernel
theorem dX7_insert_64 : decode cX7_insert 64 = .ok (.arraylength, 1) := by decide +kernel
theorem dX7_insert_65 : decode cX7_insert 65 = .ok (.if_icmp .ge 69, 3) := by decide +kernel
theorem dX7_insert_68 : decode cX7_insert 68 = .ok (.aload_n 0, 1) := by decide +kernel
theorem dX7_insert_69 : decode cX7_insert 69 = .ok (.getfield 9, 3) := by decide +kernel
theorem dX7_insert_72 : decode cX7_insert 72 = .ok (.iload_n 3, 1) := by decide +kernel
theorem dX7_insert_73 : decode cX7_insert 73 = .ok (.aload_n 0, 1) := by decide +kernel
theorem dX7_insert_74 : decode cX7_insert 74 = .ok (.getfield 9, 3) := by decide +kernel
theorem dX7_insert_77 : decode cX7_insert 77 = .ok (.iload_n 3, 1) := by decide +kernel
theorem dX7_insert_78 : decode cX7_insert 78 = .ok (.iconst 1, 1) := by decide +kernel
theorem dX7_insert_79 : decode cX7_insert 79 = .ok (.iadd, 1) := by decide +kernel
theorem dX7_insert_80 : decode cX7_insert 80 = .ok (.aload_n 0, 1) := by decide +kernel
theorem dX7_insert_81 : decode cX7_insert 81 = .ok (.getfield 18, 3) := by decide +kernel
theorem dX7_insert_84 : decode cX7_insert 84 = .ok (.iload_n 3, 1) := by decide +kernel
theorem dX7_insert_85 : decode cX7_insert 85 = .ok (.isub, 1) := by decide +kernel
theorem dX7_insert_86 : decode cX7_insert 86 = .ok (.invokestatic 49, 3) := by decide +kernel
theorem dX7_insert_89 : decode cX7_insert 89 = .ok (.aload_n 0, 1) := by decide +kernel
theorem dX7_insert_90 : decode cX7_insert 90 = .ok (.getfield 15, 3) := by decide +kernel
theorem dX7_insert_93 : decode cX7_insert 93 = .ok (.iload_n 3, 1) := by decide +kernel
theorem dX7_insert_94 : decode cX7_insert 94 = .ok (.aload_n 0, 1) := by decide +kernel
theorem dX7_insert_95 : decode cX7_insert 95 = .ok (.getfield 15, 3) := by decide +kernel
theorem dX7_insert_98 : decode cX7_insert 98 = .ok (.iload_n 3, 1) := by decide +kernel
theorem dX7_insert_99 : decode cX7_insert 99 = .ok (.iconst 1, 1) := by decide +kernel
theorem dX7_insert_100 : decode cX7_insert 100 = .ok (.iadd, 1) := by decide +kernel
theorem dX7_insert_101 : decode cX7_insert 101 = .ok (.aload_n 0, 1) := by decide +kernel
theorem dX7_insert_102 : decode cX7_insert 102 = .ok (.getfield 18, 3) := by decide +kernel
theorem dX7_insert_105 : decode cX7_insert 105 = .ok (.iload_n 3, 1) := by decide +kernel
theorem dX7_insert_106 : decode cX7_insert 106 = .ok (.isub, 1) := by decide +kernel
theorem dX7_insert_107 : decode cX7_insert 107 = .ok (.invokestatic 49, 3) := by decide +kernel
theorem dX7_insert_110 : decode cX7_insert 110 = .ok (.aload_n 0, 1) := by decide +kernel
theorem dX7_insert_111 : decode cX7_insert 111 = .ok (.getfield 9, 3) := by decide +kernel
theorem dX7_insert_114 : decode cX7_insert 114 = .ok (.iload_n 3, 1) := by decide +kernel
theorem dX7_insert_115 : decode cX7_insert 115 = .ok (.iload_n 1, 1) := by decide +kernel
theorem dX7_insert_116 : decode cX7_insert 116 = .ok (.iastore, 1) := by decide +kernel
theorem dX7_insert_117 : decode cX7_insert 117 = .ok (.aload_n 0, 1) := by decide +kernel
theorem dX7_insert_118 : decode cX7_insert 118 = .ok (.getfield 15, 3) := by decide +kernel
theorem dX7_insert_121 : decode cX7_insert 121 = .ok (.iload_n 3, 1) := by decide +kernel
theorem dX7_insert_122 : decode cX7_insert 122 = .ok (.iload_n 2, 1) := by decide +kernel
theorem dX7_insert_123 : decode cX7_insert 123 = .ok (.iastore, 1) := by decide +kernel
theorem dX7_insert_124 : decode cX7_insert 124 = .ok (.aload_n 0, 1) := by decide +kernel
theorem dX7_insert_125 : decode cX7_insert 125 = .ok (.dup, 1) := by decide +kernel
theorem dX7_insert_126 : decode cX7_insert 126 = .ok (.getfield 18, 3) := by decide +kernel
theorem dX7_insert_129 : decode cX7_insert 129 = .ok (.iconst 1, 1) := by decide +kernel
theorem dX7_insert_130 : decode cX7_insert 130 = .ok (.iadd, 1) := by decide +kernel
theorem dX7_insert_131 : decode cX7_insert 131 = .ok (.putfield 18, 3) := by decide +kernel
theorem dX7_insert_134 : decode cX7_insert 134 = .ok (.return_, 1) := by decide +kernel
theorem dX7_meltSameHands_0 : decode cX7_meltSameHands 0 = .ok (.iconst 1, 1) := by decide +kernel
theorem dX7_meltSameHands_1 : decode cX7_meltSameHands 1 = .ok (.istore_n 1, 1) := by decide +kernel
theorem dX7_meltSameHands_2 : decode cX7_meltSameHands 2 = .ok (.iconst 1, 1) := by decide +kernel
theorem dX7_meltSameHands_3 : decode cX7_meltSameHands 3 = .ok (.istore_n 2, 1) := by decide +kernel
theorem dX7_meltSameHands_4 : decode cX7_meltSameHands 4 = .ok (.iload_n 2, 1) := by decide +kernel
theorem dX7_meltSameHands_5 : decode cX7_meltSameHands 5 = .ok (.aload_n 0, 1) := by decide +kernel
theorem dX7_meltSameHands_6 : decode cX7_meltSameHands 6 = .ok (.getfield 18, 3) := by decide +kernel
theorem dX7_meltSameHands_9 : decode cX7_meltSameHands 9 = .ok (.if_icmp .ge 53, 3) := by decide +kernel
theorem dX7_meltSameHands_12 : decode cX7_meltSameHands 12 = .ok (.aload_n 0, 1) := by decide +kernel
theorem dX7_meltSameHands_13 : decode cX7_meltSameHands 13 = .ok (.getfield 15, 3) := by decide +kernel
theorem dX7_meltSameHands_16 : decode cX7_meltSameHands 16 = .ok (.iload_n 2, 1) := by decide +kernel
theorem dX7_meltSameHands_17 : decode cX7_meltSameHands 17 = .ok (.iaload, 1) := by decide +kernel
theorem dX7_meltSameHands_18 : decode cX7_meltSameHands 18 = .ok (.aload_n 0, 1) := by decide +kernel
theorem dX7_meltSameHands_19 : decode cX7_meltSameHands 19 = .ok (.getfield 15, 3) := by decide +kernel
theorem dX7_meltSameHands_22 : decode cX7_meltSameHands 22 = .ok (.iload_n 1, 1) := by decide +kernel
theorem dX7_meltSameHands_23 : decode cX7_meltSameHands 23 = .ok (.iconst 1, 1) := by decide +kernel
theorem dX7_meltSameHands_24 : decode cX7_meltSameHands 24 = .ok (.isub, 1) := by decide +kernel
theorem dX7_meltSameHands_25 : decode cX7_meltSameHands 25 = .ok (.iaload, 1) := by decide +kernel
theorem dX7_meltSameHands_26 : decode cX7_meltSameHands 26 = .ok (.if_icmp .eq 30, 3) := by decide +kernel
theorem dX7_meltSameHands_29 : decode cX7_meltSameHands 29 = .ok (.aload_n 0, 1) := by decide +kernel
theorem dX7_meltSameHands_30 : decode cX7_meltSameHands 30 = .ok (.getfield 9, 3) := by decide +kernel
theorem dX7_meltSameHands_33 : decode cX7_meltSameHands 33 = .ok (.iload_n 1, 1) := by decide +kernel
theorem dX7_meltSameHands_34 : decode cX7_meltSameHands 34 = .ok (.aload_n 0, 1) := by decide +kernel
theorem dX7_meltSameHands_35 : decode cX7_meltSameHands 35 = .ok (.getfield 9, 3) := by decide +kernel
theorem dX7_meltSameHands_38 : decode cX7_meltSameHands 38 = .ok (.iload_n 2, 1) := by decide +kernel
theorem dX7_meltSameHands_39 : decode cX7_meltSameHands 39 = .ok (.iaload, 1) := by decide +kernel
theorem dX7_meltSameHands_40 : decode cX7_meltSameHands 40 = .ok (.iastore, 1) := by decide +kernel
theorem dX7_meltSameHands_41 : decode cX7_meltSameHands 41 = .ok (.aload_n 0, 1) := by decide +kernel
theorem dX7_meltSameHands_42 : decode cX7_meltSameHands 42 = .ok (.getfield 15, 3) := by decide +kernel
theorem dX7_meltSameHands_45 : decode cX7_meltSameHands 45 = .ok (.iload_n 1, 1) := by decide +kernel
theorem dX7_meltSameHands_46 : decode cX7_meltSameHands 46 = .ok (.aload_n 0, 1) := by decide +kernel
theorem dX7_meltSameHands_47 : decode cX7_meltSameHands 47 = .ok (.getfield 15, 3) := by decide +kernel
theorem dX7_meltSameHands_50 : decode cX7_meltSameHands 50 = .ok (.iload_n 2, 1) := by decide +kernel
theorem dX7_meltSameHands_51 : decode cX7_meltSameHands 51 = .ok (.iaload, 1) := by decide +kernel
theorem dX7_meltSameHands_52 : decode cX7_meltSameHands 52 = .ok (.iastore, 1) := by decide +kernel
theorem dX7_meltSameHands_53 : decode cX7_meltSameHands 53 = .ok (.iinc 1 1, 3) := by decide +kernel
theorem dX7_meltSameHands_56 : decode cX7_meltSameHands 56 = .ok (.iinc 2 1, 3) := by decide +kernel
theorem dX7_meltSameHands_59 : decode cX7_meltSameHands 59 = .ok (.goto (-55), 3) := by decide +kernel
theorem dX7_meltSameHands_62 : decode cX7_meltSameHands 62 = .ok (.aload_n 0, 1) := by decide +kernel
theorem dX7_meltSameHands_63 : decode cX7_meltSameHands 63 = .ok (.iload_n 1, 1) := by decide +kernel
theorem dX7_meltSameHands_64 : decode cX7_meltSameHands 64 = .ok (.putfield 18, 3) := by decide +kernel
theorem dX7_meltSameHands_67 : decode cX7_meltSameHands 67 = .ok (.return_, 1) := by decide +kernel
theorem dX7_size_0 : decode cX7_size 0 = .ok (.aload_n 0, 1) := by decide +kernel
theorem dX7_size_1 : decode cX7_size 1 = .ok (.getfield 18, 3) := by decide +kernel
theorem dX7_size_4 : decode cX7_size 4 = .ok (.ireturn, 1) := by decide +kernel
theorem dX7_handOf_0 : decode cX7_handOf 0 = .ok (.iload_n 1, 1) := by decide +kernel
theorem dX7_handOf_1 : decode cX7_handOf 1 = .ok (.ifCond .lt 20, 3) := by decide +kernel
theorem dX7_handOf_4 : decode cX7_handOf 4 = .ok (.iload_n 1, 1) := by decide +kernel
theorem dX7_handOf_5 : decode cX7_handOf 5 = .ok (.aload_n 0, 1) := by decide +kernel
theorem dX7_handOf_6 : decode cX7_handOf 6 = .ok (.getfield 18, 3) := by decide +kernel
theorem dX7_handOf_9 : decode cX7_handOf 9 = .ok (.if_icmp .ge 12, 3) := by decide +kernel
theorem dX7_handOf_12 : decode cX7_handOf 12 = .ok (.aload_n 0, 1) := by decide +kernel
theorem dX7_handOf_13 : decode cX7_handOf 13 = .ok (.getfield 15, 3) := by decide +kernel
theorem dX7_handOf_16 : decode cX7_handOf 16 = .ok (.iload_n 1, 1) := by decide +kernel
theorem dX7_handOf_17 : decode cX7_handOf 17 = .ok (.iaload, 1) := by decide +kernel
theorem dX7_handOf_18 : decode cX7_handOf 18 = .ok (.goto 4, 3) := by decide +kernel
theorem dX7_handOf_21 : decode cX7_handOf 21 = .ok (.iconst (-1), 1) := by decide +kernel
theorem dX7_handOf_22 : decode cX7_handOf 22 = .ok (.ireturn, 1) := by decide +kernel
theorem dX7_firstOf_0 : decode cX7_firstOf 0 = .ok (.iload_n 1, 1) := by decide +kernel
theorem dX7_firstOf_1 : decode cX7_firstOf 1 = .ok (.ifCond .lt 20, 3) := by decide +kernel
theorem dX7_firstOf_4 : decode cX7_firstOf 4 = .ok (.iload_n 1, 1) := by decide +kernel
theorem dX7_firstOf_5 : decode cX7_firstOf 5 = .ok (.aload_n 0, 1) := by decide +kernel
theorem dX7_firstOf_6 : decode cX7_firstOf 6 = .ok (.getfield 18, 3) := by decide +kernel
theorem dX7_firstOf_9 : decode cX7_firstOf 9 = .ok (.if_icmp .ge 12, 3) := by decide +kernel
theorem dX7_firstOf_12 : decode cX7_firstOf 12 = .ok (.aload_n 0, 1) := by decide +kernel
theorem dX7_firstOf_13 : decode cX7_firstOf 13 = .ok (.getfield 9, 3) := by decide +kernel
theorem dX7_firstOf_16 : decode cX7_firstOf 16 = .ok (.iload_n 1, 1) := by decide +kernel
theorem dX7_firstOf_17 : decode cX7_firstOf 17 = .ok (.iaload, 1) := by decide +kernel
theorem dX7_firstOf_18 : decode cX7_firstOf 18 = .ok (.goto 4, 3) := by decide +kernel
theorem dX7_firstOf_21 : decode cX7_firstOf 21 = .ok (.iconst (-1), 1) := by decide +kernel
theorem dX7_firstOf_22 : decode cX7_firstOf 22 = .ok (.ireturn, 1) := by decide +kernel
set_option maxRecDepth 20000 in
theorem ggX7_lastOf_X0_dateAhead : GoodIn wsX7_lastOf wsX0_dateAhead := goodIn_r _ [6, 7, 8, 5, 9, 10, 11, 12, 13, 14, 15, 16, 17, 18, 19, 20, 21, 22, 23] rfl (by decide +kernel)
set_option maxRecDepth 20000 in
theorem gX7_lastOf_X0_dateAhead : GoodIn wsX7_lastOf (va_wsS RX7 55 yX0_dateAhead wsX0_dateAhead) := goodIn_app (goodIn_of _ (by decide +kernel)) ggX7_lastOf_X0_dateAhead
theorem dX7_lastOf_0 : decode cX7_lastOf 0 = .ok (.iload_n 1, 1) := by decide +kernel
theorem dX7_lastOf_1 : decode cX7_lastOf 1 = .ok (.ifCond .lt 27, 3) := by decide +kernel
theorem dX7_lastOf_4 : decode cX7_lastOf 4 = .ok (.iload_n 1, 1) := by decide +kernel
theorem dX7_lastOf_5 : decode cX7_lastOf 5 = .ok (.aload_n 0, 1) := by decide +kernel
theorem dX7_lastOf_6 : decode cX7_lastOf 6 = .ok (.getfield 18, 3) := by decide +kernel
theorem dX7_lastOf_9 : decode cX7_lastOf 9 = .ok (.iconst 1, 1) := by decide +kernel
theorem dX7_lastOf_10 : decode cX7_lastOf 10 = .ok (.isub, 1) := by decide +kernel
theorem dX7_lastOf_11 : decode cX7_lastOf 11 = .ok (.if_icmp .ge 17, 3) := by decide +kernel
theorem dX7_lastOf_14 : decode cX7_lastOf 14 = .ok (.aload_n 0, 1) := by decide +kernel
theorem dX7_lastOf_15 : decode cX7_lastOf 15 = .ok (.getfield 9, 3) := by decide +kernel
theorem dX7_lastOf_18 : decode cX7_lastOf 18 = .ok (.iload_n 1, 1) := by decide +kernel
theorem dX7_lastOf_19 : decode cX7_lastOf 19 = .ok (.iconst 1, 1) := by decide +kernel
theorem dX7_lastOf_20 : decode cX7_lastOf 20 = .ok (.iadd, 1) := by decide +kernel
theorem dX7_lastOf_21 : decode cX7_lastOf 21 = .ok (.iaload, 1) := by decide +kernel
theorem dX7_lastOf_22 : decode cX7_lastOf 22 = .ok (.invokestatic 55, 3) := by decide +kernel
theorem dX7_lastOf_25 : decode cX7_lastOf 25 = .ok (.goto 4, 3) := by decide +kernel
theorem dX7_lastOf_28 : decode cX7_lastOf 28 = .ok (.iconst (-1), 1) := by decide +kernel
theorem dX7_lastOf_29 : decode cX7_lastOf 29 = .ok (.ireturn, 1) := by decide +kernel
theorem dX7_handAt_0 : decode cX7_handAt 0 = .ok (.bipush 6, 2) := by decide +kernel
theorem dX7_handAt_2 : decode cX7_handAt 2 = .ok (.istore_n 2, 1) := by decide +kernel
theorem dX7_handAt_3 : decode cX7_handAt 3 = .ok (.iconst 0, 1) := by decide +kernel
theorem dX7_handAt_4 : decode cX7_handAt 4 = .ok (.istore_n 3, 1) := by decide +kernel
theorem dX7_handAt_5 : decode cX7_handAt 5 = .ok (.iload_n 3, 1) := by decide +kernel
theorem dX7_handAt_6 : decode cX7_handAt 6 = .ok (.aload_n 0, 1) := by decide +kernel
theorem dX7_handAt_7 : decode cX7_handAt 7 = .ok (.getfield 18, 3) := by decide +kernel
theorem dX7_handAt_10 : decode cX7_handAt 10 = .ok (.if_icmp .ge 26, 3) := by decide +kernel
theorem dX7_handAt_13 : decode cX7_handAt 13 = .ok (.aload_n 0, 1) := by decide +kernel
theorem dX7_handAt_14 : decode cX7_handAt 14 = .ok (.getfield 9, 3) := by decide +kernel
theorem dX7_handAt_17 : decode cX7_handAt 17 = .ok (.iload_n 3, 1) := by decide +kernel
theorem dX7_handAt_18 : decode cX7_handAt 18 = .ok (.iaload, 1) := by decide +kernel
theorem dX7_handAt_19 : decode cX7_handAt 19 = .ok (.iload_n 1, 1) := by decide +kernel
theorem dX7_handAt_20 : decode cX7_handAt 20 = .ok (.if_icmp .gt 10, 3) := by decide +kernel
theorem dX7_handAt_23 : decode cX7_handAt 23 = .ok (.aload_n 0, 1) := by decide +kernel
theorem dX7_handAt_24 : decode cX7_handAt 24 = .ok (.getfield 15, 3) := by decide +kernel
theorem dX7_handAt_27 : decode cX7_handAt 27 = .ok (.iload_n 3, 1) := by decide +kernel
theorem dX7_handAt_28 : decode cX7_handAt 28 = .ok (.iaload, 1) := by decide +kernel
theorem dX7_handAt_29 : decode cX7_handAt 29 = .ok (.istore_n 2, 1) := by decide +kernel
theorem dX7_handAt_30 : decode cX7_handAt 30 = .ok (.iinc 3 1, 3) := by decide +kernel
theorem dX7_handAt_33 : decode cX7_handAt 33 = .ok (.goto (-28), 3) := by decide +kernel
theorem dX7_handAt_36 : decode cX7_handAt 36 = .ok (.iload_n 2, 1) := by decide +kernel
theorem dX7_handAt_37 : decode cX7_handAt 37 = .ok (.ireturn, 1) := by decide +kernel
set_option maxRecDepth 20000 in
theorem ggX7_daysWithin_X7_firstOf : GoodIn wsX7_daysWithin wsX7_firstOf := goodIn_r _ [12, 13, 14, 44, 45, 46] rfl (by decide +kernel)
set_option maxRecDepth 20000 in
theorem gX7_daysWithin_X7_firstOf : GoodIn wsX7_daysWithin (wsV RX7 61 RX7 yX7_firstOf wsX7_firstOf) := goodIn_app (goodIn_of _ (by decide +kernel)) ggX7_daysWithin_X7_firstOf
set_option maxRecDepth 20000 in
theorem ggX7_daysWithin_X0_dayOf : GoodIn wsX7_daysWithin wsX0_dayOf := goodIn_r _ [18, 19, 20, 17, 21, 22, 23, 24, 25, 26, 27, 28, 6, 3, 7, 29, 2, 4, 30, 31, 32, 33] rfl (by decide +kernel)
set_option maxRecDepth 20000 in
theorem gX7_daysWithin_X0_dayOf : GoodIn wsX7_daysWithin (va_wsS RX7 64 yX0_dayOf wsX0_dayOf) := goodIn_app (goodIn_of _ (by decide +kernel)) ggX7_daysWithin_X0_dayOf
set_option maxRecDepth 20000 in
theorem ggX7_daysWithin_X7_lastOf : GoodIn wsX7_daysWithin wsX7_lastOf := goodIn_r _ [37, 13, 14, 38, 39, 17, 40, 41, 42, 43, 25, 26, 27, 28, 6, 3, 7, 29, 2, 4, 30, 31, 32, 33, 44, 45, 46] rfl (by decide +kernel)
set_option maxRecDepth 20000 in
theorem gX7_daysWithin_X7_lastOf : GoodIn wsX7_daysWithin (wsV RX7 72 RX7 yX7_lastOf wsX7_lastOf) := goodIn_app (goodIn_of _ (by decide +kernel)) ggX7_daysWithin_X7_lastOf
theorem dX7_daysWithin_0 : decode cX7_daysWithin 0 = .ok (.aload_n 0, 1) := by decide +kernel
theorem dX7_daysWithin_1 : decode cX7_daysWithin 1 = .ok (.iload_n 1, 1) := by decide +kernel
theorem dX7_daysWithin_2 : decode cX7_daysWithin 2 = .ok (.invokevirtual 61, 3) := by decide +kernel
theorem dX7_daysWithin_5 : decode cX7_daysWithin 5 = .ok (.iconst (-1), 1) := by decide +kernel
theorem dX7_daysWithin_6 : decode cX7_daysWithin 6 = .ok (.if_icmp .ne 7, 3) := by decide +kernel
theorem dX7_daysWithin_9 : decode cX7_daysWithin 9 = .ok (.iload_n 2, 1) := by decide +kernel
theorem dX7_daysWithin_10 : decode cX7_daysWithin 10 = .ok (.goto 15, 3) := by decide +kernel
theorem dX7_daysWithin_13 : decode cX7_daysWithin 13 = .ok (.iload_n 2, 1) := by decide +kernel
theorem dX7_daysWithin_14 : decode cX7_daysWithin 14 = .ok (.aload_n 0, 1) := by decide +kernel
theorem dX7_daysWithin_15 : decode cX7_daysWithin 15 = .ok (.iload_n 1, 1) := by decide +kernel
theorem dX7_daysWithin_16 : decode cX7_daysWithin 16 = .ok (.invokevirtual 61, 3) := by decide +kernel
theorem dX7_daysWithin_19 : decode cX7_daysWithin 19 = .ok (.invokestatic 64, 3) := by decide +kernel
theorem dX7_daysWithin_22 : decode cX7_daysWithin 22 = .ok (.invokestatic 67, 3) := by decide +kernel
theorem dX7_daysWithin_25 : decode cX7_daysWithin 25 = .ok (.istore 4, 2) := by decide +kernel
theorem dX7_daysWithin_27 : decode cX7_daysWithin 27 = .ok (.aload_n 0, 1) := by decide +kernel
theorem dX7_daysWithin_28 : decode cX7_daysWithin 28 = .ok (.iload_n 1, 1) := by decide +kernel
theorem dX7_daysWithin_29 : decode cX7_daysWithin 29 = .ok (.invokevirtual 72, 3) := by decide +kernel
theorem dX7_daysWithin_32 : decode cX7_daysWithin 32 = .ok (.iconst (-1), 1) := by decide +kernel
theorem dX7_daysWithin_33 : decode cX7_daysWithin 33 = .ok (.if_icmp .ne 7, 3) := by decide +kernel
theorem dX7_daysWithin_36 : decode cX7_daysWithin 36 = .ok (.iload_n 3, 1) := by decide +kernel
theorem dX7_daysWithin_37 : decode cX7_daysWithin 37 = .ok (.goto 15, 3) := by decide +kernel
theorem dX7_daysWithin_40 : decode cX7_daysWithin 40 = .ok (.iload_n 3, 1) := by decide +kernel
theorem dX7_daysWithin_41 : decode cX7_daysWithin 41 = .ok (.aload_n 0, 1) := by decide +kernel
theorem dX7_daysWithin_42 : decode cX7_daysWithin 42 = .ok (.iload_n 1, 1) := by decide +kernel
theorem dX7_daysWithin_43 : decode cX7_daysWithin 43 = .ok (.invokevirtual 72, 3) := by decide +kernel
theorem dX7_daysWithin_46 : decode cX7_daysWithin 46 = .ok (.invokestatic 64, 3) := by decide +kernel
theorem dX7_daysWithin_49 : decode cX7_daysWithin 49 = .ok (.invokestatic 75, 3) := by decide +kernel
theorem dX7_daysWithin_52 : decode cX7_daysWithin 52 = .ok (.istore 5, 2) := by decide +kernel
theorem dX7_daysWithin_54 : decode cX7_daysWithin 54 = .ok (.iconst 0, 1) := by decide +kernel
theorem dX7_daysWithin_55 : decode cX7_daysWithin 55 = .ok (.iload 5, 2) := by decide +kernel
theorem dX7_daysWithin_57 : decode cX7_daysWithin 57 = .ok (.iload 4, 2) := by decide +kernel
theorem dX7_daysWithin_59 : decode cX7_daysWithin 59 = .ok (.isub, 1) := by decide +kernel
theorem dX7_daysWithin_60 : decode cX7_daysWithin 60 = .ok (.iconst 1, 1) := by decide +kernel
theorem dX7_daysWithin_61 : decode cX7_daysWithin 61 = .ok (.iadd, 1) := by decide +kernel
theorem dX7_daysWithin_62 : decode cX7_daysWithin 62 = .ok (.invokestatic 67, 3) := by decide +kernel
theorem dX7_daysWithin_65 : decode cX7_daysWithin 65 = .ok (.ireturn, 1) := by decide +kernel
set_option maxRecDepth 20000 in
theorem ggX7_gaps_X0_dayOf : GoodIn wsX7_gaps wsX0_dayOf := goodIn_r _ [6, 7, 8, 5, 9, 10, 11, 12, 13, 14, 15, 16, 17, 18, 19, 20, 21, 22, 23, 24, 25, 26] rfl (by decide +kernel)
set_option maxRecDepth 20000 in
theorem gX7_gaps_X0_dayOf : GoodIn wsX7_gaps (va_wsS RX7 64 yX0_dayOf wsX0_dayOf) := goodIn_app (goodIn_of _ (by decide +kernel)) ggX7_gaps_X0_dayOf
set_option maxRecDepth 20000 in
theorem ggX7_gaps_X7_lastOf : GoodIn wsX7_gaps wsX7_lastOf := goodIn_r _ [31, 1, 2, 32, 33, 5, 34, 35, 36, 37, 13, 14, 15, 16, 17, 18, 19, 20, 21, 22, 23, 24, 25, 26, 38, 39, 40] rfl (by decide +kernel)
set_option maxRecDepth 20000 in
theorem gX7_gaps_X7_lastOf : GoodIn wsX7_gaps (wsV RX7 72 RX7 yX7_lastOf wsX7_lastOf) := goodIn_app (goodIn_of _ (by decide +kernel)) ggX7_gaps_X7_lastOf
theorem dX7_gaps_0 : decode cX7_gaps 0 = .ok (.iconst 0, 1) := by decide +kernel
theorem dX7_gaps_1 : decode cX7_gaps 1 = .ok (.istore_n 1, 1) := by decide +kernel
theorem dX7_gaps_2 : decode cX7_gaps 2 = .ok (.iconst 1, 1) := by decide +kernel
theorem dX7_gaps_3 : decode cX7_gaps 3 = .ok (.istore_n 2, 1) := by decide +kernel
theorem dX7_gaps_4 : decode cX7_gaps 4 = .ok (.iload_n 2, 1) := by decide +kernel
theorem dX7_gaps_5 : decode cX7_gaps 5 = .ok (.aload_n 0, 1) := by decide +kernel
theorem dX7_gaps_6 : decode cX7_gaps 6 = .ok (.getfield 18, 3) := by decide +kernel
theorem dX7_gaps_9 : decode cX7_gaps 9 = .ok (.if_icmp .ge 36, 3) := by decide +kernel
theorem dX7_gaps_12 : decode cX7_gaps 12 = .ok (.aload_n 0, 1) := by decide +kernel
theorem dX7_gaps_13 : decode cX7_gaps 13 = .ok (.getfield 9, 3) := by decide +kernel
theorem dX7_gaps_16 : decode cX7_gaps 16 = .ok (.iload_n 2, 1) := by decide +kernel
theorem dX7_gaps_17 : decode cX7_gaps 17 = .ok (.iaload, 1) := by decide +kernel
theorem dX7_gaps_18 : decode cX7_gaps 18 = .ok (.invokestatic 64, 3) := by decide +kernel
theorem dX7_gaps_21 : decode cX7_gaps 21 = .ok (.aload_n 0, 1) := by decide +kernel
theorem dX7_gaps_22 : decode cX7_gaps 22 = .ok (.iload_n 2, 1) := by decide +kernel
theorem dX7_gaps_23 : decode cX7_gaps 23 = .ok (.iconst 1, 1) := by decide +kernel
theorem dX7_gaps_24 : decode cX7_gaps 24 = .ok (.isub, 1) := by decide +kernel
theorem dX7_gaps_25 : decode cX7_gaps 25 = .ok (.invokevirtual 72, 3) := by decide +kernel
theorem dX7_gaps_28 : decode cX7_gaps 28 = .ok (.invokestatic 64, 3) := by decide +kernel
theorem dX7_gaps_31 : decode cX7_gaps 31 = .ok (.iconst 1, 1) := by decide +kernel
theorem dX7_gaps_32 : decode cX7_gaps 32 = .ok (.iadd, 1) := by decide +kernel
theorem dX7_gaps_33 : decode cX7_gaps 33 = .ok (.if_icmp .eq 6, 3) := by decide +kernel
theorem dX7_gaps_36 : decode cX7_gaps 36 = .ok (.iinc 1 1, 3) := by decide +kernel
theorem dX7_gaps_39 : decode cX7_gaps 39 = .ok (.iinc 2 1, 3) := by decide +kernel
theorem dX7_gaps_42 : decode cX7_gaps 42 = .ok (.goto (-38), 3) := by decide +kernel
theorem dX7_gaps_45 : decode cX7_gaps 45 = .ok (.iload_n 1, 1) := by decide +kernel
theorem dX7_gaps_46 : decode cX7_gaps 46 = .ok (.ireturn, 1) := by decide +kernel
theorem dX8_init_0 : decode cX8_init 0 = .ok (.aload_n 0, 1) := by decide +kernel
theorem dX8_init_1 : decode cX8_init 1 = .ok (.invokespecial 3, 3) := by decide +kernel
theorem dX8_init_4 : decode cX8_init 4 = .ok (.aload_n 0, 1) := by decide +kernel
theorem dX8_init_5 : decode cX8_init 5 = .ok (.iconst 0, 1) := by decide +kernel
theorem dX8_init_6 : decode cX8_init 6 = .ok (.putfield 9, 3) := by decide +kernel
theorem dX8_init_9 : decode cX8_init 9 = .ok (.aload_n 0, 1) := by decide +kernel
theorem dX8_init_10 : decode cX8_init 10 = .ok (.iconst 1, 1) := by decide +kernel
theorem dX8_init_11 : decode cX8_init 11 = .ok (.iload_n 2, 1) := by decide +kernel
theorem dX8_init_12 : decode cX8_init 12 = .ok (.invokestatic 15, 3) := by decide +kernel
theorem dX8_init_15 : decode cX8_init 15 = .ok (.putfield 21, 3) := by decide +kernel
theorem dX8_init_18 : decode cX8_init 18 = .ok (.aload_n 0, 1) := by decide +kernel
theorem dX8_init_19 : decode cX8_init 19 = .ok (.iconst 0, 1) := by decide +kernel
theorem dX8_init_20 : decode cX8_init 20 = .ok (.iload_n 1, 1) := by decide +kernel
theorem dX8_init_21 : decode cX8_init 21 = .ok (.invokestatic 15, 3) := by decide +kernel
theorem dX8_init_24 : decode cX8_init 24 = .ok (.iconst 1, 1) := by decide +kernel
theorem dX8_init_25 : decode cX8_init 25 = .ok (.iload_n 2, 1) := by decide +kernel
theorem dX8_init_26 : decode cX8_init 26 = .ok (.invokestatic 15, 3) := by decide +kernel
theorem dX8_init_29 : decode cX8_init 29 = .ok (.imul, 1) := by decide +kernel
theorem dX8_init_30 : decode cX8_init 30 = .ok (.newarray .int, 2) := by decide +kernel
theorem dX8_init_32 : decode cX8_init 32 = .ok (.putfield 24, 3) := by decide +kernel
theorem dX8_init_35 : decode cX8_init 35 = .ok (.return_, 1) := by decide +kernel
theorem dX8_size_0 : decode cX8_size 0 = .ok (.aload_n 0, 1) := by decide +kernel
theorem dX8_size_1 : decode cX8_size 1 = .ok (.getfield 9, 3) := by decide +kernel
theorem dX8_size_4 : decode cX8_size 4 = .ok (.ireturn, 1) := by decide +kernel
theorem dX8_has_0 : decode cX8_has 0 = .ok (.iload_n 1, 1) := by decide +kernel
theorem dX8_has_1 : decode cX8_has 1 = .ok (.ifCond .lt 15, 3) := by decide +kernel
theorem dX8_has_4 : decode cX8_has 4 = .ok (.iload_n 1, 1) := by decide +kernel
theorem dX8_has_5 : decode cX8_has 5 = .ok (.aload_n 0, 1) := by decide +kernel
theorem dX8_has_6 : decode cX8_has 6 = .ok (.getfield 9, 3) := by decide +kernel
theorem dX8_has_9 : decode cX8_has 9 = .ok (.if_icmp .ge 7, 3) := by decide +kernel
theorem dX8_has_12 : decode cX8_has 12 = .ok (.iconst 1, 1) := by decide +kernel
theorem dX8_has_13 : decode cX8_has 13 = .ok (.goto 4, 3) := by decide +kernel
theorem dX8_has_16 : decode cX8_has 16 = .ok (.iconst 0, 1) := by decide +kernel
theorem dX8_has_17 : decode cX8_has 17 = .ok (.ireturn, 1) := by decide +kernel
theorem dX8_isFull_0 : decode cX8_isFull 0 = .ok (.aload_n 0, 1) := by decide +kernel
theorem dX8_isFull_1 : decode cX8_isFull 1 = .ok (.getfield 9, 3) := by decide +kernel
theorem dX8_isFull_4 : decode cX8_isFull 4 = .ok (.iconst 1, 1) := by decide +kernel
theorem dX8_isFull_5 : decode cX8_isFull 5 = .ok (.iadd, 1) := by decide +kernel
theorem dX8_isFull_6 : decode cX8_isFull 6 = .ok (.aload_n 0, 1) := by decide +kernel
theorem dX8_isFull_7 : decode cX8_isFull 7 = .ok (.getfield 21, 3) := by decide +kernel
theorem dX8_isFull_10 : decode cX8_isFull 10 = .ok (.imul, 1) := by decide +kernel
theorem dX8_isFull_11 : decode cX8_isFull 11 = .ok (.aload_n 0, 1) := by decide +kernel
theorem dX8_isFull_12 : decode cX8_isFull 12 = .ok (.getfield 24, 3) := by decide +kernel
theorem dX8_isFull_15 : decode cX8_isFull 15 = .ok (.arraylength, 1) := by decide +kernel
theorem dX8_isFull_16 : decode cX8_isFull 16 = .ok (.if_icmp .le 7, 3) := by decide +kernel
theorem dX8_isFull_19 : decode cX8_isFull 19 = .ok (.iconst 1, 1) := by decide +kernel
theorem dX8_isFull_20 : decode cX8_isFull 20 = .ok (.goto 4, 3) := by decide +kernel
theorem dX8_isFull_23 : decode cX8_isFull 23 = .ok (.iconst 0, 1) := by decide +kernel
theorem dX8_isFull_24 : decode cX8_isFull 24 = .ok (.ireturn, 1) := by decide +kernel
theorem dX8_get_0 : decode cX8_get 0 = .ok (.iload_n 1, 1) := by decide +kernel
theorem dX8_get_1 : decode cX8_get 1 = .ok (.ifCond .lt 27, 3) := by decide +kernel
theorem dX8_get_4 : decode cX8_get 4 = .ok (.iload_n 1, 1) := by decide +kernel
theorem dX8_get_5 : decode cX8_get 5 = .ok (.aload_n 0, 1) := by decide +kernel
theorem dX8_get_6 : decode cX8_get 6 = .ok (.getfield 9, 3) := by decide +kernel
theorem dX8_get_9 : decode cX8_get 9 = .ok (.if_icmp .ge 19, 3) := by decide +kernel
theorem dX8_get_12 : decode cX8_get 12 = .ok (.iload_n 2, 1) := by decide +kernel
theorem dX8_get_13 : decode cX8_get 13 = .ok (.ifCond .lt 15, 3) := by decide +kernel
theorem dX8_get_16 : decode cX8_get 16 = .ok (.iload_n 2, 1) := by decide +kernel
theorem dX8_get_17 : decode cX8_get 17 = .ok (.aload_n 0, 1) := by decide +kernel
theorem dX8_get_18 : decode cX8_get 18 = .ok (.getfield 21, 3) := by decide +kernel
theorem dX8_get_21 : decode cX8_get 21 = .ok (.if_icmp .ge 7, 3) := by decide +kernel
theorem dX8_get_24 : decode cX8_get 24 = .ok (.iconst 1, 1) := by decide +kernel
theorem dX8_get_25 : decode cX8_get 25 = .ok (.goto 4, 3) := by decide +kernel
theorem dX8_get_28 : decode cX8_get 28 = .ok (.iconst 0, 1) := by decide +kernel
theorem dX8_get_29 : decode cX8_get 29 = .ok (.istore_n 3, 1) := by decide +kernel
theorem dX8_get_30 : decode cX8_get 30 = .ok (.iload_n 3, 1) := by decide +kernel
theorem dX8_get_31 : decode cX8_get 31 = .ok (.ifCond .eq 19, 3) := by decide +kernel
theorem dX8_get_34 : decode cX8_get 34 = .ok (.aload_n 0, 1) := by decide +kernel
theorem dX8_get_35 : decode cX8_get 35 = .ok (.getfield 24, 3) := by decide +kernel
theorem dX8_get_38 : decode cX8_get 38 = .ok (.iload_n 1, 1) := by decide +kernel
theorem dX8_get_39 : decode cX8_get 39 = .ok (.aload_n 0, 1) := by decide +kernel
theorem dX8_get_40 : decode cX8_get 40 = .ok (.getfield 21, 3) := by decide +kernel
theorem dX8_get_43 : decode cX8_get 43 = .ok (.imul, 1) := by decide +kernel
theorem dX8_get_44 : decode cX8_get 44 = .ok (.iload_n 2, 1) := by decide +kernel
theorem dX8_get_45 : decode cX8_get 45 = .ok (.iadd, 1) := by decide +kernel
theorem dX8_get_46 : decode cX8_get 46 = .ok (.iaload, 1) := by decide +kernel
theorem dX8_get_47 : decode cX8_get 47 = .ok (.goto 4, 3) := by decide +kernel
theorem dX8_get_50 : decode cX8_get 50 = .ok (.iconst 0, 1) := by decide +kernel
theorem dX8_get_51 : decode cX8_get 51 = .ok (.ireturn, 1) := by decide +kernel
theorem dX8_set_0 : decode cX8_set 0 = .ok (.iload_n 1, 1) := by decide +kernel
theorem dX8_set_1 : decode cX8_set 1 = .ok (.ifCond .lt 37, 3) := by decide +kernel
theorem dX8_set_4 : decode cX8_set 4 = .ok (.iload_n 1, 1) := by decide +kernel
theorem dX8_set_5 : decode cX8_set 5 = .ok (.aload_n 0, 1) := by decide +kernel
theorem dX8_set_6 : decode cX8_set 6 = .ok (.getfield 9, 3) := by decide +kernel
theorem dX8_set_9 : decode cX8_set 9 = .ok (.if_icmp .ge 29, 3) := by decide +kernel
theorem dX8_set_12 : decode cX8_set 12 = .ok (.iload_n 2, 1) := by decide +kernel
theorem dX8_set_13 : decode cX8_set 13 = .ok (.ifCond .lt 25, 3) := by decide +kernel
theorem dX8_set_16 : decode cX8_set 16 = .ok (.iload_n 2, 1) := by decide +kernel
theorem dX8_set_17 : decode cX8_set 17 = .ok (.aload_n 0, 1) := by decide +kernel
theorem dX8_set_18 : decode cX8_set 18 = .ok (.getfield 21, 3) := by decide +kernel
theorem dX8_set_21 : decode cX8_set 21 = .ok (.if_icmp .ge 17, 3) := by decide +kernel
theorem dX8_set_24 : decode cX8_set 24 = .ok (.aload_n 0, 1) := by decide +kernel
theorem dX8_set_25 : decode cX8_set 25 = .ok (.getfield 24, 3) := by decide +kernel
theorem dX8_set_28 : decode cX8_set 28 = .ok (.iload_n 1, 1) := by decide +kernel
theorem dX8_set_29 : decode cX8_set 29 = .ok (.aload_n 0, 1) := by decide +kernel
theorem dX8_set_30 : decode cX8_set 30 = .ok (.getfield 21, 3) := by decide +kernel
theorem dX8_set_33 : decode cX8_set 33 = .ok (.imul, 1) := by decide +kernel
theorem dX8_set_34 : decode cX8_set 34 = .ok (.iload_n 2, 1) := by decide +kernel
theorem dX8_set_35 : decode cX8_set 35 = .ok (.iadd, 1) := by decide +kernel
theorem dX8_set_36 : decode cX8_set 36 = .ok (.iload_n 3, 1) := by decide +kernel
theorem dX8_set_37 : decode cX8_set 37 = .ok (.iastore, 1) := by decide +kernel
theorem dX8_set_38 : decode cX8_set 38 = .ok (.return_, 1) := by decide +kernel
set_option maxRecDepth 20000 in
theorem ggX8_add_X8_isFull : GoodIn wsX8_add wsX8_isFull := goodIn_r _ [7, 1, 2, 8, 13, 14, 15] rfl (by decide +kernel)
set_option maxRecDepth 20000 in
theorem gX8_add_X8_isFull : GoodIn wsX8_add (wsV RX8 28 RX8 yX8_isFull wsX8_isFull) := goodIn_app (goodIn_of _ (by decide +kernel)) ggX8_add_X8_isFull
set_option maxRecDepth 20000 in
theorem ggX8_add_X8_set : GoodIn wsX8_add wsX8_set := goodIn_r _ [12, 1, 2, 8, 13, 14, 15] rfl (by decide +kernel)
set_option maxRecDepth 20000 in
theorem gX8_add_X8_set : GoodIn wsX8_add (wsV RX8 32 RX8 yX8_set wsX8_set) := goodIn_app (goodIn_of _ (by decide +kernel)) ggX8_add_X8_set
theorem dX8_add_0 : decode cX8_add 0 = .ok (.aload_n 0, 1) := by decide +kernel
theorem dX8_add_1 : decode cX8_add 1 = .ok (.invokevirtual 28, 3) := by decide +kernel
theorem dX8_add_4 : decode cX8_add 4 = .ok (.ifCond .eq 5, 3) := by decide +kernel
theorem dX8_add_7 : decode cX8_add 7 = .ok (.iconst (-1), 1) := by decide +kernel
theorem dX8_add_8 : decode cX8_add 8 = .ok (.ireturn, 1) := by decide +kernel
theorem dX8_add_9 : decode cX8_add 9 = .ok (.aload_n 0, 1) := by decide +kernel
theorem dX8_add_10 : decode cX8_add 10 = .ok (.dup, 1) := by decide +kernel
theorem dX8_add_11 : decode cX8_add 11 = .ok (.getfield 9, 3) := by decide +kernel
theorem dX8_add_14 : decode cX8_add 14 = .ok (.iconst 1, 1) := by decide +kernel
theorem dX8_add_15 : decode cX8_add 15 = .ok (.iadd, 1) := by decide +kernel
theorem dX8_add_16 : decode cX8_add 16 = .ok (.putfield 9, 3) := by decide +kernel
theorem dX8_add_19 : decode cX8_add 19 = .ok (.iconst 0, 1) := by decide +kernel
theorem dX8_add_20 : decode cX8_add 20 = .ok (.istore_n 1, 1) := by decide +kernel
theorem dX8_add_21 : decode cX8_add 21 = .ok (.iload_n 1, 1) := by decide +kernel
theorem dX8_add_22 : decode cX8_add 22 = .ok (.aload_n 0, 1) := by decide +kernel
theorem dX8_add_23 : decode cX8_add 23 = .ok (.getfield 21, 3) := by decide +kernel
theorem dX8_add_26 : decode cX8_add 26 = .ok (.if_icmp .ge 21, 3) := by decide +kernel
theorem dX8_add_29 : decode cX8_add 29 = .ok (.aload_n 0, 1) := by decide +kernel
theorem dX8_add_30 : decode cX8_add 30 = .ok (.aload_n 0, 1) := by decide +kernel
theorem dX8_add_31 : decode cX8_add 31 = .ok (.getfield 9, 3) := by decide +kernel
theorem dX8_add_34 : decode cX8_add 34 = .ok (.iconst 1, 1) := by decide +kernel
theorem dX8_add_35 : decode cX8_add 35 = .ok (.isub, 1) := by decide +kernel
theorem dX8_add_36 : decode cX8_add 36 = .ok (.iload_n 1, 1) := by decide +kernel
theorem dX8_add_37 : decode cX8_add 37 = .ok (.iconst 0, 1) := by decide +kernel
theorem dX8_add_38 : decode cX8_add 38 = .ok (.invokevirtual 32, 3) := by decide +kernel
theorem dX8_add_41 : decode cX8_add 41 = .ok (.iinc 1 1, 3) := by decide +kernel
theorem dX8_add_44 : decode cX8_add 44 = .ok (.goto (-23), 3) := by decide +kernel
theorem dX8_add_47 : decode cX8_add 47 = .ok (.aload_n 0, 1) := by decide +kernel
theorem dX8_add_48 : decode cX8_add 48 = .ok (.getfield 9, 3) := by decide +kernel
theorem dX8_add_51 : decode cX8_add 51 = .ok (.iconst 1, 1) := by decide +kernel
theorem dX8_add_52 : decode cX8_add 52 = .ok (.isub, 1) := by decide +kernel
theorem dX8_add_53 : decode cX8_add 53 = .ok (.ireturn, 1) := by decide +kernel
set_option maxRecDepth 20000 in
theorem ggX8_remove_X8_has : GoodIn wsX8_remove wsX8_has := goodIn_r _ [12, 3, 13, 14, 15] rfl (by decide +kernel)
set_option maxRecDepth 20000 in
theorem gX8_remove_X8_has : GoodIn wsX8_remove (wsV RX8 36 RX8 yX8_has wsX8_has) := goodIn_app (goodIn_of _ (by decide +kernel)) ggX8_remove_X8_has
theorem dX8_remove_0 : decode cX8_remove 0 = .ok (.aload_n 0, 1) := by decide +kernel
theorem dX8_remove_1 : decode cX8_remove 1 = .ok (.iload_n 1, 1) := by decide +kernel
theorem dX8_remove_2 : decode cX8_remove 2 = .ok (.invokevirtual 36, 3) := by decide +kernel
theorem dX8_remove_5 : decode cX8_remove 5 = .ok (.ifCond .eq 51, 3) := by decide +kernel
theorem dX8_remove_8 : decode cX8_remove 8 = .ok (.iload_n 1, 1) := by decide +kernel
theorem dX8_remove_9 : decode cX8_remove 9 = .ok (.aload_n 0, 1) := by decide +kernel
theorem dX8_remove_10 : decode cX8_remove 10 = .ok (.getfield 21, 3) := by decide +kernel
theorem dX8_remove_13 : decode cX8_remove 13 = .ok (.imul, 1) := by decide +kernel
theorem dX8_remove_14 : decode cX8_remove 14 = .ok (.istore_n 2, 1) := by decide +kernel
theorem dX8_remove_15 : decode cX8_remove 15 = .ok (.aload_n 0, 1) := by decide +kernel
theorem dX8_remove_16 : decode cX8_remove 16 = .ok (.getfield 24, 3) := by decide +kernel
theorem dX8_remove_19 : decode cX8_remove 19 = .ok (.iload_n 2, 1) := by decide +kernel
theorem dX8_remove_20 : decode cX8_remove 20 = .ok (.aload_n 0, 1) := by decide +kernel
theorem dX8_remove_21 : decode cX8_remove 21 = .ok (.getfield 21, 3) := by decide +kernel
theorem dX8_remove_24 : decode cX8_remove 24 = .ok (.iadd, 1) := by decide +kernel
theorem dX8_remove_25 : decode cX8_remove 25 = .ok (.aload_n 0, 1) := by decide +kernel
theorem dX8_remove_26 : decode cX8_remove 26 = .ok (.getfield 24, 3) := by decide +kernel
theorem dX8_remove_29 : decode cX8_remove 29 = .ok (.iload_n 2, 1) := by decide +kernel
theorem dX8_remove_30 : decode cX8_remove 30 = .ok (.aload_n 0, 1) := by decide +kernel
theorem dX8_remove_31 : decode cX8_remove 31 = .ok (.getfield 9, 3) := by decide +kernel
theorem dX8_remove_34 : decode cX8_remove 34 = .ok (.iload_n 1, 1) := by decide +kernel
theorem dX8_remove_35 : decode cX8_remove 35 = .ok (.isub, 1) := by decide +kernel
theorem dX8_remove_36 : decode cX8_remove 36 = .ok (.iconst 1, 1) := by decide +kernel
theorem dX8_remove_37 : decode cX8_remove 37 = .ok (.isub, 1) := by decide +kernel
theorem dX8_remove_38 : decode cX8_remove 38 = .ok (.aload_n 0, 1) := by decide +kernel
theorem dX8_remove_39 : decode cX8_remove 39 = .ok (.getfield 21, 3) := by decide +kernel
theorem dX8_remove_42 : decode cX8_remove 42 = .ok (.imul, 1) := by decide +kernel
theorem dX8_remove_43 : decode cX8_remove 43 = .ok (.invokestatic 40, 3) := by decide +kernel
theorem dX8_remove_46 : decode cX8_remove 46 = .ok (.aload_n 0, 1) := by decide +kernel
theorem dX8_remove_47 : decode cX8_remove 47 = .ok (.dup, 1) := by decide +kernel
theorem dX8_remove_48 : decode cX8_remove 48 = .ok (.getfield 9, 3) := by decide +kernel
theorem dX8_remove_51 : decode cX8_remove 51 = .ok (.iconst 1, 1) := by decide +kernel
theorem dX8_remove_52 : decode cX8_remove 52 = .ok (.isub, 1) := by decide +kernel
theorem dX8_remove_53 : decode cX8_remove 53 = .ok (.putfield 9, 3) := by decide +kernel
theorem dX8_remove_56 : decode cX8_remove 56 = .ok (.return_, 1) := by decide +kernel
theorem dX8_clear_0 : decode cX8_clear 0 = .ok (.aload_n 0, 1) := by decide +kernel
theorem dX8_clear_1 : decode cX8_clear 1 = .ok (.iconst 0, 1) := by decide +kernel
theorem dX8_clear_2 : decode cX8_clear 2 = .ok (.putfield 9, 3) := by decide +kernel
theorem dX8_clear_5 : decode cX8_clear 5 = .ok (.return_, 1) := by decide +kernel
theorem dX8_copyFrom_0 : decode cX8_copyFrom 0 = .ok (.aload_n 1, 1) := by decide +kernel
theorem dX8_copyFrom_1 : decode cX8_copyFrom 1 = .ok (.getfield 21, 3) := by decide +kernel
theorem dX8_copyFrom_4 : decode cX8_copyFrom 4 = .ok (.aload_n 0, 1) := by decide +kernel
theorem dX8_copyFrom_5 : decode cX8_copyFrom 5 = .ok (.getfield 21, 3) := by decide +kernel
theorem dX8_copyFrom_8 : decode cX8_copyFrom 8 = .ok (.if_icmp .ne 46, 3) := by decide +kernel
theorem dX8_copyFrom_11 : decode cX8_copyFrom 11 = .ok (.aload_n 1, 1) := by decide +kernel
theorem dX8_copyFrom_12 : decode cX8_copyFrom 12 = .ok (.getfield 24, 3) := by decide +kernel
theorem dX8_copyFrom_15 : decode cX8_copyFrom 15 = .ok (.arraylength, 1) := by decide +kernel
theorem dX8_copyFrom_16 : decode cX8_copyFrom 16 = .ok (.aload_n 0, 1) := by decide +kernel
theorem dX8_copyFrom_17 : decode cX8_copyFrom 17 = .ok (.getfield 24, 3) := by decide +kernel
theorem dX8_copyFrom_20 : decode cX8_copyFrom 20 = .ok (.arraylength, 1) := by decide +kernel
theorem dX8_copyFrom_21 : decode cX8_copyFrom 21 = .ok (.if_icmp .ne 33, 3) := by decide +kernel
theorem dX8_copyFrom_24 : decode cX8_copyFrom 24 = .ok (.aload_n 1, 1) := by decide +kernel
theorem dX8_copyFrom_25 : decode cX8_copyFrom 25 = .ok (.getfield 24, 3) := by decide +kernel
theorem dX8_copyFrom_28 : decode cX8_copyFrom 28 = .ok (.iconst 0, 1) := by decide +kernel
theorem dX8_copyFrom_29 : decode cX8_copyFrom 29 = .ok (.aload_n 0, 1) := by decide +kernel
theorem dX8_copyFrom_30 : decode cX8_copyFrom 30 = .ok (.getfield 24, 3) := by decide +kernel
theorem dX8_copyFrom_33 : decode cX8_copyFrom 33 = .ok (.iconst 0, 1) := by decide +kernel
theorem dX8_copyFrom_34 : decode cX8_copyFrom 34 = .ok (.aload_n 1, 1) := by decide +kernel
theorem dX8_copyFrom_35 : decode cX8_copyFrom 35 = .ok (.getfield 9, 3) := by decide +kernel
theorem dX8_copyFrom_38 : decode cX8_copyFrom 38 = .ok (.aload_n 0, 1) := by decide +kernel
theorem dX8_copyFrom_39 : decode cX8_copyFrom 39 = .ok (.getfield 21, 3) := by decide +kernel
theorem dX8_copyFrom_42 : decode cX8_copyFrom 42 = .ok (.imul, 1) := by decide +kernel
theorem dX8_copyFrom_43 : decode cX8_copyFrom 43 = .ok (.invokestatic 40, 3) := by decide +kernel
theorem dX8_copyFrom_46 : decode cX8_copyFrom 46 = .ok (.aload_n 0, 1) := by decide +kernel
theorem dX8_copyFrom_47 : decode cX8_copyFrom 47 = .ok (.aload_n 1, 1) := by decide +kernel
theorem dX8_copyFrom_48 : decode cX8_copyFrom 48 = .ok (.getfield 9, 3) := by decide +kernel
theorem dX8_copyFrom_51 : decode cX8_copyFrom 51 = .ok (.putfield 9, 3) := by decide +kernel
theorem dX8_copyFrom_54 : decode cX8_copyFrom 54 = .ok (.return_, 1) := by decide +kernel
theorem dX9_init_0 : decode cX9_init 0 = .ok (.aload_n 0, 1) := by decide +kernel
theorem dX9_init_1 : decode cX9_init 1 = .ok (.invokespecial 3, 3) := by decide +kernel
theorem dX9_init_4 : decode cX9_init 4 = .ok (.aload_n 0, 1) := by decide +kernel
theorem dX9_init_5 : decode cX9_init 5 = .ok (.sipush 300, 3) := by decide +kernel
theorem dX9_init_8 : decode cX9_init 8 = .ok (.newarray .int, 2) := by decide +kernel
theorem dX9_init_10 : decode cX9_init 10 = .ok (.putfield 9, 3) := by decide +kernel
theorem dX9_init_13 : decode cX9_init 13 = .ok (.aload_n 0, 1) := by decide +kernel
theorem dX9_init_14 : decode cX9_init 14 = .ok (.iconst 0, 1) := by decide +kernel
theorem dX9_init_15 : decode cX9_init 15 = .ok (.putfield 15, 3) := by decide +kernel
theorem dX9_init_18 : decode cX9_init 18 = .ok (.aload_n 0, 1) := by decide +kernel
theorem dX9_init_19 : decode cX9_init 19 = .ok (.iconst (-1), 1) := by decide +kernel
theorem dX9_init_20 : decode cX9_init 20 = .ok (.putfield 19, 3) := by decide +kernel
theorem dX9_init_23 : decode cX9_init 23 = .ok (.return_, 1) := by decide +kernel
theorem dX9_bytesIn_0 : decode cX9_bytesIn 0 = .ok (.iconst 0, 1) := by decide +kernel
theorem dX9_bytesIn_1 : decode cX9_bytesIn 1 = .ok (.istore_n 1, 1) := by decide +kernel
theorem dX9_bytesIn_2 : decode cX9_bytesIn 2 = .ok (.bipush 24, 2) := by decide +kernel
theorem dX9_bytesIn_4 : decode cX9_bytesIn 4 = .ok (.istore_n 2, 1) := by decide +kernel
theorem dX9_bytesIn_5 : decode cX9_bytesIn 5 = .ok (.iload_n 2, 1) := by decide +kernel
theorem dX9_bytesIn_6 : decode cX9_bytesIn 6 = .ok (.ifCond .lt 27, 3) := by decide +kernel
theorem dX9_bytesIn_9 : decode cX9_bytesIn 9 = .ok (.iload_n 1, 1) := by decide +kernel
theorem dX9_bytesIn_10 : decode cX9_bytesIn 10 = .ok (.iload_n 0, 1) := by decide +kernel
theorem dX9_bytesIn_11 : decode cX9_bytesIn 11 = .ok (.iload_n 2, 1) := by decide +kernel
theorem dX9_bytesIn_12 : decode cX9_bytesIn 12 = .ok (.iushr, 1) := by decide +kernel
theorem dX9_bytesIn_13 : decode cX9_bytesIn 13 = .ok (.sipush 255, 3) := by decide +kernel
theorem dX9_bytesIn_16 : decode cX9_bytesIn 16 = .ok (.iand, 1) := by decide +kernel
theorem dX9_bytesIn_17 : decode cX9_bytesIn 17 = .ok (.ifCond .ne 7, 3) := by decide +kernel
theorem dX9_bytesIn_20 : decode cX9_bytesIn 20 = .ok (.iconst 0, 1) := by decide +kernel
theorem dX9_bytesIn_21 : decode cX9_bytesIn 21 = .ok (.goto 4, 3) := by decide +kernel
theorem dX9_bytesIn_24 : decode cX9_bytesIn 24 = .ok (.iconst 1, 1) := by decide +kernel
theorem dX9_bytesIn_25 : decode cX9_bytesIn 25 = .ok (.iadd, 1) := by decide +kernel
theorem dX9_bytesIn_26 : decode cX9_bytesIn 26 = .ok (.istore_n 1, 1) := by decide +kernel
theorem dX9_bytesIn_27 : decode cX9_bytesIn 27 = .ok (.iinc 2 (-8), 3) := by decide +kernel
theorem dX9_bytesIn_30 : decode cX9_bytesIn 30 = .ok (.goto (-25), 3) := by decide +kernel
theorem dX9_bytesIn_33 : decode cX9_bytesIn 33 = .ok (.iload_n 1, 1) := by decide +kernel
theorem dX9_bytesIn_34 : decode cX9_bytesIn 34 = .ok (.ireturn, 1) := by decide +kernel
theorem dX9_putBytes_0 : decode cX9_putBytes 0 = .ok (.bipush 24, 2) := by decide +kernel
theorem dX9_putBytes_2 : decode cX9_putBytes 2 = .ok (.istore_n 2, 1) := by decide +kernel
theorem dX9_putBytes_3 : decode cX9_putBytes 3 = .ok (.iload_n 2, 1) := by decide +kernel
theorem dX9_putBytes_4 : decode cX9_putBytes 4 = .ok (.ifCond .lt 53, 3) := by decide +kernel
theorem dX9_putBytes_7 : decode cX9_putBytes 7 = .ok (.iload_n 1, 1) := by decide +kernel
theorem dX9_putBytes_8 : decode cX9_putBytes 8 = .ok (.iload_n 2, 1) := by decide +kernel
theorem dX9_putBytes_9 : decode cX9_putBytes 9 = .ok (.iushr, 1) := by decide +kernel
theorem dX9_putBytes_10 : decode cX9_putBytes 10 = .ok (.sipush 255, 3) := by decide +kernel
theorem dX9_putBytes_13 : decode cX9_putBytes 13 = .ok (.iand, 1) := by decide +kernel
theorem dX9_putBytes_14 : decode cX9_putBytes 14 = .ok (.istore_n 3, 1) := by decide +kernel
theorem dX9_putBytes_15 : decode cX9_putBytes 15 = .ok (.iload_n 3, 1) := by decide +kernel
theorem dX9_putBytes_16 : decode cX9_putBytes 16 = .ok (.ifCond .eq 35, 3) := by decide +kernel
theorem dX9_putBytes_19 : decode cX9_putBytes 19 = .ok (.aload_n 0, 1) := by decide +kernel
theorem dX9_putBytes_20 : decode cX9_putBytes 20 = .ok (.getfield 15, 3) := by decide +kernel
theorem dX9_putBytes_23 : decode cX9_putBytes 23 = .ok (.aload_n 0, 1) := by decide +kernel
theorem dX9_putBytes_24 : decode cX9_putBytes 24 = .ok (.getfield 9, 3) := by decide +kernel
theorem dX9_putBytes_27 : decode cX9_putBytes 27 = .ok (.arraylength, 1) := by decide +kernel
theorem dX9_putBytes_28 : decode cX9_putBytes 28 = .ok (.if_icmp .ge 23, 3) := by decide +kernel
theorem dX9_putBytes_31 : decode cX9_putBytes 31 = .ok (.aload_n 0, 1) := by decide +kernel
theorem dX9_putBytes_32 : decode cX9_putBytes 32 = .ok (.getfield 9, 3) := by decide +kernel
theorem dX9_putBytes_35 : decode cX9_putBytes 35 = .ok (.aload_n 0, 1) := by decide +kernel
theorem dX9_putBytes_36 : decode cX9_putBytes 36 = .ok (.getfield 15, 3) := by decide +kernel
theorem dX9_putBytes_39 : decode cX9_putBytes 39 = .ok (.iload_n 3, 1) := by decide +kernel
theorem dX9_putBytes_40 : decode cX9_putBytes 40 = .ok (.iastore, 1) := by decide +kernel
theorem dX9_putBytes_41 : decode cX9_putBytes 41 = .ok (.aload_n 0, 1) := by decide +kernel
theorem dX9_putBytes_42 : decode cX9_putBytes 42 = .ok (.dup, 1) := by decide +kernel
theorem dX9_putBytes_43 : decode cX9_putBytes 43 = .ok (.getfield 15, 3) := by decide +kernel
theorem dX9_putBytes_46 : decode cX9_putBytes 46 = .ok (.iconst 1, 1) := by decide +kernel
theorem dX9_putBytes_47 : decode cX9_putBytes 47 = .ok (.iadd, 1) := by decide +kernel
theorem dX9_putBytes_48 : decode cX9_putBytes 48 = .ok (.putfield 15, 3) := by decide +kernel
theorem dX9_putBytes_51 : decode cX9_putBytes 51 = .ok (.iinc 2 (-8), 3) := by decide +kernel
theorem dX9_putBytes_54 : decode cX9_putBytes 54 = .ok (.goto (-51), 3) := by decide +kernel
theorem dX9_putBytes_57 : decode cX9_putBytes 57 = .ok (.return_, 1) := by decide +kernel
theorem dX9_length_0 : decode cX9_length 0 = .ok (.aload_n 0, 1) := by decide +kernel
theorem dX9_length_1 : decode cX9_length 1 = .ok (.getfield 15, 3) := by decide +kernel
theorem dX9_length_4 : decode cX9_length 4 = .ok (.ireturn, 1) := by decide +kernel
theorem dX9_byteAt_0 : decode cX9_byteAt 0 = .ok (.iload_n 1, 1) := by decide +kernel
theorem dX9_byteAt_1 : decode cX9_byteAt 1 = .ok (.ifCond .lt 20, 3) := by decide +kernel
theorem dX9_byteAt_4 : decode cX9_byteAt 4 = .ok (.iload_n 1, 1) := by decide +kernel
theorem dX9_byteAt_5 : decode cX9_byteAt 5 = .ok (.aload_n 0, 1) := by decide +kernel
theorem dX9_byteAt_6 : decode cX9_byteAt 6 = .ok (.getfield 15, 3) := by decide +kernel
theorem dX9_byteAt_9 : decode cX9_byteAt 9 = .ok (.if_icmp .ge 12, 3) := by decide +kernel
theorem dX9_byteAt_12 : decode cX9_byteAt 12 = .ok (.aload_n 0, 1) := by decide +kernel
theorem dX9_byteAt_13 : decode cX9_byteAt 13 = .ok (.getfield 9, 3) := by decide +kernel
theorem dX9_byteAt_16 : decode cX9_byteAt 16 = .ok (.iload_n 1, 1) := by decide +kernel
theorem dX9_byteAt_17 : decode cX9_byteAt 17 = .ok (.iaload, 1) := by decide +kernel
theorem dX9_byteAt_18 : decode cX9_byteAt 18 = .ok (.goto 4, 3) := by decide +kernel
theorem dX9_byteAt_21 : decode cX9_byteAt 21 = .ok (.iconst 0, 1) := by decide +kernel
theorem dX9_byteAt_22 : decode cX9_byteAt 22 = .ok (.ireturn, 1) := by decide +kernel
theorem dX9_empty_0 : decode cX9_empty 0 = .ok (.aload_n 0, 1) := by decide +kernel
theorem dX9_empty_1 : decode cX9_empty 1 = .ok (.iconst 0, 1) := by decide +kernel
theorem dX9_empty_2 : decode cX9_empty 2 = .ok (.putfield 15, 3) := by decide +kernel
theorem dX9_empty_5 : decode cX9_empty 5 = .ok (.return_, 1) := by decide +kernel
theorem dX9_error_0 : decode cX9_error 0 = .ok (.aload_n 0, 1) := by decide +kernel
theorem dX9_error_1 : decode cX9_error 1 = .ok (.getfield 19, 3) := by decide +kernel
theorem dX9_error_4 : decode cX9_error 4 = .ok (.ireturn, 1) := by decide +kernel
theorem dX9_wasRead_0 : decode cX9_wasRead 0 = .ok (.aload_n 0, 1) := by decide +kernel
theorem dX9_wasRead_1 : decode cX9_wasRead 1 = .ok (.iconst 0, 1) := by decide +kernel
theorem dX9_wasRead_2 : decode cX9_wasRead 2 = .ok (.putfield 15, 3) := by decide +kernel
theorem dX9_wasRead_5 : decode cX9_wasRead 5 = .ok (.aload_n 0, 1) := by decide +kernel
theorem dX9_wasRead_6 : decode cX9_wasRead 6 = .ok (.iload_n 1, 1) := by decide +kernel
theorem dX9_wasRead_7 : decode cX9_wasRead 7 = .ok (.putfield 19, 3) := by decide +kernel
theorem dX9_wasRead_10 : decode cX9_wasRead 10 = .ok (.return_, 1) := by decide +kernel
set_option maxRecDepth 20000 in
theorem ggX9_codeFrom_X9_byteAt : GoodIn wsX9_codeFrom wsX9_byteAt := goodIn_r _ [5, 6, 7, 8, 9, 10] rfl (by decide +kernel)
set_option maxRecDepth 20000 in
theorem gX9_codeFrom_X9_byteAt : GoodIn wsX9_codeFrom (wsV RX9 22 RX9 yX9_byteAt wsX9_byteAt) := goodIn_app (goodIn_of _ (by decide +kernel)) ggX9_codeFrom_X9_byteAt
theorem dX9_codeFrom_0 : decode cX9_codeFrom 0 = .ok (.iconst 0, 1) := by decide +kernel
theorem dX9_codeFrom_1 : decode cX9_codeFrom 1 = .ok (.istore_n 3, 1) := by decide +kernel
theorem dX9_codeFrom_2 : decode cX9_codeFrom 2 = .ok (.iconst 0, 1) := by decide +kernel
theorem dX9_codeFrom_3 : decode cX9_codeFrom 3 = .ok (.istore 4, 2) := by decide +kernel
theorem dX9_codeFrom_5 : decode cX9_codeFrom 5 = .ok (.iload 4, 2) := by decide +kernel
theorem dX9_codeFrom_7 : decode cX9_codeFrom 7 = .ok (.iconst 4, 1) := by decide +kernel
theorem dX9_codeFrom_8 : decode cX9_codeFrom 8 = .ok (.if_icmp .ge 33, 3) := by decide +kernel
theorem dX9_codeFrom_11 : decode cX9_codeFrom 11 = .ok (.iload_n 3, 1) := by decide +kernel
theorem dX9_codeFrom_12 : decode cX9_codeFrom 12 = .ok (.bipush 8, 2) := by decide +kernel
theorem dX9_codeFrom_14 : decode cX9_codeFrom 14 = .ok (.ishl, 1) := by decide +kernel
theorem dX9_codeFrom_15 : decode cX9_codeFrom 15 = .ok (.iload 4, 2) := by decide +kernel
theorem dX9_codeFrom_17 : decode cX9_codeFrom 17 = .ok (.iload_n 2, 1) := by decide +kernel
theorem dX9_codeFrom_18 : decode cX9_codeFrom 18 = .ok (.if_icmp .ge 14, 3) := by decide +kernel
theorem dX9_codeFrom_21 : decode cX9_codeFrom 21 = .ok (.aload_n 0, 1) := by decide +kernel
theorem dX9_codeFrom_22 : decode cX9_codeFrom 22 = .ok (.iload_n 1, 1) := by decide +kernel
theorem dX9_codeFrom_23 : decode cX9_codeFrom 23 = .ok (.iload 4, 2) := by decide +kernel
theorem dX9_codeFrom_25 : decode cX9_codeFrom 25 = .ok (.iadd, 1) := by decide +kernel
theorem dX9_codeFrom_26 : decode cX9_codeFrom 26 = .ok (.invokevirtual 22, 3) := by decide +kernel
theorem dX9_codeFrom_29 : decode cX9_codeFrom 29 = .ok (.goto 4, 3) := by decide +kernel
theorem dX9_codeFrom_32 : decode cX9_codeFrom 32 = .ok (.iconst 0, 1) := by decide +kernel
theorem dX9_codeFrom_33 : decode cX9_codeFrom 33 = .ok (.ior, 1) := by decide +kernel
theorem dX9_codeFrom_34 : decode cX9_codeFrom 34 = .ok (.istore_n 3, 1) := by decide +kernel
theorem dX9_codeFrom_35 : decode cX9_codeFrom 35 = .ok (.iinc 4 1, 3) := by decide +kernel
theorem dX9_codeFrom_38 : decode cX9_codeFrom 38 = .ok (.goto (-33), 3) := by decide +kernel
theorem dX9_codeFrom_41 : decode cX9_codeFrom 41 = .ok (.iload_n 3, 1) := by decide +kernel
theorem dX9_codeFrom_42 : decode cX9_codeFrom 42 = .ok (.ireturn, 1) := by decide +kernel
set_option maxRecDepth 20000 in
theorem ggX9_codeOnIt_X9_codeFrom : GoodIn wsX9_codeOnIt wsX9_codeFrom := goodIn_r _ [10, 11, 12, 13, 9, 14, 1, 15, 16, 17, 18] rfl (by decide +kernel)
set_option maxRecDepth 20000 in
theorem gX9_codeOnIt_X9_codeFrom : GoodIn wsX9_codeOnIt (wsV RX9 32 RX9 yX9_codeFrom wsX9_codeFrom) := goodIn_app (goodIn_of _ (by decide +kernel)) ggX9_codeOnIt_X9_codeFrom
theorem dX9_codeOnIt_0 : decode cX9_codeOnIt 0 = .ok (.aload_n 0, 1) := by decide +kernel
theorem dX9_codeOnIt_1 : decode cX9_codeOnIt 1 = .ok (.iconst 0, 1) := by decide +kernel
theorem dX9_codeOnIt_2 : decode cX9_codeOnIt 2 = .ok (.iconst 4, 1) := by decide +kernel
theorem dX9_codeOnIt_3 : decode cX9_codeOnIt 3 = .ok (.aload_n 0, 1) := by decide +kernel
theorem dX9_codeOnIt_4 : decode cX9_codeOnIt 4 = .ok (.getfield 15, 3) := by decide +kernel
theorem dX9_codeOnIt_7 : decode cX9_codeOnIt 7 = .ok (.invokestatic 26, 3) := by decide +kernel
theorem dX9_codeOnIt_10 : decode cX9_codeOnIt 10 = .ok (.invokevirtual 32, 3) := by decide +kernel
theorem dX9_codeOnIt_13 : decode cX9_codeOnIt 13 = .ok (.ireturn, 1) := by decide +kernel
set_option maxRecDepth 20000 in
theorem ggX9_codeError_X9_byteAt : GoodIn wsX9_codeError wsX9_byteAt := goodIn_r _ [6, 1, 7, 11, 12, 13] rfl (by decide +kernel)
set_option maxRecDepth 20000 in
theorem gX9_codeError_X9_byteAt : GoodIn wsX9_codeError (wsV RX9 22 RX9 yX9_byteAt wsX9_byteAt) := goodIn_app (goodIn_of _ (by decide +kernel)) ggX9_codeError_X9_byteAt
set_option maxRecDepth 20000 in
theorem ggX9_codeError_X9_isLetter : GoodIn wsX9_codeError wsX9_isLetter := goodIn_r _ [10] rfl (by decide +kernel)
set_option maxRecDepth 20000 in
theorem gX9_codeError_X9_isLetter : GoodIn wsX9_codeError (va_wsS RX9 35 yX9_isLetter wsX9_isLetter) := goodIn_app (goodIn_of _ (by decide +kernel)) ggX9_codeError_X9_isLetter
theorem dX9_codeError_0 : decode cX9_codeError 0 = .ok (.iconst 0, 1) := by decide +kernel
theorem dX9_codeError_1 : decode cX9_codeError 1 = .ok (.istore_n 1, 1) := by decide +kernel
theorem dX9_codeError_2 : decode cX9_codeError 2 = .ok (.iload_n 1, 1) := by decide +kernel
theorem dX9_codeError_3 : decode cX9_codeError 3 = .ok (.aload_n 0, 1) := by decide +kernel
theorem dX9_codeError_4 : decode cX9_codeError 4 = .ok (.getfield 15, 3) := by decide +kernel
theorem dX9_codeError_7 : decode cX9_codeError 7 = .ok (.if_icmp .ge 27, 3) := by decide +kernel
theorem dX9_codeError_10 : decode cX9_codeError 10 = .ok (.iload_n 1, 1) := by decide +kernel
theorem dX9_codeError_11 : decode cX9_codeError 11 = .ok (.iconst 4, 1) := by decide +kernel
theorem dX9_codeError_12 : decode cX9_codeError 12 = .ok (.if_icmp .eq 14, 3) := by decide +kernel
theorem dX9_codeError_15 : decode cX9_codeError 15 = .ok (.aload_n 0, 1) := by decide +kernel
theorem dX9_codeError_16 : decode cX9_codeError 16 = .ok (.iload_n 1, 1) := by decide +kernel
theorem dX9_codeError_17 : decode cX9_codeError 17 = .ok (.invokevirtual 22, 3) := by decide +kernel
theorem dX9_codeError_20 : decode cX9_codeError 20 = .ok (.invokestatic 35, 3) := by decide +kernel
theorem dX9_codeError_23 : decode cX9_codeError 23 = .ok (.ifCond .ne 5, 3) := by decide +kernel
theorem dX9_codeError_26 : decode cX9_codeError 26 = .ok (.iload_n 1, 1) := by decide +kernel
theorem dX9_codeError_27 : decode cX9_codeError 27 = .ok (.ireturn, 1) := by decide +kernel
theorem dX9_codeError_28 : decode cX9_codeError 28 = .ok (.iinc 1 1, 3) := by decide +kernel
theorem dX9_codeError_31 : decode cX9_codeError 31 = .ok (.goto (-29), 3) := by decide +kernel
theorem dX9_codeError_34 : decode cX9_codeError 34 = .ok (.aload_n 0, 1) := by decide +kernel
theorem dX9_codeError_35 : decode cX9_codeError 35 = .ok (.getfield 15, 3) := by decide +kernel
theorem dX9_codeError_38 : decode cX9_codeError 38 = .ok (.ifCond .ne 7, 3) := by decide +kernel
theorem dX9_codeError_41 : decode cX9_codeError 41 = .ok (.iconst 0, 1) := by decide +kernel
theorem dX9_codeError_42 : decode cX9_codeError 42 = .ok (.goto 4, 3) := by decide +kernel
theorem dX9_codeError_45 : decode cX9_codeError 45 = .ok (.iconst (-1), 1) := by decide +kernel
theorem dX9_codeError_46 : decode cX9_codeError 46 = .ok (.ireturn, 1) := by decide +kernel
theorem dX9_isLetter_0 : decode cX9_isLetter 0 = .ok (.iload_n 0, 1) := by decide +kernel
theorem dX9_isLetter_1 : decode cX9_isLetter 1 = .ok (.bipush 97, 2) := by decide +kernel
theorem dX9_isLetter_3 : decode cX9_isLetter 3 = .ok (.if_icmp .lt 13, 3) := by decide +kernel
theorem dX9_isLetter_6 : decode cX9_isLetter 6 = .ok (.iload_n 0, 1) := by decide +kernel
theorem dX9_isLetter_7 : decode cX9_isLetter 7 = .ok (.bipush 122, 2) := by decide +kernel
theorem dX9_isLetter_9 : decode cX9_isLetter 9 = .ok (.if_icmp .gt 7, 3) := by decide +kernel
theorem dX9_isLetter_12 : decode cX9_isLetter 12 = .ok (.iconst 1, 1) := by decide +kernel
theorem dX9_isLetter_13 : decode cX9_isLetter 13 = .ok (.goto 4, 3) := by decide +kernel
theorem dX9_isLetter_16 : decode cX9_isLetter 16 = .ok (.iconst 0, 1) := by decide +kernel
theorem dX9_isLetter_17 : decode cX9_isLetter 17 = .ok (.ireturn, 1) := by decide +kernel
theorem dX9_isDigit_0 : decode cX9_isDigit 0 = .ok (.iload_n 0, 1) := by decide +kernel
theorem dX9_isDigit_1 : decode cX9_isDigit 1 = .ok (.bipush 48, 2) := by decide +kernel
theorem dX9_isDigit_3 : decode cX9_isDigit 3 = .ok (.if_icmp .lt 13, 3) := by decide +kernel
theorem dX9_isDigit_6 : decode cX9_isDigit 6 = .ok (.iload_n 0, 1) := by decide +kernel
theorem dX9_isDigit_7 : decode cX9_isDigit 7 = .ok (.bipush 57, 2) := by decide +kernel
theorem dX9_isDigit_9 : decode cX9_isDigit 9 = .ok (.if_icmp .gt 7, 3) := by decide +kernel
theorem dX9_isDigit_12 : decode cX9_isDigit 12 = .ok (.iconst 1, 1) := by decide +kernel
theorem dX9_isDigit_13 : decode cX9_isDigit 13 = .ok (.goto 4, 3) := by decide +kernel
theorem dX9_isDigit_16 : decode cX9_isDigit 16 = .ok (.iconst 0, 1) := by decide +kernel
theorem dX9_isDigit_17 : decode cX9_isDigit 17 = .ok (.ireturn, 1) := by decide +kernel
set_option maxRecDepth 20000 in
theorem ggX10_init_X6_init : GoodIn wsX10_init wsX6_init := goodIn_r _ [38, 39, 2, 3, 40, 41, 42, 43, 44, 45, 46, 47, 48, 49, 50, 51, 52, 53, 54, 55, 56, 57, 58, 59, 60, 61, 62, 63, 64, 65, 66, 67, 68, 69, 70, 71, 72, 73, 74, 75, 187, 188, 189, 133, 134, 135, 136, 137, 138, 139, 140] rfl (by decide +kernel)
set_option maxRecDepth 20000 in
theorem gX10_init_X6_init : GoodIn wsX10_init (wsX6_init) := ggX10_init_X6_init
set_option maxRecDepth 20000 in
theorem ggX10_init_X9_init : GoodIn wsX10_init wsX9_init := goodIn_r _ [77, 78, 2, 3, 61, 79, 80, 81, 152, 153, 154] rfl (by decide +kernel)
set_option maxRecDepth 20000 in
theorem gX10_init_X9_init_n32 : GoodIn wsX10_init (wsX9_init) := ggX10_init_X9_init
set_option maxRecDepth 20000 in
theorem ggX10_init_X1_init : GoodIn wsX10_init wsX1_init := goodIn_r _ [83, 84, 2, 3, 85, 41, 42, 86, 87, 88, 89, 90, 91, 92, 93, 94, 52, 53, 54, 55, 56, 57, 58, 59, 60, 61, 62, 187, 188, 189, 155, 156, 157, 158, 159, 160, 161] rfl (by decide +kernel)
set_option maxRecDepth 20000 in
theorem gX10_init_X1_init_n39 : GoodIn wsX10_init (wsX1_init) := ggX10_init_X1_init
set_option maxRecDepth 20000 in
theorem ggX10_init_X5_init : GoodIn wsX10_init wsX5_init := goodIn_r _ [96, 97, 2, 3, 61, 98, 99, 100, 101, 102, 103, 104, 105, 106, 107, 108, 162, 163, 164, 165, 166, 167, 168, 169, 170, 171, 172] rfl (by decide +kernel)
set_option maxRecDepth 20000 in
theorem gX10_init_X5_init_n46 : GoodIn wsX10_init (wsX5_init) := ggX10_init_X5_init
set_option maxRecDepth 20000 in
theorem ggX10_init_X3_init : GoodIn wsX10_init wsX3_init := goodIn_r _ [110, 111, 2, 3, 61, 112, 113, 114, 115, 116, 117, 118, 119, 173, 174, 175, 176, 177, 178, 179] rfl (by decide +kernel)
set_option maxRecDepth 20000 in
theorem gX10_init_X3_init_n53 : GoodIn wsX10_init (wsX3_init) := ggX10_init_X3_init
set_option maxRecDepth 20000 in
theorem ggX10_init_X7_init : GoodIn wsX10_init wsX7_init := goodIn_r _ [121, 122, 2, 3, 61, 123, 124, 125, 180, 181, 182] rfl (by decide +kernel)
set_option maxRecDepth 20000 in
theorem gX10_init_X7_init_n60 : GoodIn wsX10_init (wsX7_init) := ggX10_init_X7_init
set_option maxRecDepth 20000 in
theorem ggX10_init_X2_init : GoodIn wsX10_init wsX2_init := goodIn_r _ [127, 128, 2, 3, 61, 129, 130, 131, 132, 183, 184, 185, 186] rfl (by decide +kernel)
set_option maxRecDepth 20000 in
theorem gX10_init_X2_init_n67 : GoodIn wsX10_init (wsX2_init) := ggX10_init_X2_init
theorem dX10_init_0 : decode cX10_init 0 = .ok (.aload_n 0, 1) := by decide +kernel
theorem dX10_init_1 : decode cX10_init 1 = .ok (.invokespecial 3, 3) := by decide +kernel
theorem dX10_init_4 : decode cX10_init 4 = .ok (.aload_n 0, 1) := by decide +kernel
theorem dX10_init_5 : decode cX10_init 5 = .ok (.new 9, 3) := by decide +kernel
theorem dX10_init_8 : decode cX10_init 8 = .ok (.dup, 1) := by decide +kernel
theorem dX10_init_9 : decode cX10_init 9 = .ok (.invokespecial 11, 3) := by decide +kernel
theorem dX10_init_12 : decode cX10_init 12 = .ok (.putfield 12, 3) := by decide +kernel
theorem dX10_init_15 : decode cX10_init 15 = .ok (.aload_n 0, 1) := by decide +kernel
theorem dX10_init_16 : decode cX10_init 16 = .ok (.new 9, 3) := by decide +kernel
theorem dX10_init_19 : decode cX10_init 19 = .ok (.dup, 1) := by decide +kernel
theorem dX10_init_20 : decode cX10_init 20 = .ok (.invokespecial 11, 3) := by decide +kernel
theorem dX10_init_23 : decode cX10_init 23 = .ok (.putfield 16, 3) := by decide +kernel
theorem dX10_init_26 : decode cX10_init 26 = .ok (.aload_n 0, 1) := by decide +kernel
theorem dX10_init_27 : decode cX10_init 27 = .ok (.bipush 15, 2) := by decide +kernel
theorem dX10_init_29 : decode cX10_init 29 = .ok (.anewarray 9, 3) := by decide +kernel
theorem dX10_init_32 : decode cX10_init 32 = .ok (.putfield 19, 3) := by decide +kernel
theorem dX10_init_35 : decode cX10_init 35 = .ok (.aload_n 0, 1) := by decide +kernel
theorem dX10_init_36 : decode cX10_init 36 = .ok (.iconst 0, 1) := by decide +kernel
theorem dX10_init_37 : decode cX10_init 37 = .ok (.putfield 23, 3) := by decide +kernel
theorem dX10_init_40 : decode cX10_init 40 = .ok (.aload_n 0, 1) := by decide +kernel
theorem dX10_init_41 : decode cX10_init 41 = .ok (.iconst 0, 1) := by decide +kernel
theorem dX10_init_42 : decode cX10_init 42 = .ok (.putfield 27, 3) := by decide +kernel
theorem dX10_init_45 : decode cX10_init 45 = .ok (.aload_n 0, 1) := by decide +kernel
theorem dX10_init_46 : decode cX10_init 46 = .ok (.new 30, 3) := by decide +kernel
theorem dX10_init_49 : decode cX10_init 49 = .ok (.dup, 1) := by decide +kernel
theorem dX10_init_50 : decode cX10_init 50 = .ok (.invokespecial 32, 3) := by decide +kernel
theorem dX10_init_53 : decode cX10_init 53 = .ok (.putfield 33, 3) := by decide +kernel
theorem dX10_init_56 : decode cX10_init 56 = .ok (.aload_n 0, 1) := by decide +kernel
theorem dX10_init_57 : decode cX10_init 57 = .ok (.new 37, 3) := by decide +kernel
theorem dX10_init_60 : decode cX10_init 60 = .ok (.dup, 1) := by decide +kernel
theorem dX10_init_61 : decode cX10_init 61 = .ok (.invokespecial 39, 3) := by decide +kernel
theorem dX10_init_64 : decode cX10_init 64 = .ok (.putfield 40, 3) := by decide +kernel
theorem dX10_init_67 : decode cX10_init 67 = .ok (.aload_n 0, 1) := by decide +kernel
theorem dX10_init_68 : decode cX10_init 68 = .ok (.new 44, 3) := by decide +kernel
theorem dX10_init_71 : decode cX10_init 71 = .ok (.dup, 1) := by decide +kernel
theorem dX10_init_72 : decode cX10_init 72 = .ok (.invokespecial 46, 3) := by decide +kernel
theorem dX10_init_75 : decode cX10_init 75 = .ok (.putfield 47, 3) := by decide +kernel
theorem dX10_init_78 : decode cX10_init 78 = .ok (.aload_n 0, 1) := by decide +kernel
theorem dX10_init_79 : decode cX10_init 79 = .ok (.new 51, 3) := by decide +kernel
theorem dX10_init_82 : decode cX10_init 82 = .ok (.dup, 1) := by decide +kernel
theorem dX10_init_83 : decode cX10_init 83 = .ok (.invokespecial 53, 3) := by decide +kernel
theorem dX10_init_86 : decode cX10_init 86 = .ok (.putfield 54, 3) := by decide +kernel
theorem dX10_init_89 : decode cX10_init 89 = .ok (.aload_n 0, 1) := by decide +kernel
theorem dX10_init_90 : decode cX10_init 90 = .ok (.new 58, 3) := by decide +kernel
theorem dX10_init_93 : decode cX10_init 93 = .ok (.dup, 1) := by decide +kernel
theorem dX10_init_94 : decode cX10_init 94 = .ok (.invokespecial 60, 3) := by decide +kernel
theorem dX10_init_97 : decode cX10_init 97 = .ok (.putfield 61, 3) := by decide +kernel
theorem dX10_init_100 : decode cX10_init 100 = .ok (.aload_n 0, 1) := by decide +kernel
theorem dX10_init_101 : decode cX10_init 101 = .ok (.new 65, 3) := by decide +kernel
theorem dX10_init_104 : decode cX10_init 104 = .ok (.dup, 1) := by decide +kernel
theorem dX10_init_105 : decode cX10_init 105 = .ok (.invokespecial 67, 3) := by decide +kernel
theorem dX10_init_108 : decode cX10_init 108 = .ok (.putfield 68, 3) := by decide +kernel
theorem dX10_init_111 : decode cX10_init 111 = .ok (.return_, 1) := by decide +kernel
set_option maxRecDepth 20000 in
theorem ggX10_append_X9_bytesIn : GoodIn wsX10_append wsX9_bytesIn := goodIn_r _ [7] rfl (by decide +kernel)
set_option maxRecDepth 20000 in
theorem gX10_append_X9_bytesIn : GoodIn wsX10_append (va_wsS RX10 72 yX9_bytesIn wsX9_bytesIn) := goodIn_app (goodIn_of _ (by decide +kernel)) ggX10_append_X9_bytesIn
set_option maxRecDepth 20000 in
theorem ggX10_append_X9_length : GoodIn wsX10_append wsX9_length := goodIn_r _ [11, 12, 29, 30, 31] rfl (by decide +kernel)
set_option maxRecDepth 20000 in
theorem gX10_append_X9_length : GoodIn wsX10_append (wsV RX10 76 RX9 yX9_length wsX9_length) := goodIn_app (goodIn_of _ (by decide +kernel)) ggX10_append_X9_length
set_option maxRecDepth 20000 in
theorem ggX10_append_X9_putBytes : GoodIn wsX10_append wsX9_putBytes := goodIn_r _ [16, 12, 17, 29, 30, 31] rfl (by decide +kernel)
set_option maxRecDepth 20000 in
theorem gX10_append_X9_putBytes : GoodIn wsX10_append (wsV RX10 87 RX9 yX9_putBytes wsX9_putBytes) := goodIn_app (goodIn_of _ (by decide +kernel)) ggX10_append_X9_putBytes
theorem dX10_append_0 : decode cX10_append 0 = .ok (.iload_n 1, 1) := by decide +kernel
theorem dX10_append_1 : decode cX10_append 1 = .ok (.invokestatic 72, 3) := by decide +kernel
theorem dX10_append_4 : decode cX10_append 4 = .ok (.iload_n 2, 1) := by decide +kernel
theorem dX10_append_5 : decode cX10_append 5 = .ok (.invokestatic 72, 3) := by decide +kernel
theorem dX10_append_8 : decode cX10_append 8 = .ok (.iadd, 1) := by decide +kernel
theorem dX10_append_9 : decode cX10_append 9 = .ok (.iload_n 3, 1) := by decide +kernel
theorem dX10_append_10 : decode cX10_append 10 = .ok (.invokestatic 72, 3) := by decide +kernel
theorem dX10_append_13 : decode cX10_append 13 = .ok (.iadd, 1) := by decide +kernel
theorem dX10_append_14 : decode cX10_append 14 = .ok (.iload 4, 2) := by decide +kernel
theorem dX10_append_16 : decode cX10_append 16 = .ok (.invokestatic 72, 3) := by decide +kernel
theorem dX10_append_19 : decode cX10_append 19 = .ok (.iadd, 1) := by decide +kernel
theorem dX10_append_20 : decode cX10_append 20 = .ok (.iload 5, 2) := by decide +kernel
theorem dX10_append_22 : decode cX10_append 22 = .ok (.invokestatic 72, 3) := by decide +kernel
theorem dX10_append_25 : decode cX10_append 25 = .ok (.iadd, 1) := by decide +kernel
theorem dX10_append_26 : decode cX10_append 26 = .ok (.istore 6, 2) := by decide +kernel
theorem dX10_append_28 : decode cX10_append 28 = .ok (.aload_n 0, 1) := by decide +kernel
theorem dX10_append_29 : decode cX10_append 29 = .ok (.getfield 33, 3) := by decide +kernel
theorem dX10_append_32 : decode cX10_append 32 = .ok (.invokevirtual 76, 3) := by decide +kernel
theorem dX10_append_35 : decode cX10_append 35 = .ok (.iload 6, 2) := by decide +kernel
theorem dX10_append_37 : decode cX10_append 37 = .ok (.iadd, 1) := by decide +kernel
theorem dX10_append_38 : decode cX10_append 38 = .ok (.sipush 300, 3) := by decide +kernel
theorem dX10_append_41 : decode cX10_append 41 = .ok (.if_icmp .le 13, 3) := by decide +kernel
theorem dX10_append_44 : decode cX10_append 44 = .ok (.new 80, 3) := by decide +kernel
theorem dX10_append_47 : decode cX10_append 47 = .ok (.dup, 1) := by decide +kernel
theorem dX10_append_48 : decode cX10_append 48 = .ok (.ldc 82, 2) := by decide +kernel
theorem dX10_append_50 : decode cX10_append 50 = .ok (.invokespecial 84, 3) := by decide +kernel
theorem dX10_append_53 : decode cX10_append 53 = .ok (.athrow, 1) := by decide +kernel
theorem dX10_append_54 : decode cX10_append 54 = .ok (.aload_n 0, 1) := by decide +kernel
theorem dX10_append_55 : decode cX10_append 55 = .ok (.getfield 33, 3) := by decide +kernel
theorem dX10_append_58 : decode cX10_append 58 = .ok (.iload_n 1, 1) := by decide +kernel
theorem dX10_append_59 : decode cX10_append 59 = .ok (.invokevirtual 87, 3) := by decide +kernel
theorem dX10_append_62 : decode cX10_append 62 = .ok (.aload_n 0, 1) := by decide +kernel
theorem dX10_append_63 : decode cX10_append 63 = .ok (.getfield 33, 3) := by decide +kernel
theorem dX10_append_66 : decode cX10_append 66 = .ok (.iload_n 2, 1) := by decide +kernel
theorem dX10_append_67 : decode cX10_append 67 = .ok (.invokevirtual 87, 3) := by decide +kernel
theorem dX10_append_70 : decode cX10_append 70 = .ok (.aload_n 0, 1) := by decide +kernel
theorem dX10_append_71 : decode cX10_append 71 = .ok (.getfield 33, 3) := by decide +kernel
theorem dX10_append_74 : decode cX10_append 74 = .ok (.iload_n 3, 1) := by decide +kernel
theorem dX10_append_75 : decode cX10_append 75 = .ok (.invokevirtual 87, 3) := by decide +kernel
theorem dX10_append_78 : decode cX10_append 78 = .ok (.aload_n 0, 1) := by decide +kernel
theorem dX10_append_79 : decode cX10_append 79 = .ok (.getfield 33, 3) := by decide +kernel
theorem dX10_append_82 : decode cX10_append 82 = .ok (.iload 4, 2) := by decide +kernel
theorem dX10_append_84 : decode cX10_append 84 = .ok (.invokevirtual 87, 3) := by decide +kernel
theorem dX10_append_87 : decode cX10_append 87 = .ok (.aload_n 0, 1) := by decide +kernel
theorem dX10_append_88 : decode cX10_append 88 = .ok (.getfield 33, 3) := by decide +kernel
theorem dX10_append_91 : decode cX10_append 91 = .ok (.iload 5, 2) := by decide +kernel
theorem dX10_append_93 : decode cX10_append 93 = .ok (.invokevirtual 87, 3) := by decide +kernel
theorem dX10_append_96 : decode cX10_append 96 = .ok (.aload_n 0, 1) := by decide +kernel
theorem dX10_append_97 : decode cX10_append 97 = .ok (.getfield 33, 3) := by decide +kernel
theorem dX10_append_100 : decode cX10_append 100 = .ok (.invokevirtual 76, 3) := by decide +kernel
theorem dX10_append_103 : decode cX10_append 103 = .ok (.ireturn, 1) := by decide +kernel
set_option maxRecDepth 20000 in
theorem ggX10_clearTape_X9_length : GoodIn wsX10_clearTape wsX9_length := goodIn_r _ [6, 7, 23, 24, 25] rfl (by decide +kernel)
set_option maxRecDepth 20000 in
theorem gX10_clearTape_X9_length : GoodIn wsX10_clearTape (wsV RX10 76 RX9 yX9_length wsX9_length) := goodIn_app (goodIn_of _ (by decide +kernel)) ggX10_clearTape_X9_length
set_option maxRecDepth 20000 in
theorem ggX10_clearTape_X9_empty : GoodIn wsX10_clearTape wsX9_empty := goodIn_r _ [11, 7, 23, 24, 25] rfl (by decide +kernel)
set_option maxRecDepth 20000 in
theorem gX10_clearTape_X9_empty : GoodIn wsX10_clearTape (wsV RX10 91 RX9 yX9_empty wsX9_empty) := goodIn_app (goodIn_of _ (by decide +kernel)) ggX10_clearTape_X9_empty
theorem dX10_clearTape_0 : decode cX10_clearTape 0 = .ok (.aload_n 0, 1) := by decide +kernel
theorem dX10_clearTape_1 : decode cX10_clearTape 1 = .ok (.getfield 33, 3) := by decide +kernel
theorem dX10_clearTape_4 : decode cX10_clearTape 4 = .ok (.invokevirtual 76, 3) := by decide +kernel
theorem dX10_clearTape_7 : decode cX10_clearTape 7 = .ok (.istore_n 1, 1) := by decide +kernel
theorem dX10_clearTape_8 : decode cX10_clearTape 8 = .ok (.aload_n 0, 1) := by decide +kernel
theorem dX10_clearTape_9 : decode cX10_clearTape 9 = .ok (.getfield 33, 3) := by decide +kernel
theorem dX10_clearTape_12 : decode cX10_clearTape 12 = .ok (.invokevirtual 91, 3) := by decide +kernel
theorem dX10_clearTape_15 : decode cX10_clearTape 15 = .ok (.iload_n 1, 1) := by decide +kernel
theorem dX10_clearTape_16 : decode cX10_clearTape 16 = .ok (.ireturn, 1) := by decide +kernel
set_option maxRecDepth 20000 in
theorem ggX10_errorPosition_X9_error : GoodIn wsX10_errorPosition wsX9_error := goodIn_r _ [6, 7, 19, 20, 21] rfl (by decide +kernel)
set_option maxRecDepth 20000 in
theorem gX10_errorPosition_X9_error : GoodIn wsX10_errorPosition (wsV RX10 94 RX9 yX9_error wsX9_error) := goodIn_app (goodIn_of _ (by decide +kernel)) ggX10_errorPosition_X9_error
theorem dX10_errorPosition_0 : decode cX10_errorPosition 0 = .ok (.aload_n 0, 1) := by decide +kernel
theorem dX10_errorPosition_1 : decode cX10_errorPosition 1 = .ok (.getfield 33, 3) := by decide +kernel
theorem dX10_errorPosition_4 : decode cX10_errorPosition 4 = .ok (.invokevirtual 94, 3) := by decide +kernel
theorem dX10_errorPosition_7 : decode cX10_errorPosition 7 = .ok (.ireturn, 1) := by decide +kernel
set_option maxRecDepth 20000 in
theorem ggX10_stone_X6_isInRange : GoodIn wsX10_stone wsX6_isInRange := goodIn_r _ [10] rfl (by decide +kernel)
set_option maxRecDepth 20000 in
theorem gX10_stone_X6_isInRange : GoodIn wsX10_stone (va_wsS RX10 97 yX6_isInRange wsX6_isInRange) := goodIn_app (goodIn_of _ (by decide +kernel)) ggX10_stone_X6_isInRange
set_option maxRecDepth 20000 in
theorem ggX10_stone_X9_codeOnIt : GoodIn wsX10_stone wsX9_codeOnIt := goodIn_r _ [15, 16, 17, 18, 19, 20, 21, 22, 23, 14, 24, 25, 26, 27, 28, 29, 142, 143, 144] rfl (by decide +kernel)
set_option maxRecDepth 20000 in
theorem gX10_stone_X9_codeOnIt : GoodIn wsX10_stone (wsV RX10 101 RX9 yX9_codeOnIt wsX9_codeOnIt) := goodIn_app (goodIn_of _ (by decide +kernel)) ggX10_stone_X9_codeOnIt
set_option maxRecDepth 20000 in
theorem ggX10_stone_X9_codeError : GoodIn wsX10_stone wsX9_codeError := goodIn_r _ [33, 16, 25, 26, 27, 14, 28, 29, 34, 35, 36, 142, 143, 144] rfl (by decide +kernel)
set_option maxRecDepth 20000 in
theorem gX10_stone_X9_codeError : GoodIn wsX10_stone (wsV RX10 104 RX9 yX9_codeError wsX9_codeError) := goodIn_app (goodIn_of _ (by decide +kernel)) ggX10_stone_X9_codeError
set_option maxRecDepth 20000 in
theorem ggX10_stone_X6_numberOf : GoodIn wsX10_stone wsX6_numberOf := goodIn_r _ [40, 41, 42, 43, 44, 45, 46, 47, 48, 49, 50, 51, 52, 53, 134, 135, 136, 137, 138, 139, 140, 141, 145, 146, 147] rfl (by decide +kernel)
set_option maxRecDepth 20000 in
theorem gX10_stone_X6_numberOf : GoodIn wsX10_stone (wsV RX10 107 RX6 yX6_numberOf wsX6_numberOf) := goodIn_app (goodIn_of _ (by decide +kernel)) ggX10_stone_X6_numberOf
set_option maxRecDepth 20000 in
theorem ggX10_stone_X9_wasRead : GoodIn wsX10_stone wsX9_wasRead := goodIn_r _ [57, 16, 58, 142, 143, 144] rfl (by decide +kernel)
set_option maxRecDepth 20000 in
theorem gX10_stone_X9_wasRead : GoodIn wsX10_stone (wsV RX10 110 RX9 yX9_wasRead wsX9_wasRead) := goodIn_app (goodIn_of _ (by decide +kernel)) ggX10_stone_X9_wasRead
set_option maxRecDepth 20000 in
theorem ggX10_stone_X8_isFull : GoodIn wsX10_stone wsX8_isFull := goodIn_r _ [62, 47, 52, 53, 145, 146, 147] rfl (by decide +kernel)
set_option maxRecDepth 20000 in
theorem gX10_stone_X8_isFull : GoodIn wsX10_stone (wsV RX10 122 RX8 yX8_isFull wsX8_isFull) := goodIn_app (goodIn_of _ (by decide +kernel)) ggX10_stone_X8_isFull
set_option maxRecDepth 20000 in
theorem ggX10_stone_X10_keepState : GoodIn wsX10_stone wsX10_keepState := goodIn_r _ [67, 68, 69, 70, 71, 9, 6, 72, 73, 18, 19, 20, 74, 75, 76, 77, 78, 79, 80, 81, 45, 41, 82, 83, 84, 85, 86, 87, 88, 89, 90, 91, 92, 47, 93, 94, 95, 52, 96, 53, 97, 98, 99, 100, 101, 60, 61, 62, 102, 103, 104, 105, 106, 107, 108, 109, 110, 111, 112, 113, 114, 115, 116, 117, 118, 123, 124, 125, 126, 127, 128, 129, 130, 131, 132, 133, 134, 135, 136, 137, 138, 139, 140, 141, 145, 146, 147] rfl (by decide +kernel)
set_option maxRecDepth 20000 in
theorem gX10_stone_X10_keepState : GoodIn wsX10_stone (wsV RX10 130 RX10 yX10_keepState wsX10_keepState) := goodIn_app (goodIn_of _ (by decide +kernel)) ggX10_stone_X10_keepState
set_option maxRecDepth 20000 in
theorem ggX10_stone_X6_addStone : GoodIn wsX10_stone wsX6_addStone := goodIn_r _ [122, 41, 97, 98, 99, 45, 100, 47, 52, 101, 60, 61, 62, 53, 102, 103, 104, 105, 106, 134, 135, 136, 137, 138, 139, 140, 141, 145, 146, 147] rfl (by decide +kernel)
set_option maxRecDepth 20000 in
theorem gX10_stone_X6_addStone : GoodIn wsX10_stone (wsV RX10 133 RX6 yX6_addStone wsX6_addStone) := goodIn_app (goodIn_of _ (by decide +kernel)) ggX10_stone_X6_addStone
theorem dX10_stone_0 : decode cX10_stone 0 = .ok (.iconst 0, 1) := by decide +kernel
theorem dX10_stone_1 : decode cX10_stone 1 = .ok (.iload_n 1, 1) := by decide +kernel
theorem dX10_stone_2 : decode cX10_stone 2 = .ok (.invokestatic 97, 3) := by decide +kernel
theorem dX10_stone_5 : decode cX10_stone 5 = .ok (.ifCond .eq 32, 3) := by decide +kernel
theorem dX10_stone_8 : decode cX10_stone 8 = .ok (.iconst 1, 1) := by decide +kernel
theorem dX10_stone_9 : decode cX10_stone 9 = .ok (.iload_n 2, 1) := by decide +kernel
theorem dX10_stone_10 : decode cX10_stone 10 = .ok (.invokestatic 97, 3) := by decide +kernel
theorem dX10_stone_13 : decode cX10_stone 13 = .ok (.ifCond .eq 24, 3) := by decide +kernel
theorem dX10_stone_16 : decode cX10_stone 16 = .ok (.iconst 2, 1) := by decide +kernel
theorem dX10_stone_17 : decode cX10_stone 17 = .ok (.iload_n 3, 1) := by decide +kernel
theorem dX10_stone_18 : decode cX10_stone 18 = .ok (.invokestatic 97, 3) := by decide +kernel
theorem dX10_stone_21 : decode cX10_stone 21 = .ok (.ifCond .eq 16, 3) := by decide +kernel
theorem dX10_stone_24 : decode cX10_stone 24 = .ok (.iconst 3, 1) := by decide +kernel
theorem dX10_stone_25 : decode cX10_stone 25 = .ok (.iload 4, 2) := by decide +kernel
theorem dX10_stone_27 : decode cX10_stone 27 = .ok (.invokestatic 97, 3) := by decide +kernel
theorem dX10_stone_30 : decode cX10_stone 30 = .ok (.ifCond .eq 7, 3) := by decide +kernel
theorem dX10_stone_33 : decode cX10_stone 33 = .ok (.iconst 1, 1) := by decide +kernel
