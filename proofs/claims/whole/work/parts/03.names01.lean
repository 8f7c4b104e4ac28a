theorem dX0_isLeap_0 : decode cX0_isLeap 0 = .ok (.iload_n 0, 1) := by decide +kernel
theorem dX0_isLeap_1 : decode cX0_isLeap 1 = .ok (.iconst 4, 1) := by decide +kernel
theorem dX0_isLeap_2 : decode cX0_isLeap 2 = .ok (.irem, 1) := by decide +kernel
theorem dX0_isLeap_3 : decode cX0_isLeap 3 = .ok (.ifCond .ne 22, 3) := by decide +kernel
theorem dX0_isLeap_6 : decode cX0_isLeap 6 = .ok (.iload_n 0, 1) := by decide +kernel
theorem dX0_isLeap_7 : decode cX0_isLeap 7 = .ok (.bipush 100, 2) := by decide +kernel
theorem dX0_isLeap_9 : decode cX0_isLeap 9 = .ok (.irem, 1) := by decide +kernel
theorem dX0_isLeap_10 : decode cX0_isLeap 10 = .ok (.ifCond .ne 11, 3) := by decide +kernel
theorem dX0_isLeap_13 : decode cX0_isLeap 13 = .ok (.iload_n 0, 1) := by decide +kernel
theorem dX0_isLeap_14 : decode cX0_isLeap 14 = .ok (.sipush 400, 3) := by decide +kernel
theorem dX0_isLeap_17 : decode cX0_isLeap 17 = .ok (.irem, 1) := by decide +kernel
theorem dX0_isLeap_18 : decode cX0_isLeap 18 = .ok (.ifCond .ne 7, 3) := by decide +kernel
theorem dX0_isLeap_21 : decode cX0_isLeap 21 = .ok (.iconst 1, 1) := by decide +kernel
theorem dX0_isLeap_22 : decode cX0_isLeap 22 = .ok (.goto 4, 3) := by decide +kernel
theorem dX0_isLeap_25 : decode cX0_isLeap 25 = .ok (.iconst 0, 1) := by decide +kernel
theorem dX0_isLeap_26 : decode cX0_isLeap 26 = .ok (.ireturn, 1) := by decide +kernel
set_option maxRecDepth 20000 in
theorem ggX0_daysAhead_X0_isLeap : GoodIn wsX0_daysAhead wsX0_isLeap := goodIn_r _ [12] rfl (by decide +kernel)
set_option maxRecDepth 20000 in
theorem gX0_daysAhead_X0_isLeap : GoodIn wsX0_daysAhead (va_wsS RX0 24 yX0_isLeap wsX0_isLeap) := goodIn_app (goodIn_of _ (by decide +kernel)) ggX0_daysAhead_X0_isLeap
theorem dX0_daysAhead_0 : decode cX0_daysAhead 0 = .ok (.iconst 0, 1) := by decide +kernel
theorem dX0_daysAhead_1 : decode cX0_daysAhead 1 = .ok (.bipush 12, 2) := by decide +kernel
theorem dX0_daysAhead_3 : decode cX0_daysAhead 3 = .ok (.iload_n 1, 1) := by decide +kernel
theorem dX0_daysAhead_4 : decode cX0_daysAhead 4 = .ok (.iconst 1, 1) := by decide +kernel
theorem dX0_daysAhead_5 : decode cX0_daysAhead 5 = .ok (.isub, 1) := by decide +kernel
theorem dX0_daysAhead_6 : decode cX0_daysAhead 6 = .ok (.invokestatic 9, 3) := by decide +kernel
theorem dX0_daysAhead_9 : decode cX0_daysAhead 9 = .ok (.invokestatic 15, 3) := by decide +kernel
theorem dX0_daysAhead_12 : decode cX0_daysAhead 12 = .ok (.istore_n 2, 1) := by decide +kernel
theorem dX0_daysAhead_13 : decode cX0_daysAhead 13 = .ok (.getstatic 18, 3) := by decide +kernel
theorem dX0_daysAhead_16 : decode cX0_daysAhead 16 = .ok (.iload_n 2, 1) := by decide +kernel
theorem dX0_daysAhead_17 : decode cX0_daysAhead 17 = .ok (.iaload, 1) := by decide +kernel
theorem dX0_daysAhead_18 : decode cX0_daysAhead 18 = .ok (.iload_n 1, 1) := by decide +kernel
theorem dX0_daysAhead_19 : decode cX0_daysAhead 19 = .ok (.iconst 2, 1) := by decide +kernel
theorem dX0_daysAhead_20 : decode cX0_daysAhead 20 = .ok (.if_icmp .le 14, 3) := by decide +kernel
theorem dX0_daysAhead_23 : decode cX0_daysAhead 23 = .ok (.iload_n 0, 1) := by decide +kernel
theorem dX0_daysAhead_24 : decode cX0_daysAhead 24 = .ok (.invokestatic 24, 3) := by decide +kernel
theorem dX0_daysAhead_27 : decode cX0_daysAhead 27 = .ok (.ifCond .eq 7, 3) := by decide +kernel
theorem dX0_daysAhead_30 : decode cX0_daysAhead 30 = .ok (.iconst 1, 1) := by decide +kernel
theorem dX0_daysAhead_31 : decode cX0_daysAhead 31 = .ok (.goto 4, 3) := by decide +kernel
theorem dX0_daysAhead_34 : decode cX0_daysAhead 34 = .ok (.iconst 0, 1) := by decide +kernel
theorem dX0_daysAhead_35 : decode cX0_daysAhead 35 = .ok (.iadd, 1) := by decide +kernel
theorem dX0_daysAhead_36 : decode cX0_daysAhead 36 = .ok (.ireturn, 1) := by decide +kernel
set_option maxRecDepth 20000 in
theorem ggX0_daysIn_X0_daysAhead : GoodIn wsX0_daysIn wsX0_daysAhead := goodIn_r _ [4, 5, 6, 7, 8, 9, 10, 11, 12, 13, 14, 3, 15] rfl (by decide +kernel)
set_option maxRecDepth 20000 in
theorem gX0_daysIn_X0_daysAhead : GoodIn wsX0_daysIn (va_wsS RX0 28 yX0_daysAhead wsX0_daysAhead) := goodIn_app (goodIn_of _ (by decide +kernel)) ggX0_daysIn_X0_daysAhead
theorem dX0_daysIn_0 : decode cX0_daysIn 0 = .ok (.iload_n 0, 1) := by decide +kernel
theorem dX0_daysIn_1 : decode cX0_daysIn 1 = .ok (.iload_n 1, 1) := by decide +kernel
theorem dX0_daysIn_2 : decode cX0_daysIn 2 = .ok (.iconst 1, 1) := by decide +kernel
theorem dX0_daysIn_3 : decode cX0_daysIn 3 = .ok (.iadd, 1) := by decide +kernel
theorem dX0_daysIn_4 : decode cX0_daysIn 4 = .ok (.invokestatic 28, 3) := by decide +kernel
theorem dX0_daysIn_7 : decode cX0_daysIn 7 = .ok (.iload_n 0, 1) := by decide +kernel
theorem dX0_daysIn_8 : decode cX0_daysIn 8 = .ok (.iload_n 1, 1) := by decide +kernel
theorem dX0_daysIn_9 : decode cX0_daysIn 9 = .ok (.invokestatic 28, 3) := by decide +kernel
theorem dX0_daysIn_12 : decode cX0_daysIn 12 = .ok (.isub, 1) := by decide +kernel
theorem dX0_daysIn_13 : decode cX0_daysIn 13 = .ok (.ireturn, 1) := by decide +kernel
set_option maxRecDepth 20000 in
theorem ggX0_isDate_X0_daysIn : GoodIn wsX0_isDate wsX0_daysIn := goodIn_r _ [4, 5, 6, 3, 7, 8, 9, 10, 11, 12, 13, 14, 15, 16, 17, 18] rfl (by decide +kernel)
set_option maxRecDepth 20000 in
theorem gX0_isDate_X0_daysIn : GoodIn wsX0_isDate (va_wsS RX0 31 yX0_daysIn wsX0_daysIn) := goodIn_app (goodIn_of _ (by decide +kernel)) ggX0_isDate_X0_daysIn
theorem dX0_isDate_0 : decode cX0_isDate 0 = .ok (.iload_n 0, 1) := by decide +kernel
theorem dX0_isDate_1 : decode cX0_isDate 1 = .ok (.sipush 10000, 3) := by decide +kernel
theorem dX0_isDate_4 : decode cX0_isDate 4 = .ok (.idiv, 1) := by decide +kernel
theorem dX0_isDate_5 : decode cX0_isDate 5 = .ok (.istore_n 1, 1) := by decide +kernel
theorem dX0_isDate_6 : decode cX0_isDate 6 = .ok (.iload_n 0, 1) := by decide +kernel
theorem dX0_isDate_7 : decode cX0_isDate 7 = .ok (.bipush 100, 2) := by decide +kernel
theorem dX0_isDate_9 : decode cX0_isDate 9 = .ok (.idiv, 1) := by decide +kernel
theorem dX0_isDate_10 : decode cX0_isDate 10 = .ok (.bipush 100, 2) := by decide +kernel
theorem dX0_isDate_12 : decode cX0_isDate 12 = .ok (.irem, 1) := by decide +kernel
theorem dX0_isDate_13 : decode cX0_isDate 13 = .ok (.istore_n 2, 1) := by decide +kernel
theorem dX0_isDate_14 : decode cX0_isDate 14 = .ok (.iload_n 0, 1) := by decide +kernel
theorem dX0_isDate_15 : decode cX0_isDate 15 = .ok (.bipush 100, 2) := by decide +kernel
theorem dX0_isDate_17 : decode cX0_isDate 17 = .ok (.irem, 1) := by decide +kernel
theorem dX0_isDate_18 : decode cX0_isDate 18 = .ok (.istore_n 3, 1) := by decide +kernel
theorem dX0_isDate_19 : decode cX0_isDate 19 = .ok (.iload_n 1, 1) := by decide +kernel
theorem dX0_isDate_20 : decode cX0_isDate 20 = .ok (.sipush 1900, 3) := by decide +kernel
theorem dX0_isDate_23 : decode cX0_isDate 23 = .ok (.if_icmp .lt 39, 3) := by decide +kernel
theorem dX0_isDate_26 : decode cX0_isDate 26 = .ok (.iload_n 1, 1) := by decide +kernel
theorem dX0_isDate_27 : decode cX0_isDate 27 = .ok (.sipush 2199, 3) := by decide +kernel
theorem dX0_isDate_30 : decode cX0_isDate 30 = .ok (.if_icmp .gt 32, 3) := by decide +kernel
theorem dX0_isDate_33 : decode cX0_isDate 33 = .ok (.iload_n 2, 1) := by decide +kernel
theorem dX0_isDate_34 : decode cX0_isDate 34 = .ok (.iconst 1, 1) := by decide +kernel
theorem dX0_isDate_35 : decode cX0_isDate 35 = .ok (.if_icmp .lt 27, 3) := by decide +kernel
theorem dX0_isDate_38 : decode cX0_isDate 38 = .ok (.iload_n 2, 1) := by decide +kernel
theorem dX0_isDate_39 : decode cX0_isDate 39 = .ok (.bipush 12, 2) := by decide +kernel
theorem dX0_isDate_41 : decode cX0_isDate 41 = .ok (.if_icmp .gt 21, 3) := by decide +kernel
theorem dX0_isDate_44 : decode cX0_isDate 44 = .ok (.iload_n 3, 1) := by decide +kernel
theorem dX0_isDate_45 : decode cX0_isDate 45 = .ok (.iconst 1, 1) := by decide +kernel
theorem dX0_isDate_46 : decode cX0_isDate 46 = .ok (.if_icmp .lt 16, 3) := by decide +kernel
theorem dX0_isDate_49 : decode cX0_isDate 49 = .ok (.iload_n 3, 1) := by decide +kernel
theorem dX0_isDate_50 : decode cX0_isDate 50 = .ok (.iload_n 1, 1) := by decide +kernel
theorem dX0_isDate_51 : decode cX0_isDate 51 = .ok (.iload_n 2, 1) := by decide +kernel
theorem dX0_isDate_52 : decode cX0_isDate 52 = .ok (.invokestatic 31, 3) := by decide +kernel
theorem dX0_isDate_55 : decode cX0_isDate 55 = .ok (.if_icmp .gt 7, 3) := by decide +kernel
theorem dX0_isDate_58 : decode cX0_isDate 58 = .ok (.iconst 1, 1) := by decide +kernel
theorem dX0_isDate_59 : decode cX0_isDate 59 = .ok (.goto 4, 3) := by decide +kernel
theorem dX0_isDate_62 : decode cX0_isDate 62 = .ok (.iconst 0, 1) := by decide +kernel
theorem dX0_isDate_63 : decode cX0_isDate 63 = .ok (.ireturn, 1) := by decide +kernel
theorem dX0_leapsAhead_0 : decode cX0_leapsAhead 0 = .ok (.iload_n 0, 1) := by decide +kernel
theorem dX0_leapsAhead_1 : decode cX0_leapsAhead 1 = .ok (.iconst 1, 1) := by decide +kernel
theorem dX0_leapsAhead_2 : decode cX0_leapsAhead 2 = .ok (.isub, 1) := by decide +kernel
theorem dX0_leapsAhead_3 : decode cX0_leapsAhead 3 = .ok (.iconst 4, 1) := by decide +kernel
theorem dX0_leapsAhead_4 : decode cX0_leapsAhead 4 = .ok (.idiv, 1) := by decide +kernel
theorem dX0_leapsAhead_5 : decode cX0_leapsAhead 5 = .ok (.iload_n 0, 1) := by decide +kernel
theorem dX0_leapsAhead_6 : decode cX0_leapsAhead 6 = .ok (.iconst 1, 1) := by decide +kernel
theorem dX0_leapsAhead_7 : decode cX0_leapsAhead 7 = .ok (.isub, 1) := by decide +kernel
theorem dX0_leapsAhead_8 : decode cX0_leapsAhead 8 = .ok (.bipush 100, 2) := by decide +kernel
theorem dX0_leapsAhead_10 : decode cX0_leapsAhead 10 = .ok (.idiv, 1) := by decide +kernel
theorem dX0_leapsAhead_11 : decode cX0_leapsAhead 11 = .ok (.isub, 1) := by decide +kernel
theorem dX0_leapsAhead_12 : decode cX0_leapsAhead 12 = .ok (.iload_n 0, 1) := by decide +kernel
theorem dX0_leapsAhead_13 : decode cX0_leapsAhead 13 = .ok (.iconst 1, 1) := by decide +kernel
theorem dX0_leapsAhead_14 : decode cX0_leapsAhead 14 = .ok (.isub, 1) := by decide +kernel
theorem dX0_leapsAhead_15 : decode cX0_leapsAhead 15 = .ok (.sipush 400, 3) := by decide +kernel
theorem dX0_leapsAhead_18 : decode cX0_leapsAhead 18 = .ok (.idiv, 1) := by decide +kernel
theorem dX0_leapsAhead_19 : decode cX0_leapsAhead 19 = .ok (.iadd, 1) := by decide +kernel
theorem dX0_leapsAhead_20 : decode cX0_leapsAhead 20 = .ok (.ireturn, 1) := by decide +kernel
set_option maxRecDepth 20000 in
theorem ggX0_newYear_X0_leapsAhead : GoodIn wsX0_newYear wsX0_leapsAhead := goodIn_r _ [4] rfl (by decide +kernel)
set_option maxRecDepth 20000 in
theorem gX0_newYear_X0_leapsAhead : GoodIn wsX0_newYear (va_wsS RX0 34 yX0_leapsAhead wsX0_leapsAhead) := goodIn_app (goodIn_of _ (by decide +kernel)) ggX0_newYear_X0_leapsAhead
theorem dX0_newYear_0 : decode cX0_newYear 0 = .ok (.sipush 365, 3) := by decide +kernel
theorem dX0_newYear_3 : decode cX0_newYear 3 = .ok (.iload_n 0, 1) := by decide +kernel
theorem dX0_newYear_4 : decode cX0_newYear 4 = .ok (.sipush 1900, 3) := by decide +kernel
theorem dX0_newYear_7 : decode cX0_newYear 7 = .ok (.isub, 1) := by decide +kernel
theorem dX0_newYear_8 : decode cX0_newYear 8 = .ok (.imul, 1) := by decide +kernel
theorem dX0_newYear_9 : decode cX0_newYear 9 = .ok (.iload_n 0, 1) := by decide +kernel
theorem dX0_newYear_10 : decode cX0_newYear 10 = .ok (.invokestatic 34, 3) := by decide +kernel
theorem dX0_newYear_13 : decode cX0_newYear 13 = .ok (.iadd, 1) := by decide +kernel
theorem dX0_newYear_14 : decode cX0_newYear 14 = .ok (.sipush 1900, 3) := by decide +kernel
theorem dX0_newYear_17 : decode cX0_newYear 17 = .ok (.invokestatic 34, 3) := by decide +kernel
theorem dX0_newYear_20 : decode cX0_newYear 20 = .ok (.isub, 1) := by decide +kernel
theorem dX0_newYear_21 : decode cX0_newYear 21 = .ok (.ireturn, 1) := by decide +kernel
set_option maxRecDepth 20000 in
theorem ggX0_dayOf_X0_newYear : GoodIn wsX0_dayOf wsX0_newYear := goodIn_r _ [4, 5, 6, 3, 7] rfl (by decide +kernel)
set_option maxRecDepth 20000 in
theorem gX0_dayOf_X0_newYear : GoodIn wsX0_dayOf (va_wsS RX0 38 yX0_newYear wsX0_newYear) := goodIn_app (goodIn_of _ (by decide +kernel)) ggX0_dayOf_X0_newYear
set_option maxRecDepth 20000 in
theorem ggX0_dayOf_X0_daysAhead : GoodIn wsX0_dayOf wsX0_daysAhead := goodIn_r _ [10, 11, 12, 13, 14, 15, 16, 17, 18, 19, 20, 3, 21] rfl (by decide +kernel)
set_option maxRecDepth 20000 in
theorem gX0_dayOf_X0_daysAhead : GoodIn wsX0_dayOf (va_wsS RX0 28 yX0_daysAhead wsX0_daysAhead) := goodIn_app (goodIn_of _ (by decide +kernel)) ggX0_dayOf_X0_daysAhead
theorem dX0_dayOf_0 : decode cX0_dayOf 0 = .ok (.iload_n 0, 1) := by decide +kernel
theorem dX0_dayOf_1 : decode cX0_dayOf 1 = .ok (.sipush 10000, 3) := by decide +kernel
theorem dX0_dayOf_4 : decode cX0_dayOf 4 = .ok (.idiv, 1) := by decide +kernel
theorem dX0_dayOf_5 : decode cX0_dayOf 5 = .ok (.istore_n 1, 1) := by decide +kernel
theorem dX0_dayOf_6 : decode cX0_dayOf 6 = .ok (.iload_n 1, 1) := by decide +kernel
theorem dX0_dayOf_7 : decode cX0_dayOf 7 = .ok (.invokestatic 38, 3) := by decide +kernel
theorem dX0_dayOf_10 : decode cX0_dayOf 10 = .ok (.iload_n 1, 1) := by decide +kernel
theorem dX0_dayOf_11 : decode cX0_dayOf 11 = .ok (.iload_n 0, 1) := by decide +kernel
theorem dX0_dayOf_12 : decode cX0_dayOf 12 = .ok (.bipush 100, 2) := by decide +kernel
theorem dX0_dayOf_14 : decode cX0_dayOf 14 = .ok (.idiv, 1) := by decide +kernel
theorem dX0_dayOf_15 : decode cX0_dayOf 15 = .ok (.bipush 100, 2) := by decide +kernel
theorem dX0_dayOf_17 : decode cX0_dayOf 17 = .ok (.irem, 1) := by decide +kernel
theorem dX0_dayOf_18 : decode cX0_dayOf 18 = .ok (.invokestatic 28, 3) := by decide +kernel
theorem dX0_dayOf_21 : decode cX0_dayOf 21 = .ok (.iadd, 1) := by decide +kernel
theorem dX0_dayOf_22 : decode cX0_dayOf 22 = .ok (.iload_n 0, 1) := by decide +kernel
theorem dX0_dayOf_23 : decode cX0_dayOf 23 = .ok (.bipush 100, 2) := by decide +kernel
theorem dX0_dayOf_25 : decode cX0_dayOf 25 = .ok (.irem, 1) := by decide +kernel
theorem dX0_dayOf_26 : decode cX0_dayOf 26 = .ok (.iadd, 1) := by decide +kernel
theorem dX0_dayOf_27 : decode cX0_dayOf 27 = .ok (.iconst 1, 1) := by decide +kernel
theorem dX0_dayOf_28 : decode cX0_dayOf 28 = .ok (.isub, 1) := by decide +kernel
theorem dX0_dayOf_29 : decode cX0_dayOf 29 = .ok (.ireturn, 1) := by decide +kernel
set_option maxRecDepth 20000 in
theorem ggX0_daysLeft_X0_newYear : GoodIn wsX0_daysLeft wsX0_newYear := goodIn_r _ [4, 5, 6, 3, 7] rfl (by decide +kernel)
set_option maxRecDepth 20000 in
theorem gX0_daysLeft_X0_newYear : GoodIn wsX0_daysLeft (va_wsS RX0 38 yX0_newYear wsX0_newYear) := goodIn_app (goodIn_of _ (by decide +kernel)) ggX0_daysLeft_X0_newYear
set_option maxRecDepth 20000 in
theorem ggX0_daysLeft_X0_dayOf : GoodIn wsX0_daysLeft wsX0_dayOf := goodIn_r _ [10, 1, 2, 3, 4, 5, 6, 7, 11, 12, 13, 14, 15, 16, 17, 18, 19, 20, 21, 22, 23, 24] rfl (by decide +kernel)
set_option maxRecDepth 20000 in
theorem gX0_daysLeft_X0_dayOf : GoodIn wsX0_daysLeft (va_wsS RX0 41 yX0_dayOf wsX0_dayOf) := goodIn_app (goodIn_of _ (by decide +kernel)) ggX0_daysLeft_X0_dayOf
theorem dX0_daysLeft_0 : decode cX0_daysLeft 0 = .ok (.sipush 2200, 3) := by decide +kernel
theorem dX0_daysLeft_3 : decode cX0_daysLeft 3 = .ok (.invokestatic 38, 3) := by decide +kernel
theorem dX0_daysLeft_6 : decode cX0_daysLeft 6 = .ok (.iload_n 0, 1) := by decide +kernel
theorem dX0_daysLeft_7 : decode cX0_daysLeft 7 = .ok (.invokestatic 41, 3) := by decide +kernel
theorem dX0_daysLeft_10 : decode cX0_daysLeft 10 = .ok (.isub, 1) := by decide +kernel
theorem dX0_daysLeft_11 : decode cX0_daysLeft 11 = .ok (.ireturn, 1) := by decide +kernel
set_option maxRecDepth 20000 in
theorem ggX0_dateAhead_X0_daysIn : GoodIn wsX0_dateAhead wsX0_daysIn := goodIn_r _ [4, 5, 6, 3, 7, 8, 9, 10, 11, 12, 13, 14, 15, 16, 17, 18] rfl (by decide +kernel)
set_option maxRecDepth 20000 in
theorem gX0_dateAhead_X0_daysIn : GoodIn wsX0_dateAhead (va_wsS RX0 31 yX0_daysIn wsX0_daysIn) := goodIn_app (goodIn_of _ (by decide +kernel)) ggX0_dateAhead_X0_daysIn
theorem dX0_dateAhead_0 : decode cX0_dateAhead 0 = .ok (.iload_n 0, 1) := by decide +kernel
theorem dX0_dateAhead_1 : decode cX0_dateAhead 1 = .ok (.sipush 10000, 3) := by decide +kernel
theorem dX0_dateAhead_4 : decode cX0_dateAhead 4 = .ok (.idiv, 1) := by decide +kernel
theorem dX0_dateAhead_5 : decode cX0_dateAhead 5 = .ok (.istore_n 1, 1) := by decide +kernel
theorem dX0_dateAhead_6 : decode cX0_dateAhead 6 = .ok (.iload_n 0, 1) := by decide +kernel
theorem dX0_dateAhead_7 : decode cX0_dateAhead 7 = .ok (.bipush 100, 2) := by decide +kernel
theorem dX0_dateAhead_9 : decode cX0_dateAhead 9 = .ok (.idiv, 1) := by decide +kernel
theorem dX0_dateAhead_10 : decode cX0_dateAhead 10 = .ok (.bipush 100, 2) := by decide +kernel
theorem dX0_dateAhead_12 : decode cX0_dateAhead 12 = .ok (.irem, 1) := by decide +kernel
theorem dX0_dateAhead_13 : decode cX0_dateAhead 13 = .ok (.istore_n 2, 1) := by decide +kernel
theorem dX0_dateAhead_14 : decode cX0_dateAhead 14 = .ok (.iload_n 0, 1) := by decide +kernel
theorem dX0_dateAhead_15 : decode cX0_dateAhead 15 = .ok (.bipush 100, 2) := by decide +kernel
theorem dX0_dateAhead_17 : decode cX0_dateAhead 17 = .ok (.irem, 1) := by decide +kernel
theorem dX0_dateAhead_18 : decode cX0_dateAhead 18 = .ok (.iconst 1, 1) := by decide +kernel
theorem dX0_dateAhead_19 : decode cX0_dateAhead 19 = .ok (.if_icmp .le 7, 3) := by decide +kernel
theorem dX0_dateAhead_22 : decode cX0_dateAhead 22 = .ok (.iload_n 0, 1) := by decide +kernel
theorem dX0_dateAhead_23 : decode cX0_dateAhead 23 = .ok (.iconst 1, 1) := by decide +kernel
theorem dX0_dateAhead_24 : decode cX0_dateAhead 24 = .ok (.isub, 1) := by decide +kernel
theorem dX0_dateAhead_25 : decode cX0_dateAhead 25 = .ok (.ireturn, 1) := by decide +kernel
theorem dX0_dateAhead_26 : decode cX0_dateAhead 26 = .ok (.iload_n 2, 1) := by decide +kernel
theorem dX0_dateAhead_27 : decode cX0_dateAhead 27 = .ok (.iconst 1, 1) := by decide +kernel
theorem dX0_dateAhead_28 : decode cX0_dateAhead 28 = .ok (.if_icmp .le 24, 3) := by decide +kernel
theorem dX0_dateAhead_31 : decode cX0_dateAhead 31 = .ok (.sipush 10000, 3) := by decide +kernel
theorem dX0_dateAhead_34 : decode cX0_dateAhead 34 = .ok (.iload_n 1, 1) := by decide +kernel
theorem dX0_dateAhead_35 : decode cX0_dateAhead 35 = .ok (.imul, 1) := by decide +kernel
theorem dX0_dateAhead_36 : decode cX0_dateAhead 36 = .ok (.bipush 100, 2) := by decide +kernel
theorem dX0_dateAhead_38 : decode cX0_dateAhead 38 = .ok (.iload_n 2, 1) := by decide +kernel
theorem dX0_dateAhead_39 : decode cX0_dateAhead 39 = .ok (.iconst 1, 1) := by decide +kernel
theorem dX0_dateAhead_40 : decode cX0_dateAhead 40 = .ok (.isub, 1) := by decide +kernel
theorem dX0_dateAhead_41 : decode cX0_dateAhead 41 = .ok (.imul, 1) := by decide +kernel
theorem dX0_dateAhead_42 : decode cX0_dateAhead 42 = .ok (.iadd, 1) := by decide +kernel
theorem dX0_dateAhead_43 : decode cX0_dateAhead 43 = .ok (.iload_n 1, 1) := by decide +kernel
theorem dX0_dateAhead_44 : decode cX0_dateAhead 44 = .ok (.iload_n 2, 1) := by decide +kernel
theorem dX0_dateAhead_45 : decode cX0_dateAhead 45 = .ok (.iconst 1, 1) := by decide +kernel
theorem dX0_dateAhead_46 : decode cX0_dateAhead 46 = .ok (.isub, 1) := by decide +kernel
theorem dX0_dateAhead_47 : decode cX0_dateAhead 47 = .ok (.invokestatic 31, 3) := by decide +kernel
theorem dX0_dateAhead_50 : decode cX0_dateAhead 50 = .ok (.iadd, 1) := by decide +kernel
theorem dX0_dateAhead_51 : decode cX0_dateAhead 51 = .ok (.ireturn, 1) := by decide +kernel
theorem dX0_dateAhead_52 : decode cX0_dateAhead 52 = .ok (.sipush 10000, 3) := by decide +kernel
theorem dX0_dateAhead_55 : decode cX0_dateAhead 55 = .ok (.iload_n 1, 1) := by decide +kernel
theorem dX0_dateAhead_56 : decode cX0_dateAhead 56 = .ok (.iconst 1, 1) := by decide +kernel
theorem dX0_dateAhead_57 : decode cX0_dateAhead 57 = .ok (.isub, 1) := by decide +kernel
theorem dX0_dateAhead_58 : decode cX0_dateAhead 58 = .ok (.imul, 1) := by decide +kernel
theorem dX0_dateAhead_59 : decode cX0_dateAhead 59 = .ok (.sipush 1231, 3) := by decide +kernel
theorem dX0_dateAhead_62 : decode cX0_dateAhead 62 = .ok (.iadd, 1) := by decide +kernel
theorem dX0_dateAhead_63 : decode cX0_dateAhead 63 = .ok (.ireturn, 1) := by decide +kernel
set_option maxRecDepth 20000 in
theorem ggX1_init_X8_init : GoodIn wsX1_init wsX8_init := goodIn_r _ [17, 18, 2, 3, 19, 20, 21, 22, 23, 24, 25, 26, 27, 28, 29] rfl (by decide +kernel)
set_option maxRecDepth 20000 in
theorem gX1_init_X8_init : GoodIn wsX1_init (wsX8_init) := ggX1_init_X8_init
theorem dX1_init_0 : decode cX1_init 0 = .ok (.aload_n 0, 1) := by decide +kernel
theorem dX1_init_1 : decode cX1_init 1 = .ok (.invokespecial 3, 3) := by decide +kernel
theorem dX1_init_4 : decode cX1_init 4 = .ok (.aload_n 0, 1) := by decide +kernel
theorem dX1_init_5 : decode cX1_init 5 = .ok (.new 9, 3) := by decide +kernel
theorem dX1_init_8 : decode cX1_init 8 = .ok (.dup, 1) := by decide +kernel
theorem dX1_init_9 : decode cX1_init 9 = .ok (.bipush 33, 2) := by decide +kernel
theorem dX1_init_11 : decode cX1_init 11 = .ok (.iconst 5, 1) := by decide +kernel
theorem dX1_init_12 : decode cX1_init 12 = .ok (.invokespecial 11, 3) := by decide +kernel
theorem dX1_init_15 : decode cX1_init 15 = .ok (.putfield 14, 3) := by decide +kernel
theorem dX1_init_18 : decode cX1_init 18 = .ok (.aload_n 0, 1) := by decide +kernel
theorem dX1_init_19 : decode cX1_init 19 = .ok (.sipush 180, 3) := by decide +kernel
theorem dX1_init_22 : decode cX1_init 22 = .ok (.newarray .char, 2) := by decide +kernel
theorem dX1_init_24 : decode cX1_init 24 = .ok (.putfield 20, 3) := by decide +kernel
theorem dX1_init_27 : decode cX1_init 27 = .ok (.aload_n 0, 1) := by decide +kernel
theorem dX1_init_28 : decode cX1_init 28 = .ok (.iconst 0, 1) := by decide +kernel
theorem dX1_init_29 : decode cX1_init 29 = .ok (.putfield 24, 3) := by decide +kernel
theorem dX1_init_32 : decode cX1_init 32 = .ok (.aload_n 0, 1) := by decide +kernel
theorem dX1_init_33 : decode cX1_init 33 = .ok (.iconst 0, 1) := by decide +kernel
theorem dX1_init_34 : decode cX1_init 34 = .ok (.putfield 28, 3) := by decide +kernel
theorem dX1_init_37 : decode cX1_init 37 = .ok (.aload_n 0, 1) := by decide +kernel
theorem dX1_init_38 : decode cX1_init 38 = .ok (.iconst 0, 1) := by decide +kernel
theorem dX1_init_39 : decode cX1_init 39 = .ok (.putfield 31, 3) := by decide +kernel
theorem dX1_init_42 : decode cX1_init 42 = .ok (.aload_n 0, 1) := by decide +kernel
theorem dX1_init_43 : decode cX1_init 43 = .ok (.iconst 0, 1) := by decide +kernel
theorem dX1_init_44 : decode cX1_init 44 = .ok (.putfield 34, 3) := by decide +kernel
theorem dX1_init_47 : decode cX1_init 47 = .ok (.aload_n 0, 1) := by decide +kernel
theorem dX1_init_48 : decode cX1_init 48 = .ok (.iconst 0, 1) := by decide +kernel
theorem dX1_init_49 : decode cX1_init 49 = .ok (.putfield 37, 3) := by decide +kernel
theorem dX1_init_52 : decode cX1_init 52 = .ok (.return_, 1) := by decide +kernel
set_option maxRecDepth 20000 in
theorem ggX1_errorOn_X8_clear : GoodIn wsX1_errorOn wsX8_clear := goodIn_r _ [9, 10, 93, 94, 95] rfl (by decide +kernel)
set_option maxRecDepth 20000 in
theorem gX1_errorOn_X8_clear : GoodIn wsX1_errorOn (wsV RX1 40 RX8 yX8_clear wsX8_clear) := goodIn_app (goodIn_of _ (by decide +kernel)) ggX1_errorOn_X8_clear
set_option maxRecDepth 20000 in
theorem ggX1_errorOn_X1_readToken : GoodIn wsX1_errorOn wsX1_readToken := goodIn_r _ [15, 2, 4, 3, 16, 17, 18, 19, 20, 21, 22, 23, 24, 25, 26, 27, 28, 29, 30, 31, 32, 14, 33, 34, 35, 36, 37, 38, 39, 40, 41, 42, 43, 44, 45, 46, 86, 87, 88, 89, 90, 91, 92, 96, 97, 98] rfl (by decide +kernel)
set_option maxRecDepth 20000 in
theorem gX1_errorOn_X1_readToken : GoodIn wsX1_errorOn (wsV RX1 43 RX1 yX1_readToken wsX1_readToken) := goodIn_app (goodIn_of _ (by decide +kernel)) ggX1_errorOn_X1_readToken
set_option maxRecDepth 20000 in
theorem ggX1_errorOn_X9_length : GoodIn wsX1_errorOn wsX9_length := goodIn_r _ [20, 21, 96, 97, 98] rfl (by decide +kernel)
set_option maxRecDepth 20000 in
theorem gX1_errorOn_X9_length : GoodIn wsX1_errorOn (wsV RX1 47 RX9 yX9_length wsX9_length) := goodIn_app (goodIn_of _ (by decide +kernel)) ggX1_errorOn_X9_length
set_option maxRecDepth 20000 in
theorem ggX1_errorOn_X1_doesFit : GoodIn wsX1_errorOn wsX1_doesFit := goodIn_r _ [50, 3, 34, 51, 52, 53, 14, 54, 1, 55, 56, 57, 8, 58, 10, 59, 60, 61, 62, 63, 64, 65, 66, 67, 68, 86, 87, 88, 89, 90, 91, 92, 93, 94, 95] rfl (by decide +kernel)
set_option maxRecDepth 20000 in
theorem gX1_errorOn_X1_doesFit : GoodIn wsX1_errorOn (wsV RX1 53 RX1 yX1_doesFit wsX1_doesFit) := goodIn_app (goodIn_of _ (by decide +kernel)) ggX1_errorOn_X1_doesFit
set_option maxRecDepth 20000 in
theorem ggX1_errorOn_X1_takeToken : GoodIn wsX1_errorOn wsX1_takeToken := goodIn_r _ [72, 1, 34, 73, 74, 75, 8, 76, 10, 63, 77, 78, 79, 80, 64, 81, 82, 83, 84, 55, 56, 57, 58, 85, 86, 87, 88, 89, 90, 91, 92, 93, 94, 95] rfl (by decide +kernel)
set_option maxRecDepth 20000 in
theorem gX1_errorOn_X1_takeToken : GoodIn wsX1_errorOn (wsV RX1 57 RX1 yX1_takeToken wsX1_takeToken) := goodIn_app (goodIn_of _ (by decide +kernel)) ggX1_errorOn_X1_takeToken
theorem dX1_errorOn_0 : decode cX1_errorOn 0 = .ok (.aload_n 0, 1) := by decide +kernel
theorem dX1_errorOn_1 : decode cX1_errorOn 1 = .ok (.getfield 14, 3) := by decide +kernel
theorem dX1_errorOn_4 : decode cX1_errorOn 4 = .ok (.invokevirtual 40, 3) := by decide +kernel
theorem dX1_errorOn_7 : decode cX1_errorOn 7 = .ok (.aload_n 0, 1) := by decide +kernel
theorem dX1_errorOn_8 : decode cX1_errorOn 8 = .ok (.iconst 0, 1) := by decide +kernel
theorem dX1_errorOn_9 : decode cX1_errorOn 9 = .ok (.putfield 34, 3) := by decide +kernel
theorem dX1_errorOn_12 : decode cX1_errorOn 12 = .ok (.iconst 0, 1) := by decide +kernel
theorem dX1_errorOn_13 : decode cX1_errorOn 13 = .ok (.istore_n 2, 1) := by decide +kernel
theorem dX1_errorOn_14 : decode cX1_errorOn 14 = .ok (.iconst 0, 1) := by decide +kernel
theorem dX1_errorOn_15 : decode cX1_errorOn 15 = .ok (.istore_n 3, 1) := by decide +kernel
theorem dX1_errorOn_16 : decode cX1_errorOn 16 = .ok (.iload_n 3, 1) := by decide +kernel
theorem dX1_errorOn_17 : decode cX1_errorOn 17 = .ok (.sipush 300, 3) := by decide +kernel
theorem dX1_errorOn_20 : decode cX1_errorOn 20 = .ok (.if_icmp .gt 65, 3) := by decide +kernel
theorem dX1_errorOn_23 : decode cX1_errorOn 23 = .ok (.aload_n 0, 1) := by decide +kernel
theorem dX1_errorOn_24 : decode cX1_errorOn 24 = .ok (.aload_n 1, 1) := by decide +kernel
theorem dX1_errorOn_25 : decode cX1_errorOn 25 = .ok (.invokevirtual 43, 3) := by decide +kernel
theorem dX1_errorOn_28 : decode cX1_errorOn 28 = .ok (.aload_n 0, 1) := by decide +kernel
theorem dX1_errorOn_29 : decode cX1_errorOn 29 = .ok (.getfield 28, 3) := by decide +kernel
theorem dX1_errorOn_32 : decode cX1_errorOn 32 = .ok (.ifCond .ne 16, 3) := by decide +kernel
theorem dX1_errorOn_35 : decode cX1_errorOn 35 = .ok (.iload_n 2, 1) := by decide +kernel
theorem dX1_errorOn_36 : decode cX1_errorOn 36 = .ok (.ifCond .ne 7, 3) := by decide +kernel
theorem dX1_errorOn_39 : decode cX1_errorOn 39 = .ok (.iconst (-1), 1) := by decide +kernel
theorem dX1_errorOn_40 : decode cX1_errorOn 40 = .ok (.goto 7, 3) := by decide +kernel
theorem dX1_errorOn_43 : decode cX1_errorOn 43 = .ok (.aload_n 1, 1) := by decide +kernel
theorem dX1_errorOn_44 : decode cX1_errorOn 44 = .ok (.invokevirtual 47, 3) := by decide +kernel
theorem dX1_errorOn_47 : decode cX1_errorOn 47 = .ok (.ireturn, 1) := by decide +kernel
theorem dX1_errorOn_48 : decode cX1_errorOn 48 = .ok (.aload_n 0, 1) := by decide +kernel
theorem dX1_errorOn_49 : decode cX1_errorOn 49 = .ok (.iload_n 2, 1) := by decide +kernel
theorem dX1_errorOn_50 : decode cX1_errorOn 50 = .ok (.invokevirtual 53, 3) := by decide +kernel
theorem dX1_errorOn_53 : decode cX1_errorOn 53 = .ok (.ifCond .ne 8, 3) := by decide +kernel
theorem dX1_errorOn_56 : decode cX1_errorOn 56 = .ok (.aload_n 0, 1) := by decide +kernel
theorem dX1_errorOn_57 : decode cX1_errorOn 57 = .ok (.getfield 31, 3) := by decide +kernel
theorem dX1_errorOn_60 : decode cX1_errorOn 60 = .ok (.ireturn, 1) := by decide +kernel
theorem dX1_errorOn_61 : decode cX1_errorOn 61 = .ok (.aload_n 0, 1) := by decide +kernel
theorem dX1_errorOn_62 : decode cX1_errorOn 62 = .ok (.iload_n 2, 1) := by decide +kernel
theorem dX1_errorOn_63 : decode cX1_errorOn 63 = .ok (.invokevirtual 57, 3) := by decide +kernel
theorem dX1_errorOn_66 : decode cX1_errorOn 66 = .ok (.iload_n 2, 1) := by decide +kernel
theorem dX1_errorOn_67 : decode cX1_errorOn 67 = .ok (.iconst 5, 1) := by decide +kernel
theorem dX1_errorOn_68 : decode cX1_errorOn 68 = .ok (.if_icmp .ne 7, 3) := by decide +kernel
theorem dX1_errorOn_71 : decode cX1_errorOn 71 = .ok (.iconst 0, 1) := by decide +kernel
theorem dX1_errorOn_72 : decode cX1_errorOn 72 = .ok (.goto 6, 3) := by decide +kernel
theorem dX1_errorOn_75 : decode cX1_errorOn 75 = .ok (.iload_n 2, 1) := by decide +kernel
theorem dX1_errorOn_76 : decode cX1_errorOn 76 = .ok (.iconst 1, 1) := by decide +kernel
theorem dX1_errorOn_77 : decode cX1_errorOn 77 = .ok (.iadd, 1) := by decide +kernel
theorem dX1_errorOn_78 : decode cX1_errorOn 78 = .ok (.istore_n 2, 1) := by decide +kernel
theorem dX1_errorOn_79 : decode cX1_errorOn 79 = .ok (.iinc 3 1, 3) := by decide +kernel
theorem dX1_errorOn_82 : decode cX1_errorOn 82 = .ok (.goto (-66), 3) := by decide +kernel
theorem dX1_errorOn_85 : decode cX1_errorOn 85 = .ok (.aload_n 1, 1) := by decide +kernel
theorem dX1_errorOn_86 : decode cX1_errorOn 86 = .ok (.invokevirtual 47, 3) := by decide +kernel
theorem dX1_errorOn_89 : decode cX1_errorOn 89 = .ok (.ireturn, 1) := by decide +kernel
set_option maxRecDepth 20000 in
theorem ggX1_readToken_X9_length : GoodIn wsX1_readToken wsX9_length := goodIn_r _ [8, 9, 43, 44, 45] rfl (by decide +kernel)
set_option maxRecDepth 20000 in
theorem gX1_readToken_X9_length : GoodIn wsX1_readToken (wsV RX1 47 RX9 yX9_length wsX9_length) := goodIn_app (goodIn_of _ (by decide +kernel)) ggX1_readToken_X9_length
set_option maxRecDepth 20000 in
theorem ggX1_readToken_X9_byteAt : GoodIn wsX1_readToken wsX9_byteAt := goodIn_r _ [13, 9, 14, 43, 44, 45] rfl (by decide +kernel)
set_option maxRecDepth 20000 in
theorem gX1_readToken_X9_byteAt : GoodIn wsX1_readToken (wsV RX1 61 RX9 yX9_byteAt wsX9_byteAt) := goodIn_app (goodIn_of _ (by decide +kernel)) ggX1_readToken_X9_byteAt
set_option maxRecDepth 20000 in
theorem ggX1_readToken_X9_isLetter : GoodIn wsX1_readToken wsX9_isLetter := goodIn_r _ [17] rfl (by decide +kernel)
set_option maxRecDepth 20000 in
theorem gX1_readToken_X9_isLetter : GoodIn wsX1_readToken (va_wsS RX1 65 yX9_isLetter wsX9_isLetter) := goodIn_app (goodIn_of _ (by decide +kernel)) ggX1_readToken_X9_isLetter
set_option maxRecDepth 20000 in
theorem ggX1_readToken_X1_readWord : GoodIn wsX1_readToken wsX1_readWord := goodIn_r _ [22, 2, 1, 3, 23, 4, 5, 6, 7, 8, 9, 10, 11, 12, 13, 14, 15, 16, 17, 24, 25, 26, 27, 28, 36, 37, 38, 39, 40, 41, 42, 43, 44, 45] rfl (by decide +kernel)
set_option maxRecDepth 20000 in
theorem gX1_readToken_X1_readWord : GoodIn wsX1_readToken (wsV RX1 68 RX1 yX1_readWord wsX1_readWord) := goodIn_app (goodIn_of _ (by decide +kernel)) ggX1_readToken_X1_readWord
set_option maxRecDepth 20000 in
theorem ggX1_readToken_X9_isDigit : GoodIn wsX1_readToken wsX9_isDigit := goodIn_r _ [31] rfl (by decide +kernel)
set_option maxRecDepth 20000 in
theorem gX1_readToken_X9_isDigit : GoodIn wsX1_readToken (va_wsS RX1 71 yX9_isDigit wsX9_isDigit) := goodIn_app (goodIn_of _ (by decide +kernel)) ggX1_readToken_X9_isDigit
set_option maxRecDepth 20000 in
theorem ggX1_readToken_X1_readNumber : GoodIn wsX1_readToken wsX1_readNumber := goodIn_r _ [35, 2, 23, 1, 3, 4, 5, 6, 7, 8, 9, 10, 11, 12, 13, 14, 29, 30, 31, 36, 37, 38, 39, 40, 41, 42, 43, 44, 45] rfl (by decide +kernel)
set_option maxRecDepth 20000 in
theorem gX1_readToken_X1_readNumber : GoodIn wsX1_readToken (wsV RX1 74 RX1 yX1_readNumber wsX1_readNumber) := goodIn_app (goodIn_of _ (by decide +kernel)) ggX1_readToken_X1_readNumber
theorem dX1_readToken_0 : decode cX1_readToken 0 = .ok (.aload_n 0, 1) := by decide +kernel
theorem dX1_readToken_1 : decode cX1_readToken 1 = .ok (.getfield 34, 3) := by decide +kernel
theorem dX1_readToken_4 : decode cX1_readToken 4 = .ok (.istore_n 2, 1) := by decide +kernel
theorem dX1_readToken_5 : decode cX1_readToken 5 = .ok (.iload_n 2, 1) := by decide +kernel
theorem dX1_readToken_6 : decode cX1_readToken 6 = .ok (.aload_n 1, 1) := by decide +kernel
theorem dX1_readToken_7 : decode cX1_readToken 7 = .ok (.invokevirtual 47, 3) := by decide +kernel
theorem dX1_readToken_10 : decode cX1_readToken 10 = .ok (.if_icmp .ge 29, 3) := by decide +kernel
theorem dX1_readToken_13 : decode cX1_readToken 13 = .ok (.aload_n 1, 1) := by decide +kernel
theorem dX1_readToken_14 : decode cX1_readToken 14 = .ok (.iload_n 2, 1) := by decide +kernel
theorem dX1_readToken_15 : decode cX1_readToken 15 = .ok (.invokevirtual 61, 3) := by decide +kernel
theorem dX1_readToken_18 : decode cX1_readToken 18 = .ok (.bipush 32, 2) := by decide +kernel
theorem dX1_readToken_20 : decode cX1_readToken 20 = .ok (.if_icmp .eq 13, 3) := by decide +kernel
theorem dX1_readToken_23 : decode cX1_readToken 23 = .ok (.aload_n 1, 1) := by decide +kernel
theorem dX1_readToken_24 : decode cX1_readToken 24 = .ok (.iload_n 2, 1) := by decide +kernel
theorem dX1_readToken_25 : decode cX1_readToken 25 = .ok (.invokevirtual 61, 3) := by decide +kernel
theorem dX1_readToken_28 : decode cX1_readToken 28 = .ok (.bipush 10, 2) := by decide +kernel
theorem dX1_readToken_30 : decode cX1_readToken 30 = .ok (.if_icmp .ne 9, 3) := by decide +kernel
theorem dX1_readToken_33 : decode cX1_readToken 33 = .ok (.iinc 2 1, 3) := by decide +kernel
theorem dX1_readToken_36 : decode cX1_readToken 36 = .ok (.goto (-31), 3) := by decide +kernel
theorem dX1_readToken_39 : decode cX1_readToken 39 = .ok (.aload_n 0, 1) := by decide +kernel
theorem dX1_readToken_40 : decode cX1_readToken 40 = .ok (.iload_n 2, 1) := by decide +kernel
theorem dX1_readToken_41 : decode cX1_readToken 41 = .ok (.putfield 31, 3) := by decide +kernel
theorem dX1_readToken_44 : decode cX1_readToken 44 = .ok (.aload_n 1, 1) := by decide +kernel
theorem dX1_readToken_45 : decode cX1_readToken 45 = .ok (.iload_n 2, 1) := by decide +kernel
theorem dX1_readToken_46 : decode cX1_readToken 46 = .ok (.invokevirtual 61, 3) := by decide +kernel
theorem dX1_readToken_49 : decode cX1_readToken 49 = .ok (.istore_n 3, 1) := by decide +kernel
theorem dX1_readToken_50 : decode cX1_readToken 50 = .ok (.iload_n 2, 1) := by decide +kernel
theorem dX1_readToken_51 : decode cX1_readToken 51 = .ok (.aload_n 1, 1) := by decide +kernel
theorem dX1_readToken_52 : decode cX1_readToken 52 = .ok (.invokevirtual 47, 3) := by decide +kernel
theorem dX1_readToken_55 : decode cX1_readToken 55 = .ok (.if_icmp .lt 11, 3) := by decide +kernel
theorem dX1_readToken_58 : decode cX1_readToken 58 = .ok (.aload_n 0, 1) := by decide +kernel
theorem dX1_readToken_59 : decode cX1_readToken 59 = .ok (.iconst 0, 1) := by decide +kernel
theorem dX1_readToken_60 : decode cX1_readToken 60 = .ok (.putfield 28, 3) := by decide +kernel
theorem dX1_readToken_63 : decode cX1_readToken 63 = .ok (.goto 55, 3) := by decide +kernel
theorem dX1_readToken_66 : decode cX1_readToken 66 = .ok (.iload_n 3, 1) := by decide +kernel
theorem dX1_readToken_67 : decode cX1_readToken 67 = .ok (.invokestatic 65, 3) := by decide +kernel
theorem dX1_readToken_70 : decode cX1_readToken 70 = .ok (.ifCond .eq 11, 3) := by decide +kernel
theorem dX1_readToken_73 : decode cX1_readToken 73 = .ok (.aload_n 0, 1) := by decide +kernel
theorem dX1_readToken_74 : decode cX1_readToken 74 = .ok (.aload_n 1, 1) := by decide +kernel
theorem dX1_readToken_75 : decode cX1_readToken 75 = .ok (.invokevirtual 68, 3) := by decide +kernel
theorem dX1_readToken_78 : decode cX1_readToken 78 = .ok (.goto 40, 3) := by decide +kernel
theorem dX1_readToken_81 : decode cX1_readToken 81 = .ok (.iload_n 3, 1) := by decide +kernel
theorem dX1_readToken_82 : decode cX1_readToken 82 = .ok (.invokestatic 71, 3) := by decide +kernel
theorem dX1_readToken_85 : decode cX1_readToken 85 = .ok (.ifCond .eq 11, 3) := by decide +kernel
theorem dX1_readToken_88 : decode cX1_readToken 88 = .ok (.aload_n 0, 1) := by decide +kernel
theorem dX1_readToken_89 : decode cX1_readToken 89 = .ok (.aload_n 1, 1) := by decide +kernel
theorem dX1_readToken_90 : decode cX1_readToken 90 = .ok (.invokevirtual 74, 3) := by decide +kernel
theorem dX1_readToken_93 : decode cX1_readToken 93 = .ok (.goto 25, 3) := by decide +kernel
theorem dX1_readToken_96 : decode cX1_readToken 96 = .ok (.aload_n 0, 1) := by decide +kernel
theorem dX1_readToken_97 : decode cX1_readToken 97 = .ok (.iload_n 3, 1) := by decide +kernel
theorem dX1_readToken_98 : decode cX1_readToken 98 = .ok (.bipush 59, 2) := by decide +kernel
theorem dX1_readToken_100 : decode cX1_readToken 100 = .ok (.if_icmp .ne 7, 3) := by decide +kernel
theorem dX1_readToken_103 : decode cX1_readToken 103 = .ok (.iconst 3, 1) := by decide +kernel
theorem dX1_readToken_104 : decode cX1_readToken 104 = .ok (.goto 4, 3) := by decide +kernel
theorem dX1_readToken_107 : decode cX1_readToken 107 = .ok (.iconst 4, 1) := by decide +kernel
theorem dX1_readToken_108 : decode cX1_readToken 108 = .ok (.putfield 28, 3) := by decide +kernel
theorem dX1_readToken_111 : decode cX1_readToken 111 = .ok (.aload_n 0, 1) := by decide +kernel
theorem dX1_readToken_112 : decode cX1_readToken 112 = .ok (.iload_n 2, 1) := by decide +kernel
theorem dX1_readToken_113 : decode cX1_readToken 113 = .ok (.iconst 1, 1) := by decide +kernel
theorem dX1_readToken_114 : decode cX1_readToken 114 = .ok (.iadd, 1) := by decide +kernel
theorem dX1_readToken_115 : decode cX1_readToken 115 = .ok (.putfield 34, 3) := by decide +kernel
theorem dX1_readToken_118 : decode cX1_readToken 118 = .ok (.return_, 1) := by decide +kernel
set_option maxRecDepth 20000 in
theorem ggX1_readWord_X9_length : GoodIn wsX1_readWord wsX9_length := goodIn_r _ [9, 10, 31, 32, 33] rfl (by decide +kernel)
set_option maxRecDepth 20000 in
theorem gX1_readWord_X9_length : GoodIn wsX1_readWord (wsV RX1 47 RX9 yX9_length wsX9_length) := goodIn_app (goodIn_of _ (by decide +kernel)) ggX1_readWord_X9_length
set_option maxRecDepth 20000 in
theorem ggX1_readWord_X9_byteAt : GoodIn wsX1_readWord wsX9_byteAt := goodIn_r _ [14, 10, 15, 31, 32, 33] rfl (by decide +kernel)
set_option maxRecDepth 20000 in
theorem gX1_readWord_X9_byteAt : GoodIn wsX1_readWord (wsV RX1 61 RX9 yX9_byteAt wsX9_byteAt) := goodIn_app (goodIn_of _ (by decide +kernel)) ggX1_readWord_X9_byteAt
set_option maxRecDepth 20000 in
theorem ggX1_readWord_X9_isLetter : GoodIn wsX1_readWord wsX9_isLetter := goodIn_r _ [18] rfl (by decide +kernel)
set_option maxRecDepth 20000 in
theorem gX1_readWord_X9_isLetter : GoodIn wsX1_readWord (va_wsS RX1 65 yX9_isLetter wsX9_isLetter) := goodIn_app (goodIn_of _ (by decide +kernel)) ggX1_readWord_X9_isLetter
set_option maxRecDepth 20000 in
theorem ggX1_readWord_X9_codeFrom : GoodIn wsX1_readWord wsX9_codeFrom := goodIn_r _ [22, 23, 12, 13, 8, 14, 10, 15, 31, 32, 33] rfl (by decide +kernel)
set_option maxRecDepth 20000 in
theorem gX1_readWord_X9_codeFrom : GoodIn wsX1_readWord (wsV RX1 77 RX9 yX9_codeFrom wsX9_codeFrom) := goodIn_app (goodIn_of _ (by decide +kernel)) ggX1_readWord_X9_codeFrom
theorem dX1_readWord_0 : decode cX1_readWord 0 = .ok (.aload_n 0, 1) := by decide +kernel
theorem dX1_readWord_1 : decode cX1_readWord 1 = .ok (.getfield 31, 3) := by decide +kernel
theorem dX1_readWord_4 : decode cX1_readWord 4 = .ok (.istore_n 2, 1) := by decide +kernel
theorem dX1_readWord_5 : decode cX1_readWord 5 = .ok (.iload_n 2, 1) := by decide +kernel
theorem dX1_readWord_6 : decode cX1_readWord 6 = .ok (.aload_n 1, 1) := by decide +kernel
theorem dX1_readWord_7 : decode cX1_readWord 7 = .ok (.invokevirtual 47, 3) := by decide +kernel
theorem dX1_readWord_10 : decode cX1_readWord 10 = .ok (.if_icmp .ge 20, 3) := by decide +kernel
theorem dX1_readWord_13 : decode cX1_readWord 13 = .ok (.aload_n 1, 1) := by decide +kernel
theorem dX1_readWord_14 : decode cX1_readWord 14 = .ok (.iload_n 2, 1) := by decide +kernel
theorem dX1_readWord_15 : decode cX1_readWord 15 = .ok (.invokevirtual 61, 3) := by decide +kernel
theorem dX1_readWord_18 : decode cX1_readWord 18 = .ok (.invokestatic 65, 3) := by decide +kernel
theorem dX1_readWord_21 : decode cX1_readWord 21 = .ok (.ifCond .eq 9, 3) := by decide +kernel
theorem dX1_readWord_24 : decode cX1_readWord 24 = .ok (.iinc 2 1, 3) := by decide +kernel
theorem dX1_readWord_27 : decode cX1_readWord 27 = .ok (.goto (-22), 3) := by decide +kernel
theorem dX1_readWord_30 : decode cX1_readWord 30 = .ok (.aload_n 0, 1) := by decide +kernel
theorem dX1_readWord_31 : decode cX1_readWord 31 = .ok (.iload_n 2, 1) := by decide +kernel
theorem dX1_readWord_32 : decode cX1_readWord 32 = .ok (.putfield 34, 3) := by decide +kernel
theorem dX1_readWord_35 : decode cX1_readWord 35 = .ok (.aload_n 0, 1) := by decide +kernel
theorem dX1_readWord_36 : decode cX1_readWord 36 = .ok (.iload_n 2, 1) := by decide +kernel
theorem dX1_readWord_37 : decode cX1_readWord 37 = .ok (.aload_n 0, 1) := by decide +kernel
theorem dX1_readWord_38 : decode cX1_readWord 38 = .ok (.getfield 31, 3) := by decide +kernel
theorem dX1_readWord_41 : decode cX1_readWord 41 = .ok (.isub, 1) := by decide +kernel
theorem dX1_readWord_42 : decode cX1_readWord 42 = .ok (.iconst 4, 1) := by decide +kernel
theorem dX1_readWord_43 : decode cX1_readWord 43 = .ok (.if_icmp .gt 7, 3) := by decide +kernel
theorem dX1_readWord_46 : decode cX1_readWord 46 = .ok (.iconst 1, 1) := by decide +kernel
theorem dX1_readWord_47 : decode cX1_readWord 47 = .ok (.goto 4, 3) := by decide +kernel
theorem dX1_readWord_50 : decode cX1_readWord 50 = .ok (.iconst 4, 1) := by decide +kernel
theorem dX1_readWord_51 : decode cX1_readWord 51 = .ok (.putfield 28, 3) := by decide +kernel
theorem dX1_readWord_54 : decode cX1_readWord 54 = .ok (.aload_n 0, 1) := by decide +kernel
theorem dX1_readWord_55 : decode cX1_readWord 55 = .ok (.aload_n 1, 1) := by decide +kernel
theorem dX1_readWord_56 : decode cX1_readWord 56 = .ok (.aload_n 0, 1) := by decide +kernel
theorem dX1_readWord_57 : decode cX1_readWord 57 = .ok (.getfield 31, 3) := by decide +kernel
theorem dX1_readWord_60 : decode cX1_readWord 60 = .ok (.iload_n 2, 1) := by decide +kernel
theorem dX1_readWord_61 : decode cX1_readWord 61 = .ok (.aload_n 0, 1) := by decide +kernel
theorem dX1_readWord_62 : decode cX1_readWord 62 = .ok (.getfield 31, 3) := by decide +kernel
theorem dX1_readWord_65 : decode cX1_readWord 65 = .ok (.isub, 1) := by decide +kernel
theorem dX1_readWord_66 : decode cX1_readWord 66 = .ok (.invokevirtual 77, 3) := by decide +kernel
theorem dX1_readWord_69 : decode cX1_readWord 69 = .ok (.putfield 37, 3) := by decide +kernel
theorem dX1_readWord_72 : decode cX1_readWord 72 = .ok (.return_, 1) := by decide +kernel
set_option maxRecDepth 20000 in
theorem ggX1_readNumber_X9_length : GoodIn wsX1_readNumber wsX9_length := goodIn_r _ [9, 10, 26, 27, 28] rfl (by decide +kernel)
set_option maxRecDepth 20000 in
theorem gX1_readNumber_X9_length : GoodIn wsX1_readNumber (wsV RX1 47 RX9 yX9_length wsX9_length) := goodIn_app (goodIn_of _ (by decide +kernel)) ggX1_readNumber_X9_length
set_option maxRecDepth 20000 in
theorem ggX1_readNumber_X9_byteAt : GoodIn wsX1_readNumber wsX9_byteAt := goodIn_r _ [14, 10, 15, 26, 27, 28] rfl (by decide +kernel)
set_option maxRecDepth 20000 in
theorem gX1_readNumber_X9_byteAt : GoodIn wsX1_readNumber (wsV RX1 61 RX9 yX9_byteAt wsX9_byteAt) := goodIn_app (goodIn_of _ (by decide +kernel)) ggX1_readNumber_X9_byteAt
set_option maxRecDepth 20000 in
theorem ggX1_readNumber_X9_isDigit : GoodIn wsX1_readNumber wsX9_isDigit := goodIn_r _ [18] rfl (by decide +kernel)
set_option maxRecDepth 20000 in
theorem gX1_readNumber_X9_isDigit : GoodIn wsX1_readNumber (va_wsS RX1 71 yX9_isDigit wsX9_isDigit) := goodIn_app (goodIn_of _ (by decide +kernel)) ggX1_readNumber_X9_isDigit
theorem dX1_readNumber_0 : decode cX1_readNumber 0 = .ok (.aload_n 0, 1) := by decide +kernel
theorem dX1_readNumber_1 : decode cX1_readNumber 1 = .ok (.getfield 31, 3) := by decide +kernel
theorem dX1_readNumber_4 : decode cX1_readNumber 4 = .ok (.istore_n 2, 1) := by decide +kernel
theorem dX1_readNumber_5 : decode cX1_readNumber 5 = .ok (.aload_n 0, 1) := by decide +kernel
theorem dX1_readNumber_6 : decode cX1_readNumber 6 = .ok (.iconst 0, 1) := by decide +kernel
theorem dX1_readNumber_7 : decode cX1_readNumber 7 = .ok (.putfield 37, 3) := by decide +kernel
theorem dX1_readNumber_10 : decode cX1_readNumber 10 = .ok (.iload_n 2, 1) := by decide +kernel
theorem dX1_readNumber_11 : decode cX1_readNumber 11 = .ok (.aload_n 1, 1) := by decide +kernel
theorem dX1_readNumber_12 : decode cX1_readNumber 12 = .ok (.invokevirtual 47, 3) := by decide +kernel
theorem dX1_readNumber_15 : decode cX1_readNumber 15 = .ok (.if_icmp .ge 40, 3) := by decide +kernel
theorem dX1_readNumber_18 : decode cX1_readNumber 18 = .ok (.aload_n 1, 1) := by decide +kernel
theorem dX1_readNumber_19 : decode cX1_readNumber 19 = .ok (.iload_n 2, 1) := by decide +kernel
theorem dX1_readNumber_20 : decode cX1_readNumber 20 = .ok (.invokevirtual 61, 3) := by decide +kernel
theorem dX1_readNumber_23 : decode cX1_readNumber 23 = .ok (.invokestatic 71, 3) := by decide +kernel
theorem dX1_readNumber_26 : decode cX1_readNumber 26 = .ok (.ifCond .eq 29, 3) := by decide +kernel
theorem dX1_readNumber_29 : decode cX1_readNumber 29 = .ok (.aload_n 0, 1) := by decide +kernel
theorem dX1_readNumber_30 : decode cX1_readNumber 30 = .ok (.bipush 10, 2) := by decide +kernel
theorem dX1_readNumber_32 : decode cX1_readNumber 32 = .ok (.aload_n 0, 1) := by decide +kernel
theorem dX1_readNumber_33 : decode cX1_readNumber 33 = .ok (.getfield 37, 3) := by decide +kernel
theorem dX1_readNumber_36 : decode cX1_readNumber 36 = .ok (.imul, 1) := by decide +kernel
theorem dX1_readNumber_37 : decode cX1_readNumber 37 = .ok (.aload_n 1, 1) := by decide +kernel
theorem dX1_readNumber_38 : decode cX1_readNumber 38 = .ok (.iload_n 2, 1) := by decide +kernel
theorem dX1_readNumber_39 : decode cX1_readNumber 39 = .ok (.invokevirtual 61, 3) := by decide +kernel
theorem dX1_readNumber_42 : decode cX1_readNumber 42 = .ok (.iadd, 1) := by decide +kernel
theorem dX1_readNumber_43 : decode cX1_readNumber 43 = .ok (.bipush 48, 2) := by decide +kernel
theorem dX1_readNumber_45 : decode cX1_readNumber 45 = .ok (.isub, 1) := by decide +kernel
theorem dX1_readNumber_46 : decode cX1_readNumber 46 = .ok (.putfield 37, 3) := by decide +kernel
theorem dX1_readNumber_49 : decode cX1_readNumber 49 = .ok (.iinc 2 1, 3) := by decide +kernel
theorem dX1_readNumber_52 : decode cX1_readNumber 52 = .ok (.goto (-42), 3) := by decide +kernel
theorem dX1_readNumber_55 : decode cX1_readNumber 55 = .ok (.aload_n 0, 1) := by decide +kernel
theorem dX1_readNumber_56 : decode cX1_readNumber 56 = .ok (.iload_n 2, 1) := by decide +kernel
theorem dX1_readNumber_57 : decode cX1_readNumber 57 = .ok (.putfield 34, 3) := by decide +kernel
theorem dX1_readNumber_60 : decode cX1_readNumber 60 = .ok (.aload_n 0, 1) := by decide +kernel
theorem dX1_readNumber_61 : decode cX1_readNumber 61 = .ok (.iload_n 2, 1) := by decide +kernel
theorem dX1_readNumber_62 : decode cX1_readNumber 62 = .ok (.aload_n 0, 1) := by decide +kernel
theorem dX1_readNumber_63 : decode cX1_readNumber 63 = .ok (.getfield 31, 3) := by decide +kernel
theorem dX1_readNumber_66 : decode cX1_readNumber 66 = .ok (.isub, 1) := by decide +kernel
theorem dX1_readNumber_67 : decode cX1_readNumber 67 = .ok (.iconst 5, 1) := by decide +kernel
theorem dX1_readNumber_68 : decode cX1_readNumber 68 = .ok (.if_icmp .gt 7, 3) := by decide +kernel
theorem dX1_readNumber_71 : decode cX1_readNumber 71 = .ok (.iconst 2, 1) := by decide +kernel
theorem dX1_readNumber_72 : decode cX1_readNumber 72 = .ok (.goto 4, 3) := by decide +kernel
theorem dX1_readNumber_75 : decode cX1_readNumber 75 = .ok (.iconst 4, 1) := by decide +kernel
theorem dX1_readNumber_76 : decode cX1_readNumber 76 = .ok (.putfield 28, 3) := by decide +kernel
theorem dX1_readNumber_79 : decode cX1_readNumber 79 = .ok (.return_, 1) := by decide +kernel
set_option maxRecDepth 20000 in
theorem ggX1_doesFit_X1_hasEntry : GoodIn wsX1_doesFit wsX1_hasEntry := goodIn_r _ [7, 8, 9, 10, 11, 12, 13, 14, 15, 16, 17, 18, 19, 20, 25, 26, 27, 28, 29, 30, 31, 32, 33, 34] rfl (by decide +kernel)
set_option maxRecDepth 20000 in
theorem gX1_doesFit_X1_hasEntry : GoodIn wsX1_doesFit (wsV RX1 81 RX1 yX1_hasEntry wsX1_hasEntry) := goodIn_app (goodIn_of _ (by decide +kernel)) ggX1_doesFit_X1_hasEntry
set_option maxRecDepth 20000 in
theorem ggX1_doesFit_X6_isInRange : GoodIn wsX1_doesFit wsX6_isInRange := goodIn_r _ [24] rfl (by decide +kernel)
set_option maxRecDepth 20000 in
theorem gX1_doesFit_X6_isInRange : GoodIn wsX1_doesFit (va_wsS RX1 84 yX6_isInRange wsX6_isInRange) := goodIn_app (goodIn_of _ (by decide +kernel)) ggX1_doesFit_X6_isInRange
theorem dX1_doesFit_0 : decode cX1_doesFit 0 = .ok (.iload_n 1, 1) := by decide +kernel
theorem dX1_doesFit_1 : decode cX1_doesFit 1 = .ok (.ifCond .ne 28, 3) := by decide +kernel
theorem dX1_doesFit_4 : decode cX1_doesFit 4 = .ok (.aload_n 0, 1) := by decide +kernel
theorem dX1_doesFit_5 : decode cX1_doesFit 5 = .ok (.getfield 28, 3) := by decide +kernel
theorem dX1_doesFit_8 : decode cX1_doesFit 8 = .ok (.iconst 1, 1) := by decide +kernel
theorem dX1_doesFit_9 : decode cX1_doesFit 9 = .ok (.if_icmp .ne 18, 3) := by decide +kernel
theorem dX1_doesFit_12 : decode cX1_doesFit 12 = .ok (.aload_n 0, 1) := by decide +kernel
theorem dX1_doesFit_13 : decode cX1_doesFit 13 = .ok (.aload_n 0, 1) := by decide +kernel
theorem dX1_doesFit_14 : decode cX1_doesFit 14 = .ok (.getfield 37, 3) := by decide +kernel
theorem dX1_doesFit_17 : decode cX1_doesFit 17 = .ok (.invokevirtual 81, 3) := by decide +kernel
theorem dX1_doesFit_20 : decode cX1_doesFit 20 = .ok (.ifCond .ne 7, 3) := by decide +kernel
theorem dX1_doesFit_23 : decode cX1_doesFit 23 = .ok (.iconst 1, 1) := by decide +kernel
theorem dX1_doesFit_24 : decode cX1_doesFit 24 = .ok (.goto 4, 3) := by decide +kernel
theorem dX1_doesFit_27 : decode cX1_doesFit 27 = .ok (.iconst 0, 1) := by decide +kernel
theorem dX1_doesFit_28 : decode cX1_doesFit 28 = .ok (.ireturn, 1) := by decide +kernel
theorem dX1_doesFit_29 : decode cX1_doesFit 29 = .ok (.iload_n 1, 1) := by decide +kernel
theorem dX1_doesFit_30 : decode cX1_doesFit 30 = .ok (.iconst 5, 1) := by decide +kernel
theorem dX1_doesFit_31 : decode cX1_doesFit 31 = .ok (.if_icmp .ne 17, 3) := by decide +kernel
theorem dX1_doesFit_34 : decode cX1_doesFit 34 = .ok (.aload_n 0, 1) := by decide +kernel
theorem dX1_doesFit_35 : decode cX1_doesFit 35 = .ok (.getfield 28, 3) := by decide +kernel
theorem dX1_doesFit_38 : decode cX1_doesFit 38 = .ok (.iconst 3, 1) := by decide +kernel
theorem dX1_doesFit_39 : decode cX1_doesFit 39 = .ok (.if_icmp .ne 7, 3) := by decide +kernel
theorem dX1_doesFit_42 : decode cX1_doesFit 42 = .ok (.iconst 1, 1) := by decide +kernel
theorem dX1_doesFit_43 : decode cX1_doesFit 43 = .ok (.goto 4, 3) := by decide +kernel
theorem dX1_doesFit_46 : decode cX1_doesFit 46 = .ok (.iconst 0, 1) := by decide +kernel
theorem dX1_doesFit_47 : decode cX1_doesFit 47 = .ok (.ireturn, 1) := by decide +kernel
theorem dX1_doesFit_48 : decode cX1_doesFit 48 = .ok (.aload_n 0, 1) := by decide +kernel
theorem dX1_doesFit_49 : decode cX1_doesFit 49 = .ok (.getfield 28, 3) := by decide +kernel
theorem dX1_doesFit_52 : decode cX1_doesFit 52 = .ok (.iconst 2, 1) := by decide +kernel
theorem dX1_doesFit_53 : decode cX1_doesFit 53 = .ok (.if_icmp .ne 20, 3) := by decide +kernel
theorem dX1_doesFit_56 : decode cX1_doesFit 56 = .ok (.iload_n 1, 1) := by decide +kernel
theorem dX1_doesFit_57 : decode cX1_doesFit 57 = .ok (.iconst 1, 1) := by decide +kernel
theorem dX1_doesFit_58 : decode cX1_doesFit 58 = .ok (.isub, 1) := by decide +kernel
theorem dX1_doesFit_59 : decode cX1_doesFit 59 = .ok (.aload_n 0, 1) := by decide +kernel
theorem dX1_doesFit_60 : decode cX1_doesFit 60 = .ok (.getfield 37, 3) := by decide +kernel
theorem dX1_doesFit_63 : decode cX1_doesFit 63 = .ok (.invokestatic 84, 3) := by decide +kernel
theorem dX1_doesFit_66 : decode cX1_doesFit 66 = .ok (.ifCond .eq 7, 3) := by decide +kernel
theorem dX1_doesFit_69 : decode cX1_doesFit 69 = .ok (.iconst 1, 1) := by decide +kernel
theorem dX1_doesFit_70 : decode cX1_doesFit 70 = .ok (.goto 4, 3) := by decide +kernel
theorem dX1_doesFit_73 : decode cX1_doesFit 73 = .ok (.iconst 0, 1) := by decide +kernel
theorem dX1_doesFit_74 : decode cX1_doesFit 74 = .ok (.ireturn, 1) := by decide +kernel
set_option maxRecDepth 20000 in
theorem ggX1_takeToken_X8_add : GoodIn wsX1_takeToken wsX8_add := goodIn_r _ [7, 8, 9, 10, 11, 12, 6, 13, 14, 15, 16, 17, 18, 31, 32, 33] rfl (by decide +kernel)
set_option maxRecDepth 20000 in
theorem gX1_takeToken_X8_add : GoodIn wsX1_takeToken (wsV RX1 90 RX8 yX8_add wsX8_add) := goodIn_app (goodIn_of _ (by decide +kernel)) ggX1_takeToken_X8_add
set_option maxRecDepth 20000 in
theorem ggX1_takeToken_X8_size : GoodIn wsX1_takeToken wsX8_size := goodIn_r _ [22, 8, 31, 32, 33] rfl (by decide +kernel)
set_option maxRecDepth 20000 in
theorem gX1_takeToken_X8_size : GoodIn wsX1_takeToken (wsV RX1 93 RX8 yX8_size wsX8_size) := goodIn_app (goodIn_of _ (by decide +kernel)) ggX1_takeToken_X8_size
set_option maxRecDepth 20000 in
theorem ggX1_takeToken_X8_set : GoodIn wsX1_takeToken wsX8_set := goodIn_r _ [18, 8, 9, 14, 31, 32, 33] rfl (by decide +kernel)
set_option maxRecDepth 20000 in
theorem gX1_takeToken_X8_set : GoodIn wsX1_takeToken (wsV RX1 96 RX8 yX8_set wsX8_set) := goodIn_app (goodIn_of _ (by decide +kernel)) ggX1_takeToken_X8_set
theorem dX1_takeToken_0 : decode cX1_takeToken 0 = .ok (.iload_n 1, 1) := by decide +kernel
theorem dX1_takeToken_1 : decode cX1_takeToken 1 = .ok (.ifCond .ne 35, 3) := by decide +kernel
theorem dX1_takeToken_4 : decode cX1_takeToken 4 = .ok (.aload_n 0, 1) := by decide +kernel
theorem dX1_takeToken_5 : decode cX1_takeToken 5 = .ok (.getfield 14, 3) := by decide +kernel
theorem dX1_takeToken_8 : decode cX1_takeToken 8 = .ok (.invokevirtual 90, 3) := by decide +kernel
theorem dX1_takeToken_11 : decode cX1_takeToken 11 = .ok (.pop, 1) := by decide +kernel
theorem dX1_takeToken_12 : decode cX1_takeToken 12 = .ok (.aload_n 0, 1) := by decide +kernel
theorem dX1_takeToken_13 : decode cX1_takeToken 13 = .ok (.getfield 14, 3) := by decide +kernel
theorem dX1_takeToken_16 : decode cX1_takeToken 16 = .ok (.aload_n 0, 1) := by decide +kernel
theorem dX1_takeToken_17 : decode cX1_takeToken 17 = .ok (.getfield 14, 3) := by decide +kernel
theorem dX1_takeToken_20 : decode cX1_takeToken 20 = .ok (.invokevirtual 93, 3) := by decide +kernel
theorem dX1_takeToken_23 : decode cX1_takeToken 23 = .ok (.iconst 1, 1) := by decide +kernel
theorem dX1_takeToken_24 : decode cX1_takeToken 24 = .ok (.isub, 1) := by decide +kernel
theorem dX1_takeToken_25 : decode cX1_takeToken 25 = .ok (.iconst 4, 1) := by decide +kernel
theorem dX1_takeToken_26 : decode cX1_takeToken 26 = .ok (.aload_n 0, 1) := by decide +kernel
theorem dX1_takeToken_27 : decode cX1_takeToken 27 = .ok (.getfield 37, 3) := by decide +kernel
theorem dX1_takeToken_30 : decode cX1_takeToken 30 = .ok (.invokevirtual 96, 3) := by decide +kernel
theorem dX1_takeToken_33 : decode cX1_takeToken 33 = .ok (.goto 31, 3) := by decide +kernel
theorem dX1_takeToken_36 : decode cX1_takeToken 36 = .ok (.iload_n 1, 1) := by decide +kernel
theorem dX1_takeToken_37 : decode cX1_takeToken 37 = .ok (.iconst 5, 1) := by decide +kernel
theorem dX1_takeToken_38 : decode cX1_takeToken 38 = .ok (.if_icmp .eq 26, 3) := by decide +kernel
theorem dX1_takeToken_41 : decode cX1_takeToken 41 = .ok (.aload_n 0, 1) := by decide +kernel
theorem dX1_takeToken_42 : decode cX1_takeToken 42 = .ok (.getfield 14, 3) := by decide +kernel
theorem dX1_takeToken_45 : decode cX1_takeToken 45 = .ok (.aload_n 0, 1) := by decide +kernel
theorem dX1_takeToken_46 : decode cX1_takeToken 46 = .ok (.getfield 14, 3) := by decide +kernel
theorem dX1_takeToken_49 : decode cX1_takeToken 49 = .ok (.invokevirtual 93, 3) := by decide +kernel
theorem dX1_takeToken_52 : decode cX1_takeToken 52 = .ok (.iconst 1, 1) := by decide +kernel
theorem dX1_takeToken_53 : decode cX1_takeToken 53 = .ok (.isub, 1) := by decide +kernel
theorem dX1_takeToken_54 : decode cX1_takeToken 54 = .ok (.iload_n 1, 1) := by decide +kernel
theorem dX1_takeToken_55 : decode cX1_takeToken 55 = .ok (.iconst 1, 1) := by decide +kernel
theorem dX1_takeToken_56 : decode cX1_takeToken 56 = .ok (.isub, 1) := by decide +kernel
theorem dX1_takeToken_57 : decode cX1_takeToken 57 = .ok (.aload_n 0, 1) := by decide +kernel
theorem dX1_takeToken_58 : decode cX1_takeToken 58 = .ok (.getfield 37, 3) := by decide +kernel
theorem dX1_takeToken_61 : decode cX1_takeToken 61 = .ok (.invokevirtual 96, 3) := by decide +kernel
theorem dX1_takeToken_64 : decode cX1_takeToken 64 = .ok (.return_, 1) := by decide +kernel
set_option maxRecDepth 20000 in
theorem ggX1_hasEntry_X8_size : GoodIn wsX1_hasEntry wsX8_size := goodIn_r _ [6, 7, 21, 22, 23] rfl (by decide +kernel)
set_option maxRecDepth 20000 in
theorem gX1_hasEntry_X8_size : GoodIn wsX1_hasEntry (wsV RX1 93 RX8 yX8_size wsX8_size) := goodIn_app (goodIn_of _ (by decide +kernel)) ggX1_hasEntry_X8_size
set_option maxRecDepth 20000 in
theorem ggX1_hasEntry_X8_get : GoodIn wsX1_hasEntry wsX8_get := goodIn_r _ [11, 7, 12, 13, 21, 22, 23] rfl (by decide +kernel)
set_option maxRecDepth 20000 in
theorem gX1_hasEntry_X8_get : GoodIn wsX1_hasEntry (wsV RX1 100 RX8 yX8_get wsX8_get) := goodIn_app (goodIn_of _ (by decide +kernel)) ggX1_hasEntry_X8_get
theorem dX1_hasEntry_0 : decode cX1_hasEntry 0 = .ok (.iconst 0, 1) := by decide +kernel
theorem dX1_hasEntry_1 : decode cX1_hasEntry 1 = .ok (.istore_n 2, 1) := by decide +kernel
theorem dX1_hasEntry_2 : decode cX1_hasEntry 2 = .ok (.iload_n 2, 1) := by decide +kernel
theorem dX1_hasEntry_3 : decode cX1_hasEntry 3 = .ok (.aload_n 0, 1) := by decide +kernel
theorem dX1_hasEntry_4 : decode cX1_hasEntry 4 = .ok (.getfield 14, 3) := by decide +kernel
theorem dX1_hasEntry_7 : decode cX1_hasEntry 7 = .ok (.invokevirtual 93, 3) := by decide +kernel
theorem dX1_hasEntry_10 : decode cX1_hasEntry 10 = .ok (.if_icmp .ge 24, 3) := by decide +kernel
theorem dX1_hasEntry_13 : decode cX1_hasEntry 13 = .ok (.aload_n 0, 1) := by decide +kernel
theorem dX1_hasEntry_14 : decode cX1_hasEntry 14 = .ok (.getfield 14, 3) := by decide +kernel
theorem dX1_hasEntry_17 : decode cX1_hasEntry 17 = .ok (.iload_n 2, 1) := by decide +kernel
theorem dX1_hasEntry_18 : decode cX1_hasEntry 18 = .ok (.iconst 4, 1) := by decide +kernel
theorem dX1_hasEntry_19 : decode cX1_hasEntry 19 = .ok (.invokevirtual 100, 3) := by decide +kernel
theorem dX1_hasEntry_22 : decode cX1_hasEntry 22 = .ok (.iload_n 1, 1) := by decide +kernel
theorem dX1_hasEntry_23 : decode cX1_hasEntry 23 = .ok (.if_icmp .ne 5, 3) := by decide +kernel
theorem dX1_hasEntry_26 : decode cX1_hasEntry 26 = .ok (.iconst 1, 1) := by decide +kernel
theorem dX1_hasEntry_27 : decode cX1_hasEntry 27 = .ok (.ireturn, 1) := by decide +kernel
theorem dX1_hasEntry_28 : decode cX1_hasEntry 28 = .ok (.iinc 2 1, 3) := by decide +kernel
theorem dX1_hasEntry_31 : decode cX1_hasEntry 31 = .ok (.goto (-29), 3) := by decide +kernel
theorem dX1_hasEntry_34 : decode cX1_hasEntry 34 = .ok (.iconst 0, 1) := by decide +kernel
theorem dX1_hasEntry_35 : decode cX1_hasEntry 35 = .ok (.ireturn, 1) := by decide +kernel
set_option maxRecDepth 20000 in
theorem ggX1_isJoinedTo_X8_size : GoodIn wsX1_isJoinedTo wsX8_size := goodIn_r _ [6, 7, 68, 69, 70] rfl (by decide +kernel)
set_option maxRecDepth 20000 in
theorem gX1_isJoinedTo_X8_size : GoodIn wsX1_isJoinedTo (wsV RX1 93 RX8 yX8_size wsX8_size) := goodIn_app (goodIn_of _ (by decide +kernel)) ggX1_isJoinedTo_X8_size
set_option maxRecDepth 20000 in
theorem ggX1_isJoinedTo_X1_rowBehind : GoodIn wsX1_isJoinedTo wsX1_rowBehind := goodIn_r _ [11, 2, 3, 4, 5, 6, 7, 12, 13, 14, 15, 16, 17, 68, 69, 70] rfl (by decide +kernel)
set_option maxRecDepth 20000 in
theorem gX1_isJoinedTo_X1_rowBehind : GoodIn wsX1_isJoinedTo (va_wsS RX1 103 yX1_rowBehind wsX1_rowBehind) := goodIn_app (goodIn_of _ (by decide +kernel)) ggX1_isJoinedTo_X1_rowBehind
set_option maxRecDepth 20000 in
theorem ggX1_isJoinedTo_X8_get : GoodIn wsX1_isJoinedTo wsX8_get := goodIn_r _ [15, 7, 16, 17, 68, 69, 70] rfl (by decide +kernel)
set_option maxRecDepth 20000 in
theorem gX1_isJoinedTo_X8_get : GoodIn wsX1_isJoinedTo (wsV RX1 100 RX8 yX8_get wsX8_get) := goodIn_app (goodIn_of _ (by decide +kernel)) ggX1_isJoinedTo_X8_get
set_option maxRecDepth 20000 in
theorem ggX1_isJoinedTo_X6_numberOf : GoodIn wsX1_isJoinedTo wsX6_numberOf := goodIn_r _ [22, 23, 24, 3, 4, 5, 6, 7, 25, 13, 14, 15, 16, 17, 60, 61, 62, 63, 64, 65, 66, 67, 68, 69, 70] rfl (by decide +kernel)
set_option maxRecDepth 20000 in
theorem gX1_isJoinedTo_X6_numberOf : GoodIn wsX1_isJoinedTo (wsV RX1 107 RX6 yX6_numberOf wsX6_numberOf) := goodIn_app (goodIn_of _ (by decide +kernel)) ggX1_isJoinedTo_X6_numberOf
set_option maxRecDepth 20000 in
theorem ggX1_isJoinedTo_X8_isFull : GoodIn wsX1_isJoinedTo wsX8_isFull := goodIn_r _ [29, 7, 16, 17, 68, 69, 70] rfl (by decide +kernel)
set_option maxRecDepth 20000 in
theorem gX1_isJoinedTo_X8_isFull : GoodIn wsX1_isJoinedTo (wsV RX1 113 RX8 yX8_isFull wsX8_isFull) := goodIn_app (goodIn_of _ (by decide +kernel)) ggX1_isJoinedTo_X8_isFull
set_option maxRecDepth 20000 in
theorem ggX1_isJoinedTo_X6_addStone : GoodIn wsX1_isJoinedTo wsX6_addStone := goodIn_r _ [33, 23, 34, 35, 36, 5, 37, 7, 16, 38, 27, 28, 29, 17, 39, 40, 41, 42, 43, 60, 61, 62, 63, 64, 65, 66, 67, 68, 69, 70] rfl (by decide +kernel)
set_option maxRecDepth 20000 in
theorem gX1_isJoinedTo_X6_addStone : GoodIn wsX1_isJoinedTo (wsV RX1 117 RX6 yX6_addStone wsX6_addStone) := goodIn_app (goodIn_of _ (by decide +kernel)) ggX1_isJoinedTo_X6_addStone
set_option maxRecDepth 20000 in
theorem ggX1_isJoinedTo_X1_raise : GoodIn wsX1_isJoinedTo wsX1_raise := goodIn_r _ [47, 1, 48, 49, 50, 51, 12, 13, 14, 5, 15, 7, 16, 17, 52, 40, 41, 42, 53, 54, 55, 56, 57, 58, 59, 68, 69, 70] rfl (by decide +kernel)
set_option maxRecDepth 20000 in
theorem gX1_isJoinedTo_X1_raise : GoodIn wsX1_isJoinedTo (wsV RX1 121 RX1 yX1_raise wsX1_raise) := goodIn_app (goodIn_of _ (by decide +kernel)) ggX1_isJoinedTo_X1_raise
theorem dX1_isJoinedTo_0 : decode cX1_isJoinedTo 0 = .ok (.iconst 0, 1) := by decide +kernel
theorem dX1_isJoinedTo_1 : decode cX1_isJoinedTo 1 = .ok (.istore_n 2, 1) := by decide +kernel
theorem dX1_isJoinedTo_2 : decode cX1_isJoinedTo 2 = .ok (.iconst 0, 1) := by decide +kernel
theorem dX1_isJoinedTo_3 : decode cX1_isJoinedTo 3 = .ok (.istore_n 3, 1) := by decide +kernel
theorem dX1_isJoinedTo_4 : decode cX1_isJoinedTo 4 = .ok (.iload_n 3, 1) := by decide +kernel
theorem dX1_isJoinedTo_5 : decode cX1_isJoinedTo 5 = .ok (.aload_n 0, 1) := by decide +kernel
theorem dX1_isJoinedTo_6 : decode cX1_isJoinedTo 6 = .ok (.getfield 14, 3) := by decide +kernel
theorem dX1_isJoinedTo_9 : decode cX1_isJoinedTo 9 = .ok (.invokevirtual 93, 3) := by decide +kernel
theorem dX1_isJoinedTo_12 : decode cX1_isJoinedTo 12 = .ok (.if_icmp .ge 122, 3) := by decide +kernel
theorem dX1_isJoinedTo_15 : decode cX1_isJoinedTo 15 = .ok (.aload_n 0, 1) := by decide +kernel
theorem dX1_isJoinedTo_16 : decode cX1_isJoinedTo 16 = .ok (.getfield 14, 3) := by decide +kernel
theorem dX1_isJoinedTo_19 : decode cX1_isJoinedTo 19 = .ok (.iload_n 2, 1) := by decide +kernel
theorem dX1_isJoinedTo_20 : decode cX1_isJoinedTo 20 = .ok (.invokestatic 103, 3) := by decide +kernel
theorem dX1_isJoinedTo_23 : decode cX1_isJoinedTo 23 = .ok (.istore 4, 2) := by decide +kernel
theorem dX1_isJoinedTo_25 : decode cX1_isJoinedTo 25 = .ok (.aload_n 0, 1) := by decide +kernel
theorem dX1_isJoinedTo_26 : decode cX1_isJoinedTo 26 = .ok (.getfield 14, 3) := by decide +kernel
theorem dX1_isJoinedTo_29 : decode cX1_isJoinedTo 29 = .ok (.iload 4, 2) := by decide +kernel
theorem dX1_isJoinedTo_31 : decode cX1_isJoinedTo 31 = .ok (.iconst 4, 1) := by decide +kernel
theorem dX1_isJoinedTo_32 : decode cX1_isJoinedTo 32 = .ok (.invokevirtual 100, 3) := by decide +kernel
theorem dX1_isJoinedTo_35 : decode cX1_isJoinedTo 35 = .ok (.istore_n 2, 1) := by decide +kernel
theorem dX1_isJoinedTo_36 : decode cX1_isJoinedTo 36 = .ok (.aload_n 1, 1) := by decide +kernel
theorem dX1_isJoinedTo_37 : decode cX1_isJoinedTo 37 = .ok (.iload_n 2, 1) := by decide +kernel
theorem dX1_isJoinedTo_38 : decode cX1_isJoinedTo 38 = .ok (.invokevirtual 107, 3) := by decide +kernel
theorem dX1_isJoinedTo_41 : decode cX1_isJoinedTo 41 = .ok (.istore 5, 2) := by decide +kernel
theorem dX1_isJoinedTo_43 : decode cX1_isJoinedTo 43 = .ok (.iload 5, 2) := by decide +kernel
theorem dX1_isJoinedTo_45 : decode cX1_isJoinedTo 45 = .ok (.iconst (-1), 1) := by decide +kernel
theorem dX1_isJoinedTo_46 : decode cX1_isJoinedTo 46 = .ok (.if_icmp .ne 15, 3) := by decide +kernel
theorem dX1_isJoinedTo_49 : decode cX1_isJoinedTo 49 = .ok (.aload_n 1, 1) := by decide +kernel
theorem dX1_isJoinedTo_50 : decode cX1_isJoinedTo 50 = .ok (.getfield 110, 3) := by decide +kernel
theorem dX1_isJoinedTo_53 : decode cX1_isJoinedTo 53 = .ok (.invokevirtual 113, 3) := by decide +kernel
theorem dX1_isJoinedTo_56 : decode cX1_isJoinedTo 56 = .ok (.ifCond .eq 5, 3) := by decide +kernel
theorem dX1_isJoinedTo_59 : decode cX1_isJoinedTo 59 = .ok (.iconst 0, 1) := by decide +kernel
theorem dX1_isJoinedTo_60 : decode cX1_isJoinedTo 60 = .ok (.ireturn, 1) := by decide +kernel
theorem dX1_isJoinedTo_61 : decode cX1_isJoinedTo 61 = .ok (.iload 5, 2) := by decide +kernel
theorem dX1_isJoinedTo_63 : decode cX1_isJoinedTo 63 = .ok (.iconst (-1), 1) := by decide +kernel
theorem dX1_isJoinedTo_64 : decode cX1_isJoinedTo 64 = .ok (.if_icmp .ne 52, 3) := by decide +kernel
theorem dX1_isJoinedTo_67 : decode cX1_isJoinedTo 67 = .ok (.aload_n 1, 1) := by decide +kernel
theorem dX1_isJoinedTo_68 : decode cX1_isJoinedTo 68 = .ok (.iload_n 2, 1) := by decide +kernel
theorem dX1_isJoinedTo_69 : decode cX1_isJoinedTo 69 = .ok (.aload_n 0, 1) := by decide +kernel
theorem dX1_isJoinedTo_70 : decode cX1_isJoinedTo 70 = .ok (.getfield 14, 3) := by decide +kernel
theorem dX1_isJoinedTo_73 : decode cX1_isJoinedTo 73 = .ok (.iload 4, 2) := by decide +kernel
theorem dX1_isJoinedTo_75 : decode cX1_isJoinedTo 75 = .ok (.iconst 0, 1) := by decide +kernel
theorem dX1_isJoinedTo_76 : decode cX1_isJoinedTo 76 = .ok (.invokevirtual 100, 3) := by decide +kernel
theorem dX1_isJoinedTo_79 : decode cX1_isJoinedTo 79 = .ok (.aload_n 0, 1) := by decide +kernel
theorem dX1_isJoinedTo_80 : decode cX1_isJoinedTo 80 = .ok (.getfield 14, 3) := by decide +kernel
theorem dX1_isJoinedTo_83 : decode cX1_isJoinedTo 83 = .ok (.iload 4, 2) := by decide +kernel
theorem dX1_isJoinedTo_85 : decode cX1_isJoinedTo 85 = .ok (.iconst 1, 1) := by decide +kernel
theorem dX1_isJoinedTo_86 : decode cX1_isJoinedTo 86 = .ok (.invokevirtual 100, 3) := by decide +kernel
theorem dX1_isJoinedTo_89 : decode cX1_isJoinedTo 89 = .ok (.aload_n 0, 1) := by decide +kernel
theorem dX1_isJoinedTo_90 : decode cX1_isJoinedTo 90 = .ok (.getfield 14, 3) := by decide +kernel
theorem dX1_isJoinedTo_93 : decode cX1_isJoinedTo 93 = .ok (.iload 4, 2) := by decide +kernel
theorem dX1_isJoinedTo_95 : decode cX1_isJoinedTo 95 = .ok (.iconst 2, 1) := by decide +kernel
theorem dX1_isJoinedTo_96 : decode cX1_isJoinedTo 96 = .ok (.invokevirtual 100, 3) := by decide +kernel
theorem dX1_isJoinedTo_99 : decode cX1_isJoinedTo 99 = .ok (.aload_n 0, 1) := by decide +kernel
theorem dX1_isJoinedTo_100 : decode cX1_isJoinedTo 100 = .ok (.getfield 14, 3) := by decide +kernel
theorem dX1_isJoinedTo_103 : decode cX1_isJoinedTo 103 = .ok (.iload 4, 2) := by decide +kernel
theorem dX1_isJoinedTo_105 : decode cX1_isJoinedTo 105 = .ok (.iconst 3, 1) := by decide +kernel
theorem dX1_isJoinedTo_106 : decode cX1_isJoinedTo 106 = .ok (.invokevirtual 100, 3) := by decide +kernel
theorem dX1_isJoinedTo_109 : decode cX1_isJoinedTo 109 = .ok (.invokevirtual 117, 3) := by decide +kernel
theorem dX1_isJoinedTo_112 : decode cX1_isJoinedTo 112 = .ok (.pop, 1) := by decide +kernel
theorem dX1_isJoinedTo_113 : decode cX1_isJoinedTo 113 = .ok (.goto 15, 3) := by decide +kernel
theorem dX1_isJoinedTo_116 : decode cX1_isJoinedTo 116 = .ok (.aload_n 0, 1) := by decide +kernel
theorem dX1_isJoinedTo_117 : decode cX1_isJoinedTo 117 = .ok (.aload_n 1, 1) := by decide +kernel
theorem dX1_isJoinedTo_118 : decode cX1_isJoinedTo 118 = .ok (.getfield 110, 3) := by decide +kernel
theorem dX1_isJoinedTo_121 : decode cX1_isJoinedTo 121 = .ok (.iload 5, 2) := by decide +kernel
theorem dX1_isJoinedTo_123 : decode cX1_isJoinedTo 123 = .ok (.iload 4, 2) := by decide +kernel
theorem dX1_isJoinedTo_125 : decode cX1_isJoinedTo 125 = .ok (.invokevirtual 121, 3) := by decide +kernel
theorem dX1_isJoinedTo_128 : decode cX1_isJoinedTo 128 = .ok (.iinc 3 1, 3) := by decide +kernel
theorem dX1_isJoinedTo_131 : decode cX1_isJoinedTo 131 = .ok (.goto (-127), 3) := by decide +kernel
theorem dX1_isJoinedTo_134 : decode cX1_isJoinedTo 134 = .ok (.iconst 1, 1) := by decide +kernel
theorem dX1_isJoinedTo_135 : decode cX1_isJoinedTo 135 = .ok (.ireturn, 1) := by decide +kernel
set_option maxRecDepth 20000 in
theorem ggX1_rowBehind_X8_size : GoodIn wsX1_rowBehind wsX8_size := goodIn_r _ [5, 6, 13, 14, 15] rfl (by decide +kernel)
set_option maxRecDepth 20000 in
theorem gX1_rowBehind_X8_size : GoodIn wsX1_rowBehind (wsV RX1 93 RX8 yX8_size wsX8_size) := goodIn_app (goodIn_of _ (by decide +kernel)) ggX1_rowBehind_X8_size
set_option maxRecDepth 20000 in
theorem ggX1_rowBehind_X8_get : GoodIn wsX1_rowBehind wsX8_get := goodIn_r _ [10, 6, 11, 12, 13, 14, 15] rfl (by decide +kernel)
set_option maxRecDepth 20000 in
theorem gX1_rowBehind_X8_get : GoodIn wsX1_rowBehind (wsV RX1 100 RX8 yX8_get wsX8_get) := goodIn_app (goodIn_of _ (by decide +kernel)) ggX1_rowBehind_X8_get
theorem dX1_rowBehind_0 : decode cX1_rowBehind 0 = .ok (.iconst (-1), 1) := by decide +kernel
theorem dX1_rowBehind_1 : decode cX1_rowBehind 1 = .ok (.istore_n 2, 1) := by decide +kernel
theorem dX1_rowBehind_2 : decode cX1_rowBehind 2 = .ok (.iconst 0, 1) := by decide +kernel
theorem dX1_rowBehind_3 : decode cX1_rowBehind 3 = .ok (.istore_n 3, 1) := by decide +kernel
theorem dX1_rowBehind_4 : decode cX1_rowBehind 4 = .ok (.iload_n 3, 1) := by decide +kernel
theorem dX1_rowBehind_5 : decode cX1_rowBehind 5 = .ok (.aload_n 0, 1) := by decide +kernel
theorem dX1_rowBehind_6 : decode cX1_rowBehind 6 = .ok (.invokevirtual 93, 3) := by decide +kernel
theorem dX1_rowBehind_9 : decode cX1_rowBehind 9 = .ok (.if_icmp .ge 41, 3) := by decide +kernel
theorem dX1_rowBehind_12 : decode cX1_rowBehind 12 = .ok (.aload_n 0, 1) := by decide +kernel
theorem dX1_rowBehind_13 : decode cX1_rowBehind 13 = .ok (.iload_n 3, 1) := by decide +kernel
theorem dX1_rowBehind_14 : decode cX1_rowBehind 14 = .ok (.iconst 4, 1) := by decide +kernel
theorem dX1_rowBehind_15 : decode cX1_rowBehind 15 = .ok (.invokevirtual 100, 3) := by decide +kernel
theorem dX1_rowBehind_18 : decode cX1_rowBehind 18 = .ok (.istore 4, 2) := by decide +kernel
theorem dX1_rowBehind_20 : decode cX1_rowBehind 20 = .ok (.iload 4, 2) := by decide +kernel
theorem dX1_rowBehind_22 : decode cX1_rowBehind 22 = .ok (.iload_n 1, 1) := by decide +kernel
theorem dX1_rowBehind_23 : decode cX1_rowBehind 23 = .ok (.if_icmp .le 21, 3) := by decide +kernel
theorem dX1_rowBehind_26 : decode cX1_rowBehind 26 = .ok (.iload_n 2, 1) := by decide +kernel
theorem dX1_rowBehind_27 : decode cX1_rowBehind 27 = .ok (.iconst (-1), 1) := by decide +kernel
theorem dX1_rowBehind_28 : decode cX1_rowBehind 28 = .ok (.if_icmp .eq 14, 3) := by decide +kernel
theorem dX1_rowBehind_31 : decode cX1_rowBehind 31 = .ok (.iload 4, 2) := by decide +kernel
theorem dX1_rowBehind_33 : decode cX1_rowBehind 33 = .ok (.aload_n 0, 1) := by decide +kernel
theorem dX1_rowBehind_34 : decode cX1_rowBehind 34 = .ok (.iload_n 2, 1) := by decide +kernel
theorem dX1_rowBehind_35 : decode cX1_rowBehind 35 = .ok (.iconst 4, 1) := by decide +kernel
theorem dX1_rowBehind_36 : decode cX1_rowBehind 36 = .ok (.invokevirtual 100, 3) := by decide +kernel
theorem dX1_rowBehind_39 : decode cX1_rowBehind 39 = .ok (.if_icmp .ge 5, 3) := by decide +kernel
theorem dX1_rowBehind_42 : decode cX1_rowBehind 42 = .ok (.iload_n 3, 1) := by decide +kernel
theorem dX1_rowBehind_43 : decode cX1_rowBehind 43 = .ok (.istore_n 2, 1) := by decide +kernel
theorem dX1_rowBehind_44 : decode cX1_rowBehind 44 = .ok (.iinc 3 1, 3) := by decide +kernel
theorem dX1_rowBehind_47 : decode cX1_rowBehind 47 = .ok (.goto (-43), 3) := by decide +kernel
theorem dX1_rowBehind_50 : decode cX1_rowBehind 50 = .ok (.iload_n 2, 1) := by decide +kernel
theorem dX1_rowBehind_51 : decode cX1_rowBehind 51 = .ok (.ireturn, 1) := by decide +kernel
set_option maxRecDepth 20000 in
theorem ggX1_raise_X8_get : GoodIn wsX1_raise wsX8_get := goodIn_r _ [10, 11, 12, 13, 25, 26, 27] rfl (by decide +kernel)
set_option maxRecDepth 20000 in
theorem gX1_raise_X8_get : GoodIn wsX1_raise (wsV RX1 100 RX8 yX8_get wsX8_get) := goodIn_app (goodIn_of _ (by decide +kernel)) ggX1_raise_X8_get
set_option maxRecDepth 20000 in
theorem ggX1_raise_X8_set : GoodIn wsX1_raise wsX8_set := goodIn_r _ [17, 11, 12, 13, 25, 26, 27] rfl (by decide +kernel)
set_option maxRecDepth 20000 in
theorem gX1_raise_X8_set : GoodIn wsX1_raise (wsV RX1 96 RX8 yX8_set wsX8_set) := goodIn_app (goodIn_of _ (by decide +kernel)) ggX1_raise_X8_set
theorem dX1_raise_0 : decode cX1_raise 0 = .ok (.iconst 0, 1) := by decide +kernel
theorem dX1_raise_1 : decode cX1_raise 1 = .ok (.istore 4, 2) := by decide +kernel
theorem dX1_raise_3 : decode cX1_raise 3 = .ok (.iload 4, 2) := by decide +kernel
theorem dX1_raise_5 : decode cX1_raise 5 = .ok (.iconst 3, 1) := by decide +kernel
theorem dX1_raise_6 : decode cX1_raise 6 = .ok (.if_icmp .gt 36, 3) := by decide +kernel
theorem dX1_raise_9 : decode cX1_raise 9 = .ok (.aload_n 1, 1) := by decide +kernel
theorem dX1_raise_10 : decode cX1_raise 10 = .ok (.iload_n 2, 1) := by decide +kernel
theorem dX1_raise_11 : decode cX1_raise 11 = .ok (.iload 4, 2) := by decide +kernel
theorem dX1_raise_13 : decode cX1_raise 13 = .ok (.aload_n 1, 1) := by decide +kernel
theorem dX1_raise_14 : decode cX1_raise 14 = .ok (.iload_n 2, 1) := by decide +kernel
theorem dX1_raise_15 : decode cX1_raise 15 = .ok (.iload 4, 2) := by decide +kernel
theorem dX1_raise_17 : decode cX1_raise 17 = .ok (.invokevirtual 100, 3) := by decide +kernel
theorem dX1_raise_20 : decode cX1_raise 20 = .ok (.aload_n 0, 1) := by decide +kernel
theorem dX1_raise_21 : decode cX1_raise 21 = .ok (.getfield 14, 3) := by decide +kernel
theorem dX1_raise_24 : decode cX1_raise 24 = .ok (.iload_n 3, 1) := by decide +kernel
theorem dX1_raise_25 : decode cX1_raise 25 = .ok (.iload 4, 2) := by decide +kernel
theorem dX1_raise_27 : decode cX1_raise 27 = .ok (.invokevirtual 100, 3) := by decide +kernel
theorem dX1_raise_30 : decode cX1_raise 30 = .ok (.invokestatic 125, 3) := by decide +kernel
theorem dX1_raise_33 : decode cX1_raise 33 = .ok (.invokevirtual 96, 3) := by decide +kernel
theorem dX1_raise_36 : decode cX1_raise 36 = .ok (.iinc 4 1, 3) := by decide +kernel
theorem dX1_raise_39 : decode cX1_raise 39 = .ok (.goto (-36), 3) := by decide +kernel
theorem dX1_raise_42 : decode cX1_raise 42 = .ok (.return_, 1) := by decide +kernel
set_option maxRecDepth 20000 in
theorem ggX1_writeOut_X8_size : GoodIn wsX1_writeOut wsX8_size := goodIn_r _ [6, 7, 46, 47, 48] rfl (by decide +kernel)
set_option maxRecDepth 20000 in
theorem gX1_writeOut_X8_size : GoodIn wsX1_writeOut (wsV RX1 93 RX8 yX8_size wsX8_size) := goodIn_app (goodIn_of _ (by decide +kernel)) ggX1_writeOut_X8_size
set_option maxRecDepth 20000 in
theorem ggX1_writeOut_X1_rowBehind : GoodIn wsX1_writeOut wsX1_rowBehind := goodIn_r _ [11, 2, 3, 4, 5, 6, 7, 12, 13, 14, 15, 16, 17, 46, 47, 48] rfl (by decide +kernel)
set_option maxRecDepth 20000 in
theorem gX1_writeOut_X1_rowBehind : GoodIn wsX1_writeOut (va_wsS RX1 103 yX1_rowBehind wsX1_rowBehind) := goodIn_app (goodIn_of _ (by decide +kernel)) ggX1_writeOut_X1_rowBehind
set_option maxRecDepth 20000 in
theorem ggX1_writeOut_X8_get : GoodIn wsX1_writeOut wsX8_get := goodIn_r _ [15, 7, 16, 17, 46, 47, 48] rfl (by decide +kernel)
set_option maxRecDepth 20000 in
theorem gX1_writeOut_X8_get : GoodIn wsX1_writeOut (wsV RX1 100 RX8 yX8_get wsX8_get) := goodIn_app (goodIn_of _ (by decide +kernel)) ggX1_writeOut_X8_get
set_option maxRecDepth 20000 in
theorem ggX1_writeOut_X1_putCode : GoodIn wsX1_writeOut wsX1_putCode := goodIn_r _ [21, 22, 23, 24, 10, 25, 1, 26, 31, 32, 33, 34, 35, 36, 37] rfl (by decide +kernel)
set_option maxRecDepth 20000 in
theorem gX1_writeOut_X1_putCode : GoodIn wsX1_writeOut (wsV RX1 130 RX1 yX1_putCode wsX1_putCode) := goodIn_app (goodIn_of _ (by decide +kernel)) ggX1_writeOut_X1_putCode
set_option maxRecDepth 20000 in
theorem ggX1_writeOut_X1_putSign : GoodIn wsX1_writeOut wsX1_putSign := goodIn_r _ [25, 1, 26, 31, 32, 33, 34, 35, 36, 37] rfl (by decide +kernel)
set_option maxRecDepth 20000 in
theorem gX1_writeOut_X1_putSign : GoodIn wsX1_writeOut (wsV RX1 133 RX1 yX1_putSign wsX1_putSign) := goodIn_app (goodIn_of _ (by decide +kernel)) ggX1_writeOut_X1_putSign
set_option maxRecDepth 20000 in
theorem ggX1_writeOut_X1_putNumber : GoodIn wsX1_writeOut wsX1_putNumber := goodIn_r _ [30, 22, 23, 24, 10, 25, 1, 26, 31, 32, 33, 34, 35, 36, 37] rfl (by decide +kernel)
set_option maxRecDepth 20000 in
theorem gX1_writeOut_X1_putNumber : GoodIn wsX1_writeOut (wsV RX1 137 RX1 yX1_putNumber wsX1_putNumber) := goodIn_app (goodIn_of _ (by decide +kernel)) ggX1_writeOut_X1_putNumber
theorem dX1_writeOut_0 : decode cX1_writeOut 0 = .ok (.aload_n 0, 1) := by decide +kernel
theorem dX1_writeOut_1 : decode cX1_writeOut 1 = .ok (.iconst 0, 1) := by decide +kernel
theorem dX1_writeOut_2 : decode cX1_writeOut 2 = .ok (.putfield 24, 3) := by decide +kernel
theorem dX1_writeOut_5 : decode cX1_writeOut 5 = .ok (.iconst 0, 1) := by decide +kernel
theorem dX1_writeOut_6 : decode cX1_writeOut 6 = .ok (.istore_n 2, 1) := by decide +kernel
theorem dX1_writeOut_7 : decode cX1_writeOut 7 = .ok (.iconst 0, 1) := by decide +kernel
theorem dX1_writeOut_8 : decode cX1_writeOut 8 = .ok (.istore_n 3, 1) := by decide +kernel
theorem dX1_writeOut_9 : decode cX1_writeOut 9 = .ok (.iload_n 3, 1) := by decide +kernel
theorem dX1_writeOut_10 : decode cX1_writeOut 10 = .ok (.aload_n 1, 1) := by decide +kernel
theorem dX1_writeOut_11 : decode cX1_writeOut 11 = .ok (.getfield 110, 3) := by decide +kernel
theorem dX1_writeOut_14 : decode cX1_writeOut 14 = .ok (.invokevirtual 93, 3) := by decide +kernel
theorem dX1_writeOut_17 : decode cX1_writeOut 17 = .ok (.if_icmp .ge 77, 3) := by decide +kernel
theorem dX1_writeOut_20 : decode cX1_writeOut 20 = .ok (.aload_n 1, 1) := by decide +kernel
theorem dX1_writeOut_21 : decode cX1_writeOut 21 = .ok (.getfield 110, 3) := by decide +kernel
theorem dX1_writeOut_24 : decode cX1_writeOut 24 = .ok (.iload_n 2, 1) := by decide +kernel
theorem dX1_writeOut_25 : decode cX1_writeOut 25 = .ok (.invokestatic 103, 3) := by decide +kernel
theorem dX1_writeOut_28 : decode cX1_writeOut 28 = .ok (.istore 4, 2) := by decide +kernel
theorem dX1_writeOut_30 : decode cX1_writeOut 30 = .ok (.aload_n 1, 1) := by decide +kernel
theorem dX1_writeOut_31 : decode cX1_writeOut 31 = .ok (.getfield 110, 3) := by decide +kernel
theorem dX1_writeOut_34 : decode cX1_writeOut 34 = .ok (.iload 4, 2) := by decide +kernel
theorem dX1_writeOut_36 : decode cX1_writeOut 36 = .ok (.iconst 4, 1) := by decide +kernel
theorem dX1_writeOut_37 : decode cX1_writeOut 37 = .ok (.invokevirtual 100, 3) := by decide +kernel
theorem dX1_writeOut_40 : decode cX1_writeOut 40 = .ok (.istore_n 2, 1) := by decide +kernel
theorem dX1_writeOut_41 : decode cX1_writeOut 41 = .ok (.aload_n 0, 1) := by decide +kernel
theorem dX1_writeOut_42 : decode cX1_writeOut 42 = .ok (.iload_n 2, 1) := by decide +kernel
theorem dX1_writeOut_43 : decode cX1_writeOut 43 = .ok (.invokevirtual 130, 3) := by decide +kernel
theorem dX1_writeOut_46 : decode cX1_writeOut 46 = .ok (.iconst 0, 1) := by decide +kernel
theorem dX1_writeOut_47 : decode cX1_writeOut 47 = .ok (.istore 5, 2) := by decide +kernel
theorem dX1_writeOut_49 : decode cX1_writeOut 49 = .ok (.iload 5, 2) := by decide +kernel
theorem dX1_writeOut_51 : decode cX1_writeOut 51 = .ok (.iconst 3, 1) := by decide +kernel
theorem dX1_writeOut_52 : decode cX1_writeOut 52 = .ok (.if_icmp .gt 30, 3) := by decide +kernel
theorem dX1_writeOut_55 : decode cX1_writeOut 55 = .ok (.aload_n 0, 1) := by decide +kernel
theorem dX1_writeOut_56 : decode cX1_writeOut 56 = .ok (.bipush 32, 2) := by decide +kernel
theorem dX1_writeOut_58 : decode cX1_writeOut 58 = .ok (.invokevirtual 133, 3) := by decide +kernel
theorem dX1_writeOut_61 : decode cX1_writeOut 61 = .ok (.aload_n 0, 1) := by decide +kernel
theorem dX1_writeOut_62 : decode cX1_writeOut 62 = .ok (.aload_n 1, 1) := by decide +kernel
theorem dX1_writeOut_63 : decode cX1_writeOut 63 = .ok (.getfield 110, 3) := by decide +kernel
theorem dX1_writeOut_66 : decode cX1_writeOut 66 = .ok (.iload 4, 2) := by decide +kernel
theorem dX1_writeOut_68 : decode cX1_writeOut 68 = .ok (.iload 5, 2) := by decide +kernel
theorem dX1_writeOut_70 : decode cX1_writeOut 70 = .ok (.invokevirtual 100, 3) := by decide +kernel
theorem dX1_writeOut_73 : decode cX1_writeOut 73 = .ok (.invokevirtual 137, 3) := by decide +kernel
theorem dX1_writeOut_76 : decode cX1_writeOut 76 = .ok (.iinc 5 1, 3) := by decide +kernel
theorem dX1_writeOut_79 : decode cX1_writeOut 79 = .ok (.goto (-30), 3) := by decide +kernel
theorem dX1_writeOut_82 : decode cX1_writeOut 82 = .ok (.aload_n 0, 1) := by decide +kernel
theorem dX1_writeOut_83 : decode cX1_writeOut 83 = .ok (.bipush 59, 2) := by decide +kernel
theorem dX1_writeOut_85 : decode cX1_writeOut 85 = .ok (.invokevirtual 133, 3) := by decide +kernel
theorem dX1_writeOut_88 : decode cX1_writeOut 88 = .ok (.iinc 3 1, 3) := by decide +kernel
theorem dX1_writeOut_91 : decode cX1_writeOut 91 = .ok (.goto (-82), 3) := by decide +kernel
theorem dX1_writeOut_94 : decode cX1_writeOut 94 = .ok (.aload_n 0, 1) := by decide +kernel
theorem dX1_writeOut_95 : decode cX1_writeOut 95 = .ok (.getfield 24, 3) := by decide +kernel
theorem dX1_writeOut_98 : decode cX1_writeOut 98 = .ok (.ireturn, 1) := by decide +kernel
set_option maxRecDepth 20000 in
theorem ggX1_putCode_X1_putSign : GoodIn wsX1_putCode wsX1_putSign := goodIn_r _ [5, 6, 7, 8, 9, 10, 11, 12, 13, 14] rfl (by decide +kernel)
set_option maxRecDepth 20000 in
theorem gX1_putCode_X1_putSign : GoodIn wsX1_putCode (wsV RX1 133 RX1 yX1_putSign wsX1_putSign) := goodIn_app (goodIn_of _ (by decide +kernel)) ggX1_putCode_X1_putSign
theorem dX1_putCode_0 : decode cX1_putCode 0 = .ok (.bipush 24, 2) := by decide +kernel
theorem dX1_putCode_2 : decode cX1_putCode 2 = .ok (.istore_n 2, 1) := by decide +kernel
theorem dX1_putCode_3 : decode cX1_putCode 3 = .ok (.iload_n 2, 1) := by decide +kernel
theorem dX1_putCode_4 : decode cX1_putCode 4 = .ok (.ifCond .lt 27, 3) := by decide +kernel
theorem dX1_putCode_7 : decode cX1_putCode 7 = .ok (.iload_n 1, 1) := by decide +kernel
theorem dX1_putCode_8 : decode cX1_putCode 8 = .ok (.iload_n 2, 1) := by decide +kernel
theorem dX1_putCode_9 : decode cX1_putCode 9 = .ok (.iushr, 1) := by decide +kernel
theorem dX1_putCode_10 : decode cX1_putCode 10 = .ok (.sipush 255, 3) := by decide +kernel
theorem dX1_putCode_13 : decode cX1_putCode 13 = .ok (.iand, 1) := by decide +kernel
theorem dX1_putCode_14 : decode cX1_putCode 14 = .ok (.istore_n 3, 1) := by decide +kernel
theorem dX1_putCode_15 : decode cX1_putCode 15 = .ok (.iload_n 3, 1) := by decide +kernel
theorem dX1_putCode_16 : decode cX1_putCode 16 = .ok (.ifCond .eq 9, 3) := by decide +kernel
theorem dX1_putCode_19 : decode cX1_putCode 19 = .ok (.aload_n 0, 1) := by decide +kernel
theorem dX1_putCode_20 : decode cX1_putCode 20 = .ok (.iload_n 3, 1) := by decide +kernel
theorem dX1_putCode_21 : decode cX1_putCode 21 = .ok (.i2c, 1) := by decide +kernel
theorem dX1_putCode_22 : decode cX1_putCode 22 = .ok (.invokevirtual 133, 3) := by decide +kernel
theorem dX1_putCode_25 : decode cX1_putCode 25 = .ok (.iinc 2 (-8), 3) := by decide +kernel
theorem dX1_putCode_28 : decode cX1_putCode 28 = .ok (.goto (-25), 3) := by decide +kernel
theorem dX1_putCode_31 : decode cX1_putCode 31 = .ok (.return_, 1) := by decide +kernel
set_option maxRecDepth 20000 in
theorem ggX1_putNumber_X1_putSign : GoodIn wsX1_putNumber wsX1_putSign := goodIn_r _ [5, 6, 7, 8, 9, 10, 11, 12, 13, 14] rfl (by decide +kernel)
set_option maxRecDepth 20000 in
theorem gX1_putNumber_X1_putSign : GoodIn wsX1_putNumber (wsV RX1 133 RX1 yX1_putSign wsX1_putSign) := goodIn_app (goodIn_of _ (by decide +kernel)) ggX1_putNumber_X1_putSign
theorem dX1_putNumber_0 : decode cX1_putNumber 0 = .ok (.sipush 10000, 3) := by decide +kernel
theorem dX1_putNumber_3 : decode cX1_putNumber 3 = .ok (.istore_n 2, 1) := by decide +kernel
theorem dX1_putNumber_4 : decode cX1_putNumber 4 = .ok (.iload_n 2, 1) := by decide +kernel
theorem dX1_putNumber_5 : decode cX1_putNumber 5 = .ok (.ifCond .le 35, 3) := by decide +kernel
theorem dX1_putNumber_8 : decode cX1_putNumber 8 = .ok (.iload_n 1, 1) := by decide +kernel
theorem dX1_putNumber_9 : decode cX1_putNumber 9 = .ok (.iload_n 2, 1) := by decide +kernel
theorem dX1_putNumber_10 : decode cX1_putNumber 10 = .ok (.if_icmp .ge 8, 3) := by decide +kernel
theorem dX1_putNumber_13 : decode cX1_putNumber 13 = .ok (.iload_n 2, 1) := by decide +kernel
theorem dX1_putNumber_14 : decode cX1_putNumber 14 = .ok (.iconst 1, 1) := by decide +kernel
theorem dX1_putNumber_15 : decode cX1_putNumber 15 = .ok (.if_icmp .ne 17, 3) := by decide +kernel
theorem dX1_putNumber_18 : decode cX1_putNumber 18 = .ok (.aload_n 0, 1) := by decide +kernel
theorem dX1_putNumber_19 : decode cX1_putNumber 19 = .ok (.bipush 48, 2) := by decide +kernel
theorem dX1_putNumber_21 : decode cX1_putNumber 21 = .ok (.iload_n 1, 1) := by decide +kernel
theorem dX1_putNumber_22 : decode cX1_putNumber 22 = .ok (.iload_n 2, 1) := by decide +kernel
theorem dX1_putNumber_23 : decode cX1_putNumber 23 = .ok (.idiv, 1) := by decide +kernel
theorem dX1_putNumber_24 : decode cX1_putNumber 24 = .ok (.bipush 10, 2) := by decide +kernel
theorem dX1_putNumber_26 : decode cX1_putNumber 26 = .ok (.irem, 1) := by decide +kernel
theorem dX1_putNumber_27 : decode cX1_putNumber 27 = .ok (.iadd, 1) := by decide +kernel
theorem dX1_putNumber_28 : decode cX1_putNumber 28 = .ok (.i2c, 1) := by decide +kernel
theorem dX1_putNumber_29 : decode cX1_putNumber 29 = .ok (.invokevirtual 133, 3) := by decide +kernel
theorem dX1_putNumber_32 : decode cX1_putNumber 32 = .ok (.iload_n 2, 1) := by decide +kernel
theorem dX1_putNumber_33 : decode cX1_putNumber 33 = .ok (.bipush 10, 2) := by decide +kernel
theorem dX1_putNumber_35 : decode cX1_putNumber 35 = .ok (.idiv, 1) := by decide +kernel
theorem dX1_putNumber_36 : decode cX1_putNumber 36 = .ok (.istore_n 2, 1) := by decide +kernel
theorem dX1_putNumber_37 : decode cX1_putNumber 37 = .ok (.goto (-33), 3) := by decide +kernel
theorem dX1_putNumber_40 : decode cX1_putNumber 40 = .ok (.return_, 1) := by decide +kernel
theorem dX1_putSign_0 : decode cX1_putSign 0 = .ok (.aload_n 0, 1) := by decide +kernel
theorem dX1_putSign_1 : decode cX1_putSign 1 = .ok (.getfield 24, 3) := by decide +kernel
theorem dX1_putSign_4 : decode cX1_putSign 4 = .ok (.aload_n 0, 1) := by decide +kernel
theorem dX1_putSign_5 : decode cX1_putSign 5 = .ok (.getfield 20, 3) := by decide +kernel
theorem dX1_putSign_8 : decode cX1_putSign 8 = .ok (.arraylength, 1) := by decide +kernel
theorem dX1_putSign_9 : decode cX1_putSign 9 = .ok (.if_icmp .ge 23, 3) := by decide +kernel
theorem dX1_putSign_12 : decode cX1_putSign 12 = .ok (.aload_n 0, 1) := by decide +kernel
theorem dX1_putSign_13 : decode cX1_putSign 13 = .ok (.getfield 20, 3) := by decide +kernel
theorem dX1_putSign_16 : decode cX1_putSign 16 = .ok (.aload_n 0, 1) := by decide +kernel
theorem dX1_putSign_17 : decode cX1_putSign 17 = .ok (.getfield 24, 3) := by decide +kernel
theorem dX1_putSign_20 : decode cX1_putSign 20 = .ok (.iload_n 1, 1) := by decide +kernel
theorem dX1_putSign_21 : decode cX1_putSign 21 = .ok (.castore, 1) := by decide +kernel
theorem dX1_putSign_22 : decode cX1_putSign 22 = .ok (.aload_n 0, 1) := by decide +kernel
theorem dX1_putSign_23 : decode cX1_putSign 23 = .ok (.dup, 1) := by decide +kernel
theorem dX1_putSign_24 : decode cX1_putSign 24 = .ok (.getfield 24, 3) := by decide +kernel
theorem dX1_putSign_27 : decode cX1_putSign 27 = .ok (.iconst 1, 1) := by decide +kernel
theorem dX1_putSign_28 : decode cX1_putSign 28 = .ok (.iadd, 1) := by decide +kernel
theorem dX1_putSign_29 : decode cX1_putSign 29 = .ok (.putfield 24, 3) := by decide +kernel
theorem dX1_putSign_32 : decode cX1_putSign 32 = .ok (.return_, 1) := by decide +kernel
theorem dX1_signs_0 : decode cX1_signs 0 = .ok (.aload_n 0, 1) := by decide +kernel
theorem dX1_signs_1 : decode cX1_signs 1 = .ok (.getfield 24, 3) := by decide +kernel
theorem dX1_signs_4 : decode cX1_signs 4 = .ok (.ireturn, 1) := by decide +kernel
theorem dX1_signAt_0 : decode cX1_signAt 0 = .ok (.iload_n 1, 1) := by decide +kernel
theorem dX1_signAt_1 : decode cX1_signAt 1 = .ok (.ifCond .lt 20, 3) := by decide +kernel
theorem dX1_signAt_4 : decode cX1_signAt 4 = .ok (.iload_n 1, 1) := by decide +kernel
theorem dX1_signAt_5 : decode cX1_signAt 5 = .ok (.aload_n 0, 1) := by decide +kernel
theorem dX1_signAt_6 : decode cX1_signAt 6 = .ok (.getfield 24, 3) := by decide +kernel
theorem dX1_signAt_9 : decode cX1_signAt 9 = .ok (.if_icmp .ge 12, 3) := by decide +kernel
theorem dX1_signAt_12 : decode cX1_signAt 12 = .ok (.aload_n 0, 1) := by decide +kernel
theorem dX1_signAt_13 : decode cX1_signAt 13 = .ok (.getfield 20, 3) := by decide +kernel
theorem dX1_signAt_16 : decode cX1_signAt 16 = .ok (.iload_n 1, 1) := by decide +kernel
theorem dX1_signAt_17 : decode cX1_signAt 17 = .ok (.caload, 1) := by decide +kernel
theorem dX1_signAt_18 : decode cX1_signAt 18 = .ok (.goto 5, 3) := by decide +kernel
theorem dX1_signAt_21 : decode cX1_signAt 21 = .ok (.bipush 32, 2) := by decide +kernel
theorem dX1_signAt_23 : decode cX1_signAt 23 = .ok (.ireturn, 1) := by decide +kernel
theorem dX2_init_0 : decode cX2_init 0 = .ok (.aload_n 0, 1) := by decide +kernel
theorem dX2_init_1 : decode cX2_init 1 = .ok (.invokespecial 3, 3) := by decide +kernel
theorem dX2_init_4 : decode cX2_init 4 = .ok (.aload_n 0, 1) := by decide +kernel
theorem dX2_init_5 : decode cX2_init 5 = .ok (.sipush 256, 3) := by decide +kernel
theorem dX2_init_8 : decode cX2_init 8 = .ok (.newarray .int, 2) := by decide +kernel
theorem dX2_init_10 : decode cX2_init 10 = .ok (.putfield 9, 3) := by decide +kernel
theorem dX2_init_13 : decode cX2_init 13 = .ok (.aload_n 0, 1) := by decide +kernel
theorem dX2_init_14 : decode cX2_init 14 = .ok (.bipush 8, 2) := by decide +kernel
theorem dX2_init_16 : decode cX2_init 16 = .ok (.newarray .int, 2) := by decide +kernel
theorem dX2_init_18 : decode cX2_init 18 = .ok (.putfield 15, 3) := by decide +kernel
theorem dX2_init_21 : decode cX2_init 21 = .ok (.aload_n 0, 1) := by decide +kernel
theorem dX2_init_22 : decode cX2_init 22 = .ok (.iconst 0, 1) := by decide +kernel
theorem dX2_init_23 : decode cX2_init 23 = .ok (.putfield 18, 3) := by decide +kernel
theorem dX2_init_26 : decode cX2_init 26 = .ok (.aload_n 0, 1) := by decide +kernel
theorem dX2_init_27 : decode cX2_init 27 = .ok (.iconst 0, 1) := by decide +kernel
theorem dX2_init_28 : decode cX2_init 28 = .ok (.putfield 22, 3) := by decide +kernel
theorem dX2_init_31 : decode cX2_init 31 = .ok (.return_, 1) := by decide +kernel
set_option maxRecDepth 20000 in
theorem ggX2_lookAt_X8_size : GoodIn wsX2_lookAt wsX8_size := goodIn_r _ [14, 15, 49, 50, 51] rfl (by decide +kernel)
set_option maxRecDepth 20000 in
theorem gX2_lookAt_X8_size : GoodIn wsX2_lookAt (wsV RX2 25 RX8 yX8_size wsX8_size) := goodIn_app (goodIn_of _ (by decide +kernel)) ggX2_lookAt_X8_size
set_option maxRecDepth 20000 in
theorem ggX2_lookAt_X2_leastCost : GoodIn wsX2_lookAt wsX2_leastCost := goodIn_r _ [20, 21, 5, 7, 6, 1, 2, 3, 4, 22, 23, 24, 25, 26, 27, 28, 29, 30, 19, 31, 32, 33, 34, 13, 35, 15, 36, 37, 38, 39, 40, 41, 42, 43, 44, 45, 46, 47, 48, 49, 50, 51] rfl (by decide +kernel)
set_option maxRecDepth 20000 in
theorem gX2_lookAt_X2_leastCost : GoodIn wsX2_lookAt (wsV RX2 37 RX2 yX2_leastCost wsX2_leastCost) := goodIn_app (goodIn_of _ (by decide +kernel)) ggX2_lookAt_X2_leastCost
set_option maxRecDepth 20000 in
theorem ggX2_lookAt_X2_digitOf : GoodIn wsX2_lookAt wsX2_digitOf := goodIn_r _ [40, 41, 42, 43, 3, 44] rfl (by decide +kernel)
set_option maxRecDepth 20000 in
theorem gX2_lookAt_X2_digitOf : GoodIn wsX2_lookAt (va_wsS RX2 42 yX2_digitOf wsX2_digitOf) := goodIn_app (goodIn_of _ (by decide +kernel)) ggX2_lookAt_X2_digitOf
theorem dX2_lookAt_0 : decode cX2_lookAt 0 = .ok (.aload_n 0, 1) := by decide +kernel
theorem dX2_lookAt_1 : decode cX2_lookAt 1 = .ok (.aload_n 1, 1) := by decide +kernel
theorem dX2_lookAt_2 : decode cX2_lookAt 2 = .ok (.invokevirtual 25, 3) := by decide +kernel
theorem dX2_lookAt_5 : decode cX2_lookAt 5 = .ok (.bipush 8, 2) := by decide +kernel
theorem dX2_lookAt_7 : decode cX2_lookAt 7 = .ok (.invokestatic 31, 3) := by decide +kernel
theorem dX2_lookAt_10 : decode cX2_lookAt 10 = .ok (.putfield 18, 3) := by decide +kernel
theorem dX2_lookAt_13 : decode cX2_lookAt 13 = .ok (.iconst 1, 1) := by decide +kernel
theorem dX2_lookAt_14 : decode cX2_lookAt 14 = .ok (.aload_n 0, 1) := by decide +kernel
theorem dX2_lookAt_15 : decode cX2_lookAt 15 = .ok (.getfield 18, 3) := by decide +kernel
theorem dX2_lookAt_18 : decode cX2_lookAt 18 = .ok (.ishl, 1) := by decide +kernel
theorem dX2_lookAt_19 : decode cX2_lookAt 19 = .ok (.iconst 1, 1) := by decide +kernel
theorem dX2_lookAt_20 : decode cX2_lookAt 20 = .ok (.isub, 1) := by decide +kernel
theorem dX2_lookAt_21 : decode cX2_lookAt 21 = .ok (.istore_n 2, 1) := by decide +kernel
theorem dX2_lookAt_22 : decode cX2_lookAt 22 = .ok (.aload_n 0, 1) := by decide +kernel
theorem dX2_lookAt_23 : decode cX2_lookAt 23 = .ok (.getfield 9, 3) := by decide +kernel
theorem dX2_lookAt_26 : decode cX2_lookAt 26 = .ok (.iconst 0, 1) := by decide +kernel
theorem dX2_lookAt_27 : decode cX2_lookAt 27 = .ok (.iconst 0, 1) := by decide +kernel
theorem dX2_lookAt_28 : decode cX2_lookAt 28 = .ok (.iastore, 1) := by decide +kernel
theorem dX2_lookAt_29 : decode cX2_lookAt 29 = .ok (.iconst 1, 1) := by decide +kernel
theorem dX2_lookAt_30 : decode cX2_lookAt 30 = .ok (.istore_n 3, 1) := by decide +kernel
theorem dX2_lookAt_31 : decode cX2_lookAt 31 = .ok (.iload_n 3, 1) := by decide +kernel
theorem dX2_lookAt_32 : decode cX2_lookAt 32 = .ok (.iload_n 2, 1) := by decide +kernel
theorem dX2_lookAt_33 : decode cX2_lookAt 33 = .ok (.if_icmp .gt 21, 3) := by decide +kernel
theorem dX2_lookAt_36 : decode cX2_lookAt 36 = .ok (.aload_n 0, 1) := by decide +kernel
theorem dX2_lookAt_37 : decode cX2_lookAt 37 = .ok (.getfield 9, 3) := by decide +kernel
theorem dX2_lookAt_40 : decode cX2_lookAt 40 = .ok (.iload_n 3, 1) := by decide +kernel
theorem dX2_lookAt_41 : decode cX2_lookAt 41 = .ok (.aload_n 0, 1) := by decide +kernel
theorem dX2_lookAt_42 : decode cX2_lookAt 42 = .ok (.aload_n 1, 1) := by decide +kernel
theorem dX2_lookAt_43 : decode cX2_lookAt 43 = .ok (.iload_n 3, 1) := by decide +kernel
theorem dX2_lookAt_44 : decode cX2_lookAt 44 = .ok (.invokevirtual 37, 3) := by decide +kernel
theorem dX2_lookAt_47 : decode cX2_lookAt 47 = .ok (.iastore, 1) := by decide +kernel
theorem dX2_lookAt_48 : decode cX2_lookAt 48 = .ok (.iinc 3 1, 3) := by decide +kernel
theorem dX2_lookAt_51 : decode cX2_lookAt 51 = .ok (.goto (-20), 3) := by decide +kernel
theorem dX2_lookAt_54 : decode cX2_lookAt 54 = .ok (.aload_n 0, 1) := by decide +kernel
theorem dX2_lookAt_55 : decode cX2_lookAt 55 = .ok (.aload_n 0, 1) := by decide +kernel
theorem dX2_lookAt_56 : decode cX2_lookAt 56 = .ok (.getfield 18, 3) := by decide +kernel
theorem dX2_lookAt_59 : decode cX2_lookAt 59 = .ok (.aload_n 0, 1) := by decide +kernel
theorem dX2_lookAt_60 : decode cX2_lookAt 60 = .ok (.getfield 9, 3) := by decide +kernel
theorem dX2_lookAt_63 : decode cX2_lookAt 63 = .ok (.iload_n 2, 1) := by decide +kernel
theorem dX2_lookAt_64 : decode cX2_lookAt 64 = .ok (.iaload, 1) := by decide +kernel
theorem dX2_lookAt_65 : decode cX2_lookAt 65 = .ok (.ldc 41, 2) := by decide +kernel
theorem dX2_lookAt_67 : decode cX2_lookAt 67 = .ok (.idiv, 1) := by decide +kernel
theorem dX2_lookAt_68 : decode cX2_lookAt 68 = .ok (.isub, 1) := by decide +kernel
theorem dX2_lookAt_69 : decode cX2_lookAt 69 = .ok (.putfield 22, 3) := by decide +kernel
theorem dX2_lookAt_72 : decode cX2_lookAt 72 = .ok (.iconst 0, 1) := by decide +kernel
theorem dX2_lookAt_73 : decode cX2_lookAt 73 = .ok (.istore_n 3, 1) := by decide +kernel
theorem dX2_lookAt_74 : decode cX2_lookAt 74 = .ok (.iload_n 3, 1) := by decide +kernel
theorem dX2_lookAt_75 : decode cX2_lookAt 75 = .ok (.aload_n 0, 1) := by decide +kernel
theorem dX2_lookAt_76 : decode cX2_lookAt 76 = .ok (.getfield 18, 3) := by decide +kernel
theorem dX2_lookAt_79 : decode cX2_lookAt 79 = .ok (.if_icmp .ge 47, 3) := by decide +kernel
theorem dX2_lookAt_82 : decode cX2_lookAt 82 = .ok (.aload_n 0, 1) := by decide +kernel
theorem dX2_lookAt_83 : decode cX2_lookAt 83 = .ok (.getfield 9, 3) := by decide +kernel
theorem dX2_lookAt_86 : decode cX2_lookAt 86 = .ok (.iload_n 2, 1) := by decide +kernel
theorem dX2_lookAt_87 : decode cX2_lookAt 87 = .ok (.iaload, 1) := by decide +kernel
theorem dX2_lookAt_88 : decode cX2_lookAt 88 = .ok (.ldc 41, 2) := by decide +kernel
theorem dX2_lookAt_90 : decode cX2_lookAt 90 = .ok (.irem, 1) := by decide +kernel
theorem dX2_lookAt_91 : decode cX2_lookAt 91 = .ok (.iload_n 3, 1) := by decide +kernel
theorem dX2_lookAt_92 : decode cX2_lookAt 92 = .ok (.invokestatic 42, 3) := by decide +kernel
theorem dX2_lookAt_95 : decode cX2_lookAt 95 = .ok (.idiv, 1) := by decide +kernel
theorem dX2_lookAt_96 : decode cX2_lookAt 96 = .ok (.bipush 9, 2) := by decide +kernel
theorem dX2_lookAt_98 : decode cX2_lookAt 98 = .ok (.irem, 1) := by decide +kernel
theorem dX2_lookAt_99 : decode cX2_lookAt 99 = .ok (.istore 4, 2) := by decide +kernel
theorem dX2_lookAt_101 : decode cX2_lookAt 101 = .ok (.aload_n 0, 1) := by decide +kernel
theorem dX2_lookAt_102 : decode cX2_lookAt 102 = .ok (.getfield 15, 3) := by decide +kernel
theorem dX2_lookAt_105 : decode cX2_lookAt 105 = .ok (.iload_n 3, 1) := by decide +kernel
theorem dX2_lookAt_106 : decode cX2_lookAt 106 = .ok (.iload 4, 2) := by decide +kernel
theorem dX2_lookAt_108 : decode cX2_lookAt 108 = .ok (.bipush 8, 2) := by decide +kernel
theorem dX2_lookAt_110 : decode cX2_lookAt 110 = .ok (.if_icmp .ne 7, 3) := by decide +kernel
theorem dX2_lookAt_113 : decode cX2_lookAt 113 = .ok (.iconst (-1), 1) := by decide +kernel
theorem dX2_lookAt_114 : decode cX2_lookAt 114 = .ok (.goto 5, 3) := by decide +kernel
theorem dX2_lookAt_117 : decode cX2_lookAt 117 = .ok (.iload 4, 2) := by decide +kernel
theorem dX2_lookAt_119 : decode cX2_lookAt 119 = .ok (.iastore, 1) := by decide +kernel
theorem dX2_lookAt_120 : decode cX2_lookAt 120 = .ok (.iinc 3 1, 3) := by decide +kernel
theorem dX2_lookAt_123 : decode cX2_lookAt 123 = .ok (.goto (-49), 3) := by decide +kernel
theorem dX2_lookAt_126 : decode cX2_lookAt 126 = .ok (.return_, 1) := by decide +kernel
theorem dX2_digitOf_0 : decode cX2_digitOf 0 = .ok (.iload_n 0, 1) := by decide +kernel
theorem dX2_digitOf_1 : decode cX2_digitOf 1 = .ok (.ifCond .lt 23, 3) := by decide +kernel
theorem dX2_digitOf_4 : decode cX2_digitOf 4 = .ok (.iload_n 0, 1) := by decide +kernel
theorem dX2_digitOf_5 : decode cX2_digitOf 5 = .ok (.getstatic 46, 3) := by decide +kernel
theorem dX2_digitOf_8 : decode cX2_digitOf 8 = .ok (.arraylength, 1) := by decide +kernel
theorem dX2_digitOf_9 : decode cX2_digitOf 9 = .ok (.if_icmp .ge 15, 3) := by decide +kernel
theorem dX2_digitOf_12 : decode cX2_digitOf 12 = .ok (.iconst 1, 1) := by decide +kernel
theorem dX2_digitOf_13 : decode cX2_digitOf 13 = .ok (.getstatic 46, 3) := by decide +kernel
theorem dX2_digitOf_16 : decode cX2_digitOf 16 = .ok (.iload_n 0, 1) := by decide +kernel
theorem dX2_digitOf_17 : decode cX2_digitOf 17 = .ok (.iaload, 1) := by decide +kernel
theorem dX2_digitOf_18 : decode cX2_digitOf 18 = .ok (.invokestatic 49, 3) := by decide +kernel
theorem dX2_digitOf_21 : decode cX2_digitOf 21 = .ok (.goto 4, 3) := by decide +kernel
theorem dX2_digitOf_24 : decode cX2_digitOf 24 = .ok (.iconst 1, 1) := by decide +kernel
theorem dX2_digitOf_25 : decode cX2_digitOf 25 = .ok (.ireturn, 1) := by decide +kernel
set_option maxRecDepth 20000 in
theorem ggX2_leastCost_J6_bitCount_0f7a4 : GoodIn wsX2_leastCost wsJ6_bitCount_0f7a4 := goodIn_r _ [12, 13, 14, 15] rfl (by decide +kernel)
set_option maxRecDepth 20000 in
theorem gX2_leastCost_J6_bitCount_0f7a4 : GoodIn wsX2_leastCost (va_wsS RX2 52 yJ6_bitCount_0f7a4 wsJ6_bitCount_0f7a4) := goodIn_app (goodIn_of _ (by decide +kernel)) ggX2_leastCost_J6_bitCount_0f7a4
set_option maxRecDepth 20000 in
theorem ggX2_leastCost_X2_canGive : GoodIn wsX2_leastCost wsX2_canGive := goodIn_r _ [19, 20, 21, 22, 23, 24, 25, 26, 27, 39, 40, 41] rfl (by decide +kernel)
set_option maxRecDepth 20000 in
theorem gX2_leastCost_X2_canGive : GoodIn wsX2_leastCost (va_wsS RX2 58 yX2_canGive wsX2_canGive) := goodIn_app (goodIn_of _ (by decide +kernel)) ggX2_leastCost_X2_canGive
set_option maxRecDepth 20000 in
theorem ggX2_leastCost_X2_digitOf : GoodIn wsX2_leastCost wsX2_digitOf := goodIn_r _ [30, 31, 32, 33, 7, 34] rfl (by decide +kernel)
set_option maxRecDepth 20000 in
theorem gX2_leastCost_X2_digitOf : GoodIn wsX2_leastCost (va_wsS RX2 42 yX2_digitOf wsX2_digitOf) := goodIn_app (goodIn_of _ (by decide +kernel)) ggX2_leastCost_X2_digitOf
theorem dX2_leastCost_0 : decode cX2_leastCost 0 = .ok (.iload_n 2, 1) := by decide +kernel
theorem dX2_leastCost_1 : decode cX2_leastCost 1 = .ok (.invokestatic 52, 3) := by decide +kernel
theorem dX2_leastCost_4 : decode cX2_leastCost 4 = .ok (.iconst 1, 1) := by decide +kernel
theorem dX2_leastCost_5 : decode cX2_leastCost 5 = .ok (.isub, 1) := by decide +kernel
theorem dX2_leastCost_6 : decode cX2_leastCost 6 = .ok (.istore_n 3, 1) := by decide +kernel
theorem dX2_leastCost_7 : decode cX2_leastCost 7 = .ok (.ldc 57, 2) := by decide +kernel
theorem dX2_leastCost_9 : decode cX2_leastCost 9 = .ok (.istore 4, 2) := by decide +kernel
theorem dX2_leastCost_11 : decode cX2_leastCost 11 = .ok (.iconst 0, 1) := by decide +kernel
theorem dX2_leastCost_12 : decode cX2_leastCost 12 = .ok (.istore 5, 2) := by decide +kernel
theorem dX2_leastCost_14 : decode cX2_leastCost 14 = .ok (.iload 5, 2) := by decide +kernel
theorem dX2_leastCost_16 : decode cX2_leastCost 16 = .ok (.aload_n 0, 1) := by decide +kernel
theorem dX2_leastCost_17 : decode cX2_leastCost 17 = .ok (.getfield 18, 3) := by decide +kernel
theorem dX2_leastCost_20 : decode cX2_leastCost 20 = .ok (.if_icmp .ge 83, 3) := by decide +kernel
theorem dX2_leastCost_23 : decode cX2_leastCost 23 = .ok (.iload_n 2, 1) := by decide +kernel
theorem dX2_leastCost_24 : decode cX2_leastCost 24 = .ok (.iload 5, 2) := by decide +kernel
theorem dX2_leastCost_26 : decode cX2_leastCost 26 = .ok (.ishr, 1) := by decide +kernel
theorem dX2_leastCost_27 : decode cX2_leastCost 27 = .ok (.iconst 1, 1) := by decide +kernel
theorem dX2_leastCost_28 : decode cX2_leastCost 28 = .ok (.iand, 1) := by decide +kernel
theorem dX2_leastCost_29 : decode cX2_leastCost 29 = .ok (.ifCond .eq 68, 3) := by decide +kernel
theorem dX2_leastCost_32 : decode cX2_leastCost 32 = .ok (.iload 5, 2) := by decide +kernel
theorem dX2_leastCost_34 : decode cX2_leastCost 34 = .ok (.iload_n 3, 1) := by decide +kernel
theorem dX2_leastCost_35 : decode cX2_leastCost 35 = .ok (.if_icmp .eq 13, 3) := by decide +kernel
theorem dX2_leastCost_38 : decode cX2_leastCost 38 = .ok (.aload_n 1, 1) := by decide +kernel
theorem dX2_leastCost_39 : decode cX2_leastCost 39 = .ok (.iload 5, 2) := by decide +kernel
theorem dX2_leastCost_41 : decode cX2_leastCost 41 = .ok (.iload_n 3, 1) := by decide +kernel
theorem dX2_leastCost_42 : decode cX2_leastCost 42 = .ok (.invokestatic 58, 3) := by decide +kernel
theorem dX2_leastCost_45 : decode cX2_leastCost 45 = .ok (.ifCond .eq 52, 3) := by decide +kernel
theorem dX2_leastCost_48 : decode cX2_leastCost 48 = .ok (.iload 5, 2) := by decide +kernel
theorem dX2_leastCost_50 : decode cX2_leastCost 50 = .ok (.iload_n 3, 1) := by decide +kernel
theorem dX2_leastCost_51 : decode cX2_leastCost 51 = .ok (.if_icmp .ne 16, 3) := by decide +kernel
theorem dX2_leastCost_54 : decode cX2_leastCost 54 = .ok (.ldc 41, 2) := by decide +kernel
theorem dX2_leastCost_56 : decode cX2_leastCost 56 = .ok (.bipush 8, 2) := by decide +kernel
theorem dX2_leastCost_58 : decode cX2_leastCost 58 = .ok (.iload_n 3, 1) := by decide +kernel
theorem dX2_leastCost_59 : decode cX2_leastCost 59 = .ok (.invokestatic 42, 3) := by decide +kernel
theorem dX2_leastCost_62 : decode cX2_leastCost 62 = .ok (.imul, 1) := by decide +kernel
theorem dX2_leastCost_63 : decode cX2_leastCost 63 = .ok (.iadd, 1) := by decide +kernel
theorem dX2_leastCost_64 : decode cX2_leastCost 64 = .ok (.goto 10, 3) := by decide +kernel
theorem dX2_leastCost_67 : decode cX2_leastCost 67 = .ok (.iload 5, 2) := by decide +kernel
theorem dX2_leastCost_69 : decode cX2_leastCost 69 = .ok (.iload_n 3, 1) := by decide +kernel
theorem dX2_leastCost_70 : decode cX2_leastCost 70 = .ok (.invokestatic 42, 3) := by decide +kernel
theorem dX2_leastCost_73 : decode cX2_leastCost 73 = .ok (.imul, 1) := by decide +kernel
theorem dX2_leastCost_74 : decode cX2_leastCost 74 = .ok (.istore 6, 2) := by decide +kernel
theorem dX2_leastCost_76 : decode cX2_leastCost 76 = .ok (.iload 4, 2) := by decide +kernel
theorem dX2_leastCost_78 : decode cX2_leastCost 78 = .ok (.aload_n 0, 1) := by decide +kernel
theorem dX2_leastCost_79 : decode cX2_leastCost 79 = .ok (.getfield 9, 3) := by decide +kernel
theorem dX2_leastCost_82 : decode cX2_leastCost 82 = .ok (.iload_n 2, 1) := by decide +kernel
theorem dX2_leastCost_83 : decode cX2_leastCost 83 = .ok (.iconst 1, 1) := by decide +kernel
theorem dX2_leastCost_84 : decode cX2_leastCost 84 = .ok (.iload 5, 2) := by decide +kernel
theorem dX2_leastCost_86 : decode cX2_leastCost 86 = .ok (.ishl, 1) := by decide +kernel
theorem dX2_leastCost_87 : decode cX2_leastCost 87 = .ok (.ixor, 1) := by decide +kernel
theorem dX2_leastCost_88 : decode cX2_leastCost 88 = .ok (.iaload, 1) := by decide +kernel
theorem dX2_leastCost_89 : decode cX2_leastCost 89 = .ok (.iload 6, 2) := by decide +kernel
theorem dX2_leastCost_91 : decode cX2_leastCost 91 = .ok (.iadd, 1) := by decide +kernel
theorem dX2_leastCost_92 : decode cX2_leastCost 92 = .ok (.invokestatic 31, 3) := by decide +kernel
theorem dX2_leastCost_95 : decode cX2_leastCost 95 = .ok (.istore 4, 2) := by decide +kernel
theorem dX2_leastCost_97 : decode cX2_leastCost 97 = .ok (.iinc 5 1, 3) := by decide +kernel
theorem dX2_leastCost_100 : decode cX2_leastCost 100 = .ok (.goto (-86), 3) := by decide +kernel
theorem dX2_leastCost_103 : decode cX2_leastCost 103 = .ok (.iload 4, 2) := by decide +kernel
theorem dX2_leastCost_105 : decode cX2_leastCost 105 = .ok (.ireturn, 1) := by decide +kernel
set_option maxRecDepth 20000 in
theorem ggX2_canGive_X8_get : GoodIn wsX2_canGive wsX8_get := goodIn_r _ [5, 6, 7, 8, 9, 10, 11] rfl (by decide +kernel)
set_option maxRecDepth 20000 in
theorem gX2_canGive_X8_get : GoodIn wsX2_canGive (wsV RX2 64 RX8 yX8_get wsX8_get) := goodIn_app (goodIn_of _ (by decide +kernel)) ggX2_canGive_X8_get
theorem dX2_canGive_0 : decode cX2_canGive 0 = .ok (.aload_n 0, 1) := by decide +kernel
theorem dX2_canGive_1 : decode cX2_canGive 1 = .ok (.iload_n 1, 1) := by decide +kernel
theorem dX2_canGive_2 : decode cX2_canGive 2 = .ok (.iconst 0, 1) := by decide +kernel
theorem dX2_canGive_3 : decode cX2_canGive 3 = .ok (.invokevirtual 64, 3) := by decide +kernel
theorem dX2_canGive_6 : decode cX2_canGive 6 = .ok (.aload_n 0, 1) := by decide +kernel
theorem dX2_canGive_7 : decode cX2_canGive 7 = .ok (.iload_n 2, 1) := by decide +kernel
theorem dX2_canGive_8 : decode cX2_canGive 8 = .ok (.iconst 0, 1) := by decide +kernel
theorem dX2_canGive_9 : decode cX2_canGive 9 = .ok (.invokevirtual 64, 3) := by decide +kernel
theorem dX2_canGive_12 : decode cX2_canGive 12 = .ok (.if_icmp .eq 22, 3) := by decide +kernel
theorem dX2_canGive_15 : decode cX2_canGive 15 = .ok (.aload_n 0, 1) := by decide +kernel
theorem dX2_canGive_16 : decode cX2_canGive 16 = .ok (.iload_n 1, 1) := by decide +kernel
theorem dX2_canGive_17 : decode cX2_canGive 17 = .ok (.iconst 1, 1) := by decide +kernel
theorem dX2_canGive_18 : decode cX2_canGive 18 = .ok (.invokevirtual 64, 3) := by decide +kernel
theorem dX2_canGive_21 : decode cX2_canGive 21 = .ok (.aload_n 0, 1) := by decide +kernel
theorem dX2_canGive_22 : decode cX2_canGive 22 = .ok (.iload_n 2, 1) := by decide +kernel
theorem dX2_canGive_23 : decode cX2_canGive 23 = .ok (.iconst 2, 1) := by decide +kernel
theorem dX2_canGive_24 : decode cX2_canGive 24 = .ok (.invokevirtual 64, 3) := by decide +kernel
theorem dX2_canGive_27 : decode cX2_canGive 27 = .ok (.if_icmp .ne 7, 3) := by decide +kernel
theorem dX2_canGive_30 : decode cX2_canGive 30 = .ok (.iconst 1, 1) := by decide +kernel
theorem dX2_canGive_31 : decode cX2_canGive 31 = .ok (.goto 4, 3) := by decide +kernel
theorem dX2_canGive_34 : decode cX2_canGive 34 = .ok (.iconst 0, 1) := by decide +kernel
theorem dX2_canGive_35 : decode cX2_canGive 35 = .ok (.ireturn, 1) := by decide +kernel
theorem dX2_inPlan_0 : decode cX2_inPlan 0 = .ok (.aload_n 0, 1) := by decide +kernel
theorem dX2_inPlan_1 : decode cX2_inPlan 1 = .ok (.getfield 22, 3) := by decide +kernel
theorem dX2_inPlan_4 : decode cX2_inPlan 4 = .ok (.ireturn, 1) := by decide +kernel
theorem dX2_giverOf_0 : decode cX2_giverOf 0 = .ok (.iload_n 1, 1) := by decide +kernel
theorem dX2_giverOf_1 : decode cX2_giverOf 1 = .ok (.ifCond .lt 20, 3) := by decide +kernel
theorem dX2_giverOf_4 : decode cX2_giverOf 4 = .ok (.iload_n 1, 1) := by decide +kernel
theorem dX2_giverOf_5 : decode cX2_giverOf 5 = .ok (.aload_n 0, 1) := by decide +kernel
theorem dX2_giverOf_6 : decode cX2_giverOf 6 = .ok (.getfield 18, 3) := by decide +kernel
theorem dX2_giverOf_9 : decode cX2_giverOf 9 = .ok (.if_icmp .ge 12, 3) := by decide +kernel
theorem dX2_giverOf_12 : decode cX2_giverOf 12 = .ok (.aload_n 0, 1) := by decide +kernel
theorem dX2_giverOf_13 : decode cX2_giverOf 13 = .ok (.getfield 15, 3) := by decide +kernel
theorem dX2_giverOf_16 : decode cX2_giverOf 16 = .ok (.iload_n 1, 1) := by decide +kernel
theorem dX2_giverOf_17 : decode cX2_giverOf 17 = .ok (.iaload, 1) := by decide +kernel
theorem dX2_giverOf_18 : decode cX2_giverOf 18 = .ok (.goto 4, 3) := by decide +kernel
theorem dX2_giverOf_21 : decode cX2_giverOf 21 = .ok (.iconst (-1), 1) := by decide +kernel
theorem dX2_giverOf_22 : decode cX2_giverOf 22 = .ok (.ireturn, 1) := by decide +kernel
set_option maxRecDepth 20000 in
theorem ggX2_countRings_X2_giverOf : GoodIn wsX2_countRings wsX2_giverOf := goodIn_r _ [6, 1, 7, 8, 9, 10, 11] rfl (by decide +kernel)
set_option maxRecDepth 20000 in
theorem gX2_countRings_X2_giverOf : GoodIn wsX2_countRings (wsV RX2 67 RX2 yX2_giverOf wsX2_giverOf) := goodIn_app (goodIn_of _ (by decide +kernel)) ggX2_countRings_X2_giverOf
theorem dX2_countRings_0 : decode cX2_countRings 0 = .ok (.iconst 0, 1) := by decide +kernel
theorem dX2_countRings_1 : decode cX2_countRings 1 = .ok (.istore_n 1, 1) := by decide +kernel
theorem dX2_countRings_2 : decode cX2_countRings 2 = .ok (.iconst 0, 1) := by decide +kernel
theorem dX2_countRings_3 : decode cX2_countRings 3 = .ok (.istore_n 2, 1) := by decide +kernel
theorem dX2_countRings_4 : decode cX2_countRings 4 = .ok (.iconst 0, 1) := by decide +kernel
theorem dX2_countRings_5 : decode cX2_countRings 5 = .ok (.istore_n 3, 1) := by decide +kernel
theorem dX2_countRings_6 : decode cX2_countRings 6 = .ok (.iload_n 3, 1) := by decide +kernel
theorem dX2_countRings_7 : decode cX2_countRings 7 = .ok (.aload_n 0, 1) := by decide +kernel
theorem dX2_countRings_8 : decode cX2_countRings 8 = .ok (.getfield 18, 3) := by decide +kernel
theorem dX2_countRings_11 : decode cX2_countRings 11 = .ok (.if_icmp .ge 71, 3) := by decide +kernel
theorem dX2_countRings_14 : decode cX2_countRings 14 = .ok (.aload_n 0, 1) := by decide +kernel
theorem dX2_countRings_15 : decode cX2_countRings 15 = .ok (.iload_n 3, 1) := by decide +kernel
theorem dX2_countRings_16 : decode cX2_countRings 16 = .ok (.invokevirtual 67, 3) := by decide +kernel
theorem dX2_countRings_19 : decode cX2_countRings 19 = .ok (.iconst (-1), 1) := by decide +kernel
theorem dX2_countRings_20 : decode cX2_countRings 20 = .ok (.if_icmp .eq 56, 3) := by decide +kernel
theorem dX2_countRings_23 : decode cX2_countRings 23 = .ok (.iload_n 2, 1) := by decide +kernel
theorem dX2_countRings_24 : decode cX2_countRings 24 = .ok (.iload_n 3, 1) := by decide +kernel
theorem dX2_countRings_25 : decode cX2_countRings 25 = .ok (.ishr, 1) := by decide +kernel
theorem dX2_countRings_26 : decode cX2_countRings 26 = .ok (.iconst 1, 1) := by decide +kernel
theorem dX2_countRings_27 : decode cX2_countRings 27 = .ok (.iand, 1) := by decide +kernel
theorem dX2_countRings_28 : decode cX2_countRings 28 = .ok (.ifCond .ne 48, 3) := by decide +kernel
theorem dX2_countRings_31 : decode cX2_countRings 31 = .ok (.iinc 1 1, 3) := by decide +kernel
theorem dX2_countRings_34 : decode cX2_countRings 34 = .ok (.iload_n 3, 1) := by decide +kernel
theorem dX2_countRings_35 : decode cX2_countRings 35 = .ok (.istore 4, 2) := by decide +kernel
theorem dX2_countRings_37 : decode cX2_countRings 37 = .ok (.iconst 0, 1) := by decide +kernel
theorem dX2_countRings_38 : decode cX2_countRings 38 = .ok (.istore 5, 2) := by decide +kernel
theorem dX2_countRings_40 : decode cX2_countRings 40 = .ok (.iload 5, 2) := by decide +kernel
theorem dX2_countRings_42 : decode cX2_countRings 42 = .ok (.aload_n 0, 1) := by decide +kernel
theorem dX2_countRings_43 : decode cX2_countRings 43 = .ok (.getfield 18, 3) := by decide +kernel
theorem dX2_countRings_46 : decode cX2_countRings 46 = .ok (.if_icmp .ge 30, 3) := by decide +kernel
theorem dX2_countRings_49 : decode cX2_countRings 49 = .ok (.iload 4, 2) := by decide +kernel
theorem dX2_countRings_51 : decode cX2_countRings 51 = .ok (.iconst (-1), 1) := by decide +kernel
theorem dX2_countRings_52 : decode cX2_countRings 52 = .ok (.if_icmp .eq 24, 3) := by decide +kernel
theorem dX2_countRings_55 : decode cX2_countRings 55 = .ok (.iload_n 2, 1) := by decide +kernel
theorem dX2_countRings_56 : decode cX2_countRings 56 = .ok (.iconst 1, 1) := by decide +kernel
theorem dX2_countRings_57 : decode cX2_countRings 57 = .ok (.iload 4, 2) := by decide +kernel
theorem dX2_countRings_59 : decode cX2_countRings 59 = .ok (.ishl, 1) := by decide +kernel
theorem dX2_countRings_60 : decode cX2_countRings 60 = .ok (.ior, 1) := by decide +kernel
theorem dX2_countRings_61 : decode cX2_countRings 61 = .ok (.istore_n 2, 1) := by decide +kernel
theorem dX2_countRings_62 : decode cX2_countRings 62 = .ok (.aload_n 0, 1) := by decide +kernel
theorem dX2_countRings_63 : decode cX2_countRings 63 = .ok (.iload 4, 2) := by decide +kernel
theorem dX2_countRings_65 : decode cX2_countRings 65 = .ok (.invokevirtual 67, 3) := by decide +kernel
theorem dX2_countRings_68 : decode cX2_countRings 68 = .ok (.istore 4, 2) := by decide +kernel
theorem dX2_countRings_70 : decode cX2_countRings 70 = .ok (.iinc 5 1, 3) := by decide +kernel
theorem dX2_countRings_73 : decode cX2_countRings 73 = .ok (.goto (-33), 3) := by decide +kernel
theorem dX2_countRings_76 : decode cX2_countRings 76 = .ok (.iinc 3 1, 3) := by decide +kernel
theorem dX2_countRings_79 : decode cX2_countRings 79 = .ok (.goto (-73), 3) := by decide +kernel
theorem dX2_countRings_82 : decode cX2_countRings 82 = .ok (.iload_n 1, 1) := by decide +kernel
theorem dX2_countRings_83 : decode cX2_countRings 83 = .ok (.ireturn, 1) := by decide +kernel
theorem dX3_init_0 : decode cX3_init 0 = .ok (.aload_n 0, 1) := by decide +kernel
theorem dX3_init_1 : decode cX3_init 1 = .ok (.invokespecial 3, 3) := by decide +kernel
theorem dX3_init_4 : decode cX3_init 4 = .ok (.aload_n 0, 1) := by decide +kernel
theorem dX3_init_5 : decode cX3_init 5 = .ok (.sipush 1024, 3) := by decide +kernel
theorem dX3_init_8 : decode cX3_init 8 = .ok (.newarray .int, 2) := by decide +kernel
theorem dX3_init_10 : decode cX3_init 10 = .ok (.putfield 9, 3) := by decide +kernel
theorem dX3_init_13 : decode cX3_init 13 = .ok (.aload_n 0, 1) := by decide +kernel
theorem dX3_init_14 : decode cX3_init 14 = .ok (.sipush 1024, 3) := by decide +kernel
theorem dX3_init_17 : decode cX3_init 17 = .ok (.newarray .int, 2) := by decide +kernel
theorem dX3_init_19 : decode cX3_init 19 = .ok (.putfield 15, 3) := by decide +kernel
theorem dX3_init_22 : decode cX3_init 22 = .ok (.aload_n 0, 1) := by decide +kernel
theorem dX3_init_23 : decode cX3_init 23 = .ok (.sipush 1024, 3) := by decide +kernel
theorem dX3_init_26 : decode cX3_init 26 = .ok (.newarray .int, 2) := by decide +kernel
theorem dX3_init_28 : decode cX3_init 28 = .ok (.putfield 18, 3) := by decide +kernel
theorem dX3_init_31 : decode cX3_init 31 = .ok (.aload_n 0, 1) := by decide +kernel
theorem dX3_init_32 : decode cX3_init 32 = .ok (.sipush 1024, 3) := by decide +kernel
theorem dX3_init_35 : decode cX3_init 35 = .ok (.newarray .int, 2) := by decide +kernel
theorem dX3_init_37 : decode cX3_init 37 = .ok (.putfield 21, 3) := by decide +kernel
theorem dX3_init_40 : decode cX3_init 40 = .ok (.aload_n 0, 1) := by decide +kernel
theorem dX3_init_41 : decode cX3_init 41 = .ok (.bipush 10, 2) := by decide +kernel
theorem dX3_init_43 : decode cX3_init 43 = .ok (.newarray .int, 2) := by decide +kernel
theorem dX3_init_45 : decode cX3_init 45 = .ok (.putfield 24, 3) := by decide +kernel
theorem dX3_init_48 : decode cX3_init 48 = .ok (.aload_n 0, 1) := by decide +kernel
theorem dX3_init_49 : decode cX3_init 49 = .ok (.iconst 0, 1) := by decide +kernel
theorem dX3_init_50 : decode cX3_init 50 = .ok (.putfield 27, 3) := by decide +kernel
theorem dX3_init_53 : decode cX3_init 53 = .ok (.aload_n 0, 1) := by decide +kernel
theorem dX3_init_54 : decode cX3_init 54 = .ok (.ldc 31, 2) := by decide +kernel
theorem dX3_init_56 : decode cX3_init 56 = .ok (.putfield 32, 3) := by decide +kernel
theorem dX3_init_59 : decode cX3_init 59 = .ok (.return_, 1) := by decide +kernel
set_option maxRecDepth 20000 in
theorem ggX3_isFound_X8_size : GoodIn wsX3_isFound wsX8_size := goodIn_r _ [18, 19, 75, 76, 77] rfl (by decide +kernel)
set_option maxRecDepth 20000 in
theorem gX3_isFound_X8_size : GoodIn wsX3_isFound (wsV RX3 41 RX8 yX8_size wsX8_size) := goodIn_app (goodIn_of _ (by decide +kernel)) ggX3_isFound_X8_size
set_option maxRecDepth 20000 in
theorem ggX3_isFound_X3_sumSets : GoodIn wsX3_isFound wsX3_sumSets := goodIn_r _ [24, 25, 26, 5, 13, 1, 2, 3, 4, 27, 28, 23, 29, 30, 31, 32, 17, 33, 19, 34, 35, 36, 37, 38, 39, 40, 41, 42, 68, 69, 70, 71, 72, 73, 74, 60, 61, 62, 63, 64, 65, 66, 67, 75, 76, 77] rfl (by decide +kernel)
set_option maxRecDepth 20000 in
theorem gX3_isFound_X3_sumSets : GoodIn wsX3_isFound (wsV RX3 53 RX3 yX3_sumSets wsX3_sumSets) := goodIn_app (goodIn_of _ (by decide +kernel)) ggX3_isFound_X3_sumSets
set_option maxRecDepth 20000 in
theorem ggX3_isFound_X3_setPrices : GoodIn wsX3_isFound wsX3_setPrices := goodIn_r _ [46, 5, 47, 48, 30, 31, 32, 17, 33, 19, 34, 35, 49, 50, 23, 51, 68, 69, 70, 71, 72, 73, 74, 75, 76, 77] rfl (by decide +kernel)
set_option maxRecDepth 20000 in
theorem gX3_isFound_X3_setPrices : GoodIn wsX3_isFound (wsV RX3 57 RX3 yX3_setPrices wsX3_setPrices) := goodIn_app (goodIn_of _ (by decide +kernel)) ggX3_isFound_X3_setPrices
set_option maxRecDepth 20000 in
theorem ggX3_isFound_X3_priceSets : GoodIn wsX3_isFound wsX3_priceSets := goodIn_r _ [55, 6, 5, 13, 25, 26, 47, 30, 31, 32, 17, 33, 19, 34, 35, 68, 69, 70, 71, 72, 73, 74, 75, 76, 77] rfl (by decide +kernel)
set_option maxRecDepth 20000 in
theorem gX3_isFound_X3_priceSets : GoodIn wsX3_isFound (wsV RX3 64 RX3 yX3_priceSets wsX3_priceSets) := goodIn_app (goodIn_of _ (by decide +kernel)) ggX3_isFound_X3_priceSets
set_option maxRecDepth 20000 in
theorem ggX3_isFound_X3_addDrawer : GoodIn wsX3_isFound wsX3_addDrawer := goodIn_r _ [59, 5, 7, 6, 68, 69, 70, 71, 72, 73, 74] rfl (by decide +kernel)
set_option maxRecDepth 20000 in
theorem gX3_isFound_X3_addDrawer : GoodIn wsX3_isFound (wsV RX3 74 RX3 yX3_addDrawer wsX3_addDrawer) := goodIn_app (goodIn_of _ (by decide +kernel)) ggX3_isFound_X3_addDrawer
theorem dX3_isFound_0 : decode cX3_isFound 0 = .ok (.aload_n 0, 1) := by decide +kernel
theorem dX3_isFound_1 : decode cX3_isFound 1 = .ok (.aload_n 1, 1) := by decide +kernel
theorem dX3_isFound_2 : decode cX3_isFound 2 = .ok (.getfield 35, 3) := by decide +kernel
theorem dX3_isFound_5 : decode cX3_isFound 5 = .ok (.invokevirtual 41, 3) := by decide +kernel
theorem dX3_isFound_8 : decode cX3_isFound 8 = .ok (.bipush 10, 2) := by decide +kernel
theorem dX3_isFound_10 : decode cX3_isFound 10 = .ok (.invokestatic 47, 3) := by decide +kernel
theorem dX3_isFound_13 : decode cX3_isFound 13 = .ok (.putfield 27, 3) := by decide +kernel
theorem dX3_isFound_16 : decode cX3_isFound 16 = .ok (.iconst 1, 1) := by decide +kernel
theorem dX3_isFound_17 : decode cX3_isFound 17 = .ok (.aload_n 0, 1) := by decide +kernel
theorem dX3_isFound_18 : decode cX3_isFound 18 = .ok (.getfield 27, 3) := by decide +kernel
theorem dX3_isFound_21 : decode cX3_isFound 21 = .ok (.ishl, 1) := by decide +kernel
theorem dX3_isFound_22 : decode cX3_isFound 22 = .ok (.iconst 1, 1) := by decide +kernel
theorem dX3_isFound_23 : decode cX3_isFound 23 = .ok (.isub, 1) := by decide +kernel
theorem dX3_isFound_24 : decode cX3_isFound 24 = .ok (.istore_n 3, 1) := by decide +kernel
theorem dX3_isFound_25 : decode cX3_isFound 25 = .ok (.aload_n 0, 1) := by decide +kernel
theorem dX3_isFound_26 : decode cX3_isFound 26 = .ok (.aload_n 1, 1) := by decide +kernel
theorem dX3_isFound_27 : decode cX3_isFound 27 = .ok (.invokevirtual 53, 3) := by decide +kernel
theorem dX3_isFound_30 : decode cX3_isFound 30 = .ok (.iconst 0, 1) := by decide +kernel
theorem dX3_isFound_31 : decode cX3_isFound 31 = .ok (.istore 4, 2) := by decide +kernel
theorem dX3_isFound_33 : decode cX3_isFound 33 = .ok (.iload 4, 2) := by decide +kernel
theorem dX3_isFound_35 : decode cX3_isFound 35 = .ok (.iconst 4, 1) := by decide +kernel
theorem dX3_isFound_36 : decode cX3_isFound 36 = .ok (.if_icmp .ge 69, 3) := by decide +kernel
theorem dX3_isFound_39 : decode cX3_isFound 39 = .ok (.aload_n 0, 1) := by decide +kernel
theorem dX3_isFound_40 : decode cX3_isFound 40 = .ok (.aload_n 1, 1) := by decide +kernel
theorem dX3_isFound_41 : decode cX3_isFound 41 = .ok (.getfield 35, 3) := by decide +kernel
theorem dX3_isFound_44 : decode cX3_isFound 44 = .ok (.iload 4, 2) := by decide +kernel
theorem dX3_isFound_46 : decode cX3_isFound 46 = .ok (.iload_n 2, 1) := by decide +kernel
theorem dX3_isFound_47 : decode cX3_isFound 47 = .ok (.invokevirtual 57, 3) := by decide +kernel
theorem dX3_isFound_50 : decode cX3_isFound 50 = .ok (.aload_n 0, 1) := by decide +kernel
theorem dX3_isFound_51 : decode cX3_isFound 51 = .ok (.aload_n 1, 1) := by decide +kernel
theorem dX3_isFound_52 : decode cX3_isFound 52 = .ok (.getfield 61, 3) := by decide +kernel
theorem dX3_isFound_55 : decode cX3_isFound 55 = .ok (.iload 4, 2) := by decide +kernel
theorem dX3_isFound_57 : decode cX3_isFound 57 = .ok (.invokevirtual 64, 3) := by decide +kernel
theorem dX3_isFound_60 : decode cX3_isFound 60 = .ok (.iload 4, 2) := by decide +kernel
theorem dX3_isFound_62 : decode cX3_isFound 62 = .ok (.ifCond .ne 22, 3) := by decide +kernel
theorem dX3_isFound_65 : decode cX3_isFound 65 = .ok (.aload_n 0, 1) := by decide +kernel
theorem dX3_isFound_66 : decode cX3_isFound 66 = .ok (.getfield 18, 3) := by decide +kernel
theorem dX3_isFound_69 : decode cX3_isFound 69 = .ok (.iconst 0, 1) := by decide +kernel
theorem dX3_isFound_70 : decode cX3_isFound 70 = .ok (.aload_n 0, 1) := by decide +kernel
theorem dX3_isFound_71 : decode cX3_isFound 71 = .ok (.getfield 21, 3) := by decide +kernel
theorem dX3_isFound_74 : decode cX3_isFound 74 = .ok (.iconst 0, 1) := by decide +kernel
theorem dX3_isFound_75 : decode cX3_isFound 75 = .ok (.iload_n 3, 1) := by decide +kernel
theorem dX3_isFound_76 : decode cX3_isFound 76 = .ok (.iconst 1, 1) := by decide +kernel
theorem dX3_isFound_77 : decode cX3_isFound 77 = .ok (.iadd, 1) := by decide +kernel
theorem dX3_isFound_78 : decode cX3_isFound 78 = .ok (.invokestatic 68, 3) := by decide +kernel
theorem dX3_isFound_81 : decode cX3_isFound 81 = .ok (.goto 18, 3) := by decide +kernel
theorem dX3_isFound_84 : decode cX3_isFound 84 = .ok (.aload_n 0, 1) := by decide +kernel
theorem dX3_isFound_85 : decode cX3_isFound 85 = .ok (.iload 4, 2) := by decide +kernel
theorem dX3_isFound_87 : decode cX3_isFound 87 = .ok (.iconst 3, 1) := by decide +kernel
theorem dX3_isFound_88 : decode cX3_isFound 88 = .ok (.if_icmp .ne 7, 3) := by decide +kernel
theorem dX3_isFound_91 : decode cX3_isFound 91 = .ok (.iload_n 3, 1) := by decide +kernel
theorem dX3_isFound_92 : decode cX3_isFound 92 = .ok (.goto 4, 3) := by decide +kernel
theorem dX3_isFound_95 : decode cX3_isFound 95 = .ok (.iconst 0, 1) := by decide +kernel
theorem dX3_isFound_96 : decode cX3_isFound 96 = .ok (.invokevirtual 74, 3) := by decide +kernel
theorem dX3_isFound_99 : decode cX3_isFound 99 = .ok (.iinc 4 1, 3) := by decide +kernel
theorem dX3_isFound_102 : decode cX3_isFound 102 = .ok (.goto (-69), 3) := by decide +kernel
theorem dX3_isFound_105 : decode cX3_isFound 105 = .ok (.aload_n 0, 1) := by decide +kernel
theorem dX3_isFound_106 : decode cX3_isFound 106 = .ok (.aload_n 0, 1) := by decide +kernel
theorem dX3_isFound_107 : decode cX3_isFound 107 = .ok (.getfield 21, 3) := by decide +kernel
theorem dX3_isFound_110 : decode cX3_isFound 110 = .ok (.iload_n 3, 1) := by decide +kernel
theorem dX3_isFound_111 : decode cX3_isFound 111 = .ok (.iaload, 1) := by decide +kernel
theorem dX3_isFound_112 : decode cX3_isFound 112 = .ok (.putfield 32, 3) := by decide +kernel
theorem dX3_isFound_115 : decode cX3_isFound 115 = .ok (.aload_n 0, 1) := by decide +kernel
theorem dX3_isFound_116 : decode cX3_isFound 116 = .ok (.getfield 32, 3) := by decide +kernel
theorem dX3_isFound_119 : decode cX3_isFound 119 = .ok (.ldc 31, 2) := by decide +kernel
theorem dX3_isFound_121 : decode cX3_isFound 121 = .ok (.if_icmp .ge 7, 3) := by decide +kernel
theorem dX3_isFound_124 : decode cX3_isFound 124 = .ok (.iconst 1, 1) := by decide +kernel
theorem dX3_isFound_125 : decode cX3_isFound 125 = .ok (.goto 4, 3) := by decide +kernel
theorem dX3_isFound_128 : decode cX3_isFound 128 = .ok (.iconst 0, 1) := by decide +kernel
theorem dX3_isFound_129 : decode cX3_isFound 129 = .ok (.ireturn, 1) := by decide +kernel
set_option maxRecDepth 20000 in
theorem ggX3_drawerFor_X3_digitOf : GoodIn wsX3_drawerFor wsX3_digitOf := goodIn_r _ [5] rfl (by decide +kernel)
set_option maxRecDepth 20000 in
theorem gX3_drawerFor_X3_digitOf : GoodIn wsX3_drawerFor (va_wsS RX3 78 yX3_digitOf wsX3_digitOf) := goodIn_app (goodIn_of _ (by decide +kernel)) ggX3_drawerFor_X3_digitOf
theorem dX3_drawerFor_0 : decode cX3_drawerFor 0 = .ok (.iload_n 1, 1) := by decide +kernel
theorem dX3_drawerFor_1 : decode cX3_drawerFor 1 = .ok (.ifCond .lt 9, 3) := by decide +kernel
theorem dX3_drawerFor_4 : decode cX3_drawerFor 4 = .ok (.iload_n 1, 1) := by decide +kernel
theorem dX3_drawerFor_5 : decode cX3_drawerFor 5 = .ok (.bipush 10, 2) := by decide +kernel
theorem dX3_drawerFor_7 : decode cX3_drawerFor 7 = .ok (.if_icmp .lt 7, 3) := by decide +kernel
theorem dX3_drawerFor_10 : decode cX3_drawerFor 10 = .ok (.iconst (-1), 1) := by decide +kernel
theorem dX3_drawerFor_11 : decode cX3_drawerFor 11 = .ok (.goto 14, 3) := by decide +kernel
theorem dX3_drawerFor_14 : decode cX3_drawerFor 14 = .ok (.aload_n 0, 1) := by decide +kernel
theorem dX3_drawerFor_15 : decode cX3_drawerFor 15 = .ok (.getfield 32, 3) := by decide +kernel
theorem dX3_drawerFor_18 : decode cX3_drawerFor 18 = .ok (.iload_n 1, 1) := by decide +kernel
theorem dX3_drawerFor_19 : decode cX3_drawerFor 19 = .ok (.invokestatic 78, 3) := by decide +kernel
theorem dX3_drawerFor_22 : decode cX3_drawerFor 22 = .ok (.ishr, 1) := by decide +kernel
theorem dX3_drawerFor_23 : decode cX3_drawerFor 23 = .ok (.iconst 3, 1) := by decide +kernel
theorem dX3_drawerFor_24 : decode cX3_drawerFor 24 = .ok (.iand, 1) := by decide +kernel
theorem dX3_drawerFor_25 : decode cX3_drawerFor 25 = .ok (.ireturn, 1) := by decide +kernel
theorem dX3_digitOf_0 : decode cX3_digitOf 0 = .ok (.iconst 2, 1) := by decide +kernel
theorem dX3_digitOf_1 : decode cX3_digitOf 1 = .ok (.bipush 9, 2) := by decide +kernel
theorem dX3_digitOf_3 : decode cX3_digitOf 3 = .ok (.iload_n 0, 1) := by decide +kernel
theorem dX3_digitOf_4 : decode cX3_digitOf 4 = .ok (.isub, 1) := by decide +kernel
theorem dX3_digitOf_5 : decode cX3_digitOf 5 = .ok (.imul, 1) := by decide +kernel
theorem dX3_digitOf_6 : decode cX3_digitOf 6 = .ok (.ireturn, 1) := by decide +kernel
set_option maxRecDepth 20000 in
theorem ggX3_sumSets_X3_partedFrom : GoodIn wsX3_sumSets wsX3_partedFrom := goodIn_r _ [12, 13, 14, 15, 16, 17, 18, 19, 20, 21, 22, 23, 24, 25, 26, 27, 35, 36, 37, 38, 39, 40, 41, 42, 43, 44, 45] rfl (by decide +kernel)
set_option maxRecDepth 20000 in
theorem gX3_sumSets_X3_partedFrom : GoodIn wsX3_sumSets (va_wsS RX3 82 yX3_partedFrom wsX3_partedFrom) := goodIn_app (goodIn_of _ (by decide +kernel)) ggX3_sumSets_X3_partedFrom
set_option maxRecDepth 20000 in
theorem ggX3_sumSets_X8_get : GoodIn wsX3_sumSets wsX8_get := goodIn_r _ [17, 18, 19, 20, 43, 44, 45] rfl (by decide +kernel)
set_option maxRecDepth 20000 in
theorem gX3_sumSets_X8_get : GoodIn wsX3_sumSets (wsV RX3 86 RX8 yX8_get wsX8_get) := goodIn_app (goodIn_of _ (by decide +kernel)) ggX3_sumSets_X8_get
theorem dX3_sumSets_0 : decode cX3_sumSets 0 = .ok (.aload_n 0, 1) := by decide +kernel
theorem dX3_sumSets_1 : decode cX3_sumSets 1 = .ok (.getfield 9, 3) := by decide +kernel
theorem dX3_sumSets_4 : decode cX3_sumSets 4 = .ok (.iconst 0, 1) := by decide +kernel
theorem dX3_sumSets_5 : decode cX3_sumSets 5 = .ok (.iconst 0, 1) := by decide +kernel
theorem dX3_sumSets_6 : decode cX3_sumSets 6 = .ok (.iastore, 1) := by decide +kernel
theorem dX3_sumSets_7 : decode cX3_sumSets 7 = .ok (.aload_n 0, 1) := by decide +kernel
theorem dX3_sumSets_8 : decode cX3_sumSets 8 = .ok (.getfield 15, 3) := by decide +kernel
theorem dX3_sumSets_11 : decode cX3_sumSets 11 = .ok (.iconst 0, 1) := by decide +kernel
theorem dX3_sumSets_12 : decode cX3_sumSets 12 = .ok (.iconst 0, 1) := by decide +kernel
theorem dX3_sumSets_13 : decode cX3_sumSets 13 = .ok (.iastore, 1) := by decide +kernel
theorem dX3_sumSets_14 : decode cX3_sumSets 14 = .ok (.iconst 0, 1) := by decide +kernel
theorem dX3_sumSets_15 : decode cX3_sumSets 15 = .ok (.istore_n 2, 1) := by decide +kernel
theorem dX3_sumSets_16 : decode cX3_sumSets 16 = .ok (.iload_n 2, 1) := by decide +kernel
theorem dX3_sumSets_17 : decode cX3_sumSets 17 = .ok (.aload_n 0, 1) := by decide +kernel
theorem dX3_sumSets_18 : decode cX3_sumSets 18 = .ok (.getfield 27, 3) := by decide +kernel
theorem dX3_sumSets_21 : decode cX3_sumSets 21 = .ok (.if_icmp .ge 125, 3) := by decide +kernel
theorem dX3_sumSets_24 : decode cX3_sumSets 24 = .ok (.iconst 1, 1) := by decide +kernel
theorem dX3_sumSets_25 : decode cX3_sumSets 25 = .ok (.iload_n 2, 1) := by decide +kernel
theorem dX3_sumSets_26 : decode cX3_sumSets 26 = .ok (.ishl, 1) := by decide +kernel
theorem dX3_sumSets_27 : decode cX3_sumSets 27 = .ok (.istore_n 3, 1) := by decide +kernel
theorem dX3_sumSets_28 : decode cX3_sumSets 28 = .ok (.aload_n 1, 1) := by decide +kernel
theorem dX3_sumSets_29 : decode cX3_sumSets 29 = .ok (.iload_n 2, 1) := by decide +kernel
theorem dX3_sumSets_30 : decode cX3_sumSets 30 = .ok (.invokestatic 82, 3) := by decide +kernel
theorem dX3_sumSets_33 : decode cX3_sumSets 33 = .ok (.istore 4, 2) := by decide +kernel
theorem dX3_sumSets_35 : decode cX3_sumSets 35 = .ok (.aload_n 1, 1) := by decide +kernel
theorem dX3_sumSets_36 : decode cX3_sumSets 36 = .ok (.getfield 35, 3) := by decide +kernel
theorem dX3_sumSets_39 : decode cX3_sumSets 39 = .ok (.iload_n 2, 1) := by decide +kernel
theorem dX3_sumSets_40 : decode cX3_sumSets 40 = .ok (.iconst 1, 1) := by decide +kernel
theorem dX3_sumSets_41 : decode cX3_sumSets 41 = .ok (.invokevirtual 86, 3) := by decide +kernel
theorem dX3_sumSets_44 : decode cX3_sumSets 44 = .ok (.istore 5, 2) := by decide +kernel
theorem dX3_sumSets_46 : decode cX3_sumSets 46 = .ok (.aload_n 1, 1) := by decide +kernel
theorem dX3_sumSets_47 : decode cX3_sumSets 47 = .ok (.getfield 35, 3) := by decide +kernel
theorem dX3_sumSets_50 : decode cX3_sumSets 50 = .ok (.iload_n 2, 1) := by decide +kernel
theorem dX3_sumSets_51 : decode cX3_sumSets 51 = .ok (.iconst 2, 1) := by decide +kernel
theorem dX3_sumSets_52 : decode cX3_sumSets 52 = .ok (.invokevirtual 86, 3) := by decide +kernel
theorem dX3_sumSets_55 : decode cX3_sumSets 55 = .ok (.istore 6, 2) := by decide +kernel
theorem dX3_sumSets_57 : decode cX3_sumSets 57 = .ok (.iconst 0, 1) := by decide +kernel
theorem dX3_sumSets_58 : decode cX3_sumSets 58 = .ok (.istore 7, 2) := by decide +kernel
theorem dX3_sumSets_60 : decode cX3_sumSets 60 = .ok (.iload 7, 2) := by decide +kernel
theorem dX3_sumSets_62 : decode cX3_sumSets 62 = .ok (.iload_n 3, 1) := by decide +kernel
theorem dX3_sumSets_63 : decode cX3_sumSets 63 = .ok (.if_icmp .ge 77, 3) := by decide +kernel
theorem dX3_sumSets_66 : decode cX3_sumSets 66 = .ok (.iload 7, 2) := by decide +kernel
theorem dX3_sumSets_68 : decode cX3_sumSets 68 = .ok (.iload 4, 2) := by decide +kernel
theorem dX3_sumSets_70 : decode cX3_sumSets 70 = .ok (.iand, 1) := by decide +kernel
theorem dX3_sumSets_71 : decode cX3_sumSets 71 = .ok (.ifCond .eq 7, 3) := by decide +kernel
theorem dX3_sumSets_74 : decode cX3_sumSets 74 = .ok (.iconst 1, 1) := by decide +kernel
theorem dX3_sumSets_75 : decode cX3_sumSets 75 = .ok (.goto 4, 3) := by decide +kernel
theorem dX3_sumSets_78 : decode cX3_sumSets 78 = .ok (.iconst 0, 1) := by decide +kernel
theorem dX3_sumSets_79 : decode cX3_sumSets 79 = .ok (.istore 8, 2) := by decide +kernel
theorem dX3_sumSets_81 : decode cX3_sumSets 81 = .ok (.aload_n 0, 1) := by decide +kernel
theorem dX3_sumSets_82 : decode cX3_sumSets 82 = .ok (.getfield 9, 3) := by decide +kernel
theorem dX3_sumSets_85 : decode cX3_sumSets 85 = .ok (.iload 7, 2) := by decide +kernel
theorem dX3_sumSets_87 : decode cX3_sumSets 87 = .ok (.iload_n 3, 1) := by decide +kernel
theorem dX3_sumSets_88 : decode cX3_sumSets 88 = .ok (.ior, 1) := by decide +kernel
theorem dX3_sumSets_89 : decode cX3_sumSets 89 = .ok (.iload 8, 2) := by decide +kernel
theorem dX3_sumSets_91 : decode cX3_sumSets 91 = .ok (.ifCond .eq 8, 3) := by decide +kernel
theorem dX3_sumSets_94 : decode cX3_sumSets 94 = .ok (.ldc 31, 2) := by decide +kernel
theorem dX3_sumSets_96 : decode cX3_sumSets 96 = .ok (.goto 18, 3) := by decide +kernel
theorem dX3_sumSets_99 : decode cX3_sumSets 99 = .ok (.ldc 31, 2) := by decide +kernel
theorem dX3_sumSets_101 : decode cX3_sumSets 101 = .ok (.aload_n 0, 1) := by decide +kernel
theorem dX3_sumSets_102 : decode cX3_sumSets 102 = .ok (.getfield 9, 3) := by decide +kernel
theorem dX3_sumSets_105 : decode cX3_sumSets 105 = .ok (.iload 7, 2) := by decide +kernel
theorem dX3_sumSets_107 : decode cX3_sumSets 107 = .ok (.iaload, 1) := by decide +kernel
theorem dX3_sumSets_108 : decode cX3_sumSets 108 = .ok (.iload 5, 2) := by decide +kernel
theorem dX3_sumSets_110 : decode cX3_sumSets 110 = .ok (.iadd, 1) := by decide +kernel
theorem dX3_sumSets_111 : decode cX3_sumSets 111 = .ok (.invokestatic 47, 3) := by decide +kernel
theorem dX3_sumSets_114 : decode cX3_sumSets 114 = .ok (.iastore, 1) := by decide +kernel
theorem dX3_sumSets_115 : decode cX3_sumSets 115 = .ok (.aload_n 0, 1) := by decide +kernel
theorem dX3_sumSets_116 : decode cX3_sumSets 116 = .ok (.getfield 15, 3) := by decide +kernel
theorem dX3_sumSets_119 : decode cX3_sumSets 119 = .ok (.iload 7, 2) := by decide +kernel
theorem dX3_sumSets_121 : decode cX3_sumSets 121 = .ok (.iload_n 3, 1) := by decide +kernel
theorem dX3_sumSets_122 : decode cX3_sumSets 122 = .ok (.ior, 1) := by decide +kernel
theorem dX3_sumSets_123 : decode cX3_sumSets 123 = .ok (.aload_n 0, 1) := by decide +kernel
theorem dX3_sumSets_124 : decode cX3_sumSets 124 = .ok (.getfield 15, 3) := by decide +kernel
theorem dX3_sumSets_127 : decode cX3_sumSets 127 = .ok (.iload 7, 2) := by decide +kernel
theorem dX3_sumSets_129 : decode cX3_sumSets 129 = .ok (.iaload, 1) := by decide +kernel
theorem dX3_sumSets_130 : decode cX3_sumSets 130 = .ok (.iload 6, 2) := by decide +kernel
theorem dX3_sumSets_132 : decode cX3_sumSets 132 = .ok (.iadd, 1) := by decide +kernel
theorem dX3_sumSets_133 : decode cX3_sumSets 133 = .ok (.iastore, 1) := by decide +kernel
theorem dX3_sumSets_134 : decode cX3_sumSets 134 = .ok (.iinc 7 1, 3) := by decide +kernel
theorem dX3_sumSets_137 : decode cX3_sumSets 137 = .ok (.goto (-77), 3) := by decide +kernel
theorem dX3_sumSets_140 : decode cX3_sumSets 140 = .ok (.iinc 2 1, 3) := by decide +kernel
theorem dX3_sumSets_143 : decode cX3_sumSets 143 = .ok (.goto (-127), 3) := by decide +kernel
theorem dX3_sumSets_146 : decode cX3_sumSets 146 = .ok (.return_, 1) := by decide +kernel
