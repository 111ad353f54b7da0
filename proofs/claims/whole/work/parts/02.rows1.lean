theorem dX0_init_0 : decode cX0_init 0 = .ok (.aload_n 0, 1) := by decide +kernel
theorem dX0_init_1 : decode cX0_init 1 = .ok (.invokespecial 1, 3) := by decide +kernel
theorem dX0_init_4 : decode cX0_init 4 = .ok (.aload_n 0, 1) := by decide +kernel
theorem dX0_init_5 : decode cX0_init 5 = .ok (.bipush 24, 2) := by decide +kernel
theorem dX0_init_7 : decode cX0_init 7 = .ok (.newarray .int, 2) := by decide +kernel
theorem dX0_init_9 : decode cX0_init 9 = .ok (.putfield 9, 3) := by decide +kernel
theorem dX0_init_12 : decode cX0_init 12 = .ok (.aload_n 0, 1) := by decide +kernel
theorem dX0_init_13 : decode cX0_init 13 = .ok (.bipush 24, 2) := by decide +kernel
theorem dX0_init_15 : decode cX0_init 15 = .ok (.newarray .int, 2) := by decide +kernel
theorem dX0_init_17 : decode cX0_init 17 = .ok (.putfield 13, 3) := by decide +kernel
theorem dX0_init_20 : decode cX0_init 20 = .ok (.return_, 1) := by decide +kernel
set_option maxRecDepth 20000 in
theorem ggX0_keep_X0_forgetOldest : GoodIn wsX0_keep wsX0_forgetOldest := goodIn_r _ [8, 2, 9, 10, 11, 12, 3, 1, 13, 14, 15] (by decide +kernel) (by decide +kernel)
set_option maxRecDepth 20000 in
theorem gX0_keep_X0_forgetOldest : GoodIn wsX0_keep (wsV RX0 20 RX0 yX0_forgetOldest wsX0_forgetOldest) := goodIn_app (goodIn_of _ (by decide +kernel)) ggX0_keep_X0_forgetOldest
theorem dX0_keep_0 : decode cX0_keep 0 = .ok (.aload_n 0, 1) := by decide +kernel
theorem dX0_keep_1 : decode cX0_keep 1 = .ok (.getfield 16, 3) := by decide +kernel
theorem dX0_keep_4 : decode cX0_keep 4 = .ok (.bipush 24, 2) := by decide +kernel
theorem dX0_keep_6 : decode cX0_keep 6 = .ok (.if_icmp .lt 7, 3) := by decide +kernel
theorem dX0_keep_9 : decode cX0_keep 9 = .ok (.aload_n 0, 1) := by decide +kernel
theorem dX0_keep_10 : decode cX0_keep 10 = .ok (.invokevirtual 20, 3) := by decide +kernel
theorem dX0_keep_13 : decode cX0_keep 13 = .ok (.aload_n 0, 1) := by decide +kernel
theorem dX0_keep_14 : decode cX0_keep 14 = .ok (.getfield 16, 3) := by decide +kernel
theorem dX0_keep_17 : decode cX0_keep 17 = .ok (.ifCond .lt 42, 3) := by decide +kernel
theorem dX0_keep_20 : decode cX0_keep 20 = .ok (.aload_n 0, 1) := by decide +kernel
theorem dX0_keep_21 : decode cX0_keep 21 = .ok (.getfield 16, 3) := by decide +kernel
theorem dX0_keep_24 : decode cX0_keep 24 = .ok (.bipush 24, 2) := by decide +kernel
theorem dX0_keep_26 : decode cX0_keep 26 = .ok (.if_icmp .ge 33, 3) := by decide +kernel
theorem dX0_keep_29 : decode cX0_keep 29 = .ok (.aload_n 0, 1) := by decide +kernel
theorem dX0_keep_30 : decode cX0_keep 30 = .ok (.getfield 9, 3) := by decide +kernel
theorem dX0_keep_33 : decode cX0_keep 33 = .ok (.aload_n 0, 1) := by decide +kernel
theorem dX0_keep_34 : decode cX0_keep 34 = .ok (.getfield 16, 3) := by decide +kernel
theorem dX0_keep_37 : decode cX0_keep 37 = .ok (.iload_n 1, 1) := by decide +kernel
theorem dX0_keep_38 : decode cX0_keep 38 = .ok (.iastore, 1) := by decide +kernel
theorem dX0_keep_39 : decode cX0_keep 39 = .ok (.aload_n 0, 1) := by decide +kernel
theorem dX0_keep_40 : decode cX0_keep 40 = .ok (.getfield 13, 3) := by decide +kernel
theorem dX0_keep_43 : decode cX0_keep 43 = .ok (.aload_n 0, 1) := by decide +kernel
theorem dX0_keep_44 : decode cX0_keep 44 = .ok (.getfield 16, 3) := by decide +kernel
theorem dX0_keep_47 : decode cX0_keep 47 = .ok (.iload_n 2, 1) := by decide +kernel
theorem dX0_keep_48 : decode cX0_keep 48 = .ok (.iastore, 1) := by decide +kernel
theorem dX0_keep_49 : decode cX0_keep 49 = .ok (.aload_n 0, 1) := by decide +kernel
theorem dX0_keep_50 : decode cX0_keep 50 = .ok (.dup, 1) := by decide +kernel
theorem dX0_keep_51 : decode cX0_keep 51 = .ok (.getfield 16, 3) := by decide +kernel
theorem dX0_keep_54 : decode cX0_keep 54 = .ok (.iconst 1, 1) := by decide +kernel
theorem dX0_keep_55 : decode cX0_keep 55 = .ok (.iadd, 1) := by decide +kernel
theorem dX0_keep_56 : decode cX0_keep 56 = .ok (.putfield 16, 3) := by decide +kernel
theorem dX0_keep_59 : decode cX0_keep 59 = .ok (.return_, 1) := by decide +kernel
theorem dX0_forgetOldest_0 : decode cX0_forgetOldest 0 = .ok (.aload_n 0, 1) := by decide +kernel
theorem dX0_forgetOldest_1 : decode cX0_forgetOldest 1 = .ok (.getfield 9, 3) := by decide +kernel
theorem dX0_forgetOldest_4 : decode cX0_forgetOldest 4 = .ok (.iconst 1, 1) := by decide +kernel
theorem dX0_forgetOldest_5 : decode cX0_forgetOldest 5 = .ok (.aload_n 0, 1) := by decide +kernel
theorem dX0_forgetOldest_6 : decode cX0_forgetOldest 6 = .ok (.getfield 9, 3) := by decide +kernel
theorem dX0_forgetOldest_9 : decode cX0_forgetOldest 9 = .ok (.iconst 0, 1) := by decide +kernel
theorem dX0_forgetOldest_10 : decode cX0_forgetOldest 10 = .ok (.bipush 23, 2) := by decide +kernel
theorem dX0_forgetOldest_12 : decode cX0_forgetOldest 12 = .ok (.invokestatic 23, 3) := by decide +kernel
theorem dX0_forgetOldest_15 : decode cX0_forgetOldest 15 = .ok (.aload_n 0, 1) := by decide +kernel
theorem dX0_forgetOldest_16 : decode cX0_forgetOldest 16 = .ok (.getfield 13, 3) := by decide +kernel
theorem dX0_forgetOldest_19 : decode cX0_forgetOldest 19 = .ok (.iconst 1, 1) := by decide +kernel
theorem dX0_forgetOldest_20 : decode cX0_forgetOldest 20 = .ok (.aload_n 0, 1) := by decide +kernel
theorem dX0_forgetOldest_21 : decode cX0_forgetOldest 21 = .ok (.getfield 13, 3) := by decide +kernel
theorem dX0_forgetOldest_24 : decode cX0_forgetOldest 24 = .ok (.iconst 0, 1) := by decide +kernel
theorem dX0_forgetOldest_25 : decode cX0_forgetOldest 25 = .ok (.bipush 23, 2) := by decide +kernel
theorem dX0_forgetOldest_27 : decode cX0_forgetOldest 27 = .ok (.invokestatic 23, 3) := by decide +kernel
theorem dX0_forgetOldest_30 : decode cX0_forgetOldest 30 = .ok (.aload_n 0, 1) := by decide +kernel
theorem dX0_forgetOldest_31 : decode cX0_forgetOldest 31 = .ok (.bipush 23, 2) := by decide +kernel
theorem dX0_forgetOldest_33 : decode cX0_forgetOldest 33 = .ok (.putfield 16, 3) := by decide +kernel
theorem dX0_forgetOldest_36 : decode cX0_forgetOldest 36 = .ok (.return_, 1) := by decide +kernel
set_option maxRecDepth 20000 in
theorem ggX0_lastHand_X7_isWithin : GoodIn wsX0_lastHand wsX7_isWithin := goodIn_r _ [5] (by decide +kernel) (by decide +kernel)
set_option maxRecDepth 20000 in
theorem gX0_lastHand_X7_isWithin_n29 : GoodIn wsX0_lastHand (wsX7_isWithin) := ggX0_lastHand_X7_isWithin
theorem dX0_lastHand_0 : decode cX0_lastHand 0 = .ok (.aload_n 0, 1) := by decide +kernel
theorem dX0_lastHand_1 : decode cX0_lastHand 1 = .ok (.getfield 16, 3) := by decide +kernel
theorem dX0_lastHand_4 : decode cX0_lastHand 4 = .ok (.iconst 1, 1) := by decide +kernel
theorem dX0_lastHand_5 : decode cX0_lastHand 5 = .ok (.bipush 24, 2) := by decide +kernel
theorem dX0_lastHand_7 : decode cX0_lastHand 7 = .ok (.invokestatic 29, 3) := by decide +kernel
theorem dX0_lastHand_10 : decode cX0_lastHand 10 = .ok (.ifCond .eq 17, 3) := by decide +kernel
theorem dX0_lastHand_13 : decode cX0_lastHand 13 = .ok (.aload_n 0, 1) := by decide +kernel
theorem dX0_lastHand_14 : decode cX0_lastHand 14 = .ok (.getfield 9, 3) := by decide +kernel
theorem dX0_lastHand_17 : decode cX0_lastHand 17 = .ok (.aload_n 0, 1) := by decide +kernel
theorem dX0_lastHand_18 : decode cX0_lastHand 18 = .ok (.getfield 16, 3) := by decide +kernel
theorem dX0_lastHand_21 : decode cX0_lastHand 21 = .ok (.iconst 1, 1) := by decide +kernel
theorem dX0_lastHand_22 : decode cX0_lastHand 22 = .ok (.isub, 1) := by decide +kernel
theorem dX0_lastHand_23 : decode cX0_lastHand 23 = .ok (.iaload, 1) := by decide +kernel
theorem dX0_lastHand_24 : decode cX0_lastHand 24 = .ok (.goto 4, 3) := by decide +kernel
theorem dX0_lastHand_27 : decode cX0_lastHand 27 = .ok (.iconst 0, 1) := by decide +kernel
theorem dX0_lastHand_28 : decode cX0_lastHand 28 = .ok (.ireturn, 1) := by decide +kernel
set_option maxRecDepth 20000 in
theorem ggX0_lastSlip_X7_isWithin : GoodIn wsX0_lastSlip wsX7_isWithin := goodIn_r _ [5] (by decide +kernel) (by decide +kernel)
set_option maxRecDepth 20000 in
theorem gX0_lastSlip_X7_isWithin_n29 : GoodIn wsX0_lastSlip (wsX7_isWithin) := ggX0_lastSlip_X7_isWithin
theorem dX0_lastSlip_0 : decode cX0_lastSlip 0 = .ok (.aload_n 0, 1) := by decide +kernel
theorem dX0_lastSlip_1 : decode cX0_lastSlip 1 = .ok (.getfield 16, 3) := by decide +kernel
theorem dX0_lastSlip_4 : decode cX0_lastSlip 4 = .ok (.iconst 1, 1) := by decide +kernel
theorem dX0_lastSlip_5 : decode cX0_lastSlip 5 = .ok (.bipush 24, 2) := by decide +kernel
theorem dX0_lastSlip_7 : decode cX0_lastSlip 7 = .ok (.invokestatic 29, 3) := by decide +kernel
theorem dX0_lastSlip_10 : decode cX0_lastSlip 10 = .ok (.ifCond .eq 17, 3) := by decide +kernel
theorem dX0_lastSlip_13 : decode cX0_lastSlip 13 = .ok (.aload_n 0, 1) := by decide +kernel
theorem dX0_lastSlip_14 : decode cX0_lastSlip 14 = .ok (.getfield 13, 3) := by decide +kernel
theorem dX0_lastSlip_17 : decode cX0_lastSlip 17 = .ok (.aload_n 0, 1) := by decide +kernel
theorem dX0_lastSlip_18 : decode cX0_lastSlip 18 = .ok (.getfield 16, 3) := by decide +kernel
theorem dX0_lastSlip_21 : decode cX0_lastSlip 21 = .ok (.iconst 1, 1) := by decide +kernel
theorem dX0_lastSlip_22 : decode cX0_lastSlip 22 = .ok (.isub, 1) := by decide +kernel
theorem dX0_lastSlip_23 : decode cX0_lastSlip 23 = .ok (.iaload, 1) := by decide +kernel
theorem dX0_lastSlip_24 : decode cX0_lastSlip 24 = .ok (.goto 4, 3) := by decide +kernel
theorem dX0_lastSlip_27 : decode cX0_lastSlip 27 = .ok (.iconst 0, 1) := by decide +kernel
theorem dX0_lastSlip_28 : decode cX0_lastSlip 28 = .ok (.ireturn, 1) := by decide +kernel
theorem dX1_init_0 : decode cX1_init 0 = .ok (.aload_n 0, 1) := by decide +kernel
theorem dX1_init_1 : decode cX1_init 1 = .ok (.invokespecial 3, 3) := by decide +kernel
theorem dX1_init_4 : decode cX1_init 4 = .ok (.aload_n 0, 1) := by decide +kernel
theorem dX1_init_5 : decode cX1_init 5 = .ok (.bipush 16, 2) := by decide +kernel
theorem dX1_init_7 : decode cX1_init 7 = .ok (.newarray .int, 2) := by decide +kernel
theorem dX1_init_9 : decode cX1_init 9 = .ok (.putfield 11, 3) := by decide +kernel
theorem dX1_init_12 : decode cX1_init 12 = .ok (.return_, 1) := by decide +kernel
theorem dX1_leave_0 : decode cX1_leave 0 = .ok (.aload_n 0, 1) := by decide +kernel
theorem dX1_leave_1 : decode cX1_leave 1 = .ok (.getfield 15, 3) := by decide +kernel
theorem dX1_leave_4 : decode cX1_leave 4 = .ok (.ifCond .lt 32, 3) := by decide +kernel
theorem dX1_leave_7 : decode cX1_leave 7 = .ok (.aload_n 0, 1) := by decide +kernel
theorem dX1_leave_8 : decode cX1_leave 8 = .ok (.getfield 15, 3) := by decide +kernel
theorem dX1_leave_11 : decode cX1_leave 11 = .ok (.bipush 16, 2) := by decide +kernel
theorem dX1_leave_13 : decode cX1_leave 13 = .ok (.if_icmp .ge 23, 3) := by decide +kernel
theorem dX1_leave_16 : decode cX1_leave 16 = .ok (.aload_n 0, 1) := by decide +kernel
theorem dX1_leave_17 : decode cX1_leave 17 = .ok (.getfield 11, 3) := by decide +kernel
theorem dX1_leave_20 : decode cX1_leave 20 = .ok (.aload_n 0, 1) := by decide +kernel
theorem dX1_leave_21 : decode cX1_leave 21 = .ok (.getfield 15, 3) := by decide +kernel
theorem dX1_leave_24 : decode cX1_leave 24 = .ok (.iload_n 1, 1) := by decide +kernel
theorem dX1_leave_25 : decode cX1_leave 25 = .ok (.iastore, 1) := by decide +kernel
theorem dX1_leave_26 : decode cX1_leave 26 = .ok (.aload_n 0, 1) := by decide +kernel
theorem dX1_leave_27 : decode cX1_leave 27 = .ok (.dup, 1) := by decide +kernel
theorem dX1_leave_28 : decode cX1_leave 28 = .ok (.getfield 15, 3) := by decide +kernel
theorem dX1_leave_31 : decode cX1_leave 31 = .ok (.iconst 1, 1) := by decide +kernel
theorem dX1_leave_32 : decode cX1_leave 32 = .ok (.iadd, 1) := by decide +kernel
theorem dX1_leave_33 : decode cX1_leave 33 = .ok (.putfield 15, 3) := by decide +kernel
theorem dX1_leave_36 : decode cX1_leave 36 = .ok (.return_, 1) := by decide +kernel
theorem dX1_numberAt_0 : decode cX1_numberAt 0 = .ok (.iload_n 1, 1) := by decide +kernel
theorem dX1_numberAt_1 : decode cX1_numberAt 1 = .ok (.ifCond .lt 26, 3) := by decide +kernel
theorem dX1_numberAt_4 : decode cX1_numberAt 4 = .ok (.iload_n 1, 1) := by decide +kernel
theorem dX1_numberAt_5 : decode cX1_numberAt 5 = .ok (.aload_n 0, 1) := by decide +kernel
theorem dX1_numberAt_6 : decode cX1_numberAt 6 = .ok (.getfield 15, 3) := by decide +kernel
theorem dX1_numberAt_9 : decode cX1_numberAt 9 = .ok (.if_icmp .ge 18, 3) := by decide +kernel
theorem dX1_numberAt_12 : decode cX1_numberAt 12 = .ok (.iload_n 1, 1) := by decide +kernel
theorem dX1_numberAt_13 : decode cX1_numberAt 13 = .ok (.bipush 16, 2) := by decide +kernel
theorem dX1_numberAt_15 : decode cX1_numberAt 15 = .ok (.if_icmp .ge 12, 3) := by decide +kernel
theorem dX1_numberAt_18 : decode cX1_numberAt 18 = .ok (.aload_n 0, 1) := by decide +kernel
theorem dX1_numberAt_19 : decode cX1_numberAt 19 = .ok (.getfield 11, 3) := by decide +kernel
theorem dX1_numberAt_22 : decode cX1_numberAt 22 = .ok (.iload_n 1, 1) := by decide +kernel
theorem dX1_numberAt_23 : decode cX1_numberAt 23 = .ok (.iaload, 1) := by decide +kernel
theorem dX1_numberAt_24 : decode cX1_numberAt 24 = .ok (.goto 5, 3) := by decide +kernel
theorem dX1_numberAt_27 : decode cX1_numberAt 27 = .ok (.ldc 19, 2) := by decide +kernel
theorem dX1_numberAt_29 : decode cX1_numberAt 29 = .ok (.ireturn, 1) := by decide +kernel
set_option maxRecDepth 20000 in
theorem ggX1_lentSize_X1_leave : GoodIn wsX1_lentSize wsX1_leave := goodIn_r _ [5, 6, 7, 19, 20] (by decide +kernel) (by decide +kernel)
set_option maxRecDepth 20000 in
theorem gX1_lentSize_X1_leave : GoodIn wsX1_lentSize (wsV RX1 20 RX1 yX1_leave wsX1_leave) := goodIn_app (goodIn_of _ (by decide +kernel)) ggX1_lentSize_X1_leave
set_option maxRecDepth 20000 in
theorem ggX1_lentSize_X2_turnsOf : GoodIn wsX1_lentSize wsX2_turnsOf := goodIn_r _ [12, 13, 14, 15, 16, 11, 17, 18, 21, 22, 23, 24, 25] (by decide +kernel) (by decide +kernel)
set_option maxRecDepth 20000 in
theorem gX1_lentSize_X2_turnsOf : GoodIn wsX1_lentSize (wsV RX1 24 RX2 yX2_turnsOf wsX2_turnsOf) := goodIn_app (goodIn_of _ (by decide +kernel)) ggX1_lentSize_X2_turnsOf
theorem dX1_lentSize_0 : decode cX1_lentSize 0 = .ok (.aload_n 0, 1) := by decide +kernel
theorem dX1_lentSize_1 : decode cX1_lentSize 1 = .ok (.bipush 10, 2) := by decide +kernel
theorem dX1_lentSize_3 : decode cX1_lentSize 3 = .ok (.invokevirtual 20, 3) := by decide +kernel
theorem dX1_lentSize_6 : decode cX1_lentSize 6 = .ok (.aload_n 1, 1) := by decide +kernel
theorem dX1_lentSize_7 : decode cX1_lentSize 7 = .ok (.iload_n 2, 1) := by decide +kernel
theorem dX1_lentSize_8 : decode cX1_lentSize 8 = .ok (.invokevirtual 24, 3) := by decide +kernel
theorem dX1_lentSize_11 : decode cX1_lentSize 11 = .ok (.ireturn, 1) := by decide +kernel
set_option maxRecDepth 20000 in
theorem ggX1_lentMark_X1_leave : GoodIn wsX1_lentMark wsX1_leave := goodIn_r _ [5, 6, 7, 8, 9] (by decide +kernel) (by decide +kernel)
set_option maxRecDepth 20000 in
theorem gX1_lentMark_X1_leave : GoodIn wsX1_lentMark (wsV RX1 20 RX1 yX1_leave wsX1_leave) := goodIn_app (goodIn_of _ (by decide +kernel)) ggX1_lentMark_X1_leave
theorem dX1_lentMark_0 : decode cX1_lentMark 0 = .ok (.aload_n 0, 1) := by decide +kernel
theorem dX1_lentMark_1 : decode cX1_lentMark 1 = .ok (.bipush 20, 2) := by decide +kernel
theorem dX1_lentMark_3 : decode cX1_lentMark 3 = .ok (.invokevirtual 20, 3) := by decide +kernel
theorem dX1_lentMark_6 : decode cX1_lentMark 6 = .ok (.iload_n 1, 1) := by decide +kernel
theorem dX1_lentMark_7 : decode cX1_lentMark 7 = .ok (.ireturn, 1) := by decide +kernel
set_option maxRecDepth 20000 in
theorem ggX1_hourSize_X1_leave : GoodIn wsX1_hourSize wsX1_leave := goodIn_r _ [5, 6, 7, 45, 46] (by decide +kernel) (by decide +kernel)
set_option maxRecDepth 20000 in
theorem gX1_hourSize_X1_leave : GoodIn wsX1_hourSize (wsV RX1 20 RX1 yX1_leave wsX1_leave) := goodIn_app (goodIn_of _ (by decide +kernel)) ggX1_hourSize_X1_leave
set_option maxRecDepth 20000 in
theorem ggX1_hourSize_X1_lentSize : GoodIn wsX1_hourSize wsX1_lentSize := goodIn_r _ [11, 1, 2, 3, 4, 5, 6, 7, 12, 13, 14, 15, 16, 17, 18, 19, 20, 21, 22, 45, 46, 47, 48, 49, 50, 51] (by decide +kernel) (by decide +kernel)
set_option maxRecDepth 20000 in
theorem gX1_hourSize_X1_lentSize : GoodIn wsX1_hourSize (wsV RX1 30 RX1 yX1_lentSize wsX1_lentSize) := goodIn_app (goodIn_of _ (by decide +kernel)) ggX1_hourSize_X1_lentSize
set_option maxRecDepth 20000 in
theorem ggX1_hourSize_X1_markOfHours : GoodIn wsX1_hourSize wsX1_markOfHours := goodIn_r _ [26, 27, 28, 29, 15, 30, 31, 18, 19, 20, 21, 22, 1, 2, 3, 4, 5, 6, 7, 32, 33, 34, 35, 36, 37, 38, 39, 40, 41, 42, 43, 44, 47, 48, 49, 50, 51, 45, 46] (by decide +kernel) (by decide +kernel)
set_option maxRecDepth 20000 in
theorem gX1_hourSize_X1_markOfHours : GoodIn wsX1_hourSize (wsV RX1 34 RX1 yX1_markOfHours wsX1_markOfHours) := goodIn_app (goodIn_of _ (by decide +kernel)) ggX1_hourSize_X1_markOfHours
theorem dX1_hourSize_0 : decode cX1_hourSize 0 = .ok (.aload_n 0, 1) := by decide +kernel
theorem dX1_hourSize_1 : decode cX1_hourSize 1 = .ok (.bipush 11, 2) := by decide +kernel
theorem dX1_hourSize_3 : decode cX1_hourSize 3 = .ok (.invokevirtual 20, 3) := by decide +kernel
theorem dX1_hourSize_6 : decode cX1_hourSize 6 = .ok (.aload_n 0, 1) := by decide +kernel
theorem dX1_hourSize_7 : decode cX1_hourSize 7 = .ok (.aload_n 1, 1) := by decide +kernel
theorem dX1_hourSize_8 : decode cX1_hourSize 8 = .ok (.iload_n 2, 1) := by decide +kernel
theorem dX1_hourSize_9 : decode cX1_hourSize 9 = .ok (.invokevirtual 30, 3) := by decide +kernel
theorem dX1_hourSize_12 : decode cX1_hourSize 12 = .ok (.istore_n 3, 1) := by decide +kernel
theorem dX1_hourSize_13 : decode cX1_hourSize 13 = .ok (.iload_n 3, 1) := by decide +kernel
theorem dX1_hourSize_14 : decode cX1_hourSize 14 = .ok (.aload_n 0, 1) := by decide +kernel
theorem dX1_hourSize_15 : decode cX1_hourSize 15 = .ok (.aload_n 1, 1) := by decide +kernel
theorem dX1_hourSize_16 : decode cX1_hourSize 16 = .ok (.iload_n 2, 1) := by decide +kernel
theorem dX1_hourSize_17 : decode cX1_hourSize 17 = .ok (.invokevirtual 34, 3) := by decide +kernel
theorem dX1_hourSize_20 : decode cX1_hourSize 20 = .ok (.iadd, 1) := by decide +kernel
theorem dX1_hourSize_21 : decode cX1_hourSize 21 = .ok (.ireturn, 1) := by decide +kernel
set_option maxRecDepth 20000 in
theorem ggX1_hourMark_X1_leave : GoodIn wsX1_hourMark wsX1_leave := goodIn_r _ [5, 6, 7, 23, 24] (by decide +kernel) (by decide +kernel)
set_option maxRecDepth 20000 in
theorem gX1_hourMark_X1_leave : GoodIn wsX1_hourMark (wsV RX1 20 RX1 yX1_leave wsX1_leave) := goodIn_app (goodIn_of _ (by decide +kernel)) ggX1_hourMark_X1_leave
set_option maxRecDepth 20000 in
theorem ggX1_hourMark_X1_lentMark : GoodIn wsX1_hourMark wsX1_lentMark := goodIn_r _ [11, 1, 2, 3, 4, 5, 6, 7, 23, 24] (by decide +kernel) (by decide +kernel)
set_option maxRecDepth 20000 in
theorem gX1_hourMark_X1_lentMark : GoodIn wsX1_hourMark (wsV RX1 37 RX1 yX1_lentMark wsX1_lentMark) := goodIn_app (goodIn_of _ (by decide +kernel)) ggX1_hourMark_X1_lentMark
set_option maxRecDepth 20000 in
theorem ggX1_hourMark_X2_slipOf : GoodIn wsX1_hourMark wsX2_slipOf := goodIn_r _ [16, 17, 18, 19, 20, 15, 21, 22, 25, 26, 27, 28, 29] (by decide +kernel) (by decide +kernel)
set_option maxRecDepth 20000 in
theorem gX1_hourMark_X2_slipOf : GoodIn wsX1_hourMark (wsV RX1 40 RX2 yX2_slipOf wsX2_slipOf) := goodIn_app (goodIn_of _ (by decide +kernel)) ggX1_hourMark_X2_slipOf
theorem dX1_hourMark_0 : decode cX1_hourMark 0 = .ok (.aload_n 0, 1) := by decide +kernel
theorem dX1_hourMark_1 : decode cX1_hourMark 1 = .ok (.bipush 21, 2) := by decide +kernel
theorem dX1_hourMark_3 : decode cX1_hourMark 3 = .ok (.invokevirtual 20, 3) := by decide +kernel
theorem dX1_hourMark_6 : decode cX1_hourMark 6 = .ok (.aload_n 0, 1) := by decide +kernel
theorem dX1_hourMark_7 : decode cX1_hourMark 7 = .ok (.iload_n 2, 1) := by decide +kernel
theorem dX1_hourMark_8 : decode cX1_hourMark 8 = .ok (.invokevirtual 37, 3) := by decide +kernel
theorem dX1_hourMark_11 : decode cX1_hourMark 11 = .ok (.aload_n 1, 1) := by decide +kernel
theorem dX1_hourMark_12 : decode cX1_hourMark 12 = .ok (.iload_n 2, 1) := by decide +kernel
theorem dX1_hourMark_13 : decode cX1_hourMark 13 = .ok (.invokevirtual 40, 3) := by decide +kernel
theorem dX1_hourMark_16 : decode cX1_hourMark 16 = .ok (.iadd, 1) := by decide +kernel
theorem dX1_hourMark_17 : decode cX1_hourMark 17 = .ok (.ireturn, 1) := by decide +kernel
set_option maxRecDepth 20000 in
theorem ggX1_backSize_X1_leave : GoodIn wsX1_backSize wsX1_leave := goodIn_r _ [5, 6, 7, 23, 24] (by decide +kernel) (by decide +kernel)
set_option maxRecDepth 20000 in
theorem gX1_backSize_X1_leave : GoodIn wsX1_backSize (wsV RX1 20 RX1 yX1_leave wsX1_leave) := goodIn_app (goodIn_of _ (by decide +kernel)) ggX1_backSize_X1_leave
set_option maxRecDepth 20000 in
theorem ggX1_backSize_X1_lentSize : GoodIn wsX1_backSize wsX1_lentSize := goodIn_r _ [11, 1, 2, 3, 4, 5, 6, 7, 12, 13, 14, 15, 16, 17, 18, 19, 20, 21, 22, 23, 24, 25, 26, 27, 28, 29] (by decide +kernel) (by decide +kernel)
set_option maxRecDepth 20000 in
theorem gX1_backSize_X1_lentSize : GoodIn wsX1_backSize (wsV RX1 30 RX1 yX1_lentSize wsX1_lentSize) := goodIn_app (goodIn_of _ (by decide +kernel)) ggX1_backSize_X1_lentSize
theorem dX1_backSize_0 : decode cX1_backSize 0 = .ok (.aload_n 0, 1) := by decide +kernel
theorem dX1_backSize_1 : decode cX1_backSize 1 = .ok (.bipush 13, 2) := by decide +kernel
theorem dX1_backSize_3 : decode cX1_backSize 3 = .ok (.invokevirtual 20, 3) := by decide +kernel
theorem dX1_backSize_6 : decode cX1_backSize 6 = .ok (.aload_n 0, 1) := by decide +kernel
theorem dX1_backSize_7 : decode cX1_backSize 7 = .ok (.aload_n 1, 1) := by decide +kernel
theorem dX1_backSize_8 : decode cX1_backSize 8 = .ok (.iload_n 2, 1) := by decide +kernel
theorem dX1_backSize_9 : decode cX1_backSize 9 = .ok (.invokevirtual 30, 3) := by decide +kernel
theorem dX1_backSize_12 : decode cX1_backSize 12 = .ok (.bipush 100, 2) := by decide +kernel
theorem dX1_backSize_14 : decode cX1_backSize 14 = .ok (.isub, 1) := by decide +kernel
theorem dX1_backSize_15 : decode cX1_backSize 15 = .ok (.ireturn, 1) := by decide +kernel
set_option maxRecDepth 20000 in
theorem ggX1_sizeOfHours_X2_sortOf : GoodIn wsX1_sizeOfHours wsX2_sortOf := goodIn_r _ [5, 6, 7, 8, 9, 4, 10, 11, 49, 50, 51, 52, 53] (by decide +kernel) (by decide +kernel)
set_option maxRecDepth 20000 in
theorem gX1_sizeOfHours_X2_sortOf : GoodIn wsX1_sizeOfHours (wsV RX1 43 RX2 yX2_sortOf wsX2_sortOf) := goodIn_app (goodIn_of _ (by decide +kernel)) ggX1_sizeOfHours_X2_sortOf
set_option maxRecDepth 20000 in
theorem ggX1_sizeOfHours_X1_leave : GoodIn wsX1_sizeOfHours wsX1_leave := goodIn_r _ [16, 17, 18, 54, 55] (by decide +kernel) (by decide +kernel)
set_option maxRecDepth 20000 in
theorem gX1_sizeOfHours_X1_leave : GoodIn wsX1_sizeOfHours (wsV RX1 20 RX1 yX1_leave wsX1_leave) := goodIn_app (goodIn_of _ (by decide +kernel)) ggX1_sizeOfHours_X1_leave
set_option maxRecDepth 20000 in
theorem ggX1_sizeOfHours_X1_hourSize : GoodIn wsX1_sizeOfHours wsX1_hourSize := goodIn_r _ [22, 12, 13, 14, 15, 16, 17, 18, 23, 24, 25, 26, 27, 28, 29, 4, 30, 31, 7, 8, 9, 10, 11, 32, 33, 34, 35, 1, 2, 3, 5, 6, 36, 37, 38, 39, 40, 41, 42, 43, 44, 45, 46, 47, 48, 54, 55, 49, 50, 51, 52, 53] (by decide +kernel) (by decide +kernel)
set_option maxRecDepth 20000 in
theorem gX1_sizeOfHours_X1_hourSize : GoodIn wsX1_sizeOfHours (wsV RX1 46 RX1 yX1_hourSize wsX1_hourSize) := goodIn_app (goodIn_of _ (by decide +kernel)) ggX1_sizeOfHours_X1_hourSize
theorem dX1_sizeOfHours_0 : decode cX1_sizeOfHours 0 = .ok (.aload_n 1, 1) := by decide +kernel
theorem dX1_sizeOfHours_1 : decode cX1_sizeOfHours 1 = .ok (.iload_n 2, 1) := by decide +kernel
theorem dX1_sizeOfHours_2 : decode cX1_sizeOfHours 2 = .ok (.invokevirtual 43, 3) := by decide +kernel
theorem dX1_sizeOfHours_5 : decode cX1_sizeOfHours 5 = .ok (.iconst 2, 1) := by decide +kernel
theorem dX1_sizeOfHours_6 : decode cX1_sizeOfHours 6 = .ok (.if_icmp .ne 17, 3) := by decide +kernel
theorem dX1_sizeOfHours_9 : decode cX1_sizeOfHours 9 = .ok (.aload_n 0, 1) := by decide +kernel
theorem dX1_sizeOfHours_10 : decode cX1_sizeOfHours 10 = .ok (.bipush 12, 2) := by decide +kernel
theorem dX1_sizeOfHours_12 : decode cX1_sizeOfHours 12 = .ok (.invokevirtual 20, 3) := by decide +kernel
theorem dX1_sizeOfHours_15 : decode cX1_sizeOfHours 15 = .ok (.aload_n 0, 1) := by decide +kernel
theorem dX1_sizeOfHours_16 : decode cX1_sizeOfHours 16 = .ok (.aload_n 1, 1) := by decide +kernel
theorem dX1_sizeOfHours_17 : decode cX1_sizeOfHours 17 = .ok (.iload_n 2, 1) := by decide +kernel
theorem dX1_sizeOfHours_18 : decode cX1_sizeOfHours 18 = .ok (.invokevirtual 46, 3) := by decide +kernel
theorem dX1_sizeOfHours_21 : decode cX1_sizeOfHours 21 = .ok (.ineg, 1) := by decide +kernel
theorem dX1_sizeOfHours_22 : decode cX1_sizeOfHours 22 = .ok (.ireturn, 1) := by decide +kernel
theorem dX1_sizeOfHours_23 : decode cX1_sizeOfHours 23 = .ok (.aload_n 0, 1) := by decide +kernel
theorem dX1_sizeOfHours_24 : decode cX1_sizeOfHours 24 = .ok (.aload_n 1, 1) := by decide +kernel
theorem dX1_sizeOfHours_25 : decode cX1_sizeOfHours 25 = .ok (.iload_n 2, 1) := by decide +kernel
theorem dX1_sizeOfHours_26 : decode cX1_sizeOfHours 26 = .ok (.invokevirtual 46, 3) := by decide +kernel
theorem dX1_sizeOfHours_29 : decode cX1_sizeOfHours 29 = .ok (.ireturn, 1) := by decide +kernel
set_option maxRecDepth 20000 in
theorem ggX1_markOfHours_X2_sortOf : GoodIn wsX1_markOfHours wsX2_sortOf := goodIn_r _ [5, 6, 7, 8, 9, 4, 10, 11, 32, 33, 34, 35, 36] (by decide +kernel) (by decide +kernel)
set_option maxRecDepth 20000 in
theorem gX1_markOfHours_X2_sortOf : GoodIn wsX1_markOfHours (wsV RX1 43 RX2 yX2_sortOf wsX2_sortOf) := goodIn_app (goodIn_of _ (by decide +kernel)) ggX1_markOfHours_X2_sortOf
set_option maxRecDepth 20000 in
theorem ggX1_markOfHours_X1_leave : GoodIn wsX1_markOfHours wsX1_leave := goodIn_r _ [16, 17, 18, 37, 38] (by decide +kernel) (by decide +kernel)
set_option maxRecDepth 20000 in
theorem gX1_markOfHours_X1_leave : GoodIn wsX1_markOfHours (wsV RX1 20 RX1 yX1_leave wsX1_leave) := goodIn_app (goodIn_of _ (by decide +kernel)) ggX1_markOfHours_X1_leave
set_option maxRecDepth 20000 in
theorem ggX1_markOfHours_X1_hourMark : GoodIn wsX1_markOfHours wsX1_hourMark := goodIn_r _ [22, 12, 13, 14, 15, 16, 17, 18, 23, 24, 25, 26, 27, 28, 29, 4, 30, 31, 7, 8, 9, 10, 11, 37, 38, 32, 33, 34, 35, 36] (by decide +kernel) (by decide +kernel)
set_option maxRecDepth 20000 in
theorem gX1_markOfHours_X1_hourMark : GoodIn wsX1_markOfHours (wsV RX1 49 RX1 yX1_hourMark wsX1_hourMark) := goodIn_app (goodIn_of _ (by decide +kernel)) ggX1_markOfHours_X1_hourMark
theorem dX1_markOfHours_0 : decode cX1_markOfHours 0 = .ok (.aload_n 1, 1) := by decide +kernel
theorem dX1_markOfHours_1 : decode cX1_markOfHours 1 = .ok (.iload_n 2, 1) := by decide +kernel
theorem dX1_markOfHours_2 : decode cX1_markOfHours 2 = .ok (.invokevirtual 43, 3) := by decide +kernel
theorem dX1_markOfHours_5 : decode cX1_markOfHours 5 = .ok (.istore_n 3, 1) := by decide +kernel
theorem dX1_markOfHours_6 : decode cX1_markOfHours 6 = .ok (.iload_n 3, 1) := by decide +kernel
theorem dX1_markOfHours_7 : decode cX1_markOfHours 7 = .ok (.iconst 3, 1) := by decide +kernel
theorem dX1_markOfHours_8 : decode cX1_markOfHours 8 = .ok (.if_icmp .ne 20, 3) := by decide +kernel
theorem dX1_markOfHours_11 : decode cX1_markOfHours 11 = .ok (.aload_n 0, 1) := by decide +kernel
theorem dX1_markOfHours_12 : decode cX1_markOfHours 12 = .ok (.bipush 22, 2) := by decide +kernel
theorem dX1_markOfHours_14 : decode cX1_markOfHours 14 = .ok (.invokevirtual 20, 3) := by decide +kernel
theorem dX1_markOfHours_17 : decode cX1_markOfHours 17 = .ok (.aload_n 0, 1) := by decide +kernel
theorem dX1_markOfHours_18 : decode cX1_markOfHours 18 = .ok (.aload_n 1, 1) := by decide +kernel
theorem dX1_markOfHours_19 : decode cX1_markOfHours 19 = .ok (.iload_n 2, 1) := by decide +kernel
theorem dX1_markOfHours_20 : decode cX1_markOfHours 20 = .ok (.invokevirtual 49, 3) := by decide +kernel
theorem dX1_markOfHours_23 : decode cX1_markOfHours 23 = .ok (.sipush 1000, 3) := by decide +kernel
theorem dX1_markOfHours_26 : decode cX1_markOfHours 26 = .ok (.isub, 1) := by decide +kernel
theorem dX1_markOfHours_27 : decode cX1_markOfHours 27 = .ok (.ireturn, 1) := by decide +kernel
theorem dX1_markOfHours_28 : decode cX1_markOfHours 28 = .ok (.iload_n 3, 1) := by decide +kernel
theorem dX1_markOfHours_29 : decode cX1_markOfHours 29 = .ok (.iconst 2, 1) := by decide +kernel
theorem dX1_markOfHours_30 : decode cX1_markOfHours 30 = .ok (.if_icmp .ne 18, 3) := by decide +kernel
theorem dX1_markOfHours_33 : decode cX1_markOfHours 33 = .ok (.aload_n 0, 1) := by decide +kernel
theorem dX1_markOfHours_34 : decode cX1_markOfHours 34 = .ok (.bipush 24, 2) := by decide +kernel
theorem dX1_markOfHours_36 : decode cX1_markOfHours 36 = .ok (.invokevirtual 20, 3) := by decide +kernel
theorem dX1_markOfHours_39 : decode cX1_markOfHours 39 = .ok (.iconst 2, 1) := by decide +kernel
theorem dX1_markOfHours_40 : decode cX1_markOfHours 40 = .ok (.aload_n 0, 1) := by decide +kernel
theorem dX1_markOfHours_41 : decode cX1_markOfHours 41 = .ok (.aload_n 1, 1) := by decide +kernel
theorem dX1_markOfHours_42 : decode cX1_markOfHours 42 = .ok (.iload_n 2, 1) := by decide +kernel
theorem dX1_markOfHours_43 : decode cX1_markOfHours 43 = .ok (.invokevirtual 49, 3) := by decide +kernel
theorem dX1_markOfHours_46 : decode cX1_markOfHours 46 = .ok (.imul, 1) := by decide +kernel
theorem dX1_markOfHours_47 : decode cX1_markOfHours 47 = .ok (.ireturn, 1) := by decide +kernel
theorem dX1_markOfHours_48 : decode cX1_markOfHours 48 = .ok (.aload_n 0, 1) := by decide +kernel
theorem dX1_markOfHours_49 : decode cX1_markOfHours 49 = .ok (.aload_n 1, 1) := by decide +kernel
theorem dX1_markOfHours_50 : decode cX1_markOfHours 50 = .ok (.iload_n 2, 1) := by decide +kernel
theorem dX1_markOfHours_51 : decode cX1_markOfHours 51 = .ok (.invokevirtual 49, 3) := by decide +kernel
theorem dX1_markOfHours_54 : decode cX1_markOfHours 54 = .ok (.ireturn, 1) := by decide +kernel
set_option maxRecDepth 20000 in
theorem ggX1_sizeOfBacks_X2_sortOf : GoodIn wsX1_sizeOfBacks wsX2_sortOf := goodIn_r _ [5, 6, 7, 8, 9, 4, 10, 11, 32, 33, 34, 35, 36] (by decide +kernel) (by decide +kernel)
set_option maxRecDepth 20000 in
theorem gX1_sizeOfBacks_X2_sortOf : GoodIn wsX1_sizeOfBacks (wsV RX1 43 RX2 yX2_sortOf wsX2_sortOf) := goodIn_app (goodIn_of _ (by decide +kernel)) ggX1_sizeOfBacks_X2_sortOf
set_option maxRecDepth 20000 in
theorem ggX1_sizeOfBacks_X1_leave : GoodIn wsX1_sizeOfBacks wsX1_leave := goodIn_r _ [16, 17, 18, 37, 38] (by decide +kernel) (by decide +kernel)
set_option maxRecDepth 20000 in
theorem gX1_sizeOfBacks_X1_leave : GoodIn wsX1_sizeOfBacks (wsV RX1 20 RX1 yX1_leave wsX1_leave) := goodIn_app (goodIn_of _ (by decide +kernel)) ggX1_sizeOfBacks_X1_leave
set_option maxRecDepth 20000 in
theorem ggX1_sizeOfBacks_X1_backSize : GoodIn wsX1_sizeOfBacks wsX1_backSize := goodIn_r _ [22, 12, 13, 14, 15, 16, 17, 18, 23, 24, 25, 26, 27, 28, 29, 4, 30, 31, 7, 8, 9, 10, 11, 37, 38, 32, 33, 34, 35, 36] (by decide +kernel) (by decide +kernel)
set_option maxRecDepth 20000 in
theorem gX1_sizeOfBacks_X1_backSize : GoodIn wsX1_sizeOfBacks (wsV RX1 52 RX1 yX1_backSize wsX1_backSize) := goodIn_app (goodIn_of _ (by decide +kernel)) ggX1_sizeOfBacks_X1_backSize
theorem dX1_sizeOfBacks_0 : decode cX1_sizeOfBacks 0 = .ok (.aload_n 1, 1) := by decide +kernel
theorem dX1_sizeOfBacks_1 : decode cX1_sizeOfBacks 1 = .ok (.iload_n 2, 1) := by decide +kernel
theorem dX1_sizeOfBacks_2 : decode cX1_sizeOfBacks 2 = .ok (.invokevirtual 43, 3) := by decide +kernel
theorem dX1_sizeOfBacks_5 : decode cX1_sizeOfBacks 5 = .ok (.iconst 5, 1) := by decide +kernel
theorem dX1_sizeOfBacks_6 : decode cX1_sizeOfBacks 6 = .ok (.if_icmp .ne 18, 3) := by decide +kernel
theorem dX1_sizeOfBacks_9 : decode cX1_sizeOfBacks 9 = .ok (.aload_n 0, 1) := by decide +kernel
theorem dX1_sizeOfBacks_10 : decode cX1_sizeOfBacks 10 = .ok (.bipush 14, 2) := by decide +kernel
theorem dX1_sizeOfBacks_12 : decode cX1_sizeOfBacks 12 = .ok (.invokevirtual 20, 3) := by decide +kernel
theorem dX1_sizeOfBacks_15 : decode cX1_sizeOfBacks 15 = .ok (.iconst 2, 1) := by decide +kernel
theorem dX1_sizeOfBacks_16 : decode cX1_sizeOfBacks 16 = .ok (.aload_n 0, 1) := by decide +kernel
theorem dX1_sizeOfBacks_17 : decode cX1_sizeOfBacks 17 = .ok (.aload_n 1, 1) := by decide +kernel
theorem dX1_sizeOfBacks_18 : decode cX1_sizeOfBacks 18 = .ok (.iload_n 2, 1) := by decide +kernel
theorem dX1_sizeOfBacks_19 : decode cX1_sizeOfBacks 19 = .ok (.invokevirtual 52, 3) := by decide +kernel
theorem dX1_sizeOfBacks_22 : decode cX1_sizeOfBacks 22 = .ok (.imul, 1) := by decide +kernel
theorem dX1_sizeOfBacks_23 : decode cX1_sizeOfBacks 23 = .ok (.ireturn, 1) := by decide +kernel
theorem dX1_sizeOfBacks_24 : decode cX1_sizeOfBacks 24 = .ok (.aload_n 0, 1) := by decide +kernel
theorem dX1_sizeOfBacks_25 : decode cX1_sizeOfBacks 25 = .ok (.aload_n 1, 1) := by decide +kernel
theorem dX1_sizeOfBacks_26 : decode cX1_sizeOfBacks 26 = .ok (.iload_n 2, 1) := by decide +kernel
theorem dX1_sizeOfBacks_27 : decode cX1_sizeOfBacks 27 = .ok (.invokevirtual 52, 3) := by decide +kernel
theorem dX1_sizeOfBacks_30 : decode cX1_sizeOfBacks 30 = .ok (.ireturn, 1) := by decide +kernel
set_option maxRecDepth 20000 in
theorem ggX1_markOfBacks_X1_leave : GoodIn wsX1_markOfBacks wsX1_leave := goodIn_r _ [5, 6, 7, 40, 41] (by decide +kernel) (by decide +kernel)
set_option maxRecDepth 20000 in
theorem gX1_markOfBacks_X1_leave : GoodIn wsX1_markOfBacks (wsV RX1 20 RX1 yX1_leave wsX1_leave) := goodIn_app (goodIn_of _ (by decide +kernel)) ggX1_markOfBacks_X1_leave
set_option maxRecDepth 20000 in
theorem ggX1_markOfBacks_X1_lentMark : GoodIn wsX1_markOfBacks wsX1_lentMark := goodIn_r _ [11, 1, 2, 3, 4, 5, 6, 7, 40, 41] (by decide +kernel) (by decide +kernel)
set_option maxRecDepth 20000 in
theorem gX1_markOfBacks_X1_lentMark : GoodIn wsX1_markOfBacks (wsV RX1 37 RX1 yX1_lentMark wsX1_lentMark) := goodIn_app (goodIn_of _ (by decide +kernel)) ggX1_markOfBacks_X1_lentMark
set_option maxRecDepth 20000 in
theorem ggX1_markOfBacks_X1_sizeOfBacks : GoodIn wsX1_markOfBacks wsX1_sizeOfBacks := goodIn_r _ [15, 16, 17, 18, 19, 20, 21, 22, 23, 24, 25, 26, 1, 2, 3, 4, 5, 6, 7, 27, 28, 29, 30, 31, 32, 33, 34, 35, 36, 37, 38, 39, 42, 43, 44, 45, 46, 40, 41] (by decide +kernel) (by decide +kernel)
set_option maxRecDepth 20000 in
theorem gX1_markOfBacks_X1_sizeOfBacks : GoodIn wsX1_markOfBacks (wsV RX1 55 RX1 yX1_sizeOfBacks wsX1_sizeOfBacks) := goodIn_app (goodIn_of _ (by decide +kernel)) ggX1_markOfBacks_X1_sizeOfBacks
theorem dX1_markOfBacks_0 : decode cX1_markOfBacks 0 = .ok (.aload_n 0, 1) := by decide +kernel
theorem dX1_markOfBacks_1 : decode cX1_markOfBacks 1 = .ok (.bipush 23, 2) := by decide +kernel
theorem dX1_markOfBacks_3 : decode cX1_markOfBacks 3 = .ok (.invokevirtual 20, 3) := by decide +kernel
theorem dX1_markOfBacks_6 : decode cX1_markOfBacks 6 = .ok (.aload_n 0, 1) := by decide +kernel
theorem dX1_markOfBacks_7 : decode cX1_markOfBacks 7 = .ok (.iload_n 2, 1) := by decide +kernel
theorem dX1_markOfBacks_8 : decode cX1_markOfBacks 8 = .ok (.invokevirtual 37, 3) := by decide +kernel
theorem dX1_markOfBacks_11 : decode cX1_markOfBacks 11 = .ok (.istore_n 3, 1) := by decide +kernel
theorem dX1_markOfBacks_12 : decode cX1_markOfBacks 12 = .ok (.iload_n 3, 1) := by decide +kernel
theorem dX1_markOfBacks_13 : decode cX1_markOfBacks 13 = .ok (.aload_n 0, 1) := by decide +kernel
theorem dX1_markOfBacks_14 : decode cX1_markOfBacks 14 = .ok (.aload_n 1, 1) := by decide +kernel
theorem dX1_markOfBacks_15 : decode cX1_markOfBacks 15 = .ok (.iload_n 2, 1) := by decide +kernel
theorem dX1_markOfBacks_16 : decode cX1_markOfBacks 16 = .ok (.invokevirtual 55, 3) := by decide +kernel
theorem dX1_markOfBacks_19 : decode cX1_markOfBacks 19 = .ok (.isub, 1) := by decide +kernel
theorem dX1_markOfBacks_20 : decode cX1_markOfBacks 20 = .ok (.ireturn, 1) := by decide +kernel
theorem dX2_init_0 : decode cX2_init 0 = .ok (.aload_n 0, 1) := by decide +kernel
theorem dX2_init_1 : decode cX2_init 1 = .ok (.invokespecial 3, 3) := by decide +kernel
theorem dX2_init_4 : decode cX2_init 4 = .ok (.aload_n 0, 1) := by decide +kernel
theorem dX2_init_5 : decode cX2_init 5 = .ok (.iconst 4, 1) := by decide +kernel
theorem dX2_init_6 : decode cX2_init 6 = .ok (.newarray .int, 2) := by decide +kernel
theorem dX2_init_8 : decode cX2_init 8 = .ok (.putfield 9, 3) := by decide +kernel
theorem dX2_init_11 : decode cX2_init 11 = .ok (.aload_n 0, 1) := by decide +kernel
theorem dX2_init_12 : decode cX2_init 12 = .ok (.iconst 4, 1) := by decide +kernel
theorem dX2_init_13 : decode cX2_init 13 = .ok (.newarray .int, 2) := by decide +kernel
theorem dX2_init_15 : decode cX2_init 15 = .ok (.putfield 15, 3) := by decide +kernel
theorem dX2_init_18 : decode cX2_init 18 = .ok (.aload_n 0, 1) := by decide +kernel
theorem dX2_init_19 : decode cX2_init 19 = .ok (.iconst 4, 1) := by decide +kernel
theorem dX2_init_20 : decode cX2_init 20 = .ok (.newarray .int, 2) := by decide +kernel
theorem dX2_init_22 : decode cX2_init 22 = .ok (.putfield 18, 3) := by decide +kernel
theorem dX2_init_25 : decode cX2_init 25 = .ok (.return_, 1) := by decide +kernel
theorem dX2_isNone_0 : decode cX2_isNone 0 = .ok (.aload_n 0, 1) := by decide +kernel
theorem dX2_isNone_1 : decode cX2_isNone 1 = .ok (.getfield 21, 3) := by decide +kernel
theorem dX2_isNone_4 : decode cX2_isNone 4 = .ok (.ifCond .ne 7, 3) := by decide +kernel
theorem dX2_isNone_7 : decode cX2_isNone 7 = .ok (.iconst 1, 1) := by decide +kernel
theorem dX2_isNone_8 : decode cX2_isNone 8 = .ok (.goto 4, 3) := by decide +kernel
theorem dX2_isNone_11 : decode cX2_isNone 11 = .ok (.iconst 0, 1) := by decide +kernel
theorem dX2_isNone_12 : decode cX2_isNone 12 = .ok (.ireturn, 1) := by decide +kernel
theorem dX2_has_0 : decode cX2_has 0 = .ok (.iload_n 1, 1) := by decide +kernel
theorem dX2_has_1 : decode cX2_has 1 = .ok (.ifCond .lt 20, 3) := by decide +kernel
theorem dX2_has_4 : decode cX2_has 4 = .ok (.iload_n 1, 1) := by decide +kernel
theorem dX2_has_5 : decode cX2_has 5 = .ok (.aload_n 0, 1) := by decide +kernel
theorem dX2_has_6 : decode cX2_has 6 = .ok (.getfield 21, 3) := by decide +kernel
theorem dX2_has_9 : decode cX2_has 9 = .ok (.if_icmp .ge 12, 3) := by decide +kernel
theorem dX2_has_12 : decode cX2_has 12 = .ok (.iload_n 1, 1) := by decide +kernel
theorem dX2_has_13 : decode cX2_has 13 = .ok (.iconst 4, 1) := by decide +kernel
theorem dX2_has_14 : decode cX2_has 14 = .ok (.if_icmp .ge 7, 3) := by decide +kernel
theorem dX2_has_17 : decode cX2_has 17 = .ok (.iconst 1, 1) := by decide +kernel
theorem dX2_has_18 : decode cX2_has 18 = .ok (.goto 4, 3) := by decide +kernel
theorem dX2_has_21 : decode cX2_has 21 = .ok (.iconst 0, 1) := by decide +kernel
theorem dX2_has_22 : decode cX2_has 22 = .ok (.ireturn, 1) := by decide +kernel
set_option maxRecDepth 20000 in
theorem ggX2_sortOf_X2_has : GoodIn wsX2_sortOf wsX2_has := goodIn_r _ [6, 7, 8, 9, 10, 11, 12] (by decide +kernel) (by decide +kernel)
set_option maxRecDepth 20000 in
theorem gX2_sortOf_X2_has : GoodIn wsX2_sortOf (wsV RX2 25 RX2 yX2_has wsX2_has) := goodIn_app (goodIn_of _ (by decide +kernel)) ggX2_sortOf_X2_has
theorem dX2_sortOf_0 : decode cX2_sortOf 0 = .ok (.aload_n 0, 1) := by decide +kernel
theorem dX2_sortOf_1 : decode cX2_sortOf 1 = .ok (.iload_n 1, 1) := by decide +kernel
theorem dX2_sortOf_2 : decode cX2_sortOf 2 = .ok (.invokevirtual 25, 3) := by decide +kernel
theorem dX2_sortOf_5 : decode cX2_sortOf 5 = .ok (.ifCond .eq 12, 3) := by decide +kernel
theorem dX2_sortOf_8 : decode cX2_sortOf 8 = .ok (.aload_n 0, 1) := by decide +kernel
theorem dX2_sortOf_9 : decode cX2_sortOf 9 = .ok (.getfield 9, 3) := by decide +kernel
theorem dX2_sortOf_12 : decode cX2_sortOf 12 = .ok (.iload_n 1, 1) := by decide +kernel
theorem dX2_sortOf_13 : decode cX2_sortOf 13 = .ok (.iaload, 1) := by decide +kernel
theorem dX2_sortOf_14 : decode cX2_sortOf 14 = .ok (.goto 4, 3) := by decide +kernel
theorem dX2_sortOf_17 : decode cX2_sortOf 17 = .ok (.iconst 0, 1) := by decide +kernel
theorem dX2_sortOf_18 : decode cX2_sortOf 18 = .ok (.ireturn, 1) := by decide +kernel
set_option maxRecDepth 20000 in
theorem ggX2_turnsOf_X2_has : GoodIn wsX2_turnsOf wsX2_has := goodIn_r _ [6, 7, 8, 9, 10, 11, 12] (by decide +kernel) (by decide +kernel)
set_option maxRecDepth 20000 in
theorem gX2_turnsOf_X2_has : GoodIn wsX2_turnsOf (wsV RX2 25 RX2 yX2_has wsX2_has) := goodIn_app (goodIn_of _ (by decide +kernel)) ggX2_turnsOf_X2_has
theorem dX2_turnsOf_0 : decode cX2_turnsOf 0 = .ok (.aload_n 0, 1) := by decide +kernel
theorem dX2_turnsOf_1 : decode cX2_turnsOf 1 = .ok (.iload_n 1, 1) := by decide +kernel
theorem dX2_turnsOf_2 : decode cX2_turnsOf 2 = .ok (.invokevirtual 25, 3) := by decide +kernel
theorem dX2_turnsOf_5 : decode cX2_turnsOf 5 = .ok (.ifCond .eq 12, 3) := by decide +kernel
theorem dX2_turnsOf_8 : decode cX2_turnsOf 8 = .ok (.aload_n 0, 1) := by decide +kernel
theorem dX2_turnsOf_9 : decode cX2_turnsOf 9 = .ok (.getfield 15, 3) := by decide +kernel
theorem dX2_turnsOf_12 : decode cX2_turnsOf 12 = .ok (.iload_n 1, 1) := by decide +kernel
theorem dX2_turnsOf_13 : decode cX2_turnsOf 13 = .ok (.iaload, 1) := by decide +kernel
theorem dX2_turnsOf_14 : decode cX2_turnsOf 14 = .ok (.goto 4, 3) := by decide +kernel
theorem dX2_turnsOf_17 : decode cX2_turnsOf 17 = .ok (.iconst 0, 1) := by decide +kernel
theorem dX2_turnsOf_18 : decode cX2_turnsOf 18 = .ok (.ireturn, 1) := by decide +kernel
set_option maxRecDepth 20000 in
theorem ggX2_slipOf_X2_has : GoodIn wsX2_slipOf wsX2_has := goodIn_r _ [6, 7, 8, 9, 10, 11, 12] (by decide +kernel) (by decide +kernel)
set_option maxRecDepth 20000 in
theorem gX2_slipOf_X2_has : GoodIn wsX2_slipOf (wsV RX2 25 RX2 yX2_has wsX2_has) := goodIn_app (goodIn_of _ (by decide +kernel)) ggX2_slipOf_X2_has
theorem dX2_slipOf_0 : decode cX2_slipOf 0 = .ok (.aload_n 0, 1) := by decide +kernel
theorem dX2_slipOf_1 : decode cX2_slipOf 1 = .ok (.iload_n 1, 1) := by decide +kernel
theorem dX2_slipOf_2 : decode cX2_slipOf 2 = .ok (.invokevirtual 25, 3) := by decide +kernel
theorem dX2_slipOf_5 : decode cX2_slipOf 5 = .ok (.ifCond .eq 12, 3) := by decide +kernel
theorem dX2_slipOf_8 : decode cX2_slipOf 8 = .ok (.aload_n 0, 1) := by decide +kernel
theorem dX2_slipOf_9 : decode cX2_slipOf 9 = .ok (.getfield 18, 3) := by decide +kernel
theorem dX2_slipOf_12 : decode cX2_slipOf 12 = .ok (.iload_n 1, 1) := by decide +kernel
theorem dX2_slipOf_13 : decode cX2_slipOf 13 = .ok (.iaload, 1) := by decide +kernel
theorem dX2_slipOf_14 : decode cX2_slipOf 14 = .ok (.goto 4, 3) := by decide +kernel
theorem dX2_slipOf_17 : decode cX2_slipOf 17 = .ok (.iconst 0, 1) := by decide +kernel
theorem dX2_slipOf_18 : decode cX2_slipOf 18 = .ok (.ireturn, 1) := by decide +kernel
set_option maxRecDepth 20000 in
theorem ggX2_speedOf_X2_sortOf : GoodIn wsX2_speedOf wsX2_sortOf := goodIn_r _ [5, 6, 7, 8, 9, 4, 10, 11, 17, 18, 19, 20, 21] (by decide +kernel) (by decide +kernel)
set_option maxRecDepth 20000 in
theorem gX2_speedOf_X2_sortOf : GoodIn wsX2_speedOf (wsV RX2 29 RX2 yX2_sortOf wsX2_sortOf) := goodIn_app (goodIn_of _ (by decide +kernel)) ggX2_speedOf_X2_sortOf
set_option maxRecDepth 20000 in
theorem ggX2_speedOf_X2_turnsOf : GoodIn wsX2_speedOf wsX2_turnsOf := goodIn_r _ [15, 16, 7, 8, 9, 4, 10, 11, 17, 18, 19, 20, 21] (by decide +kernel) (by decide +kernel)
set_option maxRecDepth 20000 in
theorem gX2_speedOf_X2_turnsOf : GoodIn wsX2_speedOf (wsV RX2 33 RX2 yX2_turnsOf wsX2_turnsOf) := goodIn_app (goodIn_of _ (by decide +kernel)) ggX2_speedOf_X2_turnsOf
theorem dX2_speedOf_0 : decode cX2_speedOf 0 = .ok (.aload_n 0, 1) := by decide +kernel
theorem dX2_speedOf_1 : decode cX2_speedOf 1 = .ok (.iload_n 1, 1) := by decide +kernel
theorem dX2_speedOf_2 : decode cX2_speedOf 2 = .ok (.invokevirtual 29, 3) := by decide +kernel
theorem dX2_speedOf_5 : decode cX2_speedOf 5 = .ok (.istore_n 2, 1) := by decide +kernel
theorem dX2_speedOf_6 : decode cX2_speedOf 6 = .ok (.iload_n 2, 1) := by decide +kernel
theorem dX2_speedOf_7 : decode cX2_speedOf 7 = .ok (.iconst 4, 1) := by decide +kernel
theorem dX2_speedOf_8 : decode cX2_speedOf 8 = .ok (.if_icmp .ne 10, 3) := by decide +kernel
theorem dX2_speedOf_11 : decode cX2_speedOf 11 = .ok (.aload_n 0, 1) := by decide +kernel
theorem dX2_speedOf_12 : decode cX2_speedOf 12 = .ok (.iload_n 1, 1) := by decide +kernel
theorem dX2_speedOf_13 : decode cX2_speedOf 13 = .ok (.invokevirtual 33, 3) := by decide +kernel
theorem dX2_speedOf_16 : decode cX2_speedOf 16 = .ok (.ineg, 1) := by decide +kernel
theorem dX2_speedOf_17 : decode cX2_speedOf 17 = .ok (.ireturn, 1) := by decide +kernel
theorem dX2_speedOf_18 : decode cX2_speedOf 18 = .ok (.iload_n 2, 1) := by decide +kernel
theorem dX2_speedOf_19 : decode cX2_speedOf 19 = .ok (.iconst 5, 1) := by decide +kernel
theorem dX2_speedOf_20 : decode cX2_speedOf 20 = .ok (.if_icmp .ne 13, 3) := by decide +kernel
theorem dX2_speedOf_23 : decode cX2_speedOf 23 = .ok (.iconst 2, 1) := by decide +kernel
theorem dX2_speedOf_24 : decode cX2_speedOf 24 = .ok (.aload_n 0, 1) := by decide +kernel
theorem dX2_speedOf_25 : decode cX2_speedOf 25 = .ok (.iload_n 1, 1) := by decide +kernel
theorem dX2_speedOf_26 : decode cX2_speedOf 26 = .ok (.invokevirtual 33, 3) := by decide +kernel
theorem dX2_speedOf_29 : decode cX2_speedOf 29 = .ok (.imul, 1) := by decide +kernel
theorem dX2_speedOf_30 : decode cX2_speedOf 30 = .ok (.goto 8, 3) := by decide +kernel
theorem dX2_speedOf_33 : decode cX2_speedOf 33 = .ok (.aload_n 0, 1) := by decide +kernel
theorem dX2_speedOf_34 : decode cX2_speedOf 34 = .ok (.iload_n 1, 1) := by decide +kernel
theorem dX2_speedOf_35 : decode cX2_speedOf 35 = .ok (.invokevirtual 33, 3) := by decide +kernel
theorem dX2_speedOf_38 : decode cX2_speedOf 38 = .ok (.ireturn, 1) := by decide +kernel
set_option maxRecDepth 20000 in
theorem ggX2_arcAbove_X2_speedOf : GoodIn wsX2_arcAbove wsX2_speedOf := goodIn_r _ [6, 7, 8, 9, 5, 10, 11, 12, 13, 14, 15, 16, 17, 18, 19, 20, 21, 38, 39, 40, 41, 42] (by decide +kernel) (by decide +kernel)
set_option maxRecDepth 20000 in
theorem gX2_arcAbove_X2_speedOf : GoodIn wsX2_arcAbove (wsV RX2 36 RX2 yX2_speedOf wsX2_speedOf) := goodIn_app (goodIn_of _ (by decide +kernel)) ggX2_arcAbove_X2_speedOf
set_option maxRecDepth 20000 in
theorem ggX2_arcAbove_X2_slipOf : GoodIn wsX2_arcAbove wsX2_slipOf := goodIn_r _ [25, 26, 12, 13, 14, 5, 15, 16, 38, 39, 40, 41, 42] (by decide +kernel) (by decide +kernel)
set_option maxRecDepth 20000 in
theorem gX2_arcAbove_X2_slipOf : GoodIn wsX2_arcAbove (wsV RX2 42 RX2 yX2_slipOf wsX2_slipOf) := goodIn_app (goodIn_of _ (by decide +kernel)) ggX2_arcAbove_X2_slipOf
set_option maxRecDepth 20000 in
theorem ggX2_arcAbove_X2_arcBelow : GoodIn wsX2_arcAbove wsX2_arcBelow := goodIn_r _ [30, 1, 38, 39, 40, 41, 42] (by decide +kernel) (by decide +kernel)
set_option maxRecDepth 20000 in
theorem gX2_arcAbove_X2_arcBelow : GoodIn wsX2_arcAbove (wsV RX2 45 RX2 yX2_arcBelow wsX2_arcBelow) := goodIn_app (goodIn_of _ (by decide +kernel)) ggX2_arcAbove_X2_arcBelow
set_option maxRecDepth 20000 in
theorem ggX2_arcAbove_X7_rest : GoodIn wsX2_arcAbove wsX7_rest := goodIn_r _ [33, 34, 35, 36, 37] (by decide +kernel) (by decide +kernel)
set_option maxRecDepth 20000 in
theorem gX2_arcAbove_X7_rest_n48 : GoodIn wsX2_arcAbove (wsX7_rest) := ggX2_arcAbove_X7_rest
theorem dX2_arcAbove_0 : decode cX2_arcAbove 0 = .ok (.aload_n 0, 1) := by decide +kernel
theorem dX2_arcAbove_1 : decode cX2_arcAbove 1 = .ok (.iload_n 1, 1) := by decide +kernel
theorem dX2_arcAbove_2 : decode cX2_arcAbove 2 = .ok (.invokevirtual 36, 3) := by decide +kernel
theorem dX2_arcAbove_5 : decode cX2_arcAbove 5 = .ok (.iload_n 2, 1) := by decide +kernel
theorem dX2_arcAbove_6 : decode cX2_arcAbove 6 = .ok (.imul, 1) := by decide +kernel
theorem dX2_arcAbove_7 : decode cX2_arcAbove 7 = .ok (.aload_n 0, 1) := by decide +kernel
theorem dX2_arcAbove_8 : decode cX2_arcAbove 8 = .ok (.getfield 39, 3) := by decide +kernel
theorem dX2_arcAbove_11 : decode cX2_arcAbove 11 = .ok (.imul, 1) := by decide +kernel
theorem dX2_arcAbove_12 : decode cX2_arcAbove 12 = .ok (.aload_n 0, 1) := by decide +kernel
theorem dX2_arcAbove_13 : decode cX2_arcAbove 13 = .ok (.iload_n 1, 1) := by decide +kernel
theorem dX2_arcAbove_14 : decode cX2_arcAbove 14 = .ok (.invokevirtual 42, 3) := by decide +kernel
theorem dX2_arcAbove_17 : decode cX2_arcAbove 17 = .ok (.iload_n 3, 1) := by decide +kernel
theorem dX2_arcAbove_18 : decode cX2_arcAbove 18 = .ok (.imul, 1) := by decide +kernel
theorem dX2_arcAbove_19 : decode cX2_arcAbove 19 = .ok (.iadd, 1) := by decide +kernel
theorem dX2_arcAbove_20 : decode cX2_arcAbove 20 = .ok (.aload_n 0, 1) := by decide +kernel
theorem dX2_arcAbove_21 : decode cX2_arcAbove 21 = .ok (.iload_n 3, 1) := by decide +kernel
theorem dX2_arcAbove_22 : decode cX2_arcAbove 22 = .ok (.invokevirtual 45, 3) := by decide +kernel
theorem dX2_arcAbove_25 : decode cX2_arcAbove 25 = .ok (.invokestatic 48, 3) := by decide +kernel
theorem dX2_arcAbove_28 : decode cX2_arcAbove 28 = .ok (.ireturn, 1) := by decide +kernel
theorem dX2_arcBelow_0 : decode cX2_arcBelow 0 = .ok (.iload_n 1, 1) := by decide +kernel
theorem dX2_arcBelow_1 : decode cX2_arcBelow 1 = .ok (.aload_n 0, 1) := by decide +kernel
theorem dX2_arcBelow_2 : decode cX2_arcBelow 2 = .ok (.getfield 39, 3) := by decide +kernel
theorem dX2_arcBelow_5 : decode cX2_arcBelow 5 = .ok (.imul, 1) := by decide +kernel
theorem dX2_arcBelow_6 : decode cX2_arcBelow 6 = .ok (.ireturn, 1) := by decide +kernel
set_option maxRecDepth 20000 in
theorem ggX2_slippedHands_X2_slipOf : GoodIn wsX2_slippedHands wsX2_slipOf := goodIn_r _ [6, 7, 8, 9, 10, 5, 11, 1, 12, 13, 14, 15, 16] (by decide +kernel) (by decide +kernel)
set_option maxRecDepth 20000 in
theorem gX2_slippedHands_X2_slipOf : GoodIn wsX2_slippedHands (wsV RX2 42 RX2 yX2_slipOf wsX2_slipOf) := goodIn_app (goodIn_of _ (by decide +kernel)) ggX2_slippedHands_X2_slipOf
theorem dX2_slippedHands_0 : decode cX2_slippedHands 0 = .ok (.iconst 0, 1) := by decide +kernel
theorem dX2_slippedHands_1 : decode cX2_slippedHands 1 = .ok (.istore_n 1, 1) := by decide +kernel
theorem dX2_slippedHands_2 : decode cX2_slippedHands 2 = .ok (.iconst 0, 1) := by decide +kernel
theorem dX2_slippedHands_3 : decode cX2_slippedHands 3 = .ok (.istore_n 2, 1) := by decide +kernel
theorem dX2_slippedHands_4 : decode cX2_slippedHands 4 = .ok (.iload_n 2, 1) := by decide +kernel
theorem dX2_slippedHands_5 : decode cX2_slippedHands 5 = .ok (.aload_n 0, 1) := by decide +kernel
theorem dX2_slippedHands_6 : decode cX2_slippedHands 6 = .ok (.getfield 21, 3) := by decide +kernel
theorem dX2_slippedHands_9 : decode cX2_slippedHands 9 = .ok (.if_icmp .ge 20, 3) := by decide +kernel
theorem dX2_slippedHands_12 : decode cX2_slippedHands 12 = .ok (.aload_n 0, 1) := by decide +kernel
theorem dX2_slippedHands_13 : decode cX2_slippedHands 13 = .ok (.iload_n 2, 1) := by decide +kernel
theorem dX2_slippedHands_14 : decode cX2_slippedHands 14 = .ok (.invokevirtual 42, 3) := by decide +kernel
theorem dX2_slippedHands_17 : decode cX2_slippedHands 17 = .ok (.ifCond .eq 6, 3) := by decide +kernel
theorem dX2_slippedHands_20 : decode cX2_slippedHands 20 = .ok (.iinc 1 1, 3) := by decide +kernel
theorem dX2_slippedHands_23 : decode cX2_slippedHands 23 = .ok (.iinc 2 1, 3) := by decide +kernel
theorem dX2_slippedHands_26 : decode cX2_slippedHands 26 = .ok (.goto (-22), 3) := by decide +kernel
theorem dX2_slippedHands_29 : decode cX2_slippedHands 29 = .ok (.iload_n 1, 1) := by decide +kernel
theorem dX2_slippedHands_30 : decode cX2_slippedHands 30 = .ok (.ireturn, 1) := by decide +kernel
set_option maxRecDepth 20000 in
theorem ggX2_setSlip_X2_has : GoodIn wsX2_setSlip wsX2_has := goodIn_r _ [6, 7, 8, 9, 10, 11, 12] (by decide +kernel) (by decide +kernel)
set_option maxRecDepth 20000 in
theorem gX2_setSlip_X2_has : GoodIn wsX2_setSlip (wsV RX2 25 RX2 yX2_has wsX2_has) := goodIn_app (goodIn_of _ (by decide +kernel)) ggX2_setSlip_X2_has
theorem dX2_setSlip_0 : decode cX2_setSlip 0 = .ok (.aload_n 0, 1) := by decide +kernel
theorem dX2_setSlip_1 : decode cX2_setSlip 1 = .ok (.iload_n 1, 1) := by decide +kernel
theorem dX2_setSlip_2 : decode cX2_setSlip 2 = .ok (.invokevirtual 25, 3) := by decide +kernel
theorem dX2_setSlip_5 : decode cX2_setSlip 5 = .ok (.ifCond .eq 10, 3) := by decide +kernel
theorem dX2_setSlip_8 : decode cX2_setSlip 8 = .ok (.aload_n 0, 1) := by decide +kernel
theorem dX2_setSlip_9 : decode cX2_setSlip 9 = .ok (.getfield 18, 3) := by decide +kernel
theorem dX2_setSlip_12 : decode cX2_setSlip 12 = .ok (.iload_n 1, 1) := by decide +kernel
theorem dX2_setSlip_13 : decode cX2_setSlip 13 = .ok (.iload_n 2, 1) := by decide +kernel
theorem dX2_setSlip_14 : decode cX2_setSlip 14 = .ok (.iastore, 1) := by decide +kernel
theorem dX2_setSlip_15 : decode cX2_setSlip 15 = .ok (.return_, 1) := by decide +kernel
theorem dX2_add_0 : decode cX2_add 0 = .ok (.aload_n 0, 1) := by decide +kernel
theorem dX2_add_1 : decode cX2_add 1 = .ok (.getfield 21, 3) := by decide +kernel
theorem dX2_add_4 : decode cX2_add 4 = .ok (.ifCond .lt 51, 3) := by decide +kernel
theorem dX2_add_7 : decode cX2_add 7 = .ok (.aload_n 0, 1) := by decide +kernel
theorem dX2_add_8 : decode cX2_add 8 = .ok (.getfield 21, 3) := by decide +kernel
theorem dX2_add_11 : decode cX2_add 11 = .ok (.iconst 4, 1) := by decide +kernel
theorem dX2_add_12 : decode cX2_add 12 = .ok (.if_icmp .ge 43, 3) := by decide +kernel
theorem dX2_add_15 : decode cX2_add 15 = .ok (.aload_n 0, 1) := by decide +kernel
theorem dX2_add_16 : decode cX2_add 16 = .ok (.getfield 9, 3) := by decide +kernel
theorem dX2_add_19 : decode cX2_add 19 = .ok (.aload_n 0, 1) := by decide +kernel
theorem dX2_add_20 : decode cX2_add 20 = .ok (.getfield 21, 3) := by decide +kernel
theorem dX2_add_23 : decode cX2_add 23 = .ok (.iload_n 1, 1) := by decide +kernel
theorem dX2_add_24 : decode cX2_add 24 = .ok (.iastore, 1) := by decide +kernel
theorem dX2_add_25 : decode cX2_add 25 = .ok (.aload_n 0, 1) := by decide +kernel
theorem dX2_add_26 : decode cX2_add 26 = .ok (.getfield 15, 3) := by decide +kernel
theorem dX2_add_29 : decode cX2_add 29 = .ok (.aload_n 0, 1) := by decide +kernel
theorem dX2_add_30 : decode cX2_add 30 = .ok (.getfield 21, 3) := by decide +kernel
theorem dX2_add_33 : decode cX2_add 33 = .ok (.iload_n 2, 1) := by decide +kernel
theorem dX2_add_34 : decode cX2_add 34 = .ok (.iastore, 1) := by decide +kernel
theorem dX2_add_35 : decode cX2_add 35 = .ok (.aload_n 0, 1) := by decide +kernel
theorem dX2_add_36 : decode cX2_add 36 = .ok (.getfield 18, 3) := by decide +kernel
theorem dX2_add_39 : decode cX2_add 39 = .ok (.aload_n 0, 1) := by decide +kernel
theorem dX2_add_40 : decode cX2_add 40 = .ok (.getfield 21, 3) := by decide +kernel
theorem dX2_add_43 : decode cX2_add 43 = .ok (.iconst 0, 1) := by decide +kernel
theorem dX2_add_44 : decode cX2_add 44 = .ok (.iastore, 1) := by decide +kernel
theorem dX2_add_45 : decode cX2_add 45 = .ok (.aload_n 0, 1) := by decide +kernel
theorem dX2_add_46 : decode cX2_add 46 = .ok (.dup, 1) := by decide +kernel
theorem dX2_add_47 : decode cX2_add 47 = .ok (.getfield 21, 3) := by decide +kernel
theorem dX2_add_50 : decode cX2_add 50 = .ok (.iconst 1, 1) := by decide +kernel
theorem dX2_add_51 : decode cX2_add 51 = .ok (.iadd, 1) := by decide +kernel
theorem dX2_add_52 : decode cX2_add 52 = .ok (.putfield 21, 3) := by decide +kernel
theorem dX2_add_55 : decode cX2_add 55 = .ok (.return_, 1) := by decide +kernel
theorem dX2_become_0 : decode cX2_become 0 = .ok (.aload_n 0, 1) := by decide +kernel
theorem dX2_become_1 : decode cX2_become 1 = .ok (.aload_n 1, 1) := by decide +kernel
theorem dX2_become_2 : decode cX2_become 2 = .ok (.getfield 39, 3) := by decide +kernel
theorem dX2_become_5 : decode cX2_become 5 = .ok (.putfield 39, 3) := by decide +kernel
theorem dX2_become_8 : decode cX2_become 8 = .ok (.aload_n 0, 1) := by decide +kernel
theorem dX2_become_9 : decode cX2_become 9 = .ok (.aload_n 1, 1) := by decide +kernel
theorem dX2_become_10 : decode cX2_become 10 = .ok (.getfield 21, 3) := by decide +kernel
theorem dX2_become_13 : decode cX2_become 13 = .ok (.putfield 21, 3) := by decide +kernel
theorem dX2_become_16 : decode cX2_become 16 = .ok (.iconst 0, 1) := by decide +kernel
theorem dX2_become_17 : decode cX2_become 17 = .ok (.istore_n 2, 1) := by decide +kernel
theorem dX2_become_18 : decode cX2_become 18 = .ok (.iload_n 2, 1) := by decide +kernel
theorem dX2_become_19 : decode cX2_become 19 = .ok (.iconst 4, 1) := by decide +kernel
theorem dX2_become_20 : decode cX2_become 20 = .ok (.if_icmp .ge 45, 3) := by decide +kernel
theorem dX2_become_23 : decode cX2_become 23 = .ok (.aload_n 0, 1) := by decide +kernel
theorem dX2_become_24 : decode cX2_become 24 = .ok (.getfield 9, 3) := by decide +kernel
theorem dX2_become_27 : decode cX2_become 27 = .ok (.iload_n 2, 1) := by decide +kernel
theorem dX2_become_28 : decode cX2_become 28 = .ok (.aload_n 1, 1) := by decide +kernel
theorem dX2_become_29 : decode cX2_become 29 = .ok (.getfield 9, 3) := by decide +kernel
theorem dX2_become_32 : decode cX2_become 32 = .ok (.iload_n 2, 1) := by decide +kernel
theorem dX2_become_33 : decode cX2_become 33 = .ok (.iaload, 1) := by decide +kernel
theorem dX2_become_34 : decode cX2_become 34 = .ok (.iastore, 1) := by decide +kernel
theorem dX2_become_35 : decode cX2_become 35 = .ok (.aload_n 0, 1) := by decide +kernel
theorem dX2_become_36 : decode cX2_become 36 = .ok (.getfield 15, 3) := by decide +kernel
theorem dX2_become_39 : decode cX2_become 39 = .ok (.iload_n 2, 1) := by decide +kernel
theorem dX2_become_40 : decode cX2_become 40 = .ok (.aload_n 1, 1) := by decide +kernel
theorem dX2_become_41 : decode cX2_become 41 = .ok (.getfield 15, 3) := by decide +kernel
theorem dX2_become_44 : decode cX2_become 44 = .ok (.iload_n 2, 1) := by decide +kernel
theorem dX2_become_45 : decode cX2_become 45 = .ok (.iaload, 1) := by decide +kernel
theorem dX2_become_46 : decode cX2_become 46 = .ok (.iastore, 1) := by decide +kernel
theorem dX2_become_47 : decode cX2_become 47 = .ok (.aload_n 0, 1) := by decide +kernel
theorem dX2_become_48 : decode cX2_become 48 = .ok (.getfield 18, 3) := by decide +kernel
theorem dX2_become_51 : decode cX2_become 51 = .ok (.iload_n 2, 1) := by decide +kernel
theorem dX2_become_52 : decode cX2_become 52 = .ok (.aload_n 1, 1) := by decide +kernel
theorem dX2_become_53 : decode cX2_become 53 = .ok (.getfield 18, 3) := by decide +kernel
theorem dX2_become_56 : decode cX2_become 56 = .ok (.iload_n 2, 1) := by decide +kernel
theorem dX2_become_57 : decode cX2_become 57 = .ok (.iaload, 1) := by decide +kernel
theorem dX2_become_58 : decode cX2_become 58 = .ok (.iastore, 1) := by decide +kernel
theorem dX2_become_59 : decode cX2_become 59 = .ok (.iinc 2 1, 3) := by decide +kernel
theorem dX2_become_62 : decode cX2_become 62 = .ok (.goto (-44), 3) := by decide +kernel
theorem dX2_become_65 : decode cX2_become 65 = .ok (.return_, 1) := by decide +kernel
theorem dX3_init_0 : decode cX3_init 0 = .ok (.aload_n 0, 1) := by decide +kernel
theorem dX3_init_1 : decode cX3_init 1 = .ok (.invokespecial 1, 3) := by decide +kernel
theorem dX3_init_4 : decode cX3_init 4 = .ok (.return_, 1) := by decide +kernel
set_option maxRecDepth 20000 in
theorem ggX3_of_X7_common : GoodIn wsX3_of wsX7_common := goodIn_r _ [11] (by decide +kernel) (by decide +kernel)
set_option maxRecDepth 20000 in
theorem gX3_of_X7_common_n19 : GoodIn wsX3_of (wsX7_common) := ggX3_of_X7_common
set_option maxRecDepth 20000 in
theorem ggX3_of_X3_leastOther : GoodIn wsX3_of wsX3_leastOther := goodIn_r _ [16, 7, 6, 5, 17, 10, 18, 19, 20, 21, 22, 23, 24, 25, 26] (by decide +kernel) (by decide +kernel)
set_option maxRecDepth 20000 in
theorem gX3_of_X3_leastOther : GoodIn wsX3_of (wsV RX3 31 RX3 yX3_leastOther wsX3_leastOther) := goodIn_app (goodIn_of _ (by decide +kernel)) ggX3_of_X3_leastOther
theorem dX3_of_0 : decode cX3_of 0 = .ok (.aload_n 0, 1) := by decide +kernel
theorem dX3_of_1 : decode cX3_of 1 = .ok (.iload_n 1, 1) := by decide +kernel
theorem dX3_of_2 : decode cX3_of 2 = .ok (.iload_n 1, 1) := by decide +kernel
theorem dX3_of_3 : decode cX3_of 3 = .ok (.imul, 1) := by decide +kernel
theorem dX3_of_4 : decode cX3_of 4 = .ok (.iload_n 2, 1) := by decide +kernel
theorem dX3_of_5 : decode cX3_of 5 = .ok (.iload_n 2, 1) := by decide +kernel
theorem dX3_of_6 : decode cX3_of 6 = .ok (.imul, 1) := by decide +kernel
theorem dX3_of_7 : decode cX3_of 7 = .ok (.isub, 1) := by decide +kernel
theorem dX3_of_8 : decode cX3_of 8 = .ok (.invokestatic 7, 3) := by decide +kernel
theorem dX3_of_11 : decode cX3_of 11 = .ok (.putfield 13, 3) := by decide +kernel
theorem dX3_of_14 : decode cX3_of 14 = .ok (.aload_n 0, 1) := by decide +kernel
theorem dX3_of_15 : decode cX3_of 15 = .ok (.iload_n 1, 1) := by decide +kernel
theorem dX3_of_16 : decode cX3_of 16 = .ok (.invokestatic 7, 3) := by decide +kernel
theorem dX3_of_19 : decode cX3_of 19 = .ok (.iload_n 2, 1) := by decide +kernel
theorem dX3_of_20 : decode cX3_of 20 = .ok (.invokestatic 7, 3) := by decide +kernel
theorem dX3_of_23 : decode cX3_of 23 = .ok (.invokestatic 19, 3) := by decide +kernel
theorem dX3_of_26 : decode cX3_of 26 = .ok (.putfield 25, 3) := by decide +kernel
theorem dX3_of_29 : decode cX3_of 29 = .ok (.aload_n 0, 1) := by decide +kernel
theorem dX3_of_30 : decode cX3_of 30 = .ok (.aload_n 0, 1) := by decide +kernel
theorem dX3_of_31 : decode cX3_of 31 = .ok (.getfield 25, 3) := by decide +kernel
theorem dX3_of_34 : decode cX3_of 34 = .ok (.iconst 1, 1) := by decide +kernel
theorem dX3_of_35 : decode cX3_of 35 = .ok (.if_icmp .ge 7, 3) := by decide +kernel
theorem dX3_of_38 : decode cX3_of 38 = .ok (.iconst 0, 1) := by decide +kernel
theorem dX3_of_39 : decode cX3_of 39 = .ok (.goto 12, 3) := by decide +kernel
theorem dX3_of_42 : decode cX3_of 42 = .ok (.aload_n 0, 1) := by decide +kernel
theorem dX3_of_43 : decode cX3_of 43 = .ok (.getfield 13, 3) := by decide +kernel
theorem dX3_of_46 : decode cX3_of 46 = .ok (.aload_n 0, 1) := by decide +kernel
theorem dX3_of_47 : decode cX3_of 47 = .ok (.getfield 25, 3) := by decide +kernel
theorem dX3_of_50 : decode cX3_of 50 = .ok (.idiv, 1) := by decide +kernel
theorem dX3_of_51 : decode cX3_of 51 = .ok (.putfield 28, 3) := by decide +kernel
theorem dX3_of_54 : decode cX3_of 54 = .ok (.aload_n 0, 1) := by decide +kernel
theorem dX3_of_55 : decode cX3_of 55 = .ok (.aload_n 0, 1) := by decide +kernel
theorem dX3_of_56 : decode cX3_of 56 = .ok (.iload_n 1, 1) := by decide +kernel
theorem dX3_of_57 : decode cX3_of 57 = .ok (.iload_n 2, 1) := by decide +kernel
theorem dX3_of_58 : decode cX3_of 58 = .ok (.invokevirtual 31, 3) := by decide +kernel
theorem dX3_of_61 : decode cX3_of 61 = .ok (.putfield 34, 3) := by decide +kernel
theorem dX3_of_64 : decode cX3_of 64 = .ok (.return_, 1) := by decide +kernel
set_option maxRecDepth 20000 in
theorem ggX3_leastOther_X7_rest : GoodIn wsX3_leastOther wsX7_rest := goodIn_r _ [6, 7, 8, 9, 10] (by decide +kernel) (by decide +kernel)
set_option maxRecDepth 20000 in
theorem gX3_leastOther_X7_rest_n37 : GoodIn wsX3_leastOther (wsX7_rest) := ggX3_leastOther_X7_rest
theorem dX3_leastOther_0 : decode cX3_leastOther 0 = .ok (.iconst 0, 1) := by decide +kernel
theorem dX3_leastOther_1 : decode cX3_leastOther 1 = .ok (.istore_n 3, 1) := by decide +kernel
theorem dX3_leastOther_2 : decode cX3_leastOther 2 = .ok (.iload_n 3, 1) := by decide +kernel
theorem dX3_leastOther_3 : decode cX3_leastOther 3 = .ok (.aload_n 0, 1) := by decide +kernel
theorem dX3_leastOther_4 : decode cX3_leastOther 4 = .ok (.getfield 28, 3) := by decide +kernel
theorem dX3_leastOther_7 : decode cX3_leastOther 7 = .ok (.if_icmp .ge 51, 3) := by decide +kernel
theorem dX3_leastOther_10 : decode cX3_leastOther 10 = .ok (.iload_n 2, 1) := by decide +kernel
theorem dX3_leastOther_11 : decode cX3_leastOther 11 = .ok (.iload_n 3, 1) := by decide +kernel
theorem dX3_leastOther_12 : decode cX3_leastOther 12 = .ok (.imul, 1) := by decide +kernel
theorem dX3_leastOther_13 : decode cX3_leastOther 13 = .ok (.iload_n 1, 1) := by decide +kernel
theorem dX3_leastOther_14 : decode cX3_leastOther 14 = .ok (.aload_n 0, 1) := by decide +kernel
theorem dX3_leastOther_15 : decode cX3_leastOther 15 = .ok (.getfield 25, 3) := by decide +kernel
theorem dX3_leastOther_18 : decode cX3_leastOther 18 = .ok (.imul, 1) := by decide +kernel
theorem dX3_leastOther_19 : decode cX3_leastOther 19 = .ok (.isub, 1) := by decide +kernel
theorem dX3_leastOther_20 : decode cX3_leastOther 20 = .ok (.aload_n 0, 1) := by decide +kernel
theorem dX3_leastOther_21 : decode cX3_leastOther 21 = .ok (.getfield 13, 3) := by decide +kernel
theorem dX3_leastOther_24 : decode cX3_leastOther 24 = .ok (.invokestatic 37, 3) := by decide +kernel
theorem dX3_leastOther_27 : decode cX3_leastOther 27 = .ok (.ifCond .ne 25, 3) := by decide +kernel
theorem dX3_leastOther_30 : decode cX3_leastOther 30 = .ok (.iload_n 1, 1) := by decide +kernel
theorem dX3_leastOther_31 : decode cX3_leastOther 31 = .ok (.iload_n 3, 1) := by decide +kernel
theorem dX3_leastOther_32 : decode cX3_leastOther 32 = .ok (.imul, 1) := by decide +kernel
theorem dX3_leastOther_33 : decode cX3_leastOther 33 = .ok (.iload_n 2, 1) := by decide +kernel
theorem dX3_leastOther_34 : decode cX3_leastOther 34 = .ok (.aload_n 0, 1) := by decide +kernel
theorem dX3_leastOther_35 : decode cX3_leastOther 35 = .ok (.getfield 25, 3) := by decide +kernel
theorem dX3_leastOther_38 : decode cX3_leastOther 38 = .ok (.imul, 1) := by decide +kernel
theorem dX3_leastOther_39 : decode cX3_leastOther 39 = .ok (.isub, 1) := by decide +kernel
theorem dX3_leastOther_40 : decode cX3_leastOther 40 = .ok (.aload_n 0, 1) := by decide +kernel
theorem dX3_leastOther_41 : decode cX3_leastOther 41 = .ok (.getfield 13, 3) := by decide +kernel
theorem dX3_leastOther_44 : decode cX3_leastOther 44 = .ok (.invokestatic 37, 3) := by decide +kernel
theorem dX3_leastOther_47 : decode cX3_leastOther 47 = .ok (.ifCond .ne 5, 3) := by decide +kernel
theorem dX3_leastOther_50 : decode cX3_leastOther 50 = .ok (.iload_n 3, 1) := by decide +kernel
theorem dX3_leastOther_51 : decode cX3_leastOther 51 = .ok (.ireturn, 1) := by decide +kernel
theorem dX3_leastOther_52 : decode cX3_leastOther 52 = .ok (.iinc 3 1, 3) := by decide +kernel
theorem dX3_leastOther_55 : decode cX3_leastOther 55 = .ok (.goto (-53), 3) := by decide +kernel
theorem dX3_leastOther_58 : decode cX3_leastOther 58 = .ok (.iconst 0, 1) := by decide +kernel
theorem dX3_leastOther_59 : decode cX3_leastOther 59 = .ok (.ireturn, 1) := by decide +kernel
theorem dX3_isNone_0 : decode cX3_isNone 0 = .ok (.aload_n 0, 1) := by decide +kernel
theorem dX3_isNone_1 : decode cX3_isNone 1 = .ok (.getfield 28, 3) := by decide +kernel
theorem dX3_isNone_4 : decode cX3_isNone 4 = .ok (.ifCond .ne 7, 3) := by decide +kernel
theorem dX3_isNone_7 : decode cX3_isNone 7 = .ok (.iconst 1, 1) := by decide +kernel
theorem dX3_isNone_8 : decode cX3_isNone 8 = .ok (.goto 4, 3) := by decide +kernel
theorem dX3_isNone_11 : decode cX3_isNone 11 = .ok (.iconst 0, 1) := by decide +kernel
theorem dX3_isNone_12 : decode cX3_isNone 12 = .ok (.ireturn, 1) := by decide +kernel
set_option maxRecDepth 20000 in
theorem ggX3_otherOf_X7_rest : GoodIn wsX3_otherOf wsX7_rest := goodIn_r _ [6, 7, 8, 9, 10] (by decide +kernel) (by decide +kernel)
set_option maxRecDepth 20000 in
theorem gX3_otherOf_X7_rest_n37 : GoodIn wsX3_otherOf (wsX7_rest) := ggX3_otherOf_X7_rest
theorem dX3_otherOf_0 : decode cX3_otherOf 0 = .ok (.iload_n 1, 1) := by decide +kernel
theorem dX3_otherOf_1 : decode cX3_otherOf 1 = .ok (.aload_n 0, 1) := by decide +kernel
theorem dX3_otherOf_2 : decode cX3_otherOf 2 = .ok (.getfield 34, 3) := by decide +kernel
theorem dX3_otherOf_5 : decode cX3_otherOf 5 = .ok (.imul, 1) := by decide +kernel
theorem dX3_otherOf_6 : decode cX3_otherOf 6 = .ok (.aload_n 0, 1) := by decide +kernel
theorem dX3_otherOf_7 : decode cX3_otherOf 7 = .ok (.getfield 28, 3) := by decide +kernel
theorem dX3_otherOf_10 : decode cX3_otherOf 10 = .ok (.invokestatic 37, 3) := by decide +kernel
theorem dX3_otherOf_13 : decode cX3_otherOf 13 = .ok (.istore_n 2, 1) := by decide +kernel
theorem dX3_otherOf_14 : decode cX3_otherOf 14 = .ok (.iload_n 2, 1) := by decide +kernel
theorem dX3_otherOf_15 : decode cX3_otherOf 15 = .ok (.iload_n 1, 1) := by decide +kernel
theorem dX3_otherOf_16 : decode cX3_otherOf 16 = .ok (.aload_n 0, 1) := by decide +kernel
theorem dX3_otherOf_17 : decode cX3_otherOf 17 = .ok (.getfield 25, 3) := by decide +kernel
theorem dX3_otherOf_20 : decode cX3_otherOf 20 = .ok (.imul, 1) := by decide +kernel
theorem dX3_otherOf_21 : decode cX3_otherOf 21 = .ok (.if_icmp .eq 5, 3) := by decide +kernel
theorem dX3_otherOf_24 : decode cX3_otherOf 24 = .ok (.iload_n 2, 1) := by decide +kernel
theorem dX3_otherOf_25 : decode cX3_otherOf 25 = .ok (.ireturn, 1) := by decide +kernel
theorem dX3_otherOf_26 : decode cX3_otherOf 26 = .ok (.aload_n 0, 1) := by decide +kernel
theorem dX3_otherOf_27 : decode cX3_otherOf 27 = .ok (.getfield 25, 3) := by decide +kernel
theorem dX3_otherOf_30 : decode cX3_otherOf 30 = .ok (.iconst 1, 1) := by decide +kernel
theorem dX3_otherOf_31 : decode cX3_otherOf 31 = .ok (.if_icmp .le 12, 3) := by decide +kernel
theorem dX3_otherOf_34 : decode cX3_otherOf 34 = .ok (.iload_n 2, 1) := by decide +kernel
theorem dX3_otherOf_35 : decode cX3_otherOf 35 = .ok (.aload_n 0, 1) := by decide +kernel
theorem dX3_otherOf_36 : decode cX3_otherOf 36 = .ok (.getfield 28, 3) := by decide +kernel
theorem dX3_otherOf_39 : decode cX3_otherOf 39 = .ok (.iadd, 1) := by decide +kernel
theorem dX3_otherOf_40 : decode cX3_otherOf 40 = .ok (.goto 4, 3) := by decide +kernel
theorem dX3_otherOf_43 : decode cX3_otherOf 43 = .ok (.iconst (-1), 1) := by decide +kernel
theorem dX3_otherOf_44 : decode cX3_otherOf 44 = .ok (.ireturn, 1) := by decide +kernel
set_option maxRecDepth 20000 in
theorem ggX3_howMany_X3_otherOf : GoodIn wsX3_howMany wsX3_otherOf := goodIn_r _ [6, 7, 1, 8, 9, 10, 11, 12, 13, 14, 15, 16, 17, 18, 19] (by decide +kernel) (by decide +kernel)
set_option maxRecDepth 20000 in
theorem gX3_howMany_X3_otherOf : GoodIn wsX3_howMany (wsV RX3 40 RX3 yX3_otherOf wsX3_otherOf) := goodIn_app (goodIn_of _ (by decide +kernel)) ggX3_howMany_X3_otherOf
theorem dX3_howMany_0 : decode cX3_howMany 0 = .ok (.iconst 0, 1) := by decide +kernel
theorem dX3_howMany_1 : decode cX3_howMany 1 = .ok (.istore_n 1, 1) := by decide +kernel
theorem dX3_howMany_2 : decode cX3_howMany 2 = .ok (.iconst 0, 1) := by decide +kernel
theorem dX3_howMany_3 : decode cX3_howMany 3 = .ok (.istore_n 2, 1) := by decide +kernel
theorem dX3_howMany_4 : decode cX3_howMany 4 = .ok (.iload_n 2, 1) := by decide +kernel
theorem dX3_howMany_5 : decode cX3_howMany 5 = .ok (.aload_n 0, 1) := by decide +kernel
theorem dX3_howMany_6 : decode cX3_howMany 6 = .ok (.getfield 28, 3) := by decide +kernel
theorem dX3_howMany_9 : decode cX3_howMany 9 = .ok (.if_icmp .ge 20, 3) := by decide +kernel
theorem dX3_howMany_12 : decode cX3_howMany 12 = .ok (.aload_n 0, 1) := by decide +kernel
theorem dX3_howMany_13 : decode cX3_howMany 13 = .ok (.iload_n 2, 1) := by decide +kernel
theorem dX3_howMany_14 : decode cX3_howMany 14 = .ok (.invokevirtual 40, 3) := by decide +kernel
theorem dX3_howMany_17 : decode cX3_howMany 17 = .ok (.ifCond .lt 6, 3) := by decide +kernel
theorem dX3_howMany_20 : decode cX3_howMany 20 = .ok (.iinc 1 1, 3) := by decide +kernel
theorem dX3_howMany_23 : decode cX3_howMany 23 = .ok (.iinc 2 1, 3) := by decide +kernel
theorem dX3_howMany_26 : decode cX3_howMany 26 = .ok (.goto (-22), 3) := by decide +kernel
theorem dX3_howMany_29 : decode cX3_howMany 29 = .ok (.iload_n 1, 1) := by decide +kernel
theorem dX3_howMany_30 : decode cX3_howMany 30 = .ok (.ireturn, 1) := by decide +kernel
set_option maxRecDepth 20000 in
theorem ggX3_number_X3_otherOf : GoodIn wsX3_number wsX3_otherOf := goodIn_r _ [6, 7, 1, 8, 9, 10, 11, 12, 13, 14, 15, 16, 17, 18, 19] (by decide +kernel) (by decide +kernel)
set_option maxRecDepth 20000 in
theorem gX3_number_X3_otherOf : GoodIn wsX3_number (wsV RX3 40 RX3 yX3_otherOf wsX3_otherOf) := goodIn_app (goodIn_of _ (by decide +kernel)) ggX3_number_X3_otherOf
theorem dX3_number_0 : decode cX3_number 0 = .ok (.iconst 0, 1) := by decide +kernel
theorem dX3_number_1 : decode cX3_number 1 = .ok (.istore_n 2, 1) := by decide +kernel
theorem dX3_number_2 : decode cX3_number 2 = .ok (.iconst 0, 1) := by decide +kernel
theorem dX3_number_3 : decode cX3_number 3 = .ok (.istore_n 3, 1) := by decide +kernel
theorem dX3_number_4 : decode cX3_number 4 = .ok (.iload_n 3, 1) := by decide +kernel
theorem dX3_number_5 : decode cX3_number 5 = .ok (.aload_n 0, 1) := by decide +kernel
theorem dX3_number_6 : decode cX3_number 6 = .ok (.getfield 28, 3) := by decide +kernel
theorem dX3_number_9 : decode cX3_number 9 = .ok (.if_icmp .ge 27, 3) := by decide +kernel
theorem dX3_number_12 : decode cX3_number 12 = .ok (.aload_n 0, 1) := by decide +kernel
theorem dX3_number_13 : decode cX3_number 13 = .ok (.iload_n 3, 1) := by decide +kernel
theorem dX3_number_14 : decode cX3_number 14 = .ok (.invokevirtual 40, 3) := by decide +kernel
theorem dX3_number_17 : decode cX3_number 17 = .ok (.ifCond .lt 13, 3) := by decide +kernel
theorem dX3_number_20 : decode cX3_number 20 = .ok (.iload_n 2, 1) := by decide +kernel
theorem dX3_number_21 : decode cX3_number 21 = .ok (.iload_n 1, 1) := by decide +kernel
theorem dX3_number_22 : decode cX3_number 22 = .ok (.if_icmp .ne 5, 3) := by decide +kernel
theorem dX3_number_25 : decode cX3_number 25 = .ok (.iload_n 3, 1) := by decide +kernel
theorem dX3_number_26 : decode cX3_number 26 = .ok (.ireturn, 1) := by decide +kernel
theorem dX3_number_27 : decode cX3_number 27 = .ok (.iinc 2 1, 3) := by decide +kernel
theorem dX3_number_30 : decode cX3_number 30 = .ok (.iinc 3 1, 3) := by decide +kernel
theorem dX3_number_33 : decode cX3_number 33 = .ok (.goto (-29), 3) := by decide +kernel
theorem dX3_number_36 : decode cX3_number 36 = .ok (.iconst (-1), 1) := by decide +kernel
theorem dX3_number_37 : decode cX3_number 37 = .ok (.ireturn, 1) := by decide +kernel
set_option maxRecDepth 20000 in
theorem ggX3_isAt_X3_otherOf : GoodIn wsX3_isAt wsX3_otherOf := goodIn_r _ [6, 7, 1, 8, 9, 10, 11, 12, 13, 14, 15, 16, 17, 18, 19] (by decide +kernel) (by decide +kernel)
set_option maxRecDepth 20000 in
theorem gX3_isAt_X3_otherOf : GoodIn wsX3_isAt (wsV RX3 40 RX3 yX3_otherOf wsX3_otherOf) := goodIn_app (goodIn_of _ (by decide +kernel)) ggX3_isAt_X3_otherOf
theorem dX3_isAt_0 : decode cX3_isAt 0 = .ok (.iload_n 2, 1) := by decide +kernel
theorem dX3_isAt_1 : decode cX3_isAt 1 = .ok (.ifCond .le 33, 3) := by decide +kernel
theorem dX3_isAt_4 : decode cX3_isAt 4 = .ok (.aload_n 0, 1) := by decide +kernel
theorem dX3_isAt_5 : decode cX3_isAt 5 = .ok (.getfield 28, 3) := by decide +kernel
theorem dX3_isAt_8 : decode cX3_isAt 8 = .ok (.iload_n 1, 1) := by decide +kernel
theorem dX3_isAt_9 : decode cX3_isAt 9 = .ok (.imul, 1) := by decide +kernel
theorem dX3_isAt_10 : decode cX3_isAt 10 = .ok (.iload_n 2, 1) := by decide +kernel
theorem dX3_isAt_11 : decode cX3_isAt 11 = .ok (.irem, 1) := by decide +kernel
theorem dX3_isAt_12 : decode cX3_isAt 12 = .ok (.ifCond .ne 22, 3) := by decide +kernel
theorem dX3_isAt_15 : decode cX3_isAt 15 = .ok (.aload_n 0, 1) := by decide +kernel
theorem dX3_isAt_16 : decode cX3_isAt 16 = .ok (.aload_n 0, 1) := by decide +kernel
theorem dX3_isAt_17 : decode cX3_isAt 17 = .ok (.getfield 28, 3) := by decide +kernel
theorem dX3_isAt_20 : decode cX3_isAt 20 = .ok (.iload_n 1, 1) := by decide +kernel
theorem dX3_isAt_21 : decode cX3_isAt 21 = .ok (.imul, 1) := by decide +kernel
theorem dX3_isAt_22 : decode cX3_isAt 22 = .ok (.iload_n 2, 1) := by decide +kernel
theorem dX3_isAt_23 : decode cX3_isAt 23 = .ok (.idiv, 1) := by decide +kernel
theorem dX3_isAt_24 : decode cX3_isAt 24 = .ok (.invokevirtual 40, 3) := by decide +kernel
theorem dX3_isAt_27 : decode cX3_isAt 27 = .ok (.ifCond .lt 7, 3) := by decide +kernel
theorem dX3_isAt_30 : decode cX3_isAt 30 = .ok (.iconst 1, 1) := by decide +kernel
theorem dX3_isAt_31 : decode cX3_isAt 31 = .ok (.goto 4, 3) := by decide +kernel
theorem dX3_isAt_34 : decode cX3_isAt 34 = .ok (.iconst 0, 1) := by decide +kernel
theorem dX3_isAt_35 : decode cX3_isAt 35 = .ok (.ireturn, 1) := by decide +kernel
theorem dX4_init_0 : decode cX4_init 0 = .ok (.aload_n 0, 1) := by decide +kernel
theorem dX4_init_1 : decode cX4_init 1 = .ok (.invokespecial 3, 3) := by decide +kernel
theorem dX4_init_4 : decode cX4_init 4 = .ok (.aload_n 0, 1) := by decide +kernel
theorem dX4_init_5 : decode cX4_init 5 = .ok (.iconst 4, 1) := by decide +kernel
theorem dX4_init_6 : decode cX4_init 6 = .ok (.newarray .int, 2) := by decide +kernel
theorem dX4_init_8 : decode cX4_init 8 = .ok (.putfield 9, 3) := by decide +kernel
theorem dX4_init_11 : decode cX4_init 11 = .ok (.aload_n 0, 1) := by decide +kernel
theorem dX4_init_12 : decode cX4_init 12 = .ok (.iconst 4, 1) := by decide +kernel
theorem dX4_init_13 : decode cX4_init 13 = .ok (.newarray .int, 2) := by decide +kernel
theorem dX4_init_15 : decode cX4_init 15 = .ok (.putfield 15, 3) := by decide +kernel
theorem dX4_init_18 : decode cX4_init 18 = .ok (.return_, 1) := by decide +kernel
set_option maxRecDepth 20000 in
theorem ggX4_take_X5_item : GoodIn wsX4_take wsX5_item := goodIn_r _ [14, 15, 16, 17, 18, 19, 20, 21, 13, 22, 23, 24, 25, 26, 27, 57, 58, 59] (by decide +kernel) (by decide +kernel)
set_option maxRecDepth 20000 in
theorem gX4_take_X5_item : GoodIn wsX4_take (wsV RX4 34 RX5 yX5_item wsX5_item) := goodIn_app (goodIn_of _ (by decide +kernel)) ggX4_take_X5_item
set_option maxRecDepth 20000 in
theorem ggX4_take_X2_speedOf : GoodIn wsX4_take wsX2_speedOf := goodIn_r _ [32, 33, 34, 35, 31, 36, 37, 38, 39, 40, 41, 42, 43, 44, 45, 46, 47, 48, 49, 50, 51, 52] (by decide +kernel) (by decide +kernel)
set_option maxRecDepth 20000 in
theorem gX4_take_X2_speedOf : GoodIn wsX4_take (wsV RX4 39 RX2 yX2_speedOf wsX2_speedOf) := goodIn_app (goodIn_of _ (by decide +kernel)) ggX4_take_X2_speedOf
theorem dX4_take_0 : decode cX4_take 0 = .ok (.aload_n 0, 1) := by decide +kernel
theorem dX4_take_1 : decode cX4_take 1 = .ok (.aload_n 1, 1) := by decide +kernel
theorem dX4_take_2 : decode cX4_take 2 = .ok (.getfield 18, 3) := by decide +kernel
theorem dX4_take_5 : decode cX4_take 5 = .ok (.iconst 4, 1) := by decide +kernel
theorem dX4_take_6 : decode cX4_take 6 = .ok (.invokestatic 24, 3) := by decide +kernel
theorem dX4_take_9 : decode cX4_take 9 = .ok (.putfield 30, 3) := by decide +kernel
theorem dX4_take_12 : decode cX4_take 12 = .ok (.aload_n 0, 1) := by decide +kernel
theorem dX4_take_13 : decode cX4_take 13 = .ok (.iload 5, 2) := by decide +kernel
theorem dX4_take_15 : decode cX4_take 15 = .ok (.putfield 31, 3) := by decide +kernel
theorem dX4_take_18 : decode cX4_take 18 = .ok (.iconst 0, 1) := by decide +kernel
theorem dX4_take_19 : decode cX4_take 19 = .ok (.istore 6, 2) := by decide +kernel
theorem dX4_take_21 : decode cX4_take 21 = .ok (.iload 6, 2) := by decide +kernel
theorem dX4_take_23 : decode cX4_take 23 = .ok (.aload_n 0, 1) := by decide +kernel
theorem dX4_take_24 : decode cX4_take 24 = .ok (.getfield 30, 3) := by decide +kernel
theorem dX4_take_27 : decode cX4_take 27 = .ok (.if_icmp .ge 39, 3) := by decide +kernel
theorem dX4_take_30 : decode cX4_take 30 = .ok (.aload_n 0, 1) := by decide +kernel
theorem dX4_take_31 : decode cX4_take 31 = .ok (.getfield 9, 3) := by decide +kernel
theorem dX4_take_34 : decode cX4_take 34 = .ok (.iload 6, 2) := by decide +kernel
theorem dX4_take_36 : decode cX4_take 36 = .ok (.aload_n 2, 1) := by decide +kernel
theorem dX4_take_37 : decode cX4_take 37 = .ok (.iload_n 3, 1) := by decide +kernel
theorem dX4_take_38 : decode cX4_take 38 = .ok (.iload 4, 2) := by decide +kernel
theorem dX4_take_40 : decode cX4_take 40 = .ok (.iload 6, 2) := by decide +kernel
theorem dX4_take_42 : decode cX4_take 42 = .ok (.iadd, 1) := by decide +kernel
theorem dX4_take_43 : decode cX4_take 43 = .ok (.invokevirtual 34, 3) := by decide +kernel
theorem dX4_take_46 : decode cX4_take 46 = .ok (.iastore, 1) := by decide +kernel
theorem dX4_take_47 : decode cX4_take 47 = .ok (.aload_n 0, 1) := by decide +kernel
theorem dX4_take_48 : decode cX4_take 48 = .ok (.getfield 15, 3) := by decide +kernel
theorem dX4_take_51 : decode cX4_take 51 = .ok (.iload 6, 2) := by decide +kernel
theorem dX4_take_53 : decode cX4_take 53 = .ok (.aload_n 1, 1) := by decide +kernel
theorem dX4_take_54 : decode cX4_take 54 = .ok (.iload 6, 2) := by decide +kernel
theorem dX4_take_56 : decode cX4_take 56 = .ok (.invokevirtual 39, 3) := by decide +kernel
theorem dX4_take_59 : decode cX4_take 59 = .ok (.iastore, 1) := by decide +kernel
theorem dX4_take_60 : decode cX4_take 60 = .ok (.iinc 6 1, 3) := by decide +kernel
theorem dX4_take_63 : decode cX4_take 63 = .ok (.goto (-42), 3) := by decide +kernel
theorem dX4_take_66 : decode cX4_take 66 = .ok (.return_, 1) := by decide +kernel
theorem dX4_arcOf_0 : decode cX4_arcOf 0 = .ok (.iload_n 1, 1) := by decide +kernel
theorem dX4_arcOf_1 : decode cX4_arcOf 1 = .ok (.ifCond .lt 17, 3) := by decide +kernel
theorem dX4_arcOf_4 : decode cX4_arcOf 4 = .ok (.iload_n 1, 1) := by decide +kernel
theorem dX4_arcOf_5 : decode cX4_arcOf 5 = .ok (.iconst 4, 1) := by decide +kernel
theorem dX4_arcOf_6 : decode cX4_arcOf 6 = .ok (.if_icmp .ge 12, 3) := by decide +kernel
theorem dX4_arcOf_9 : decode cX4_arcOf 9 = .ok (.aload_n 0, 1) := by decide +kernel
theorem dX4_arcOf_10 : decode cX4_arcOf 10 = .ok (.getfield 9, 3) := by decide +kernel
theorem dX4_arcOf_13 : decode cX4_arcOf 13 = .ok (.iload_n 1, 1) := by decide +kernel
theorem dX4_arcOf_14 : decode cX4_arcOf 14 = .ok (.iaload, 1) := by decide +kernel
theorem dX4_arcOf_15 : decode cX4_arcOf 15 = .ok (.goto 4, 3) := by decide +kernel
theorem dX4_arcOf_18 : decode cX4_arcOf 18 = .ok (.iconst 0, 1) := by decide +kernel
theorem dX4_arcOf_19 : decode cX4_arcOf 19 = .ok (.ireturn, 1) := by decide +kernel
theorem dX4_speedOf_0 : decode cX4_speedOf 0 = .ok (.iload_n 1, 1) := by decide +kernel
theorem dX4_speedOf_1 : decode cX4_speedOf 1 = .ok (.ifCond .lt 17, 3) := by decide +kernel
theorem dX4_speedOf_4 : decode cX4_speedOf 4 = .ok (.iload_n 1, 1) := by decide +kernel
theorem dX4_speedOf_5 : decode cX4_speedOf 5 = .ok (.iconst 4, 1) := by decide +kernel
theorem dX4_speedOf_6 : decode cX4_speedOf 6 = .ok (.if_icmp .ge 12, 3) := by decide +kernel
theorem dX4_speedOf_9 : decode cX4_speedOf 9 = .ok (.aload_n 0, 1) := by decide +kernel
theorem dX4_speedOf_10 : decode cX4_speedOf 10 = .ok (.getfield 15, 3) := by decide +kernel
theorem dX4_speedOf_13 : decode cX4_speedOf 13 = .ok (.iload_n 1, 1) := by decide +kernel
theorem dX4_speedOf_14 : decode cX4_speedOf 14 = .ok (.iaload, 1) := by decide +kernel
theorem dX4_speedOf_15 : decode cX4_speedOf 15 = .ok (.goto 4, 3) := by decide +kernel
theorem dX4_speedOf_18 : decode cX4_speedOf 18 = .ok (.iconst 0, 1) := by decide +kernel
theorem dX4_speedOf_19 : decode cX4_speedOf 19 = .ok (.ireturn, 1) := by decide +kernel
set_option maxRecDepth 20000 in
theorem ggX4_whole_X4_speedOf : GoodIn wsX4_whole wsX4_speedOf := goodIn_r _ [13, 14, 15, 16, 17, 18] (by decide +kernel) (by decide +kernel)
set_option maxRecDepth 20000 in
theorem gX4_whole_X4_speedOf : GoodIn wsX4_whole (wsV RX4 43 RX4 yX4_speedOf wsX4_speedOf) := goodIn_app (goodIn_of _ (by decide +kernel)) ggX4_whole_X4_speedOf
theorem dX4_whole_0 : decode cX4_whole 0 = .ok (.iconst 1, 1) := by decide +kernel
theorem dX4_whole_1 : decode cX4_whole 1 = .ok (.aload_n 0, 1) := by decide +kernel
theorem dX4_whole_2 : decode cX4_whole 2 = .ok (.iconst 0, 1) := by decide +kernel
theorem dX4_whole_3 : decode cX4_whole 3 = .ok (.invokevirtual 43, 3) := by decide +kernel
theorem dX4_whole_6 : decode cX4_whole 6 = .ok (.invokestatic 44, 3) := by decide +kernel
theorem dX4_whole_9 : decode cX4_whole 9 = .ok (.aload_n 0, 1) := by decide +kernel
theorem dX4_whole_10 : decode cX4_whole 10 = .ok (.getfield 31, 3) := by decide +kernel
theorem dX4_whole_13 : decode cX4_whole 13 = .ok (.imul, 1) := by decide +kernel
theorem dX4_whole_14 : decode cX4_whole 14 = .ok (.invokestatic 47, 3) := by decide +kernel
theorem dX4_whole_17 : decode cX4_whole 17 = .ok (.ireturn, 1) := by decide +kernel
set_option maxRecDepth 20000 in
theorem ggX4_gap_X4_speedOf : GoodIn wsX4_gap wsX4_speedOf := goodIn_r _ [13, 14, 27, 28, 29, 30] (by decide +kernel) (by decide +kernel)
set_option maxRecDepth 20000 in
theorem gX4_gap_X4_speedOf : GoodIn wsX4_gap (wsV RX4 43 RX4 yX4_speedOf wsX4_speedOf) := goodIn_app (goodIn_of _ (by decide +kernel)) ggX4_gap_X4_speedOf
set_option maxRecDepth 20000 in
theorem ggX4_gap_X4_arcOf : GoodIn wsX4_gap wsX4_arcOf := goodIn_r _ [18, 19, 27, 28, 29, 30] (by decide +kernel) (by decide +kernel)
set_option maxRecDepth 20000 in
theorem gX4_gap_X4_arcOf : GoodIn wsX4_gap (wsV RX4 50 RX4 yX4_arcOf wsX4_arcOf) := goodIn_app (goodIn_of _ (by decide +kernel)) ggX4_gap_X4_arcOf
set_option maxRecDepth 20000 in
theorem ggX4_gap_X7_rest : GoodIn wsX4_gap wsX7_rest := goodIn_r _ [22, 23, 24, 25, 26] (by decide +kernel) (by decide +kernel)
set_option maxRecDepth 20000 in
theorem gX4_gap_X7_rest_n53 : GoodIn wsX4_gap (wsX7_rest) := ggX4_gap_X7_rest
theorem dX4_gap_0 : decode cX4_gap 0 = .ok (.aload_n 0, 1) := by decide +kernel
theorem dX4_gap_1 : decode cX4_gap 1 = .ok (.iload_n 1, 1) := by decide +kernel
theorem dX4_gap_2 : decode cX4_gap 2 = .ok (.invokevirtual 43, 3) := by decide +kernel
theorem dX4_gap_5 : decode cX4_gap 5 = .ok (.istore 4, 2) := by decide +kernel
theorem dX4_gap_7 : decode cX4_gap 7 = .ok (.iload 4, 2) := by decide +kernel
theorem dX4_gap_9 : decode cX4_gap 9 = .ok (.invokestatic 44, 3) := by decide +kernel
theorem dX4_gap_12 : decode cX4_gap 12 = .ok (.aload_n 0, 1) := by decide +kernel
theorem dX4_gap_13 : decode cX4_gap 13 = .ok (.getfield 31, 3) := by decide +kernel
theorem dX4_gap_16 : decode cX4_gap 16 = .ok (.imul, 1) := by decide +kernel
theorem dX4_gap_17 : decode cX4_gap 17 = .ok (.istore 5, 2) := by decide +kernel
theorem dX4_gap_19 : decode cX4_gap 19 = .ok (.aload_n 0, 1) := by decide +kernel
theorem dX4_gap_20 : decode cX4_gap 20 = .ok (.iload_n 3, 1) := by decide +kernel
theorem dX4_gap_21 : decode cX4_gap 21 = .ok (.invokevirtual 43, 3) := by decide +kernel
theorem dX4_gap_24 : decode cX4_gap 24 = .ok (.aload_n 0, 1) := by decide +kernel
theorem dX4_gap_25 : decode cX4_gap 25 = .ok (.iload_n 1, 1) := by decide +kernel
theorem dX4_gap_26 : decode cX4_gap 26 = .ok (.invokevirtual 50, 3) := by decide +kernel
theorem dX4_gap_29 : decode cX4_gap 29 = .ok (.iload_n 2, 1) := by decide +kernel
theorem dX4_gap_30 : decode cX4_gap 30 = .ok (.aload_n 0, 1) := by decide +kernel
theorem dX4_gap_31 : decode cX4_gap 31 = .ok (.getfield 31, 3) := by decide +kernel
theorem dX4_gap_34 : decode cX4_gap 34 = .ok (.imul, 1) := by decide +kernel
theorem dX4_gap_35 : decode cX4_gap 35 = .ok (.iadd, 1) := by decide +kernel
theorem dX4_gap_36 : decode cX4_gap 36 = .ok (.imul, 1) := by decide +kernel
theorem dX4_gap_37 : decode cX4_gap 37 = .ok (.istore 6, 2) := by decide +kernel
theorem dX4_gap_39 : decode cX4_gap 39 = .ok (.iload 6, 2) := by decide +kernel
theorem dX4_gap_41 : decode cX4_gap 41 = .ok (.aload_n 0, 1) := by decide +kernel
theorem dX4_gap_42 : decode cX4_gap 42 = .ok (.iload_n 3, 1) := by decide +kernel
theorem dX4_gap_43 : decode cX4_gap 43 = .ok (.invokevirtual 50, 3) := by decide +kernel
theorem dX4_gap_46 : decode cX4_gap 46 = .ok (.iload 4, 2) := by decide +kernel
theorem dX4_gap_48 : decode cX4_gap 48 = .ok (.imul, 1) := by decide +kernel
theorem dX4_gap_49 : decode cX4_gap 49 = .ok (.isub, 1) := by decide +kernel
theorem dX4_gap_50 : decode cX4_gap 50 = .ok (.iload 5, 2) := by decide +kernel
theorem dX4_gap_52 : decode cX4_gap 52 = .ok (.invokestatic 53, 3) := by decide +kernel
theorem dX4_gap_55 : decode cX4_gap 55 = .ok (.istore 7, 2) := by decide +kernel
theorem dX4_gap_57 : decode cX4_gap 57 = .ok (.iload 7, 2) := by decide +kernel
theorem dX4_gap_59 : decode cX4_gap 59 = .ok (.iload 5, 2) := by decide +kernel
theorem dX4_gap_61 : decode cX4_gap 61 = .ok (.iload 7, 2) := by decide +kernel
theorem dX4_gap_63 : decode cX4_gap 63 = .ok (.isub, 1) := by decide +kernel
theorem dX4_gap_64 : decode cX4_gap 64 = .ok (.invokestatic 24, 3) := by decide +kernel
theorem dX4_gap_67 : decode cX4_gap 67 = .ok (.ireturn, 1) := by decide +kernel
set_option maxRecDepth 20000 in
theorem ggX4_fitsAt_X4_gap : GoodIn wsX4_fitsAt wsX4_gap := goodIn_r _ [6, 7, 8, 9, 10, 11, 12, 13, 14, 15, 16, 17, 5, 18, 19, 20, 21, 22, 23, 24, 25, 26, 27, 28, 29, 30, 31, 32, 33, 34, 35] (by decide +kernel) (by decide +kernel)
set_option maxRecDepth 20000 in
theorem gX4_fitsAt_X4_gap : GoodIn wsX4_fitsAt (wsV RX4 56 RX4 yX4_gap wsX4_gap) := goodIn_app (goodIn_of _ (by decide +kernel)) ggX4_fitsAt_X4_gap
theorem dX4_fitsAt_0 : decode cX4_fitsAt 0 = .ok (.iconst 0, 1) := by decide +kernel
theorem dX4_fitsAt_1 : decode cX4_fitsAt 1 = .ok (.istore 4, 2) := by decide +kernel
theorem dX4_fitsAt_3 : decode cX4_fitsAt 3 = .ok (.iload 4, 2) := by decide +kernel
theorem dX4_fitsAt_5 : decode cX4_fitsAt 5 = .ok (.aload_n 0, 1) := by decide +kernel
theorem dX4_fitsAt_6 : decode cX4_fitsAt 6 = .ok (.getfield 30, 3) := by decide +kernel
theorem dX4_fitsAt_9 : decode cX4_fitsAt 9 = .ok (.if_icmp .ge 28, 3) := by decide +kernel
theorem dX4_fitsAt_12 : decode cX4_fitsAt 12 = .ok (.iload 4, 2) := by decide +kernel
theorem dX4_fitsAt_14 : decode cX4_fitsAt 14 = .ok (.iload_n 3, 1) := by decide +kernel
theorem dX4_fitsAt_15 : decode cX4_fitsAt 15 = .ok (.if_icmp .eq 16, 3) := by decide +kernel
theorem dX4_fitsAt_18 : decode cX4_fitsAt 18 = .ok (.aload_n 0, 1) := by decide +kernel
theorem dX4_fitsAt_19 : decode cX4_fitsAt 19 = .ok (.iload_n 1, 1) := by decide +kernel
theorem dX4_fitsAt_20 : decode cX4_fitsAt 20 = .ok (.iload_n 2, 1) := by decide +kernel
theorem dX4_fitsAt_21 : decode cX4_fitsAt 21 = .ok (.iload 4, 2) := by decide +kernel
theorem dX4_fitsAt_23 : decode cX4_fitsAt 23 = .ok (.invokevirtual 56, 3) := by decide +kernel
theorem dX4_fitsAt_26 : decode cX4_fitsAt 26 = .ok (.ifCond .eq 5, 3) := by decide +kernel
theorem dX4_fitsAt_29 : decode cX4_fitsAt 29 = .ok (.iconst 0, 1) := by decide +kernel
theorem dX4_fitsAt_30 : decode cX4_fitsAt 30 = .ok (.ireturn, 1) := by decide +kernel
theorem dX4_fitsAt_31 : decode cX4_fitsAt 31 = .ok (.iinc 4 1, 3) := by decide +kernel
theorem dX4_fitsAt_34 : decode cX4_fitsAt 34 = .ok (.goto (-31), 3) := by decide +kernel
theorem dX4_fitsAt_37 : decode cX4_fitsAt 37 = .ok (.iconst 1, 1) := by decide +kernel
theorem dX4_fitsAt_38 : decode cX4_fitsAt 38 = .ok (.ireturn, 1) := by decide +kernel
set_option maxRecDepth 20000 in
theorem ggX4_fitsWithout_X4_speedOf : GoodIn wsX4_fitsWithout wsX4_speedOf := goodIn_r _ [10, 11, 36, 37, 38, 39] (by decide +kernel) (by decide +kernel)
set_option maxRecDepth 20000 in
theorem gX4_fitsWithout_X4_speedOf : GoodIn wsX4_fitsWithout (wsV RX4 43 RX4 yX4_speedOf wsX4_speedOf) := goodIn_app (goodIn_of _ (by decide +kernel)) ggX4_fitsWithout_X4_speedOf
set_option maxRecDepth 20000 in
theorem ggX4_fitsWithout_X4_fitsAt : GoodIn wsX4_fitsWithout wsX4_fitsAt := goodIn_r _ [15, 1, 16, 17, 18, 9, 19, 2, 3, 4, 5, 20, 21, 22, 23, 6, 7, 8, 10, 11, 24, 25, 26, 27, 28, 29, 30, 31, 32, 33, 34, 35, 36, 37, 38, 39] (by decide +kernel) (by decide +kernel)
set_option maxRecDepth 20000 in
theorem gX4_fitsWithout_X4_fitsAt : GoodIn wsX4_fitsWithout (wsV RX4 60 RX4 yX4_fitsAt wsX4_fitsAt) := goodIn_app (goodIn_of _ (by decide +kernel)) ggX4_fitsWithout_X4_fitsAt
theorem dX4_fitsWithout_0 : decode cX4_fitsWithout 0 = .ok (.iload_n 1, 1) := by decide +kernel
theorem dX4_fitsWithout_1 : decode cX4_fitsWithout 1 = .ok (.ifCond .ne 7, 3) := by decide +kernel
theorem dX4_fitsWithout_4 : decode cX4_fitsWithout 4 = .ok (.iconst 1, 1) := by decide +kernel
theorem dX4_fitsWithout_5 : decode cX4_fitsWithout 5 = .ok (.goto 4, 3) := by decide +kernel
theorem dX4_fitsWithout_8 : decode cX4_fitsWithout 8 = .ok (.iconst 0, 1) := by decide +kernel
theorem dX4_fitsWithout_9 : decode cX4_fitsWithout 9 = .ok (.istore_n 2, 1) := by decide +kernel
theorem dX4_fitsWithout_10 : decode cX4_fitsWithout 10 = .ok (.iload_n 2, 1) := by decide +kernel
theorem dX4_fitsWithout_11 : decode cX4_fitsWithout 11 = .ok (.aload_n 0, 1) := by decide +kernel
theorem dX4_fitsWithout_12 : decode cX4_fitsWithout 12 = .ok (.getfield 30, 3) := by decide +kernel
theorem dX4_fitsWithout_15 : decode cX4_fitsWithout 15 = .ok (.if_icmp .lt 5, 3) := by decide +kernel
theorem dX4_fitsWithout_18 : decode cX4_fitsWithout 18 = .ok (.iconst 1, 1) := by decide +kernel
theorem dX4_fitsWithout_19 : decode cX4_fitsWithout 19 = .ok (.ireturn, 1) := by decide +kernel
theorem dX4_fitsWithout_20 : decode cX4_fitsWithout 20 = .ok (.aload_n 0, 1) := by decide +kernel
theorem dX4_fitsWithout_21 : decode cX4_fitsWithout 21 = .ok (.iload_n 2, 1) := by decide +kernel
theorem dX4_fitsWithout_22 : decode cX4_fitsWithout 22 = .ok (.invokevirtual 43, 3) := by decide +kernel
theorem dX4_fitsWithout_25 : decode cX4_fitsWithout 25 = .ok (.invokestatic 44, 3) := by decide +kernel
theorem dX4_fitsWithout_28 : decode cX4_fitsWithout 28 = .ok (.istore_n 3, 1) := by decide +kernel
theorem dX4_fitsWithout_29 : decode cX4_fitsWithout 29 = .ok (.iconst 0, 1) := by decide +kernel
theorem dX4_fitsWithout_30 : decode cX4_fitsWithout 30 = .ok (.istore 4, 2) := by decide +kernel
theorem dX4_fitsWithout_32 : decode cX4_fitsWithout 32 = .ok (.iload 4, 2) := by decide +kernel
theorem dX4_fitsWithout_34 : decode cX4_fitsWithout 34 = .ok (.iload_n 3, 1) := by decide +kernel
theorem dX4_fitsWithout_35 : decode cX4_fitsWithout 35 = .ok (.if_icmp .ge 22, 3) := by decide +kernel
theorem dX4_fitsWithout_38 : decode cX4_fitsWithout 38 = .ok (.aload_n 0, 1) := by decide +kernel
theorem dX4_fitsWithout_39 : decode cX4_fitsWithout 39 = .ok (.iload_n 2, 1) := by decide +kernel
theorem dX4_fitsWithout_40 : decode cX4_fitsWithout 40 = .ok (.iload 4, 2) := by decide +kernel
theorem dX4_fitsWithout_42 : decode cX4_fitsWithout 42 = .ok (.iload_n 1, 1) := by decide +kernel
theorem dX4_fitsWithout_43 : decode cX4_fitsWithout 43 = .ok (.invokevirtual 60, 3) := by decide +kernel
theorem dX4_fitsWithout_46 : decode cX4_fitsWithout 46 = .ok (.ifCond .eq 5, 3) := by decide +kernel
theorem dX4_fitsWithout_49 : decode cX4_fitsWithout 49 = .ok (.iconst 1, 1) := by decide +kernel
theorem dX4_fitsWithout_50 : decode cX4_fitsWithout 50 = .ok (.ireturn, 1) := by decide +kernel
theorem dX4_fitsWithout_51 : decode cX4_fitsWithout 51 = .ok (.iinc 4 1, 3) := by decide +kernel
theorem dX4_fitsWithout_54 : decode cX4_fitsWithout 54 = .ok (.goto (-22), 3) := by decide +kernel
theorem dX4_fitsWithout_57 : decode cX4_fitsWithout 57 = .ok (.iconst 0, 1) := by decide +kernel
theorem dX4_fitsWithout_58 : decode cX4_fitsWithout 58 = .ok (.ireturn, 1) := by decide +kernel
set_option maxRecDepth 20000 in
theorem ggX4_moved_X4_fitsWithout : GoodIn wsX4_moved wsX4_fitsWithout := goodIn_r _ [6, 1, 7, 8, 9, 10, 11, 12, 13, 5, 14, 15, 16, 17, 18, 19, 20, 21, 22, 23, 24, 25, 26, 27, 28, 29, 30, 31, 32, 33, 34, 35, 36, 37, 38, 39, 40, 41, 42, 43] (by decide +kernel) (by decide +kernel)
set_option maxRecDepth 20000 in
theorem gX4_moved_X4_fitsWithout : GoodIn wsX4_moved (wsV RX4 64 RX4 yX4_fitsWithout wsX4_fitsWithout) := goodIn_app (goodIn_of _ (by decide +kernel)) ggX4_moved_X4_fitsWithout
theorem dX4_moved_0 : decode cX4_moved 0 = .ok (.iconst 0, 1) := by decide +kernel
theorem dX4_moved_1 : decode cX4_moved 1 = .ok (.istore_n 1, 1) := by decide +kernel
theorem dX4_moved_2 : decode cX4_moved 2 = .ok (.iconst 0, 1) := by decide +kernel
theorem dX4_moved_3 : decode cX4_moved 3 = .ok (.istore_n 2, 1) := by decide +kernel
theorem dX4_moved_4 : decode cX4_moved 4 = .ok (.iload_n 2, 1) := by decide +kernel
theorem dX4_moved_5 : decode cX4_moved 5 = .ok (.aload_n 0, 1) := by decide +kernel
theorem dX4_moved_6 : decode cX4_moved 6 = .ok (.getfield 30, 3) := by decide +kernel
theorem dX4_moved_9 : decode cX4_moved 9 = .ok (.if_icmp .ge 23, 3) := by decide +kernel
theorem dX4_moved_12 : decode cX4_moved 12 = .ok (.aload_n 0, 1) := by decide +kernel
theorem dX4_moved_13 : decode cX4_moved 13 = .ok (.iload_n 2, 1) := by decide +kernel
theorem dX4_moved_14 : decode cX4_moved 14 = .ok (.invokevirtual 64, 3) := by decide +kernel
theorem dX4_moved_17 : decode cX4_moved 17 = .ok (.ifCond .eq 9, 3) := by decide +kernel
theorem dX4_moved_20 : decode cX4_moved 20 = .ok (.iload_n 1, 1) := by decide +kernel
theorem dX4_moved_21 : decode cX4_moved 21 = .ok (.iconst 1, 1) := by decide +kernel
theorem dX4_moved_22 : decode cX4_moved 22 = .ok (.iload_n 2, 1) := by decide +kernel
theorem dX4_moved_23 : decode cX4_moved 23 = .ok (.ishl, 1) := by decide +kernel
theorem dX4_moved_24 : decode cX4_moved 24 = .ok (.ior, 1) := by decide +kernel
theorem dX4_moved_25 : decode cX4_moved 25 = .ok (.istore_n 1, 1) := by decide +kernel
theorem dX4_moved_26 : decode cX4_moved 26 = .ok (.iinc 2 1, 3) := by decide +kernel
theorem dX4_moved_29 : decode cX4_moved 29 = .ok (.goto (-25), 3) := by decide +kernel
theorem dX4_moved_32 : decode cX4_moved 32 = .ok (.iload_n 1, 1) := by decide +kernel
theorem dX4_moved_33 : decode cX4_moved 33 = .ok (.ireturn, 1) := by decide +kernel
set_option maxRecDepth 20000 in
theorem ggX4_leastMove_X4_speedOf : GoodIn wsX4_leastMove wsX4_speedOf := goodIn_r _ [13, 14, 36, 37, 38, 39] (by decide +kernel) (by decide +kernel)
set_option maxRecDepth 20000 in
theorem gX4_leastMove_X4_speedOf : GoodIn wsX4_leastMove (wsV RX4 43 RX4 yX4_speedOf wsX4_speedOf) := goodIn_app (goodIn_of _ (by decide +kernel)) ggX4_leastMove_X4_speedOf
set_option maxRecDepth 20000 in
theorem ggX4_leastMove_X4_fitsAt : GoodIn wsX4_leastMove wsX4_fitsAt := goodIn_r _ [18, 1, 19, 20, 21, 12, 22, 2, 3, 4, 5, 23, 6, 7, 8, 9, 10, 11, 13, 14, 24, 25, 26, 27, 28, 29, 30, 31, 32, 33, 34, 35, 36, 37, 38, 39] (by decide +kernel) (by decide +kernel)
set_option maxRecDepth 20000 in
theorem gX4_leastMove_X4_fitsAt : GoodIn wsX4_leastMove (wsV RX4 60 RX4 yX4_fitsAt wsX4_fitsAt) := goodIn_app (goodIn_of _ (by decide +kernel)) ggX4_leastMove_X4_fitsAt
set_option maxRecDepth 20000 in
theorem ggX4_leastMove_X4_gap : GoodIn wsX4_leastMove wsX4_gap := goodIn_r _ [22, 2, 3, 4, 5, 23, 6, 7, 8, 9, 10, 11, 12, 13, 14, 24, 25, 26, 27, 28, 29, 30, 31, 32, 33, 34, 35, 36, 37, 38, 39] (by decide +kernel) (by decide +kernel)
set_option maxRecDepth 20000 in
theorem gX4_leastMove_X4_gap : GoodIn wsX4_leastMove (wsV RX4 56 RX4 yX4_gap wsX4_gap) := goodIn_app (goodIn_of _ (by decide +kernel)) ggX4_leastMove_X4_gap
theorem dX4_leastMove_0 : decode cX4_leastMove 0 = .ok (.aload_n 0, 1) := by decide +kernel
theorem dX4_leastMove_1 : decode cX4_leastMove 1 = .ok (.getfield 30, 3) := by decide +kernel
theorem dX4_leastMove_4 : decode cX4_leastMove 4 = .ok (.iconst 1, 1) := by decide +kernel
theorem dX4_leastMove_5 : decode cX4_leastMove 5 = .ok (.isub, 1) := by decide +kernel
theorem dX4_leastMove_6 : decode cX4_leastMove 6 = .ok (.istore_n 1, 1) := by decide +kernel
theorem dX4_leastMove_7 : decode cX4_leastMove 7 = .ok (.iload_n 1, 1) := by decide +kernel
theorem dX4_leastMove_8 : decode cX4_leastMove 8 = .ok (.iconst 1, 1) := by decide +kernel
theorem dX4_leastMove_9 : decode cX4_leastMove 9 = .ok (.if_icmp .ge 5, 3) := by decide +kernel
theorem dX4_leastMove_12 : decode cX4_leastMove 12 = .ok (.iconst 0, 1) := by decide +kernel
theorem dX4_leastMove_13 : decode cX4_leastMove 13 = .ok (.ireturn, 1) := by decide +kernel
theorem dX4_leastMove_14 : decode cX4_leastMove 14 = .ok (.iconst (-1), 1) := by decide +kernel
theorem dX4_leastMove_15 : decode cX4_leastMove 15 = .ok (.istore_n 2, 1) := by decide +kernel
theorem dX4_leastMove_16 : decode cX4_leastMove 16 = .ok (.aload_n 0, 1) := by decide +kernel
theorem dX4_leastMove_17 : decode cX4_leastMove 17 = .ok (.iconst 0, 1) := by decide +kernel
theorem dX4_leastMove_18 : decode cX4_leastMove 18 = .ok (.invokevirtual 43, 3) := by decide +kernel
theorem dX4_leastMove_21 : decode cX4_leastMove 21 = .ok (.invokestatic 44, 3) := by decide +kernel
theorem dX4_leastMove_24 : decode cX4_leastMove 24 = .ok (.istore_n 3, 1) := by decide +kernel
theorem dX4_leastMove_25 : decode cX4_leastMove 25 = .ok (.iconst 0, 1) := by decide +kernel
theorem dX4_leastMove_26 : decode cX4_leastMove 26 = .ok (.istore 4, 2) := by decide +kernel
theorem dX4_leastMove_28 : decode cX4_leastMove 28 = .ok (.iload 4, 2) := by decide +kernel
theorem dX4_leastMove_30 : decode cX4_leastMove 30 = .ok (.iload_n 3, 1) := by decide +kernel
theorem dX4_leastMove_31 : decode cX4_leastMove 31 = .ok (.if_icmp .ge 46, 3) := by decide +kernel
theorem dX4_leastMove_34 : decode cX4_leastMove 34 = .ok (.aload_n 0, 1) := by decide +kernel
theorem dX4_leastMove_35 : decode cX4_leastMove 35 = .ok (.iconst 0, 1) := by decide +kernel
theorem dX4_leastMove_36 : decode cX4_leastMove 36 = .ok (.iload 4, 2) := by decide +kernel
theorem dX4_leastMove_38 : decode cX4_leastMove 38 = .ok (.iload_n 1, 1) := by decide +kernel
theorem dX4_leastMove_39 : decode cX4_leastMove 39 = .ok (.invokevirtual 60, 3) := by decide +kernel
theorem dX4_leastMove_42 : decode cX4_leastMove 42 = .ok (.ifCond .eq 29, 3) := by decide +kernel
theorem dX4_leastMove_45 : decode cX4_leastMove 45 = .ok (.aload_n 0, 1) := by decide +kernel
theorem dX4_leastMove_46 : decode cX4_leastMove 46 = .ok (.iconst 0, 1) := by decide +kernel
theorem dX4_leastMove_47 : decode cX4_leastMove 47 = .ok (.iload 4, 2) := by decide +kernel
theorem dX4_leastMove_49 : decode cX4_leastMove 49 = .ok (.iload_n 1, 1) := by decide +kernel
theorem dX4_leastMove_50 : decode cX4_leastMove 50 = .ok (.invokevirtual 56, 3) := by decide +kernel
theorem dX4_leastMove_53 : decode cX4_leastMove 53 = .ok (.istore 5, 2) := by decide +kernel
theorem dX4_leastMove_55 : decode cX4_leastMove 55 = .ok (.iload_n 2, 1) := by decide +kernel
theorem dX4_leastMove_56 : decode cX4_leastMove 56 = .ok (.ifCond .ge 8, 3) := by decide +kernel
theorem dX4_leastMove_59 : decode cX4_leastMove 59 = .ok (.iload 5, 2) := by decide +kernel
theorem dX4_leastMove_61 : decode cX4_leastMove 61 = .ok (.goto 9, 3) := by decide +kernel
theorem dX4_leastMove_64 : decode cX4_leastMove 64 = .ok (.iload_n 2, 1) := by decide +kernel
theorem dX4_leastMove_65 : decode cX4_leastMove 65 = .ok (.iload 5, 2) := by decide +kernel
theorem dX4_leastMove_67 : decode cX4_leastMove 67 = .ok (.invokestatic 24, 3) := by decide +kernel
theorem dX4_leastMove_70 : decode cX4_leastMove 70 = .ok (.istore_n 2, 1) := by decide +kernel
theorem dX4_leastMove_71 : decode cX4_leastMove 71 = .ok (.iinc 4 1, 3) := by decide +kernel
theorem dX4_leastMove_74 : decode cX4_leastMove 74 = .ok (.goto (-46), 3) := by decide +kernel
theorem dX4_leastMove_77 : decode cX4_leastMove 77 = .ok (.iload_n 2, 1) := by decide +kernel
theorem dX4_leastMove_78 : decode cX4_leastMove 78 = .ok (.ireturn, 1) := by decide +kernel
set_option maxRecDepth 20000 in
theorem ggX5_init_J7_fill_53178 : GoodIn wsX5_init wsJ7_fill_53178 := goodIn_r _ [11] (by decide +kernel) (by decide +kernel)
set_option maxRecDepth 20000 in
theorem gX5_init_J7_fill_53178 : GoodIn wsX5_init (va_wsS RX5 21 yJ7_fill_53178 wsJ7_fill_53178) := goodIn_app (goodIn_of _ (by decide +kernel)) ggX5_init_J7_fill_53178
theorem dX5_init_0 : decode cX5_init 0 = .ok (.aload_n 0, 1) := by decide +kernel
theorem dX5_init_1 : decode cX5_init 1 = .ok (.invokespecial 3, 3) := by decide +kernel
theorem dX5_init_4 : decode cX5_init 4 = .ok (.aload_n 0, 1) := by decide +kernel
theorem dX5_init_5 : decode cX5_init 5 = .ok (.sipush 320, 3) := by decide +kernel
theorem dX5_init_8 : decode cX5_init 8 = .ok (.newarray .int, 2) := by decide +kernel
theorem dX5_init_10 : decode cX5_init 10 = .ok (.putfield 9, 3) := by decide +kernel
theorem dX5_init_13 : decode cX5_init 13 = .ok (.aload_n 0, 1) := by decide +kernel
theorem dX5_init_14 : decode cX5_init 14 = .ok (.bipush 8, 2) := by decide +kernel
theorem dX5_init_16 : decode cX5_init 16 = .ok (.newarray .int, 2) := by decide +kernel
theorem dX5_init_18 : decode cX5_init 18 = .ok (.putfield 15, 3) := by decide +kernel
theorem dX5_init_21 : decode cX5_init 21 = .ok (.aload_n 0, 1) := by decide +kernel
theorem dX5_init_22 : decode cX5_init 22 = .ok (.bipush 8, 2) := by decide +kernel
theorem dX5_init_24 : decode cX5_init 24 = .ok (.newarray .int, 2) := by decide +kernel
theorem dX5_init_26 : decode cX5_init 26 = .ok (.putfield 18, 3) := by decide +kernel
theorem dX5_init_29 : decode cX5_init 29 = .ok (.aload_n 0, 1) := by decide +kernel
theorem dX5_init_30 : decode cX5_init 30 = .ok (.getfield 15, 3) := by decide +kernel
theorem dX5_init_33 : decode cX5_init 33 = .ok (.iconst (-1), 1) := by decide +kernel
theorem dX5_init_34 : decode cX5_init 34 = .ok (.invokestatic 21, 3) := by decide +kernel
theorem dX5_init_37 : decode cX5_init 37 = .ok (.return_, 1) := by decide +kernel
set_option maxRecDepth 20000 in
theorem ggX5_laneOf_X7_isRow : GoodIn wsX5_laneOf wsX7_isRow := goodIn_r _ [4] (by decide +kernel) (by decide +kernel)
set_option maxRecDepth 20000 in
theorem gX5_laneOf_X7_isRow_n27 : GoodIn wsX5_laneOf (wsX7_isRow) := ggX5_laneOf_X7_isRow
theorem dX5_laneOf_0 : decode cX5_laneOf 0 = .ok (.iload_n 1, 1) := by decide +kernel
theorem dX5_laneOf_1 : decode cX5_laneOf 1 = .ok (.invokestatic 27, 3) := by decide +kernel
theorem dX5_laneOf_4 : decode cX5_laneOf 4 = .ok (.ifCond .eq 12, 3) := by decide +kernel
theorem dX5_laneOf_7 : decode cX5_laneOf 7 = .ok (.aload_n 0, 1) := by decide +kernel
theorem dX5_laneOf_8 : decode cX5_laneOf 8 = .ok (.getfield 15, 3) := by decide +kernel
theorem dX5_laneOf_11 : decode cX5_laneOf 11 = .ok (.iload_n 1, 1) := by decide +kernel
theorem dX5_laneOf_12 : decode cX5_laneOf 12 = .ok (.iaload, 1) := by decide +kernel
theorem dX5_laneOf_13 : decode cX5_laneOf 13 = .ok (.goto 4, 3) := by decide +kernel
theorem dX5_laneOf_16 : decode cX5_laneOf 16 = .ok (.iconst (-1), 1) := by decide +kernel
theorem dX5_laneOf_17 : decode cX5_laneOf 17 = .ok (.ireturn, 1) := by decide +kernel
set_option maxRecDepth 20000 in
theorem ggX5_isMissing_X5_laneOf : GoodIn wsX5_isMissing wsX5_laneOf := goodIn_r _ [5, 6, 7, 8, 9, 10, 11, 12] (by decide +kernel) (by decide +kernel)
set_option maxRecDepth 20000 in
theorem gX5_isMissing_X5_laneOf : GoodIn wsX5_isMissing (wsV RX5 31 RX5 yX5_laneOf wsX5_laneOf) := goodIn_app (goodIn_of _ (by decide +kernel)) ggX5_isMissing_X5_laneOf
theorem dX5_isMissing_0 : decode cX5_isMissing 0 = .ok (.aload_n 0, 1) := by decide +kernel
theorem dX5_isMissing_1 : decode cX5_isMissing 1 = .ok (.iload_n 1, 1) := by decide +kernel
theorem dX5_isMissing_2 : decode cX5_isMissing 2 = .ok (.invokevirtual 31, 3) := by decide +kernel
theorem dX5_isMissing_5 : decode cX5_isMissing 5 = .ok (.iconst (-1), 1) := by decide +kernel
theorem dX5_isMissing_6 : decode cX5_isMissing 6 = .ok (.if_icmp .ne 7, 3) := by decide +kernel
theorem dX5_isMissing_9 : decode cX5_isMissing 9 = .ok (.iconst 1, 1) := by decide +kernel
theorem dX5_isMissing_10 : decode cX5_isMissing 10 = .ok (.goto 4, 3) := by decide +kernel
theorem dX5_isMissing_13 : decode cX5_isMissing 13 = .ok (.iconst 0, 1) := by decide +kernel
theorem dX5_isMissing_14 : decode cX5_isMissing 14 = .ok (.ireturn, 1) := by decide +kernel
set_option maxRecDepth 20000 in
theorem ggX5_length_X7_isRow : GoodIn wsX5_length wsX7_isRow := goodIn_r _ [4] (by decide +kernel) (by decide +kernel)
set_option maxRecDepth 20000 in
theorem gX5_length_X7_isRow_n27 : GoodIn wsX5_length (wsX7_isRow) := ggX5_length_X7_isRow
theorem dX5_length_0 : decode cX5_length 0 = .ok (.iload_n 1, 1) := by decide +kernel
theorem dX5_length_1 : decode cX5_length 1 = .ok (.invokestatic 27, 3) := by decide +kernel
theorem dX5_length_4 : decode cX5_length 4 = .ok (.ifCond .eq 12, 3) := by decide +kernel
theorem dX5_length_7 : decode cX5_length 7 = .ok (.aload_n 0, 1) := by decide +kernel
theorem dX5_length_8 : decode cX5_length 8 = .ok (.getfield 18, 3) := by decide +kernel
theorem dX5_length_11 : decode cX5_length 11 = .ok (.iload_n 1, 1) := by decide +kernel
theorem dX5_length_12 : decode cX5_length 12 = .ok (.iaload, 1) := by decide +kernel
theorem dX5_length_13 : decode cX5_length 13 = .ok (.goto 4, 3) := by decide +kernel
theorem dX5_length_16 : decode cX5_length 16 = .ok (.iconst 0, 1) := by decide +kernel
theorem dX5_length_17 : decode cX5_length 17 = .ok (.ireturn, 1) := by decide +kernel
set_option maxRecDepth 20000 in
theorem ggX5_reaches_X5_length : GoodIn wsX5_reaches wsX5_length := goodIn_r _ [5, 6, 7, 8, 9, 10, 11, 12] (by decide +kernel) (by decide +kernel)
set_option maxRecDepth 20000 in
theorem gX5_reaches_X5_length : GoodIn wsX5_reaches (wsV RX5 35 RX5 yX5_length wsX5_length) := goodIn_app (goodIn_of _ (by decide +kernel)) ggX5_reaches_X5_length
theorem dX5_reaches_0 : decode cX5_reaches 0 = .ok (.iload_n 2, 1) := by decide +kernel
theorem dX5_reaches_1 : decode cX5_reaches 1 = .ok (.ifCond .lt 22, 3) := by decide +kernel
theorem dX5_reaches_4 : decode cX5_reaches 4 = .ok (.iload_n 3, 1) := by decide +kernel
theorem dX5_reaches_5 : decode cX5_reaches 5 = .ok (.ifCond .lt 18, 3) := by decide +kernel
theorem dX5_reaches_8 : decode cX5_reaches 8 = .ok (.iload_n 2, 1) := by decide +kernel
theorem dX5_reaches_9 : decode cX5_reaches 9 = .ok (.aload_n 0, 1) := by decide +kernel
theorem dX5_reaches_10 : decode cX5_reaches 10 = .ok (.iload_n 1, 1) := by decide +kernel
theorem dX5_reaches_11 : decode cX5_reaches 11 = .ok (.invokevirtual 35, 3) := by decide +kernel
theorem dX5_reaches_14 : decode cX5_reaches 14 = .ok (.iload_n 3, 1) := by decide +kernel
theorem dX5_reaches_15 : decode cX5_reaches 15 = .ok (.isub, 1) := by decide +kernel
theorem dX5_reaches_16 : decode cX5_reaches 16 = .ok (.if_icmp .gt 7, 3) := by decide +kernel
theorem dX5_reaches_19 : decode cX5_reaches 19 = .ok (.iconst 1, 1) := by decide +kernel
theorem dX5_reaches_20 : decode cX5_reaches 20 = .ok (.goto 4, 3) := by decide +kernel
theorem dX5_reaches_23 : decode cX5_reaches 23 = .ok (.iconst 0, 1) := by decide +kernel
theorem dX5_reaches_24 : decode cX5_reaches 24 = .ok (.ireturn, 1) := by decide +kernel
set_option maxRecDepth 20000 in
theorem ggX5_wrongAt_X5_isMissing : GoodIn wsX5_wrongAt wsX5_isMissing := goodIn_r _ [5, 6, 7, 8, 4, 9, 10, 11, 12, 13, 23, 24, 25] (by decide +kernel) (by decide +kernel)
set_option maxRecDepth 20000 in
theorem gX5_wrongAt_X5_isMissing : GoodIn wsX5_wrongAt (wsV RX5 38 RX5 yX5_isMissing wsX5_isMissing) := goodIn_app (goodIn_of _ (by decide +kernel)) ggX5_wrongAt_X5_isMissing
set_option maxRecDepth 20000 in
theorem ggX5_wrongAt_X5_reaches : GoodIn wsX5_wrongAt wsX5_reaches := goodIn_r _ [17, 18, 19, 20, 4, 21, 22, 11, 12, 13, 23, 24, 25] (by decide +kernel) (by decide +kernel)
set_option maxRecDepth 20000 in
theorem gX5_wrongAt_X5_reaches : GoodIn wsX5_wrongAt (wsV RX5 41 RX5 yX5_reaches wsX5_reaches) := goodIn_app (goodIn_of _ (by decide +kernel)) ggX5_wrongAt_X5_reaches
theorem dX5_wrongAt_0 : decode cX5_wrongAt 0 = .ok (.aload_n 0, 1) := by decide +kernel
theorem dX5_wrongAt_1 : decode cX5_wrongAt 1 = .ok (.iload_n 1, 1) := by decide +kernel
theorem dX5_wrongAt_2 : decode cX5_wrongAt 2 = .ok (.invokevirtual 38, 3) := by decide +kernel
theorem dX5_wrongAt_5 : decode cX5_wrongAt 5 = .ok (.ifCond .eq 5, 3) := by decide +kernel
theorem dX5_wrongAt_8 : decode cX5_wrongAt 8 = .ok (.iconst 1, 1) := by decide +kernel
theorem dX5_wrongAt_9 : decode cX5_wrongAt 9 = .ok (.ireturn, 1) := by decide +kernel
theorem dX5_wrongAt_10 : decode cX5_wrongAt 10 = .ok (.aload_n 0, 1) := by decide +kernel
theorem dX5_wrongAt_11 : decode cX5_wrongAt 11 = .ok (.iload_n 1, 1) := by decide +kernel
theorem dX5_wrongAt_12 : decode cX5_wrongAt 12 = .ok (.iload_n 2, 1) := by decide +kernel
theorem dX5_wrongAt_13 : decode cX5_wrongAt 13 = .ok (.iload_n 3, 1) := by decide +kernel
theorem dX5_wrongAt_14 : decode cX5_wrongAt 14 = .ok (.invokevirtual 41, 3) := by decide +kernel
theorem dX5_wrongAt_17 : decode cX5_wrongAt 17 = .ok (.ifCond .eq 7, 3) := by decide +kernel
theorem dX5_wrongAt_20 : decode cX5_wrongAt 20 = .ok (.iconst 0, 1) := by decide +kernel
theorem dX5_wrongAt_21 : decode cX5_wrongAt 21 = .ok (.goto 4, 3) := by decide +kernel
theorem dX5_wrongAt_24 : decode cX5_wrongAt 24 = .ok (.iconst 2, 1) := by decide +kernel
theorem dX5_wrongAt_25 : decode cX5_wrongAt 25 = .ok (.ireturn, 1) := by decide +kernel
set_option maxRecDepth 20000 in
theorem ggX5_make_X7_isRow : GoodIn wsX5_make wsX7_isRow := goodIn_r _ [6] (by decide +kernel) (by decide +kernel)
set_option maxRecDepth 20000 in
theorem gX5_make_X7_isRow_n27 : GoodIn wsX5_make (wsX7_isRow) := ggX5_make_X7_isRow
set_option maxRecDepth 20000 in
theorem ggX5_make_X7_isWithin : GoodIn wsX5_make wsX7_isWithin := goodIn_r _ [8] (by decide +kernel) (by decide +kernel)
set_option maxRecDepth 20000 in
theorem gX5_make_X7_isWithin_n45 : GoodIn wsX5_make (wsX7_isWithin) := ggX5_make_X7_isWithin
theorem dX5_make_0 : decode cX5_make 0 = .ok (.iload_n 1, 1) := by decide +kernel
theorem dX5_make_1 : decode cX5_make 1 = .ok (.invokestatic 27, 3) := by decide +kernel
theorem dX5_make_4 : decode cX5_make 4 = .ok (.ifCond .eq 13, 3) := by decide +kernel
theorem dX5_make_7 : decode cX5_make 7 = .ok (.iload_n 3, 1) := by decide +kernel
theorem dX5_make_8 : decode cX5_make 8 = .ok (.iconst 0, 1) := by decide +kernel
theorem dX5_make_9 : decode cX5_make 9 = .ok (.bipush 40, 2) := by decide +kernel
theorem dX5_make_11 : decode cX5_make 11 = .ok (.invokestatic 45, 3) := by decide +kernel
theorem dX5_make_14 : decode cX5_make 14 = .ok (.ifCond .ne 4, 3) := by decide +kernel
theorem dX5_make_17 : decode cX5_make 17 = .ok (.return_, 1) := by decide +kernel
theorem dX5_make_18 : decode cX5_make 18 = .ok (.aload_n 0, 1) := by decide +kernel
theorem dX5_make_19 : decode cX5_make 19 = .ok (.getfield 15, 3) := by decide +kernel
theorem dX5_make_22 : decode cX5_make 22 = .ok (.iload_n 1, 1) := by decide +kernel
theorem dX5_make_23 : decode cX5_make 23 = .ok (.iload_n 2, 1) := by decide +kernel
theorem dX5_make_24 : decode cX5_make 24 = .ok (.iastore, 1) := by decide +kernel
theorem dX5_make_25 : decode cX5_make 25 = .ok (.aload_n 0, 1) := by decide +kernel
theorem dX5_make_26 : decode cX5_make 26 = .ok (.getfield 18, 3) := by decide +kernel
theorem dX5_make_29 : decode cX5_make 29 = .ok (.iload_n 1, 1) := by decide +kernel
theorem dX5_make_30 : decode cX5_make 30 = .ok (.iload_n 3, 1) := by decide +kernel
theorem dX5_make_31 : decode cX5_make 31 = .ok (.iastore, 1) := by decide +kernel
theorem dX5_make_32 : decode cX5_make 32 = .ok (.iconst 0, 1) := by decide +kernel
theorem dX5_make_33 : decode cX5_make 33 = .ok (.istore 4, 2) := by decide +kernel
theorem dX5_make_35 : decode cX5_make 35 = .ok (.iload 4, 2) := by decide +kernel
theorem dX5_make_37 : decode cX5_make 37 = .ok (.iload_n 3, 1) := by decide +kernel
theorem dX5_make_38 : decode cX5_make 38 = .ok (.if_icmp .ge 22, 3) := by decide +kernel
theorem dX5_make_41 : decode cX5_make 41 = .ok (.aload_n 0, 1) := by decide +kernel
theorem dX5_make_42 : decode cX5_make 42 = .ok (.getfield 9, 3) := by decide +kernel
theorem dX5_make_45 : decode cX5_make 45 = .ok (.iload_n 1, 1) := by decide +kernel
theorem dX5_make_46 : decode cX5_make 46 = .ok (.bipush 40, 2) := by decide +kernel
theorem dX5_make_48 : decode cX5_make 48 = .ok (.imul, 1) := by decide +kernel
theorem dX5_make_49 : decode cX5_make 49 = .ok (.iload 4, 2) := by decide +kernel
theorem dX5_make_51 : decode cX5_make 51 = .ok (.iadd, 1) := by decide +kernel
theorem dX5_make_52 : decode cX5_make 52 = .ok (.iconst 0, 1) := by decide +kernel
theorem dX5_make_53 : decode cX5_make 53 = .ok (.iastore, 1) := by decide +kernel
theorem dX5_make_54 : decode cX5_make 54 = .ok (.iinc 4 1, 3) := by decide +kernel
theorem dX5_make_57 : decode cX5_make 57 = .ok (.goto (-22), 3) := by decide +kernel
theorem dX5_make_60 : decode cX5_make 60 = .ok (.return_, 1) := by decide +kernel
set_option maxRecDepth 20000 in
theorem ggX5_lose_X7_isRow : GoodIn wsX5_lose wsX7_isRow := goodIn_r _ [5] (by decide +kernel) (by decide +kernel)
set_option maxRecDepth 20000 in
theorem gX5_lose_X7_isRow_n27 : GoodIn wsX5_lose (wsX7_isRow) := ggX5_lose_X7_isRow
theorem dX5_lose_0 : decode cX5_lose 0 = .ok (.iload_n 1, 1) := by decide +kernel
theorem dX5_lose_1 : decode cX5_lose 1 = .ok (.invokestatic 27, 3) := by decide +kernel
theorem dX5_lose_4 : decode cX5_lose 4 = .ok (.ifCond .eq 17, 3) := by decide +kernel
theorem dX5_lose_7 : decode cX5_lose 7 = .ok (.aload_n 0, 1) := by decide +kernel
theorem dX5_lose_8 : decode cX5_lose 8 = .ok (.getfield 15, 3) := by decide +kernel
theorem dX5_lose_11 : decode cX5_lose 11 = .ok (.iload_n 1, 1) := by decide +kernel
theorem dX5_lose_12 : decode cX5_lose 12 = .ok (.iconst (-1), 1) := by decide +kernel
theorem dX5_lose_13 : decode cX5_lose 13 = .ok (.iastore, 1) := by decide +kernel
theorem dX5_lose_14 : decode cX5_lose 14 = .ok (.aload_n 0, 1) := by decide +kernel
theorem dX5_lose_15 : decode cX5_lose 15 = .ok (.getfield 18, 3) := by decide +kernel
theorem dX5_lose_18 : decode cX5_lose 18 = .ok (.iload_n 1, 1) := by decide +kernel
theorem dX5_lose_19 : decode cX5_lose 19 = .ok (.iconst 0, 1) := by decide +kernel
theorem dX5_lose_20 : decode cX5_lose 20 = .ok (.iastore, 1) := by decide +kernel
theorem dX5_lose_21 : decode cX5_lose 21 = .ok (.return_, 1) := by decide +kernel
set_option maxRecDepth 20000 in
theorem ggX5_item_X7_isRow : GoodIn wsX5_item wsX7_isRow := goodIn_r _ [4] (by decide +kernel) (by decide +kernel)
set_option maxRecDepth 20000 in
theorem gX5_item_X7_isRow_n27 : GoodIn wsX5_item (wsX7_isRow) := ggX5_item_X7_isRow
set_option maxRecDepth 20000 in
theorem ggX5_item_X5_reaches : GoodIn wsX5_item wsX5_reaches := goodIn_r _ [9, 10, 11, 12, 8, 13, 14, 2, 3, 4, 15, 16, 17] (by decide +kernel) (by decide +kernel)
set_option maxRecDepth 20000 in
theorem gX5_item_X5_reaches : GoodIn wsX5_item (wsV RX5 41 RX5 yX5_reaches wsX5_reaches) := goodIn_app (goodIn_of _ (by decide +kernel)) ggX5_item_X5_reaches
theorem dX5_item_0 : decode cX5_item 0 = .ok (.iload_n 1, 1) := by decide +kernel
theorem dX5_item_1 : decode cX5_item 1 = .ok (.invokestatic 27, 3) := by decide +kernel
theorem dX5_item_4 : decode cX5_item 4 = .ok (.ifCond .eq 27, 3) := by decide +kernel
theorem dX5_item_7 : decode cX5_item 7 = .ok (.aload_n 0, 1) := by decide +kernel
theorem dX5_item_8 : decode cX5_item 8 = .ok (.iload_n 1, 1) := by decide +kernel
theorem dX5_item_9 : decode cX5_item 9 = .ok (.iload_n 2, 1) := by decide +kernel
theorem dX5_item_10 : decode cX5_item 10 = .ok (.iconst 1, 1) := by decide +kernel
theorem dX5_item_11 : decode cX5_item 11 = .ok (.invokevirtual 41, 3) := by decide +kernel
theorem dX5_item_14 : decode cX5_item 14 = .ok (.ifCond .eq 17, 3) := by decide +kernel
theorem dX5_item_17 : decode cX5_item 17 = .ok (.aload_n 0, 1) := by decide +kernel
theorem dX5_item_18 : decode cX5_item 18 = .ok (.getfield 9, 3) := by decide +kernel
theorem dX5_item_21 : decode cX5_item 21 = .ok (.iload_n 1, 1) := by decide +kernel
theorem dX5_item_22 : decode cX5_item 22 = .ok (.bipush 40, 2) := by decide +kernel
theorem dX5_item_24 : decode cX5_item 24 = .ok (.imul, 1) := by decide +kernel
theorem dX5_item_25 : decode cX5_item 25 = .ok (.iload_n 2, 1) := by decide +kernel
theorem dX5_item_26 : decode cX5_item 26 = .ok (.iadd, 1) := by decide +kernel
theorem dX5_item_27 : decode cX5_item 27 = .ok (.iaload, 1) := by decide +kernel
theorem dX5_item_28 : decode cX5_item 28 = .ok (.goto 4, 3) := by decide +kernel
theorem dX5_item_31 : decode cX5_item 31 = .ok (.iconst 0, 1) := by decide +kernel
theorem dX5_item_32 : decode cX5_item 32 = .ok (.ireturn, 1) := by decide +kernel
set_option maxRecDepth 20000 in
theorem ggX5_put_X7_isRow : GoodIn wsX5_put wsX7_isRow := goodIn_r _ [4] (by decide +kernel) (by decide +kernel)
set_option maxRecDepth 20000 in
theorem gX5_put_X7_isRow_n27 : GoodIn wsX5_put (wsX7_isRow) := ggX5_put_X7_isRow
set_option maxRecDepth 20000 in
theorem ggX5_put_X5_reaches : GoodIn wsX5_put wsX5_reaches := goodIn_r _ [9, 10, 11, 12, 8, 13, 14, 2, 3, 4, 23, 24, 25] (by decide +kernel) (by decide +kernel)
set_option maxRecDepth 20000 in
theorem gX5_put_X5_reaches : GoodIn wsX5_put (wsV RX5 41 RX5 yX5_reaches wsX5_reaches) := goodIn_app (goodIn_of _ (by decide +kernel)) ggX5_put_X5_reaches
set_option maxRecDepth 20000 in
theorem ggX5_put_X5_laneOf : GoodIn wsX5_put wsX5_laneOf := goodIn_r _ [18, 19, 2, 3, 4, 23, 24, 25] (by decide +kernel) (by decide +kernel)
set_option maxRecDepth 20000 in
theorem gX5_put_X5_laneOf : GoodIn wsX5_put (wsV RX5 31 RX5 yX5_laneOf wsX5_laneOf) := goodIn_app (goodIn_of _ (by decide +kernel)) ggX5_put_X5_laneOf
set_option maxRecDepth 20000 in
theorem ggX5_put_X5_cut : GoodIn wsX5_put wsX5_cut := goodIn_r _ [22] (by decide +kernel) (by decide +kernel)
set_option maxRecDepth 20000 in
theorem gX5_put_X5_cut : GoodIn wsX5_put (va_wsS RX5 48 yX5_cut wsX5_cut) := goodIn_app (goodIn_of _ (by decide +kernel)) ggX5_put_X5_cut
theorem dX5_put_0 : decode cX5_put 0 = .ok (.iload_n 1, 1) := by decide +kernel
theorem dX5_put_1 : decode cX5_put 1 = .ok (.invokestatic 27, 3) := by decide +kernel
theorem dX5_put_4 : decode cX5_put 4 = .ok (.ifCond .eq 33, 3) := by decide +kernel
theorem dX5_put_7 : decode cX5_put 7 = .ok (.aload_n 0, 1) := by decide +kernel
theorem dX5_put_8 : decode cX5_put 8 = .ok (.iload_n 1, 1) := by decide +kernel
theorem dX5_put_9 : decode cX5_put 9 = .ok (.iload_n 2, 1) := by decide +kernel
theorem dX5_put_10 : decode cX5_put 10 = .ok (.iconst 1, 1) := by decide +kernel
theorem dX5_put_11 : decode cX5_put 11 = .ok (.invokevirtual 41, 3) := by decide +kernel
theorem dX5_put_14 : decode cX5_put 14 = .ok (.ifCond .eq 23, 3) := by decide +kernel
theorem dX5_put_17 : decode cX5_put 17 = .ok (.aload_n 0, 1) := by decide +kernel
theorem dX5_put_18 : decode cX5_put 18 = .ok (.getfield 9, 3) := by decide +kernel
theorem dX5_put_21 : decode cX5_put 21 = .ok (.iload_n 1, 1) := by decide +kernel
theorem dX5_put_22 : decode cX5_put 22 = .ok (.bipush 40, 2) := by decide +kernel
theorem dX5_put_24 : decode cX5_put 24 = .ok (.imul, 1) := by decide +kernel
theorem dX5_put_25 : decode cX5_put 25 = .ok (.iload_n 2, 1) := by decide +kernel
theorem dX5_put_26 : decode cX5_put 26 = .ok (.iadd, 1) := by decide +kernel
theorem dX5_put_27 : decode cX5_put 27 = .ok (.aload_n 0, 1) := by decide +kernel
theorem dX5_put_28 : decode cX5_put 28 = .ok (.iload_n 1, 1) := by decide +kernel
theorem dX5_put_29 : decode cX5_put 29 = .ok (.invokevirtual 31, 3) := by decide +kernel
theorem dX5_put_32 : decode cX5_put 32 = .ok (.iload_n 3, 1) := by decide +kernel
theorem dX5_put_33 : decode cX5_put 33 = .ok (.invokestatic 48, 3) := by decide +kernel
theorem dX5_put_36 : decode cX5_put 36 = .ok (.iastore, 1) := by decide +kernel
theorem dX5_put_37 : decode cX5_put 37 = .ok (.return_, 1) := by decide +kernel
set_option maxRecDepth 20000 in
theorem ggX5_move_X7_isRow : GoodIn wsX5_move wsX7_isRow := goodIn_r _ [8] (by decide +kernel) (by decide +kernel)
set_option maxRecDepth 20000 in
theorem gX5_move_X7_isRow_n27 : GoodIn wsX5_move (wsX7_isRow) := ggX5_move_X7_isRow
set_option maxRecDepth 20000 in
theorem ggX5_move_X5_reaches : GoodIn wsX5_move wsX5_reaches := goodIn_r _ [13, 14, 15, 16, 12, 17, 18, 6, 7, 8, 19, 20, 21] (by decide +kernel) (by decide +kernel)
set_option maxRecDepth 20000 in
theorem gX5_move_X5_reaches : GoodIn wsX5_move (wsV RX5 41 RX5 yX5_reaches wsX5_reaches) := goodIn_app (goodIn_of _ (by decide +kernel)) ggX5_move_X5_reaches
theorem dX5_move_0 : decode cX5_move 0 = .ok (.iload_n 1, 1) := by decide +kernel
theorem dX5_move_1 : decode cX5_move 1 = .ok (.invokestatic 27, 3) := by decide +kernel
theorem dX5_move_4 : decode cX5_move 4 = .ok (.ifCond .eq 59, 3) := by decide +kernel
theorem dX5_move_7 : decode cX5_move 7 = .ok (.iload_n 3, 1) := by decide +kernel
theorem dX5_move_8 : decode cX5_move 8 = .ok (.invokestatic 27, 3) := by decide +kernel
theorem dX5_move_11 : decode cX5_move 11 = .ok (.ifCond .eq 52, 3) := by decide +kernel
theorem dX5_move_14 : decode cX5_move 14 = .ok (.aload_n 0, 1) := by decide +kernel
theorem dX5_move_15 : decode cX5_move 15 = .ok (.iload_n 1, 1) := by decide +kernel
theorem dX5_move_16 : decode cX5_move 16 = .ok (.iload_n 2, 1) := by decide +kernel
theorem dX5_move_17 : decode cX5_move 17 = .ok (.iload 5, 2) := by decide +kernel
theorem dX5_move_19 : decode cX5_move 19 = .ok (.invokevirtual 41, 3) := by decide +kernel
theorem dX5_move_22 : decode cX5_move 22 = .ok (.ifCond .eq 41, 3) := by decide +kernel
theorem dX5_move_25 : decode cX5_move 25 = .ok (.aload_n 0, 1) := by decide +kernel
theorem dX5_move_26 : decode cX5_move 26 = .ok (.iload_n 3, 1) := by decide +kernel
theorem dX5_move_27 : decode cX5_move 27 = .ok (.iload 4, 2) := by decide +kernel
theorem dX5_move_29 : decode cX5_move 29 = .ok (.iload 5, 2) := by decide +kernel
theorem dX5_move_31 : decode cX5_move 31 = .ok (.invokevirtual 41, 3) := by decide +kernel
theorem dX5_move_34 : decode cX5_move 34 = .ok (.ifCond .eq 29, 3) := by decide +kernel
theorem dX5_move_37 : decode cX5_move 37 = .ok (.aload_n 0, 1) := by decide +kernel
theorem dX5_move_38 : decode cX5_move 38 = .ok (.getfield 9, 3) := by decide +kernel
theorem dX5_move_41 : decode cX5_move 41 = .ok (.iload_n 1, 1) := by decide +kernel
theorem dX5_move_42 : decode cX5_move 42 = .ok (.bipush 40, 2) := by decide +kernel
theorem dX5_move_44 : decode cX5_move 44 = .ok (.imul, 1) := by decide +kernel
theorem dX5_move_45 : decode cX5_move 45 = .ok (.iload_n 2, 1) := by decide +kernel
theorem dX5_move_46 : decode cX5_move 46 = .ok (.iadd, 1) := by decide +kernel
theorem dX5_move_47 : decode cX5_move 47 = .ok (.aload_n 0, 1) := by decide +kernel
theorem dX5_move_48 : decode cX5_move 48 = .ok (.getfield 9, 3) := by decide +kernel
theorem dX5_move_51 : decode cX5_move 51 = .ok (.iload_n 3, 1) := by decide +kernel
theorem dX5_move_52 : decode cX5_move 52 = .ok (.bipush 40, 2) := by decide +kernel
theorem dX5_move_54 : decode cX5_move 54 = .ok (.imul, 1) := by decide +kernel
theorem dX5_move_55 : decode cX5_move 55 = .ok (.iload 4, 2) := by decide +kernel
theorem dX5_move_57 : decode cX5_move 57 = .ok (.iadd, 1) := by decide +kernel
theorem dX5_move_58 : decode cX5_move 58 = .ok (.iload 5, 2) := by decide +kernel
theorem dX5_move_60 : decode cX5_move 60 = .ok (.invokestatic 52, 3) := by decide +kernel
theorem dX5_move_63 : decode cX5_move 63 = .ok (.return_, 1) := by decide +kernel
set_option maxRecDepth 20000 in
theorem ggX5_areBelow_X5_item : GoodIn wsX5_areBelow wsX5_item := goodIn_r _ [5, 6, 7, 8, 9, 10, 11, 12, 4, 13, 14, 15, 16, 17, 18, 21, 22, 23] (by decide +kernel) (by decide +kernel)
set_option maxRecDepth 20000 in
theorem gX5_areBelow_X5_item : GoodIn wsX5_areBelow (wsV RX5 58 RX5 yX5_item wsX5_item) := goodIn_app (goodIn_of _ (by decide +kernel)) ggX5_areBelow_X5_item
set_option maxRecDepth 20000 in
theorem ggX5_areBelow_X7_isWithin : GoodIn wsX5_areBelow wsX7_isWithin := goodIn_r _ [20] (by decide +kernel) (by decide +kernel)
set_option maxRecDepth 20000 in
theorem gX5_areBelow_X7_isWithin_n45 : GoodIn wsX5_areBelow (wsX7_isWithin) := ggX5_areBelow_X7_isWithin
theorem dX5_areBelow_0 : decode cX5_areBelow 0 = .ok (.iconst 0, 1) := by decide +kernel
theorem dX5_areBelow_1 : decode cX5_areBelow 1 = .ok (.istore 5, 2) := by decide +kernel
theorem dX5_areBelow_3 : decode cX5_areBelow 3 = .ok (.iload 5, 2) := by decide +kernel
theorem dX5_areBelow_5 : decode cX5_areBelow 5 = .ok (.iload 4, 2) := by decide +kernel
theorem dX5_areBelow_7 : decode cX5_areBelow 7 = .ok (.if_icmp .ge 30, 3) := by decide +kernel
theorem dX5_areBelow_10 : decode cX5_areBelow 10 = .ok (.aload_n 0, 1) := by decide +kernel
theorem dX5_areBelow_11 : decode cX5_areBelow 11 = .ok (.iload_n 2, 1) := by decide +kernel
theorem dX5_areBelow_12 : decode cX5_areBelow 12 = .ok (.iload_n 3, 1) := by decide +kernel
theorem dX5_areBelow_13 : decode cX5_areBelow 13 = .ok (.iload 5, 2) := by decide +kernel
theorem dX5_areBelow_15 : decode cX5_areBelow 15 = .ok (.iadd, 1) := by decide +kernel
theorem dX5_areBelow_16 : decode cX5_areBelow 16 = .ok (.invokevirtual 58, 3) := by decide +kernel
theorem dX5_areBelow_19 : decode cX5_areBelow 19 = .ok (.iconst 0, 1) := by decide +kernel
theorem dX5_areBelow_20 : decode cX5_areBelow 20 = .ok (.iload_n 1, 1) := by decide +kernel
theorem dX5_areBelow_21 : decode cX5_areBelow 21 = .ok (.iconst 1, 1) := by decide +kernel
theorem dX5_areBelow_22 : decode cX5_areBelow 22 = .ok (.isub, 1) := by decide +kernel
theorem dX5_areBelow_23 : decode cX5_areBelow 23 = .ok (.invokestatic 45, 3) := by decide +kernel
theorem dX5_areBelow_26 : decode cX5_areBelow 26 = .ok (.ifCond .ne 5, 3) := by decide +kernel
theorem dX5_areBelow_29 : decode cX5_areBelow 29 = .ok (.iconst 0, 1) := by decide +kernel
theorem dX5_areBelow_30 : decode cX5_areBelow 30 = .ok (.ireturn, 1) := by decide +kernel
theorem dX5_areBelow_31 : decode cX5_areBelow 31 = .ok (.iinc 5 1, 3) := by decide +kernel
theorem dX5_areBelow_34 : decode cX5_areBelow 34 = .ok (.goto (-31), 3) := by decide +kernel
theorem dX5_areBelow_37 : decode cX5_areBelow 37 = .ok (.iconst 1, 1) := by decide +kernel
theorem dX5_areBelow_38 : decode cX5_areBelow 38 = .ok (.ireturn, 1) := by decide +kernel
set_option maxRecDepth 20000 in
theorem ggX5_present_X5_isMissing : GoodIn wsX5_present wsX5_isMissing := goodIn_r _ [5, 6, 7, 8, 4, 9, 10, 11, 12, 13, 14, 15, 16] (by decide +kernel) (by decide +kernel)
set_option maxRecDepth 20000 in
theorem gX5_present_X5_isMissing : GoodIn wsX5_present (wsV RX5 38 RX5 yX5_isMissing wsX5_isMissing) := goodIn_app (goodIn_of _ (by decide +kernel)) ggX5_present_X5_isMissing
theorem dX5_present_0 : decode cX5_present 0 = .ok (.iconst 0, 1) := by decide +kernel
theorem dX5_present_1 : decode cX5_present 1 = .ok (.istore_n 1, 1) := by decide +kernel
theorem dX5_present_2 : decode cX5_present 2 = .ok (.iconst 0, 1) := by decide +kernel
theorem dX5_present_3 : decode cX5_present 3 = .ok (.istore_n 2, 1) := by decide +kernel
theorem dX5_present_4 : decode cX5_present 4 = .ok (.iload_n 2, 1) := by decide +kernel
theorem dX5_present_5 : decode cX5_present 5 = .ok (.bipush 8, 2) := by decide +kernel
theorem dX5_present_7 : decode cX5_present 7 = .ok (.if_icmp .ge 20, 3) := by decide +kernel
theorem dX5_present_10 : decode cX5_present 10 = .ok (.aload_n 0, 1) := by decide +kernel
theorem dX5_present_11 : decode cX5_present 11 = .ok (.iload_n 2, 1) := by decide +kernel
theorem dX5_present_12 : decode cX5_present 12 = .ok (.invokevirtual 38, 3) := by decide +kernel
theorem dX5_present_15 : decode cX5_present 15 = .ok (.ifCond .ne 6, 3) := by decide +kernel
theorem dX5_present_18 : decode cX5_present 18 = .ok (.iinc 1 1, 3) := by decide +kernel
theorem dX5_present_21 : decode cX5_present 21 = .ok (.iinc 2 1, 3) := by decide +kernel
theorem dX5_present_24 : decode cX5_present 24 = .ok (.goto (-20), 3) := by decide +kernel
theorem dX5_present_27 : decode cX5_present 27 = .ok (.iload_n 1, 1) := by decide +kernel
theorem dX5_present_28 : decode cX5_present 28 = .ok (.ireturn, 1) := by decide +kernel
theorem dX5_cut_0 : decode cX5_cut 0 = .ok (.iload_n 0, 1) := by decide +kernel
theorem dX5_cut_1 : decode cX5_cut 1 = .ok (.ifCond .ne 6, 3) := by decide +kernel
theorem dX5_cut_4 : decode cX5_cut 4 = .ok (.iload_n 1, 1) := by decide +kernel
theorem dX5_cut_5 : decode cX5_cut 5 = .ok (.i2b, 1) := by decide +kernel
theorem dX5_cut_6 : decode cX5_cut 6 = .ok (.ireturn, 1) := by decide +kernel
theorem dX5_cut_7 : decode cX5_cut 7 = .ok (.iload_n 0, 1) := by decide +kernel
theorem dX5_cut_8 : decode cX5_cut 8 = .ok (.iconst 1, 1) := by decide +kernel
theorem dX5_cut_9 : decode cX5_cut 9 = .ok (.if_icmp .ne 8, 3) := by decide +kernel
theorem dX5_cut_12 : decode cX5_cut 12 = .ok (.iload_n 1, 1) := by decide +kernel
theorem dX5_cut_13 : decode cX5_cut 13 = .ok (.i2s, 1) := by decide +kernel
theorem dX5_cut_14 : decode cX5_cut 14 = .ok (.goto 4, 3) := by decide +kernel
theorem dX5_cut_17 : decode cX5_cut 17 = .ok (.iload_n 1, 1) := by decide +kernel
theorem dX5_cut_18 : decode cX5_cut 18 = .ok (.ireturn, 1) := by decide +kernel
theorem dX6_init_0 : decode cX6_init 0 = .ok (.aload_n 0, 1) := by decide +kernel
theorem dX6_init_1 : decode cX6_init 1 = .ok (.invokespecial 3, 3) := by decide +kernel
theorem dX6_init_4 : decode cX6_init 4 = .ok (.aload_n 0, 1) := by decide +kernel
theorem dX6_init_5 : decode cX6_init 5 = .ok (.sipush 200, 3) := by decide +kernel
theorem dX6_init_8 : decode cX6_init 8 = .ok (.newarray .int, 2) := by decide +kernel
theorem dX6_init_10 : decode cX6_init 10 = .ok (.putfield 11, 3) := by decide +kernel
theorem dX6_init_13 : decode cX6_init 13 = .ok (.return_, 1) := by decide +kernel
theorem dX6_hasRoom_0 : decode cX6_hasRoom 0 = .ok (.aload_n 0, 1) := by decide +kernel
theorem dX6_hasRoom_1 : decode cX6_hasRoom 1 = .ok (.getfield 15, 3) := by decide +kernel
theorem dX6_hasRoom_4 : decode cX6_hasRoom 4 = .ok (.sipush 200, 3) := by decide +kernel
theorem dX6_hasRoom_7 : decode cX6_hasRoom 7 = .ok (.iload_n 1, 1) := by decide +kernel
theorem dX6_hasRoom_8 : decode cX6_hasRoom 8 = .ok (.isub, 1) := by decide +kernel
theorem dX6_hasRoom_9 : decode cX6_hasRoom 9 = .ok (.if_icmp .gt 7, 3) := by decide +kernel
theorem dX6_hasRoom_12 : decode cX6_hasRoom 12 = .ok (.iconst 1, 1) := by decide +kernel
theorem dX6_hasRoom_13 : decode cX6_hasRoom 13 = .ok (.goto 4, 3) := by decide +kernel
theorem dX6_hasRoom_16 : decode cX6_hasRoom 16 = .ok (.iconst 0, 1) := by decide +kernel
theorem dX6_hasRoom_17 : decode cX6_hasRoom 17 = .ok (.ireturn, 1) := by decide +kernel
theorem dX6_append_0 : decode cX6_append 0 = .ok (.aload_n 0, 1) := by decide +kernel
theorem dX6_append_1 : decode cX6_append 1 = .ok (.getfield 15, 3) := by decide +kernel
theorem dX6_append_4 : decode cX6_append 4 = .ok (.ifCond .lt 33, 3) := by decide +kernel
theorem dX6_append_7 : decode cX6_append 7 = .ok (.aload_n 0, 1) := by decide +kernel
theorem dX6_append_8 : decode cX6_append 8 = .ok (.getfield 15, 3) := by decide +kernel
theorem dX6_append_11 : decode cX6_append 11 = .ok (.sipush 200, 3) := by decide +kernel
theorem dX6_append_14 : decode cX6_append 14 = .ok (.if_icmp .ge 23, 3) := by decide +kernel
theorem dX6_append_17 : decode cX6_append 17 = .ok (.aload_n 0, 1) := by decide +kernel
theorem dX6_append_18 : decode cX6_append 18 = .ok (.getfield 11, 3) := by decide +kernel
theorem dX6_append_21 : decode cX6_append 21 = .ok (.aload_n 0, 1) := by decide +kernel
theorem dX6_append_22 : decode cX6_append 22 = .ok (.getfield 15, 3) := by decide +kernel
theorem dX6_append_25 : decode cX6_append 25 = .ok (.iload_n 1, 1) := by decide +kernel
theorem dX6_append_26 : decode cX6_append 26 = .ok (.iastore, 1) := by decide +kernel
theorem dX6_append_27 : decode cX6_append 27 = .ok (.aload_n 0, 1) := by decide +kernel
theorem dX6_append_28 : decode cX6_append 28 = .ok (.dup, 1) := by decide +kernel
theorem dX6_append_29 : decode cX6_append 29 = .ok (.getfield 15, 3) := by decide +kernel
theorem dX6_append_32 : decode cX6_append 32 = .ok (.iconst 1, 1) := by decide +kernel
theorem dX6_append_33 : decode cX6_append 33 = .ok (.iadd, 1) := by decide +kernel
theorem dX6_append_34 : decode cX6_append 34 = .ok (.putfield 15, 3) := by decide +kernel
theorem dX6_append_37 : decode cX6_append 37 = .ok (.return_, 1) := by decide +kernel
theorem dX6_at_0 : decode cX6_at 0 = .ok (.iload_n 1, 1) := by decide +kernel
theorem dX6_at_1 : decode cX6_at 1 = .ok (.ifCond .lt 27, 3) := by decide +kernel
theorem dX6_at_4 : decode cX6_at 4 = .ok (.iload_n 1, 1) := by decide +kernel
theorem dX6_at_5 : decode cX6_at 5 = .ok (.aload_n 0, 1) := by decide +kernel
theorem dX6_at_6 : decode cX6_at 6 = .ok (.getfield 15, 3) := by decide +kernel
theorem dX6_at_9 : decode cX6_at 9 = .ok (.if_icmp .ge 19, 3) := by decide +kernel
theorem dX6_at_12 : decode cX6_at 12 = .ok (.iload_n 1, 1) := by decide +kernel
theorem dX6_at_13 : decode cX6_at 13 = .ok (.sipush 200, 3) := by decide +kernel
theorem dX6_at_16 : decode cX6_at 16 = .ok (.if_icmp .ge 12, 3) := by decide +kernel
theorem dX6_at_19 : decode cX6_at 19 = .ok (.aload_n 0, 1) := by decide +kernel
theorem dX6_at_20 : decode cX6_at 20 = .ok (.getfield 11, 3) := by decide +kernel
theorem dX6_at_23 : decode cX6_at 23 = .ok (.iload_n 1, 1) := by decide +kernel
theorem dX6_at_24 : decode cX6_at 24 = .ok (.iaload, 1) := by decide +kernel
theorem dX6_at_25 : decode cX6_at 25 = .ok (.goto 4, 3) := by decide +kernel
theorem dX6_at_28 : decode cX6_at 28 = .ok (.iconst 0, 1) := by decide +kernel
theorem dX6_at_29 : decode cX6_at 29 = .ok (.ireturn, 1) := by decide +kernel
set_option maxRecDepth 20000 in
theorem ggX6_readInto_X6_advance : GoodIn wsX6_readInto wsX6_advance := goodIn_r _ [10, 2, 11, 12, 5, 13, 14, 15, 9, 16, 17, 18, 19, 20, 21, 22, 23, 121, 122, 123, 124, 125, 126] (by decide +kernel) (by decide +kernel)
set_option maxRecDepth 20000 in
theorem gX6_readInto_X6_advance : GoodIn wsX6_readInto (wsV RX6 30 RX6 yX6_advance wsX6_advance) := goodIn_app (goodIn_of _ (by decide +kernel)) ggX6_readInto_X6_advance
set_option maxRecDepth 20000 in
theorem ggX6_readInto_X6_takeWord : GoodIn wsX6_readInto wsX6_takeWord := goodIn_r _ [27, 28, 29, 30, 9, 31, 5, 2, 11, 32, 33, 34, 35, 36, 37, 38, 39, 40, 41, 42, 43, 13, 14, 15, 16, 12, 17, 44, 45, 46, 47, 48, 49, 50, 51, 52, 53, 54, 55, 56, 57, 58, 59, 60, 61, 62, 63, 64, 65, 66, 67, 68, 69, 70, 71, 72, 73, 74, 75, 76, 77, 78, 79, 80, 81, 82, 83, 84, 1, 6, 7, 8, 10, 18, 19, 20, 21, 22, 23, 121, 122, 123, 124, 125, 126] (by decide +kernel) (by decide +kernel)
set_option maxRecDepth 20000 in
theorem gX6_readInto_X6_takeWord : GoodIn wsX6_readInto (wsV RX6 35 RX6 yX6_takeWord wsX6_takeWord) := goodIn_app (goodIn_of _ (by decide +kernel)) ggX6_readInto_X6_takeWord
set_option maxRecDepth 20000 in
theorem ggX6_readInto_X6_takeNumber : GoodIn wsX6_readInto wsX6_takeNumber := goodIn_r _ [88, 5, 89, 90, 91, 9, 92, 11, 2, 13, 14, 15, 16, 12, 17, 93, 94, 95, 81, 82, 83, 84, 1, 6, 7, 8, 10, 18, 19, 20, 21, 22, 23, 121, 122, 123, 124, 125, 126] (by decide +kernel) (by decide +kernel)
set_option maxRecDepth 20000 in
theorem gX6_readInto_X6_takeNumber : GoodIn wsX6_readInto (wsV RX6 39 RX6 yX6_takeNumber wsX6_takeNumber) := goodIn_app (goodIn_of _ (by decide +kernel)) ggX6_readInto_X6_takeNumber
set_option maxRecDepth 20000 in
theorem ggX6_readInto_X6_takeSign : GoodIn wsX6_readInto wsX6_takeSign := goodIn_r _ [99, 5, 81, 82, 83, 9, 84, 1, 6, 7, 8, 10, 2, 11, 12, 13, 14, 15, 16, 17, 18, 19, 20, 21, 22, 23, 121, 122, 123, 124, 125, 126] (by decide +kernel) (by decide +kernel)
set_option maxRecDepth 20000 in
theorem gX6_readInto_X6_takeSign : GoodIn wsX6_readInto (wsV RX6 46 RX6 yX6_takeSign wsX6_takeSign) := goodIn_app (goodIn_of _ (by decide +kernel)) ggX6_readInto_X6_takeSign
set_option maxRecDepth 20000 in
theorem ggX6_readInto_X6_takeHand : GoodIn wsX6_readInto wsX6_takeHand := goodIn_r _ [103, 1, 3, 28, 29, 30, 9, 31, 5, 2, 11, 32, 33, 34, 35, 36, 37, 38, 39, 40, 41, 42, 43, 13, 14, 15, 16, 12, 17, 44, 45, 46, 47, 48, 49, 50, 51, 52, 53, 54, 55, 56, 57, 58, 59, 60, 61, 62, 63, 64, 65, 66, 67, 68, 69, 70, 71, 72, 73, 74, 75, 76, 77, 78, 79, 80, 24, 25, 26, 27, 81, 82, 83, 84, 6, 7, 8, 10, 18, 19, 20, 21, 22, 23, 104, 105, 106, 107, 108, 109, 110, 111, 85, 86, 87, 88, 89, 90, 91, 92, 93, 94, 95, 96, 97, 98, 99, 112, 113, 114, 115, 116, 117, 118, 119, 120, 121, 122, 123, 124, 125, 126, 127, 128, 129, 130, 131] (by decide +kernel) (by decide +kernel)
set_option maxRecDepth 20000 in
theorem gX6_readInto_X6_takeHand : GoodIn wsX6_readInto (wsV RX6 49 RX6 yX6_takeHand wsX6_takeHand) := goodIn_app (goodIn_of _ (by decide +kernel)) ggX6_readInto_X6_takeHand
theorem dX6_readInto_0 : decode cX6_readInto 0 = .ok (.aload_n 0, 1) := by decide +kernel
theorem dX6_readInto_1 : decode cX6_readInto 1 = .ok (.iconst 0, 1) := by decide +kernel
theorem dX6_readInto_2 : decode cX6_readInto 2 = .ok (.putfield 19, 3) := by decide +kernel
theorem dX6_readInto_5 : decode cX6_readInto 5 = .ok (.aload_n 0, 1) := by decide +kernel
theorem dX6_readInto_6 : decode cX6_readInto 6 = .ok (.iconst 0, 1) := by decide +kernel
theorem dX6_readInto_7 : decode cX6_readInto 7 = .ok (.putfield 22, 3) := by decide +kernel
theorem dX6_readInto_10 : decode cX6_readInto 10 = .ok (.aload_n 1, 1) := by decide +kernel
theorem dX6_readInto_11 : decode cX6_readInto 11 = .ok (.iconst 0, 1) := by decide +kernel
theorem dX6_readInto_12 : decode cX6_readInto 12 = .ok (.putfield 25, 3) := by decide +kernel
theorem dX6_readInto_15 : decode cX6_readInto 15 = .ok (.aload_n 0, 1) := by decide +kernel
theorem dX6_readInto_16 : decode cX6_readInto 16 = .ok (.invokevirtual 30, 3) := by decide +kernel
theorem dX6_readInto_19 : decode cX6_readInto 19 = .ok (.aload_n 0, 1) := by decide +kernel
theorem dX6_readInto_20 : decode cX6_readInto 20 = .ok (.ldc 33, 2) := by decide +kernel
theorem dX6_readInto_22 : decode cX6_readInto 22 = .ok (.invokevirtual 35, 3) := by decide +kernel
theorem dX6_readInto_25 : decode cX6_readInto 25 = .ok (.aload_n 1, 1) := by decide +kernel
theorem dX6_readInto_26 : decode cX6_readInto 26 = .ok (.aload_n 0, 1) := by decide +kernel
theorem dX6_readInto_27 : decode cX6_readInto 27 = .ok (.iconst 2, 1) := by decide +kernel
theorem dX6_readInto_28 : decode cX6_readInto 28 = .ok (.bipush 60, 2) := by decide +kernel
theorem dX6_readInto_30 : decode cX6_readInto 30 = .ok (.invokevirtual 39, 3) := by decide +kernel
theorem dX6_readInto_33 : decode cX6_readInto 33 = .ok (.putfield 43, 3) := by decide +kernel
theorem dX6_readInto_36 : decode cX6_readInto 36 = .ok (.aload_n 0, 1) := by decide +kernel
theorem dX6_readInto_37 : decode cX6_readInto 37 = .ok (.invokevirtual 46, 3) := by decide +kernel
theorem dX6_readInto_40 : decode cX6_readInto 40 = .ok (.aload_n 0, 1) := by decide +kernel
theorem dX6_readInto_41 : decode cX6_readInto 41 = .ok (.aload_n 1, 1) := by decide +kernel
theorem dX6_readInto_42 : decode cX6_readInto 42 = .ok (.invokevirtual 49, 3) := by decide +kernel
theorem dX6_readInto_45 : decode cX6_readInto 45 = .ok (.iconst 0, 1) := by decide +kernel
theorem dX6_readInto_46 : decode cX6_readInto 46 = .ok (.istore_n 2, 1) := by decide +kernel
theorem dX6_readInto_47 : decode cX6_readInto 47 = .ok (.iload_n 2, 1) := by decide +kernel
theorem dX6_readInto_48 : decode cX6_readInto 48 = .ok (.sipush 200, 3) := by decide +kernel
theorem dX6_readInto_51 : decode cX6_readInto 51 = .ok (.if_icmp .ge 28, 3) := by decide +kernel
theorem dX6_readInto_54 : decode cX6_readInto 54 = .ok (.aload_n 0, 1) := by decide +kernel
theorem dX6_readInto_55 : decode cX6_readInto 55 = .ok (.getfield 19, 3) := by decide +kernel
theorem dX6_readInto_58 : decode cX6_readInto 58 = .ok (.ifCond .ne 21, 3) := by decide +kernel
theorem dX6_readInto_61 : decode cX6_readInto 61 = .ok (.aload_n 0, 1) := by decide +kernel
theorem dX6_readInto_62 : decode cX6_readInto 62 = .ok (.getfield 53, 3) := by decide +kernel
theorem dX6_readInto_65 : decode cX6_readInto 65 = .ok (.ifCond .eq 14, 3) := by decide +kernel
theorem dX6_readInto_68 : decode cX6_readInto 68 = .ok (.aload_n 0, 1) := by decide +kernel
theorem dX6_readInto_69 : decode cX6_readInto 69 = .ok (.aload_n 1, 1) := by decide +kernel
theorem dX6_readInto_70 : decode cX6_readInto 70 = .ok (.invokevirtual 49, 3) := by decide +kernel
theorem dX6_readInto_73 : decode cX6_readInto 73 = .ok (.iinc 2 1, 3) := by decide +kernel
theorem dX6_readInto_76 : decode cX6_readInto 76 = .ok (.goto (-29), 3) := by decide +kernel
theorem dX6_readInto_79 : decode cX6_readInto 79 = .ok (.return_, 1) := by decide +kernel
set_option maxRecDepth 20000 in
theorem ggX6_takeHand_X6_isWord : GoodIn wsX6_takeHand wsX6_isWord := goodIn_r _ [7, 8, 9, 10, 11, 12, 13, 14, 15, 16, 17, 18, 19, 20, 21, 22, 23, 24, 25, 6, 26, 27, 28, 29, 30, 31, 32, 33, 34, 35, 36, 37, 38, 39, 40, 41, 42, 43, 44, 45, 46, 47, 48, 49, 50, 51, 52, 53, 54, 55, 56, 57, 58, 59, 60, 61, 62, 63, 64, 65, 116, 117, 118, 119, 120, 121] (by decide +kernel) (by decide +kernel)
set_option maxRecDepth 20000 in
theorem gX6_takeHand_X6_isWord : GoodIn wsX6_takeHand (wsV RX6 58 RX6 yX6_isWord wsX6_isWord) := goodIn_app (goodIn_of _ (by decide +kernel)) ggX6_takeHand_X6_isWord
set_option maxRecDepth 20000 in
theorem ggX6_takeHand_X6_takeWord : GoodIn wsX6_takeHand wsX6_takeWord := goodIn_r _ [69, 3, 4, 5, 6, 7, 8, 9, 10, 11, 12, 13, 14, 15, 16, 17, 18, 19, 20, 21, 22, 23, 24, 25, 26, 27, 28, 29, 30, 31, 32, 33, 34, 35, 36, 37, 38, 39, 40, 41, 42, 43, 44, 45, 46, 47, 48, 49, 50, 51, 52, 53, 54, 55, 56, 57, 58, 59, 60, 61, 62, 63, 64, 65, 70, 71, 72, 73, 1, 74, 75, 76, 77, 78, 79, 80, 81, 82, 83, 116, 117, 118, 119, 120, 121] (by decide +kernel) (by decide +kernel)
set_option maxRecDepth 20000 in
theorem gX6_takeHand_X6_takeWord : GoodIn wsX6_takeHand (wsV RX6 35 RX6 yX6_takeWord wsX6_takeWord) := goodIn_app (goodIn_of _ (by decide +kernel)) ggX6_takeHand_X6_takeWord
set_option maxRecDepth 20000 in
theorem ggX6_takeHand_X6_takeSort : GoodIn wsX6_takeHand wsX6_takeSort := goodIn_r _ [87, 88, 89, 90, 6, 91, 3, 4, 5, 7, 8, 9, 10, 11, 12, 13, 14, 15, 16, 17, 18, 19, 20, 21, 22, 23, 24, 25, 26, 27, 28, 29, 30, 31, 32, 33, 34, 35, 36, 37, 38, 39, 40, 41, 42, 43, 44, 45, 46, 47, 48, 49, 50, 51, 52, 53, 54, 55, 56, 57, 58, 59, 60, 61, 62, 63, 64, 65, 70, 71, 72, 73, 1, 74, 75, 76, 77, 78, 79, 80, 81, 82, 83, 116, 117, 118, 119, 120, 121] (by decide +kernel) (by decide +kernel)
set_option maxRecDepth 20000 in
theorem gX6_takeHand_X6_takeSort : GoodIn wsX6_takeHand (wsV RX6 62 RX6 yX6_takeSort wsX6_takeSort) := goodIn_app (goodIn_of _ (by decide +kernel)) ggX6_takeHand_X6_takeSort
set_option maxRecDepth 20000 in
theorem ggX6_takeHand_X6_takeNumber : GoodIn wsX6_takeHand wsX6_takeNumber := goodIn_r _ [95, 8, 96, 97, 98, 6, 99, 10, 9, 23, 24, 25, 26, 27, 28, 100, 101, 102, 70, 71, 72, 73, 1, 74, 75, 76, 77, 78, 79, 80, 81, 82, 83, 116, 117, 118, 119, 120, 121] (by decide +kernel) (by decide +kernel)
set_option maxRecDepth 20000 in
theorem gX6_takeHand_X6_takeNumber : GoodIn wsX6_takeHand (wsV RX6 39 RX6 yX6_takeNumber wsX6_takeNumber) := goodIn_app (goodIn_of _ (by decide +kernel)) ggX6_takeHand_X6_takeNumber
set_option maxRecDepth 20000 in
theorem ggX6_takeHand_X6_takeSign : GoodIn wsX6_takeHand wsX6_takeSign := goodIn_r _ [106, 8, 70, 71, 72, 6, 73, 1, 74, 75, 76, 77, 9, 10, 27, 23, 24, 25, 26, 28, 78, 79, 80, 81, 82, 83, 116, 117, 118, 119, 120, 121] (by decide +kernel) (by decide +kernel)
set_option maxRecDepth 20000 in
theorem gX6_takeHand_X6_takeSign : GoodIn wsX6_takeHand (wsV RX6 46 RX6 yX6_takeSign wsX6_takeSign) := goodIn_app (goodIn_of _ (by decide +kernel)) ggX6_takeHand_X6_takeSign
set_option maxRecDepth 20000 in
theorem ggX6_takeHand_X2_add : GoodIn wsX6_takeHand wsX2_add := goodIn_r _ [111, 112, 113, 114, 115, 122, 123, 124, 125, 126] (by decide +kernel) (by decide +kernel)
set_option maxRecDepth 20000 in
theorem gX6_takeHand_X2_add : GoodIn wsX6_takeHand (wsV RX6 66 RX2 yX2_add wsX2_add) := goodIn_app (goodIn_of _ (by decide +kernel)) ggX6_takeHand_X2_add
theorem dX6_takeHand_0 : decode cX6_takeHand 0 = .ok (.aload_n 0, 1) := by decide +kernel
theorem dX6_takeHand_1 : decode cX6_takeHand 1 = .ok (.getfield 19, 3) := by decide +kernel
theorem dX6_takeHand_4 : decode cX6_takeHand 4 = .ok (.ifCond .ne 25, 3) := by decide +kernel
theorem dX6_takeHand_7 : decode cX6_takeHand 7 = .ok (.aload_n 0, 1) := by decide +kernel
theorem dX6_takeHand_8 : decode cX6_takeHand 8 = .ok (.ldc 56, 2) := by decide +kernel
theorem dX6_takeHand_10 : decode cX6_takeHand 10 = .ok (.invokevirtual 58, 3) := by decide +kernel
theorem dX6_takeHand_13 : decode cX6_takeHand 13 = .ok (.ifCond .eq 16, 3) := by decide +kernel
theorem dX6_takeHand_16 : decode cX6_takeHand 16 = .ok (.aload_n 1, 1) := by decide +kernel
theorem dX6_takeHand_17 : decode cX6_takeHand 17 = .ok (.getfield 25, 3) := by decide +kernel
theorem dX6_takeHand_20 : decode cX6_takeHand 20 = .ok (.iconst 4, 1) := by decide +kernel
theorem dX6_takeHand_21 : decode cX6_takeHand 21 = .ok (.if_icmp .lt 8, 3) := by decide +kernel
theorem dX6_takeHand_24 : decode cX6_takeHand 24 = .ok (.aload_n 0, 1) := by decide +kernel
theorem dX6_takeHand_25 : decode cX6_takeHand 25 = .ok (.iconst 3, 1) := by decide +kernel
theorem dX6_takeHand_26 : decode cX6_takeHand 26 = .ok (.putfield 19, 3) := by decide +kernel
theorem dX6_takeHand_29 : decode cX6_takeHand 29 = .ok (.aload_n 0, 1) := by decide +kernel
theorem dX6_takeHand_30 : decode cX6_takeHand 30 = .ok (.ldc 56, 2) := by decide +kernel
theorem dX6_takeHand_32 : decode cX6_takeHand 32 = .ok (.invokevirtual 35, 3) := by decide +kernel
theorem dX6_takeHand_35 : decode cX6_takeHand 35 = .ok (.aload_n 0, 1) := by decide +kernel
theorem dX6_takeHand_36 : decode cX6_takeHand 36 = .ok (.invokevirtual 62, 3) := by decide +kernel
theorem dX6_takeHand_39 : decode cX6_takeHand 39 = .ok (.istore_n 2, 1) := by decide +kernel
theorem dX6_takeHand_40 : decode cX6_takeHand 40 = .ok (.aload_n 0, 1) := by decide +kernel
theorem dX6_takeHand_41 : decode cX6_takeHand 41 = .ok (.iconst 1, 1) := by decide +kernel
theorem dX6_takeHand_42 : decode cX6_takeHand 42 = .ok (.bipush 12, 2) := by decide +kernel
theorem dX6_takeHand_44 : decode cX6_takeHand 44 = .ok (.invokevirtual 39, 3) := by decide +kernel
theorem dX6_takeHand_47 : decode cX6_takeHand 47 = .ok (.istore_n 3, 1) := by decide +kernel
theorem dX6_takeHand_48 : decode cX6_takeHand 48 = .ok (.aload_n 0, 1) := by decide +kernel
theorem dX6_takeHand_49 : decode cX6_takeHand 49 = .ok (.invokevirtual 46, 3) := by decide +kernel
theorem dX6_takeHand_52 : decode cX6_takeHand 52 = .ok (.aload_n 0, 1) := by decide +kernel
theorem dX6_takeHand_53 : decode cX6_takeHand 53 = .ok (.getfield 19, 3) := by decide +kernel
theorem dX6_takeHand_56 : decode cX6_takeHand 56 = .ok (.ifCond .ne 9, 3) := by decide +kernel
theorem dX6_takeHand_59 : decode cX6_takeHand 59 = .ok (.aload_n 1, 1) := by decide +kernel
theorem dX6_takeHand_60 : decode cX6_takeHand 60 = .ok (.iload_n 2, 1) := by decide +kernel
theorem dX6_takeHand_61 : decode cX6_takeHand 61 = .ok (.iload_n 3, 1) := by decide +kernel
theorem dX6_takeHand_62 : decode cX6_takeHand 62 = .ok (.invokevirtual 66, 3) := by decide +kernel
theorem dX6_takeHand_65 : decode cX6_takeHand 65 = .ok (.return_, 1) := by decide +kernel
set_option maxRecDepth 20000 in
theorem ggX6_takeWord_X6_isWord : GoodIn wsX6_takeWord wsX6_isWord := goodIn_r _ [5, 6, 7, 8, 9, 10, 11, 12, 13, 14, 15, 16, 17, 18, 19, 20, 21, 22, 23, 4, 24, 25, 26, 27, 28, 29, 30, 31, 32, 33, 34, 35, 36, 37, 38, 39, 40, 41, 42, 43, 44, 45, 46, 47, 48, 49, 50, 51, 52, 53, 54, 55, 56, 57, 58, 59, 60, 61, 62, 63, 79, 80, 81, 82, 83, 84] (by decide +kernel) (by decide +kernel)
set_option maxRecDepth 20000 in
theorem gX6_takeWord_X6_isWord : GoodIn wsX6_takeWord (wsV RX6 58 RX6 yX6_isWord wsX6_isWord) := goodIn_app (goodIn_of _ (by decide +kernel)) ggX6_takeWord_X6_isWord
set_option maxRecDepth 20000 in
theorem ggX6_takeWord_X6_pass : GoodIn wsX6_takeWord wsX6_pass := goodIn_r _ [67, 68, 69, 70, 71, 4, 72, 7, 8, 25, 6, 21, 22, 23, 24, 26, 73, 74, 75, 76, 77, 78, 79, 80, 81, 82, 83, 84] (by decide +kernel) (by decide +kernel)
set_option maxRecDepth 20000 in
theorem gX6_takeWord_X6_pass : GoodIn wsX6_takeWord (wsV RX6 70 RX6 yX6_pass wsX6_pass) := goodIn_app (goodIn_of _ (by decide +kernel)) ggX6_takeWord_X6_pass
theorem dX6_takeWord_0 : decode cX6_takeWord 0 = .ok (.aload_n 0, 1) := by decide +kernel
theorem dX6_takeWord_1 : decode cX6_takeWord 1 = .ok (.aload_n 0, 1) := by decide +kernel
theorem dX6_takeWord_2 : decode cX6_takeWord 2 = .ok (.aload_n 1, 1) := by decide +kernel
theorem dX6_takeWord_3 : decode cX6_takeWord 3 = .ok (.invokevirtual 58, 3) := by decide +kernel
theorem dX6_takeWord_6 : decode cX6_takeWord 6 = .ok (.iconst 1, 1) := by decide +kernel
theorem dX6_takeWord_7 : decode cX6_takeWord 7 = .ok (.invokevirtual 70, 3) := by decide +kernel
theorem dX6_takeWord_10 : decode cX6_takeWord 10 = .ok (.return_, 1) := by decide +kernel
set_option maxRecDepth 20000 in
theorem ggX6_takeSign_X6_pass : GoodIn wsX6_takeSign wsX6_pass := goodIn_r _ [6, 7, 8, 9, 10, 5, 11, 12, 13, 14, 1, 15, 16, 17, 18, 19, 20, 21, 22, 23, 24, 25, 26, 27, 28, 29, 30, 31] (by decide +kernel) (by decide +kernel)
set_option maxRecDepth 20000 in
theorem gX6_takeSign_X6_pass : GoodIn wsX6_takeSign (wsV RX6 70 RX6 yX6_pass wsX6_pass) := goodIn_app (goodIn_of _ (by decide +kernel)) ggX6_takeSign_X6_pass
theorem dX6_takeSign_0 : decode cX6_takeSign 0 = .ok (.aload_n 0, 1) := by decide +kernel
theorem dX6_takeSign_1 : decode cX6_takeSign 1 = .ok (.aload_n 0, 1) := by decide +kernel
theorem dX6_takeSign_2 : decode cX6_takeSign 2 = .ok (.getfield 53, 3) := by decide +kernel
theorem dX6_takeSign_5 : decode cX6_takeSign 5 = .ok (.iconst 3, 1) := by decide +kernel
theorem dX6_takeSign_6 : decode cX6_takeSign 6 = .ok (.if_icmp .ne 7, 3) := by decide +kernel
theorem dX6_takeSign_9 : decode cX6_takeSign 9 = .ok (.iconst 1, 1) := by decide +kernel
theorem dX6_takeSign_10 : decode cX6_takeSign 10 = .ok (.goto 4, 3) := by decide +kernel
theorem dX6_takeSign_13 : decode cX6_takeSign 13 = .ok (.iconst 0, 1) := by decide +kernel
theorem dX6_takeSign_14 : decode cX6_takeSign 14 = .ok (.iconst 1, 1) := by decide +kernel
theorem dX6_takeSign_15 : decode cX6_takeSign 15 = .ok (.invokevirtual 70, 3) := by decide +kernel
theorem dX6_takeSign_18 : decode cX6_takeSign 18 = .ok (.return_, 1) := by decide +kernel
set_option maxRecDepth 20000 in
theorem ggX6_takeSort_X6_sortHere : GoodIn wsX6_takeSort wsX6_sortHere := goodIn_r _ [5, 6, 7, 8, 4, 9, 10, 11, 12, 13, 14, 15, 16, 17, 18, 19, 20, 21, 22, 23, 24, 25, 26, 27, 28, 29, 30, 31, 32, 33, 34, 35, 36, 37, 38, 39, 40, 41, 42, 43, 44, 45, 46, 47, 48, 49, 50, 51, 52, 53, 54, 55, 56, 57, 58, 59, 60, 61, 62, 63, 64, 65, 66, 67, 83, 84, 85, 86, 87, 88] (by decide +kernel) (by decide +kernel)
set_option maxRecDepth 20000 in
theorem gX6_takeSort_X6_sortHere : GoodIn wsX6_takeSort (wsV RX6 74 RX6 yX6_sortHere wsX6_sortHere) := goodIn_app (goodIn_of _ (by decide +kernel)) ggX6_takeSort_X6_sortHere
set_option maxRecDepth 20000 in
theorem ggX6_takeSort_X6_pass : GoodIn wsX6_takeSort wsX6_pass := goodIn_r _ [71, 72, 73, 74, 75, 4, 76, 11, 12, 29, 10, 25, 26, 27, 28, 30, 77, 78, 79, 80, 81, 82, 83, 84, 85, 86, 87, 88] (by decide +kernel) (by decide +kernel)
set_option maxRecDepth 20000 in
theorem gX6_takeSort_X6_pass : GoodIn wsX6_takeSort (wsV RX6 70 RX6 yX6_pass wsX6_pass) := goodIn_app (goodIn_of _ (by decide +kernel)) ggX6_takeSort_X6_pass
theorem dX6_takeSort_0 : decode cX6_takeSort 0 = .ok (.aload_n 0, 1) := by decide +kernel
theorem dX6_takeSort_1 : decode cX6_takeSort 1 = .ok (.invokevirtual 74, 3) := by decide +kernel
theorem dX6_takeSort_4 : decode cX6_takeSort 4 = .ok (.istore_n 1, 1) := by decide +kernel
theorem dX6_takeSort_5 : decode cX6_takeSort 5 = .ok (.aload_n 0, 1) := by decide +kernel
theorem dX6_takeSort_6 : decode cX6_takeSort 6 = .ok (.iload_n 1, 1) := by decide +kernel
theorem dX6_takeSort_7 : decode cX6_takeSort 7 = .ok (.ifCond .eq 7, 3) := by decide +kernel
theorem dX6_takeSort_10 : decode cX6_takeSort 10 = .ok (.iconst 1, 1) := by decide +kernel
theorem dX6_takeSort_11 : decode cX6_takeSort 11 = .ok (.goto 4, 3) := by decide +kernel
theorem dX6_takeSort_14 : decode cX6_takeSort 14 = .ok (.iconst 0, 1) := by decide +kernel
theorem dX6_takeSort_15 : decode cX6_takeSort 15 = .ok (.iconst 1, 1) := by decide +kernel
theorem dX6_takeSort_16 : decode cX6_takeSort 16 = .ok (.invokevirtual 70, 3) := by decide +kernel
theorem dX6_takeSort_19 : decode cX6_takeSort 19 = .ok (.iload_n 1, 1) := by decide +kernel
theorem dX6_takeSort_20 : decode cX6_takeSort 20 = .ok (.ireturn, 1) := by decide +kernel
set_option maxRecDepth 20000 in
theorem ggX6_takeNumber_X6_numberHere : GoodIn wsX6_takeNumber wsX6_numberHere := goodIn_r _ [6, 7, 8, 9, 10, 11, 5, 12, 13, 14, 33, 34, 35, 36, 37, 38] (by decide +kernel) (by decide +kernel)
set_option maxRecDepth 20000 in
theorem gX6_takeNumber_X6_numberHere : GoodIn wsX6_takeNumber (wsV RX6 77 RX6 yX6_numberHere wsX6_numberHere) := goodIn_app (goodIn_of _ (by decide +kernel)) ggX6_takeNumber_X6_numberHere
set_option maxRecDepth 20000 in
theorem ggX6_takeNumber_X7_isWithin : GoodIn wsX6_takeNumber wsX7_isWithin := goodIn_r _ [17] (by decide +kernel) (by decide +kernel)
set_option maxRecDepth 20000 in
theorem gX6_takeNumber_X7_isWithin_n80 : GoodIn wsX6_takeNumber (wsX7_isWithin) := ggX6_takeNumber_X7_isWithin
set_option maxRecDepth 20000 in
theorem ggX6_takeNumber_X6_pass : GoodIn wsX6_takeNumber wsX6_pass := goodIn_r _ [21, 22, 23, 24, 25, 5, 26, 8, 7, 13, 1, 9, 10, 11, 12, 14, 27, 28, 29, 30, 31, 32, 33, 34, 35, 36, 37, 38] (by decide +kernel) (by decide +kernel)
set_option maxRecDepth 20000 in
theorem gX6_takeNumber_X6_pass : GoodIn wsX6_takeNumber (wsV RX6 70 RX6 yX6_pass wsX6_pass) := goodIn_app (goodIn_of _ (by decide +kernel)) ggX6_takeNumber_X6_pass
theorem dX6_takeNumber_0 : decode cX6_takeNumber 0 = .ok (.aload_n 0, 1) := by decide +kernel
theorem dX6_takeNumber_1 : decode cX6_takeNumber 1 = .ok (.getfield 53, 3) := by decide +kernel
theorem dX6_takeNumber_4 : decode cX6_takeNumber 4 = .ok (.iconst 2, 1) := by decide +kernel
theorem dX6_takeNumber_5 : decode cX6_takeNumber 5 = .ok (.if_icmp .ne 10, 3) := by decide +kernel
theorem dX6_takeNumber_8 : decode cX6_takeNumber 8 = .ok (.aload_n 0, 1) := by decide +kernel
theorem dX6_takeNumber_9 : decode cX6_takeNumber 9 = .ok (.invokevirtual 77, 3) := by decide +kernel
theorem dX6_takeNumber_12 : decode cX6_takeNumber 12 = .ok (.goto 4, 3) := by decide +kernel
theorem dX6_takeNumber_15 : decode cX6_takeNumber 15 = .ok (.iconst 0, 1) := by decide +kernel
theorem dX6_takeNumber_16 : decode cX6_takeNumber 16 = .ok (.istore_n 3, 1) := by decide +kernel
theorem dX6_takeNumber_17 : decode cX6_takeNumber 17 = .ok (.aload_n 0, 1) := by decide +kernel
theorem dX6_takeNumber_18 : decode cX6_takeNumber 18 = .ok (.iload_n 3, 1) := by decide +kernel
theorem dX6_takeNumber_19 : decode cX6_takeNumber 19 = .ok (.iload_n 1, 1) := by decide +kernel
theorem dX6_takeNumber_20 : decode cX6_takeNumber 20 = .ok (.iload_n 2, 1) := by decide +kernel
theorem dX6_takeNumber_21 : decode cX6_takeNumber 21 = .ok (.invokestatic 80, 3) := by decide +kernel
theorem dX6_takeNumber_24 : decode cX6_takeNumber 24 = .ok (.aload_n 0, 1) := by decide +kernel
theorem dX6_takeNumber_25 : decode cX6_takeNumber 25 = .ok (.getfield 53, 3) := by decide +kernel
theorem dX6_takeNumber_28 : decode cX6_takeNumber 28 = .ok (.iconst 2, 1) := by decide +kernel
theorem dX6_takeNumber_29 : decode cX6_takeNumber 29 = .ok (.if_icmp .ne 7, 3) := by decide +kernel
theorem dX6_takeNumber_32 : decode cX6_takeNumber 32 = .ok (.iconst 2, 1) := by decide +kernel
theorem dX6_takeNumber_33 : decode cX6_takeNumber 33 = .ok (.goto 4, 3) := by decide +kernel
theorem dX6_takeNumber_36 : decode cX6_takeNumber 36 = .ok (.iconst 1, 1) := by decide +kernel
theorem dX6_takeNumber_37 : decode cX6_takeNumber 37 = .ok (.invokevirtual 70, 3) := by decide +kernel
theorem dX6_takeNumber_40 : decode cX6_takeNumber 40 = .ok (.iload_n 3, 1) := by decide +kernel
theorem dX6_takeNumber_41 : decode cX6_takeNumber 41 = .ok (.ireturn, 1) := by decide +kernel
set_option maxRecDepth 20000 in
theorem ggX6_pass_X6_advance : GoodIn wsX6_pass wsX6_advance := goodIn_r _ [6, 7, 8, 9, 10, 11, 12, 13, 5, 14, 15, 16, 17, 18, 19, 20, 21, 22, 23, 24, 25, 26, 27] (by decide +kernel) (by decide +kernel)
set_option maxRecDepth 20000 in
theorem gX6_pass_X6_advance : GoodIn wsX6_pass (wsV RX6 30 RX6 yX6_advance wsX6_advance) := goodIn_app (goodIn_of _ (by decide +kernel)) ggX6_pass_X6_advance
theorem dX6_pass_0 : decode cX6_pass 0 = .ok (.aload_n 0, 1) := by decide +kernel
theorem dX6_pass_1 : decode cX6_pass 1 = .ok (.getfield 19, 3) := by decide +kernel
theorem dX6_pass_4 : decode cX6_pass 4 = .ok (.ifCond .eq 4, 3) := by decide +kernel
theorem dX6_pass_7 : decode cX6_pass 7 = .ok (.return_, 1) := by decide +kernel
theorem dX6_pass_8 : decode cX6_pass 8 = .ok (.iload_n 1, 1) := by decide +kernel
theorem dX6_pass_9 : decode cX6_pass 9 = .ok (.ifCond .eq 10, 3) := by decide +kernel
theorem dX6_pass_12 : decode cX6_pass 12 = .ok (.aload_n 0, 1) := by decide +kernel
theorem dX6_pass_13 : decode cX6_pass 13 = .ok (.invokevirtual 30, 3) := by decide +kernel
theorem dX6_pass_16 : decode cX6_pass 16 = .ok (.goto 8, 3) := by decide +kernel
theorem dX6_pass_19 : decode cX6_pass 19 = .ok (.aload_n 0, 1) := by decide +kernel
theorem dX6_pass_20 : decode cX6_pass 20 = .ok (.iload_n 2, 1) := by decide +kernel
theorem dX6_pass_21 : decode cX6_pass 21 = .ok (.putfield 19, 3) := by decide +kernel
theorem dX6_pass_24 : decode cX6_pass 24 = .ok (.return_, 1) := by decide +kernel
set_option maxRecDepth 20000 in
theorem ggX6_advance_X6_at : GoodIn wsX6_advance wsX6_at := goodIn_r _ [9, 3, 10, 17, 18, 19, 20, 21, 22] (by decide +kernel) (by decide +kernel)
set_option maxRecDepth 20000 in
theorem gX6_advance_X6_at : GoodIn wsX6_advance (wsV RX6 87 RX6 yX6_at wsX6_at) := goodIn_app (goodIn_of _ (by decide +kernel)) ggX6_advance_X6_at
set_option maxRecDepth 20000 in
theorem ggX6_advance_X6_isLetter : GoodIn wsX6_advance wsX6_isLetter := goodIn_r _ [13] (by decide +kernel) (by decide +kernel)
set_option maxRecDepth 20000 in
theorem gX6_advance_X6_isLetter : GoodIn wsX6_advance (va_wsS RX6 91 yX6_isLetter wsX6_isLetter) := goodIn_app (goodIn_of _ (by decide +kernel)) ggX6_advance_X6_isLetter
set_option maxRecDepth 20000 in
theorem ggX6_advance_X6_isFigure : GoodIn wsX6_advance wsX6_isFigure := goodIn_r _ [16] (by decide +kernel) (by decide +kernel)
set_option maxRecDepth 20000 in
theorem gX6_advance_X6_isFigure : GoodIn wsX6_advance (va_wsS RX6 95 yX6_isFigure wsX6_isFigure) := goodIn_app (goodIn_of _ (by decide +kernel)) ggX6_advance_X6_isFigure
theorem dX6_advance_0 : decode cX6_advance 0 = .ok (.aload_n 0, 1) := by decide +kernel
theorem dX6_advance_1 : decode cX6_advance 1 = .ok (.aload_n 0, 1) := by decide +kernel
theorem dX6_advance_2 : decode cX6_advance 2 = .ok (.getfield 22, 3) := by decide +kernel
theorem dX6_advance_5 : decode cX6_advance 5 = .ok (.putfield 84, 3) := by decide +kernel
theorem dX6_advance_8 : decode cX6_advance 8 = .ok (.aload_n 0, 1) := by decide +kernel
theorem dX6_advance_9 : decode cX6_advance 9 = .ok (.getfield 84, 3) := by decide +kernel
theorem dX6_advance_12 : decode cX6_advance 12 = .ok (.aload_n 0, 1) := by decide +kernel
theorem dX6_advance_13 : decode cX6_advance 13 = .ok (.getfield 15, 3) := by decide +kernel
theorem dX6_advance_16 : decode cX6_advance 16 = .ok (.if_icmp .ge 42, 3) := by decide +kernel
theorem dX6_advance_19 : decode cX6_advance 19 = .ok (.aload_n 0, 1) := by decide +kernel
theorem dX6_advance_20 : decode cX6_advance 20 = .ok (.aload_n 0, 1) := by decide +kernel
theorem dX6_advance_21 : decode cX6_advance 21 = .ok (.getfield 84, 3) := by decide +kernel
theorem dX6_advance_24 : decode cX6_advance 24 = .ok (.invokevirtual 87, 3) := by decide +kernel
theorem dX6_advance_27 : decode cX6_advance 27 = .ok (.bipush 32, 2) := by decide +kernel
theorem dX6_advance_29 : decode cX6_advance 29 = .ok (.if_icmp .eq 16, 3) := by decide +kernel
theorem dX6_advance_32 : decode cX6_advance 32 = .ok (.aload_n 0, 1) := by decide +kernel
theorem dX6_advance_33 : decode cX6_advance 33 = .ok (.aload_n 0, 1) := by decide +kernel
theorem dX6_advance_34 : decode cX6_advance 34 = .ok (.getfield 84, 3) := by decide +kernel
theorem dX6_advance_37 : decode cX6_advance 37 = .ok (.invokevirtual 87, 3) := by decide +kernel
theorem dX6_advance_40 : decode cX6_advance 40 = .ok (.bipush 10, 2) := by decide +kernel
theorem dX6_advance_42 : decode cX6_advance 42 = .ok (.if_icmp .ne 16, 3) := by decide +kernel
theorem dX6_advance_45 : decode cX6_advance 45 = .ok (.aload_n 0, 1) := by decide +kernel
theorem dX6_advance_46 : decode cX6_advance 46 = .ok (.dup, 1) := by decide +kernel
theorem dX6_advance_47 : decode cX6_advance 47 = .ok (.getfield 84, 3) := by decide +kernel
theorem dX6_advance_50 : decode cX6_advance 50 = .ok (.iconst 1, 1) := by decide +kernel
theorem dX6_advance_51 : decode cX6_advance 51 = .ok (.iadd, 1) := by decide +kernel
theorem dX6_advance_52 : decode cX6_advance 52 = .ok (.putfield 84, 3) := by decide +kernel
theorem dX6_advance_55 : decode cX6_advance 55 = .ok (.goto (-47), 3) := by decide +kernel
theorem dX6_advance_58 : decode cX6_advance 58 = .ok (.aload_n 0, 1) := by decide +kernel
theorem dX6_advance_59 : decode cX6_advance 59 = .ok (.aload_n 0, 1) := by decide +kernel
theorem dX6_advance_60 : decode cX6_advance 60 = .ok (.getfield 84, 3) := by decide +kernel
theorem dX6_advance_63 : decode cX6_advance 63 = .ok (.putfield 22, 3) := by decide +kernel
theorem dX6_advance_66 : decode cX6_advance 66 = .ok (.aload_n 0, 1) := by decide +kernel
theorem dX6_advance_67 : decode cX6_advance 67 = .ok (.aload_n 0, 1) := by decide +kernel
theorem dX6_advance_68 : decode cX6_advance 68 = .ok (.getfield 84, 3) := by decide +kernel
theorem dX6_advance_71 : decode cX6_advance 71 = .ok (.invokevirtual 87, 3) := by decide +kernel
theorem dX6_advance_74 : decode cX6_advance 74 = .ok (.invokestatic 91, 3) := by decide +kernel
theorem dX6_advance_77 : decode cX6_advance 77 = .ok (.ifCond .eq 49, 3) := by decide +kernel
theorem dX6_advance_80 : decode cX6_advance 80 = .ok (.aload_n 0, 1) := by decide +kernel
theorem dX6_advance_81 : decode cX6_advance 81 = .ok (.getfield 22, 3) := by decide +kernel
theorem dX6_advance_84 : decode cX6_advance 84 = .ok (.aload_n 0, 1) := by decide +kernel
theorem dX6_advance_85 : decode cX6_advance 85 = .ok (.getfield 15, 3) := by decide +kernel
theorem dX6_advance_88 : decode cX6_advance 88 = .ok (.if_icmp .ge 30, 3) := by decide +kernel
theorem dX6_advance_91 : decode cX6_advance 91 = .ok (.aload_n 0, 1) := by decide +kernel
theorem dX6_advance_92 : decode cX6_advance 92 = .ok (.aload_n 0, 1) := by decide +kernel
theorem dX6_advance_93 : decode cX6_advance 93 = .ok (.getfield 22, 3) := by decide +kernel
theorem dX6_advance_96 : decode cX6_advance 96 = .ok (.invokevirtual 87, 3) := by decide +kernel
theorem dX6_advance_99 : decode cX6_advance 99 = .ok (.invokestatic 91, 3) := by decide +kernel
theorem dX6_advance_102 : decode cX6_advance 102 = .ok (.ifCond .eq 16, 3) := by decide +kernel
theorem dX6_advance_105 : decode cX6_advance 105 = .ok (.aload_n 0, 1) := by decide +kernel
theorem dX6_advance_106 : decode cX6_advance 106 = .ok (.dup, 1) := by decide +kernel
theorem dX6_advance_107 : decode cX6_advance 107 = .ok (.getfield 22, 3) := by decide +kernel
theorem dX6_advance_110 : decode cX6_advance 110 = .ok (.iconst 1, 1) := by decide +kernel
theorem dX6_advance_111 : decode cX6_advance 111 = .ok (.iadd, 1) := by decide +kernel
theorem dX6_advance_112 : decode cX6_advance 112 = .ok (.putfield 22, 3) := by decide +kernel
