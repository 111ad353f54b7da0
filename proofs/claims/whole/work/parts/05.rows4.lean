theorem dX8_otherOf_94 : decode cX8_otherOf 94 = .ok (.ireturn, 1) := by decide +kernel
theorem dX8_otherOf_95 : decode cX8_otherOf 95 = .ok (.iinc 5 1, 3) := by decide +kernel
theorem dX8_otherOf_98 : decode cX8_otherOf 98 = .ok (.goto (-87), 3) := by decide +kernel
theorem dX8_otherOf_101 : decode cX8_otherOf 101 = .ok (.ldc 77, 2) := by decide +kernel
theorem dX8_otherOf_103 : decode cX8_otherOf 103 = .ok (.ireturn, 1) := by decide +kernel
set_option maxRecDepth 20000 in
theorem ggX8_doubts_X8_areTwo : GoodIn wsX8_doubts wsX8_areTwo := goodIn_r _ [8, 9, 10, 11, 7, 12, 13, 14, 15, 16, 36, 37, 38, 39, 40, 41, 42, 43, 44, 45, 46, 47, 48, 49, 50, 51, 52, 53, 54, 55, 56, 57, 58, 59, 60] (by decide +kernel) (by decide +kernel)
set_option maxRecDepth 20000 in
theorem gX8_doubts_X8_areTwo : GoodIn wsX8_doubts (wsV RX8 201 RX8 yX8_areTwo wsX8_areTwo) := goodIn_app (goodIn_of _ (by decide +kernel)) ggX8_doubts_X8_areTwo
set_option maxRecDepth 20000 in
theorem ggX8_doubts_X8_partsOf : GoodIn wsX8_doubts wsX8_partsOf := goodIn_r _ [20, 21, 22, 23, 7, 24, 25, 26, 27, 28, 13, 29, 30, 31, 36, 37, 38, 39, 40, 41, 42, 43, 44, 45, 46, 47, 48, 49, 50, 51, 52, 53, 54, 55, 56, 57, 58, 59, 60] (by decide +kernel) (by decide +kernel)
set_option maxRecDepth 20000 in
theorem gX8_doubts_X8_partsOf : GoodIn wsX8_doubts (wsV RX8 198 RX8 yX8_partsOf wsX8_partsOf) := goodIn_app (goodIn_of _ (by decide +kernel)) ggX8_doubts_X8_partsOf
set_option maxRecDepth 20000 in
theorem ggX8_doubts_X8_otherOf : GoodIn wsX8_doubts wsX8_otherOf := goodIn_r _ [35, 3, 17, 18, 19, 7, 20, 21, 22, 23, 24, 25, 26, 27, 28, 13, 29, 30, 31, 36, 37, 38, 39, 40, 41, 42, 43, 44, 45, 46, 47, 48, 49, 50, 51, 52, 53, 54, 55, 56, 57, 58, 59, 60] (by decide +kernel) (by decide +kernel)
set_option maxRecDepth 20000 in
theorem gX8_doubts_X8_otherOf : GoodIn wsX8_doubts (wsV RX8 204 RX8 yX8_otherOf wsX8_otherOf) := goodIn_app (goodIn_of _ (by decide +kernel)) ggX8_doubts_X8_otherOf
theorem dX8_doubts_0 : decode cX8_doubts 0 = .ok (.aload_n 0, 1) := by decide +kernel
theorem dX8_doubts_1 : decode cX8_doubts 1 = .ok (.iconst 0, 1) := by decide +kernel
theorem dX8_doubts_2 : decode cX8_doubts 2 = .ok (.putfield 41, 3) := by decide +kernel
theorem dX8_doubts_5 : decode cX8_doubts 5 = .ok (.aload_n 0, 1) := by decide +kernel
theorem dX8_doubts_6 : decode cX8_doubts 6 = .ok (.iload_n 1, 1) := by decide +kernel
theorem dX8_doubts_7 : decode cX8_doubts 7 = .ok (.iload_n 2, 1) := by decide +kernel
theorem dX8_doubts_8 : decode cX8_doubts 8 = .ok (.invokevirtual 201, 3) := by decide +kernel
theorem dX8_doubts_11 : decode cX8_doubts 11 = .ok (.ifCond .ne 6, 3) := by decide +kernel
theorem dX8_doubts_14 : decode cX8_doubts 14 = .ok (.ldc 61, 2) := by decide +kernel
theorem dX8_doubts_16 : decode cX8_doubts 16 = .ok (.ireturn, 1) := by decide +kernel
theorem dX8_doubts_17 : decode cX8_doubts 17 = .ok (.aload_n 0, 1) := by decide +kernel
theorem dX8_doubts_18 : decode cX8_doubts 18 = .ok (.iload_n 1, 1) := by decide +kernel
theorem dX8_doubts_19 : decode cX8_doubts 19 = .ok (.iload_n 2, 1) := by decide +kernel
theorem dX8_doubts_20 : decode cX8_doubts 20 = .ok (.invokevirtual 198, 3) := by decide +kernel
theorem dX8_doubts_23 : decode cX8_doubts 23 = .ok (.istore_n 3, 1) := by decide +kernel
theorem dX8_doubts_24 : decode cX8_doubts 24 = .ok (.iconst 0, 1) := by decide +kernel
theorem dX8_doubts_25 : decode cX8_doubts 25 = .ok (.istore 4, 2) := by decide +kernel
theorem dX8_doubts_27 : decode cX8_doubts 27 = .ok (.iconst 0, 1) := by decide +kernel
theorem dX8_doubts_28 : decode cX8_doubts 28 = .ok (.istore 5, 2) := by decide +kernel
theorem dX8_doubts_30 : decode cX8_doubts 30 = .ok (.iload 5, 2) := by decide +kernel
theorem dX8_doubts_32 : decode cX8_doubts 32 = .ok (.iload_n 3, 1) := by decide +kernel
theorem dX8_doubts_33 : decode cX8_doubts 33 = .ok (.if_icmp .ge 32, 3) := by decide +kernel
theorem dX8_doubts_36 : decode cX8_doubts 36 = .ok (.iload 4, 2) := by decide +kernel
theorem dX8_doubts_38 : decode cX8_doubts 38 = .ok (.aload_n 0, 1) := by decide +kernel
theorem dX8_doubts_39 : decode cX8_doubts 39 = .ok (.iload_n 1, 1) := by decide +kernel
theorem dX8_doubts_40 : decode cX8_doubts 40 = .ok (.iload_n 2, 1) := by decide +kernel
theorem dX8_doubts_41 : decode cX8_doubts 41 = .ok (.iload 5, 2) := by decide +kernel
theorem dX8_doubts_43 : decode cX8_doubts 43 = .ok (.invokevirtual 204, 3) := by decide +kernel
theorem dX8_doubts_46 : decode cX8_doubts 46 = .ok (.ldc 77, 2) := by decide +kernel
theorem dX8_doubts_48 : decode cX8_doubts 48 = .ok (.if_icmp .eq 7, 3) := by decide +kernel
theorem dX8_doubts_51 : decode cX8_doubts 51 = .ok (.iconst 1, 1) := by decide +kernel
theorem dX8_doubts_52 : decode cX8_doubts 52 = .ok (.goto 4, 3) := by decide +kernel
theorem dX8_doubts_55 : decode cX8_doubts 55 = .ok (.iconst 0, 1) := by decide +kernel
theorem dX8_doubts_56 : decode cX8_doubts 56 = .ok (.iadd, 1) := by decide +kernel
theorem dX8_doubts_57 : decode cX8_doubts 57 = .ok (.istore 4, 2) := by decide +kernel
theorem dX8_doubts_59 : decode cX8_doubts 59 = .ok (.iinc 5 1, 3) := by decide +kernel
theorem dX8_doubts_62 : decode cX8_doubts 62 = .ok (.goto (-32), 3) := by decide +kernel
theorem dX8_doubts_65 : decode cX8_doubts 65 = .ok (.iload_n 3, 1) := by decide +kernel
theorem dX8_doubts_66 : decode cX8_doubts 66 = .ok (.ifCond .ne 8, 3) := by decide +kernel
theorem dX8_doubts_69 : decode cX8_doubts 69 = .ok (.ldc 77, 2) := by decide +kernel
theorem dX8_doubts_71 : decode cX8_doubts 71 = .ok (.goto 5, 3) := by decide +kernel
theorem dX8_doubts_74 : decode cX8_doubts 74 = .ok (.iload 4, 2) := by decide +kernel
theorem dX8_doubts_76 : decode cX8_doubts 76 = .ok (.ireturn, 1) := by decide +kernel
set_option maxRecDepth 20000 in
theorem ggX8_doubt_X8_areTwo : GoodIn wsX8_doubt wsX8_areTwo := goodIn_r _ [9, 10, 11, 12, 8, 13, 14, 15, 16, 17, 43, 44, 45, 46, 47, 48, 49, 50, 51, 52, 53, 54, 55, 56, 57, 58, 59, 60, 61, 62, 63, 64, 65, 66, 67] (by decide +kernel) (by decide +kernel)
set_option maxRecDepth 20000 in
theorem gX8_doubt_X8_areTwo : GoodIn wsX8_doubt (wsV RX8 201 RX8 yX8_areTwo wsX8_areTwo) := goodIn_app (goodIn_of _ (by decide +kernel)) ggX8_doubt_X8_areTwo
set_option maxRecDepth 20000 in
theorem ggX8_doubt_X8_in : GoodIn wsX8_doubt wsX8_in := goodIn_r _ [17] (by decide +kernel) (by decide +kernel)
set_option maxRecDepth 20000 in
theorem gX8_doubt_X8_in : GoodIn wsX8_doubt (va_wsS RX8 51 yX8_in wsX8_in) := goodIn_app (goodIn_of _ (by decide +kernel)) ggX8_doubt_X8_in
set_option maxRecDepth 20000 in
theorem ggX8_doubt_X8_partsOf : GoodIn wsX8_doubt wsX8_partsOf := goodIn_r _ [21, 22, 23, 24, 8, 25, 26, 27, 28, 29, 14, 30, 31, 32, 43, 44, 45, 46, 47, 48, 49, 50, 51, 52, 53, 54, 55, 56, 57, 58, 59, 60, 61, 62, 63, 64, 65, 66, 67] (by decide +kernel) (by decide +kernel)
set_option maxRecDepth 20000 in
theorem gX8_doubt_X8_partsOf : GoodIn wsX8_doubt (wsV RX8 198 RX8 yX8_partsOf wsX8_partsOf) := goodIn_app (goodIn_of _ (by decide +kernel)) ggX8_doubt_X8_partsOf
set_option maxRecDepth 20000 in
theorem ggX8_doubt_X8_otherOf : GoodIn wsX8_doubt wsX8_otherOf := goodIn_r _ [36, 4, 18, 19, 20, 8, 21, 22, 23, 24, 25, 26, 27, 28, 29, 14, 30, 31, 32, 43, 44, 45, 46, 47, 48, 49, 50, 51, 52, 53, 54, 55, 56, 57, 58, 59, 60, 61, 62, 63, 64, 65, 66, 67] (by decide +kernel) (by decide +kernel)
set_option maxRecDepth 20000 in
theorem gX8_doubt_X8_otherOf : GoodIn wsX8_doubt (wsV RX8 204 RX8 yX8_otherOf wsX8_otherOf) := goodIn_app (goodIn_of _ (by decide +kernel)) ggX8_doubt_X8_otherOf
set_option maxRecDepth 20000 in
theorem ggX8_doubt_X8_told : GoodIn wsX8_doubt wsX8_told := goodIn_r _ [39, 40, 41, 8, 42] (by decide +kernel) (by decide +kernel)
set_option maxRecDepth 20000 in
theorem gX8_doubt_X8_told : GoodIn wsX8_doubt (va_wsS RX8 192 yX8_told wsX8_told) := goodIn_app (goodIn_of _ (by decide +kernel)) ggX8_doubt_X8_told
theorem dX8_doubt_0 : decode cX8_doubt 0 = .ok (.aload_n 0, 1) := by decide +kernel
theorem dX8_doubt_1 : decode cX8_doubt 1 = .ok (.iconst 0, 1) := by decide +kernel
theorem dX8_doubt_2 : decode cX8_doubt 2 = .ok (.putfield 41, 3) := by decide +kernel
theorem dX8_doubt_5 : decode cX8_doubt 5 = .ok (.aload_n 0, 1) := by decide +kernel
theorem dX8_doubt_6 : decode cX8_doubt 6 = .ok (.iload_n 1, 1) := by decide +kernel
theorem dX8_doubt_7 : decode cX8_doubt 7 = .ok (.iload_n 2, 1) := by decide +kernel
theorem dX8_doubt_8 : decode cX8_doubt 8 = .ok (.invokevirtual 201, 3) := by decide +kernel
theorem dX8_doubt_11 : decode cX8_doubt 11 = .ok (.ifCond .eq 20, 3) := by decide +kernel
theorem dX8_doubt_14 : decode cX8_doubt 14 = .ok (.iload_n 3, 1) := by decide +kernel
theorem dX8_doubt_15 : decode cX8_doubt 15 = .ok (.ifCond .lt 16, 3) := by decide +kernel
theorem dX8_doubt_18 : decode cX8_doubt 18 = .ok (.iload 4, 2) := by decide +kernel
theorem dX8_doubt_20 : decode cX8_doubt 20 = .ok (.i2l, 1) := by decide +kernel
theorem dX8_doubt_21 : decode cX8_doubt 21 = .ok (.lconst 0, 1) := by decide +kernel
theorem dX8_doubt_22 : decode cX8_doubt 22 = .ok (.ldc2_w 207, 3) := by decide +kernel
theorem dX8_doubt_25 : decode cX8_doubt 25 = .ok (.invokestatic 51, 3) := by decide +kernel
theorem dX8_doubt_28 : decode cX8_doubt 28 = .ok (.ifCond .ne 6, 3) := by decide +kernel
theorem dX8_doubt_31 : decode cX8_doubt 31 = .ok (.ldc 61, 2) := by decide +kernel
theorem dX8_doubt_33 : decode cX8_doubt 33 = .ok (.ireturn, 1) := by decide +kernel
theorem dX8_doubt_34 : decode cX8_doubt 34 = .ok (.aload_n 0, 1) := by decide +kernel
theorem dX8_doubt_35 : decode cX8_doubt 35 = .ok (.iload_n 1, 1) := by decide +kernel
theorem dX8_doubt_36 : decode cX8_doubt 36 = .ok (.iload_n 2, 1) := by decide +kernel
theorem dX8_doubt_37 : decode cX8_doubt 37 = .ok (.invokevirtual 198, 3) := by decide +kernel
theorem dX8_doubt_40 : decode cX8_doubt 40 = .ok (.istore 5, 2) := by decide +kernel
theorem dX8_doubt_42 : decode cX8_doubt 42 = .ok (.iload_n 3, 1) := by decide +kernel
theorem dX8_doubt_43 : decode cX8_doubt 43 = .ok (.istore 6, 2) := by decide +kernel
theorem dX8_doubt_45 : decode cX8_doubt 45 = .ok (.iconst 0, 1) := by decide +kernel
theorem dX8_doubt_46 : decode cX8_doubt 46 = .ok (.istore 7, 2) := by decide +kernel
theorem dX8_doubt_48 : decode cX8_doubt 48 = .ok (.iload 7, 2) := by decide +kernel
theorem dX8_doubt_50 : decode cX8_doubt 50 = .ok (.iload 5, 2) := by decide +kernel
theorem dX8_doubt_52 : decode cX8_doubt 52 = .ok (.if_icmp .ge 78, 3) := by decide +kernel
theorem dX8_doubt_55 : decode cX8_doubt 55 = .ok (.aload_n 0, 1) := by decide +kernel
theorem dX8_doubt_56 : decode cX8_doubt 56 = .ok (.iload_n 1, 1) := by decide +kernel
theorem dX8_doubt_57 : decode cX8_doubt 57 = .ok (.iload_n 2, 1) := by decide +kernel
theorem dX8_doubt_58 : decode cX8_doubt 58 = .ok (.iload 7, 2) := by decide +kernel
theorem dX8_doubt_60 : decode cX8_doubt 60 = .ok (.invokevirtual 204, 3) := by decide +kernel
theorem dX8_doubt_63 : decode cX8_doubt 63 = .ok (.istore 8, 2) := by decide +kernel
theorem dX8_doubt_65 : decode cX8_doubt 65 = .ok (.iload 8, 2) := by decide +kernel
theorem dX8_doubt_67 : decode cX8_doubt 67 = .ok (.ldc 77, 2) := by decide +kernel
theorem dX8_doubt_69 : decode cX8_doubt 69 = .ok (.if_icmp .eq 38, 3) := by decide +kernel
theorem dX8_doubt_72 : decode cX8_doubt 72 = .ok (.iload 6, 2) := by decide +kernel
theorem dX8_doubt_74 : decode cX8_doubt 74 = .ok (.ifCond .ne 33, 3) := by decide +kernel
theorem dX8_doubt_77 : decode cX8_doubt 77 = .ok (.iload 4, 2) := by decide +kernel
theorem dX8_doubt_79 : decode cX8_doubt 79 = .ok (.iconst 2, 1) := by decide +kernel
theorem dX8_doubt_80 : decode cX8_doubt 80 = .ok (.if_icmp .ge 15, 3) := by decide +kernel
theorem dX8_doubt_83 : decode cX8_doubt 83 = .ok (.iload 7, 2) := by decide +kernel
theorem dX8_doubt_85 : decode cX8_doubt 85 = .ok (.iload 5, 2) := by decide +kernel
theorem dX8_doubt_87 : decode cX8_doubt 87 = .ok (.iload 4, 2) := by decide +kernel
theorem dX8_doubt_89 : decode cX8_doubt 89 = .ok (.invokestatic 192, 3) := by decide +kernel
theorem dX8_doubt_92 : decode cX8_doubt 92 = .ok (.goto 14, 3) := by decide +kernel
theorem dX8_doubt_95 : decode cX8_doubt 95 = .ok (.iload 8, 2) := by decide +kernel
theorem dX8_doubt_97 : decode cX8_doubt 97 = .ok (.iload 5, 2) := by decide +kernel
theorem dX8_doubt_99 : decode cX8_doubt 99 = .ok (.iload 4, 2) := by decide +kernel
theorem dX8_doubt_101 : decode cX8_doubt 101 = .ok (.iconst 2, 1) := by decide +kernel
theorem dX8_doubt_102 : decode cX8_doubt 102 = .ok (.isub, 1) := by decide +kernel
theorem dX8_doubt_103 : decode cX8_doubt 103 = .ok (.invokestatic 192, 3) := by decide +kernel
theorem dX8_doubt_106 : decode cX8_doubt 106 = .ok (.ireturn, 1) := by decide +kernel
theorem dX8_doubt_107 : decode cX8_doubt 107 = .ok (.iload 6, 2) := by decide +kernel
theorem dX8_doubt_109 : decode cX8_doubt 109 = .ok (.iload 8, 2) := by decide +kernel
theorem dX8_doubt_111 : decode cX8_doubt 111 = .ok (.ldc 77, 2) := by decide +kernel
theorem dX8_doubt_113 : decode cX8_doubt 113 = .ok (.if_icmp .eq 7, 3) := by decide +kernel
theorem dX8_doubt_116 : decode cX8_doubt 116 = .ok (.iconst 1, 1) := by decide +kernel
theorem dX8_doubt_117 : decode cX8_doubt 117 = .ok (.goto 4, 3) := by decide +kernel
theorem dX8_doubt_120 : decode cX8_doubt 120 = .ok (.iconst 0, 1) := by decide +kernel
theorem dX8_doubt_121 : decode cX8_doubt 121 = .ok (.isub, 1) := by decide +kernel
theorem dX8_doubt_122 : decode cX8_doubt 122 = .ok (.istore 6, 2) := by decide +kernel
theorem dX8_doubt_124 : decode cX8_doubt 124 = .ok (.iinc 7 1, 3) := by decide +kernel
theorem dX8_doubt_127 : decode cX8_doubt 127 = .ok (.goto (-79), 3) := by decide +kernel
theorem dX8_doubt_130 : decode cX8_doubt 130 = .ok (.ldc 77, 2) := by decide +kernel
theorem dX8_doubt_132 : decode cX8_doubt 132 = .ok (.ireturn, 1) := by decide +kernel
set_option maxRecDepth 20000 in
theorem ggX8_isDoubt_X8_areTwo : GoodIn wsX8_isDoubt wsX8_areTwo := goodIn_r _ [8, 9, 10, 11, 7, 12, 13, 14, 15, 16, 40, 41, 42, 43, 44, 45, 46, 47, 48, 49, 50, 51, 52, 53, 54, 55, 56, 57, 58, 59, 60, 61, 62, 63, 64] (by decide +kernel) (by decide +kernel)
set_option maxRecDepth 20000 in
theorem gX8_isDoubt_X8_areTwo : GoodIn wsX8_isDoubt (wsV RX8 201 RX8 yX8_areTwo wsX8_areTwo) := goodIn_app (goodIn_of _ (by decide +kernel)) ggX8_isDoubt_X8_areTwo
set_option maxRecDepth 20000 in
theorem ggX8_isDoubt_X8_isMoment : GoodIn wsX8_isDoubt wsX8_isMoment := goodIn_r _ [19, 20, 14, 15, 7, 16] (by decide +kernel) (by decide +kernel)
set_option maxRecDepth 20000 in
theorem gX8_isDoubt_X8_isMoment : GoodIn wsX8_isDoubt (va_wsS RX8 184 yX8_isMoment wsX8_isMoment) := goodIn_app (goodIn_of _ (by decide +kernel)) ggX8_isDoubt_X8_isMoment
set_option maxRecDepth 20000 in
theorem ggX8_isDoubt_X8_partsOf : GoodIn wsX8_isDoubt wsX8_partsOf := goodIn_r _ [24, 25, 26, 27, 7, 28, 29, 30, 31, 32, 13, 33, 34, 35, 40, 41, 42, 43, 44, 45, 46, 47, 48, 49, 50, 51, 52, 53, 54, 55, 56, 57, 58, 59, 60, 61, 62, 63, 64] (by decide +kernel) (by decide +kernel)
set_option maxRecDepth 20000 in
theorem gX8_isDoubt_X8_partsOf : GoodIn wsX8_isDoubt (wsV RX8 198 RX8 yX8_partsOf wsX8_partsOf) := goodIn_app (goodIn_of _ (by decide +kernel)) ggX8_isDoubt_X8_partsOf
set_option maxRecDepth 20000 in
theorem ggX8_isDoubt_X8_otherOf : GoodIn wsX8_isDoubt wsX8_otherOf := goodIn_r _ [39, 3, 21, 22, 23, 7, 24, 25, 26, 27, 28, 29, 30, 31, 32, 13, 33, 34, 35, 40, 41, 42, 43, 44, 45, 46, 47, 48, 49, 50, 51, 52, 53, 54, 55, 56, 57, 58, 59, 60, 61, 62, 63, 64] (by decide +kernel) (by decide +kernel)
set_option maxRecDepth 20000 in
theorem gX8_isDoubt_X8_otherOf : GoodIn wsX8_isDoubt (wsV RX8 204 RX8 yX8_otherOf wsX8_otherOf) := goodIn_app (goodIn_of _ (by decide +kernel)) ggX8_isDoubt_X8_otherOf
theorem dX8_isDoubt_0 : decode cX8_isDoubt 0 = .ok (.aload_n 0, 1) := by decide +kernel
theorem dX8_isDoubt_1 : decode cX8_isDoubt 1 = .ok (.iconst 0, 1) := by decide +kernel
theorem dX8_isDoubt_2 : decode cX8_isDoubt 2 = .ok (.putfield 41, 3) := by decide +kernel
theorem dX8_isDoubt_5 : decode cX8_isDoubt 5 = .ok (.aload_n 0, 1) := by decide +kernel
theorem dX8_isDoubt_6 : decode cX8_isDoubt 6 = .ok (.iload_n 1, 1) := by decide +kernel
theorem dX8_isDoubt_7 : decode cX8_isDoubt 7 = .ok (.iload_n 2, 1) := by decide +kernel
theorem dX8_isDoubt_8 : decode cX8_isDoubt 8 = .ok (.invokevirtual 201, 3) := by decide +kernel
theorem dX8_isDoubt_11 : decode cX8_isDoubt 11 = .ok (.ifCond .eq 12, 3) := by decide +kernel
theorem dX8_isDoubt_14 : decode cX8_isDoubt 14 = .ok (.iload_n 3, 1) := by decide +kernel
theorem dX8_isDoubt_15 : decode cX8_isDoubt 15 = .ok (.iload 4, 2) := by decide +kernel
theorem dX8_isDoubt_17 : decode cX8_isDoubt 17 = .ok (.invokestatic 184, 3) := by decide +kernel
theorem dX8_isDoubt_20 : decode cX8_isDoubt 20 = .ok (.ifCond .ne 6, 3) := by decide +kernel
theorem dX8_isDoubt_23 : decode cX8_isDoubt 23 = .ok (.ldc 61, 2) := by decide +kernel
theorem dX8_isDoubt_25 : decode cX8_isDoubt 25 = .ok (.ireturn, 1) := by decide +kernel
theorem dX8_isDoubt_26 : decode cX8_isDoubt 26 = .ok (.aload_n 0, 1) := by decide +kernel
theorem dX8_isDoubt_27 : decode cX8_isDoubt 27 = .ok (.iload_n 1, 1) := by decide +kernel
theorem dX8_isDoubt_28 : decode cX8_isDoubt 28 = .ok (.iload_n 2, 1) := by decide +kernel
theorem dX8_isDoubt_29 : decode cX8_isDoubt 29 = .ok (.invokevirtual 198, 3) := by decide +kernel
theorem dX8_isDoubt_32 : decode cX8_isDoubt 32 = .ok (.istore 5, 2) := by decide +kernel
theorem dX8_isDoubt_34 : decode cX8_isDoubt 34 = .ok (.iload 5, 2) := by decide +kernel
theorem dX8_isDoubt_36 : decode cX8_isDoubt 36 = .ok (.ifCond .ne 6, 3) := by decide +kernel
theorem dX8_isDoubt_39 : decode cX8_isDoubt 39 = .ok (.ldc 77, 2) := by decide +kernel
theorem dX8_isDoubt_41 : decode cX8_isDoubt 41 = .ok (.ireturn, 1) := by decide +kernel
theorem dX8_isDoubt_42 : decode cX8_isDoubt 42 = .ok (.iload_n 3, 1) := by decide +kernel
theorem dX8_isDoubt_43 : decode cX8_isDoubt 43 = .ok (.iload 5, 2) := by decide +kernel
theorem dX8_isDoubt_45 : decode cX8_isDoubt 45 = .ok (.imul, 1) := by decide +kernel
theorem dX8_isDoubt_46 : decode cX8_isDoubt 46 = .ok (.iload 4, 2) := by decide +kernel
theorem dX8_isDoubt_48 : decode cX8_isDoubt 48 = .ok (.irem, 1) := by decide +kernel
theorem dX8_isDoubt_49 : decode cX8_isDoubt 49 = .ok (.ifCond .ne 25, 3) := by decide +kernel
theorem dX8_isDoubt_52 : decode cX8_isDoubt 52 = .ok (.aload_n 0, 1) := by decide +kernel
theorem dX8_isDoubt_53 : decode cX8_isDoubt 53 = .ok (.iload_n 1, 1) := by decide +kernel
theorem dX8_isDoubt_54 : decode cX8_isDoubt 54 = .ok (.iload_n 2, 1) := by decide +kernel
theorem dX8_isDoubt_55 : decode cX8_isDoubt 55 = .ok (.iload_n 3, 1) := by decide +kernel
theorem dX8_isDoubt_56 : decode cX8_isDoubt 56 = .ok (.iload 5, 2) := by decide +kernel
theorem dX8_isDoubt_58 : decode cX8_isDoubt 58 = .ok (.imul, 1) := by decide +kernel
theorem dX8_isDoubt_59 : decode cX8_isDoubt 59 = .ok (.iload 4, 2) := by decide +kernel
theorem dX8_isDoubt_61 : decode cX8_isDoubt 61 = .ok (.idiv, 1) := by decide +kernel
theorem dX8_isDoubt_62 : decode cX8_isDoubt 62 = .ok (.invokevirtual 204, 3) := by decide +kernel
theorem dX8_isDoubt_65 : decode cX8_isDoubt 65 = .ok (.ldc 77, 2) := by decide +kernel
theorem dX8_isDoubt_67 : decode cX8_isDoubt 67 = .ok (.if_icmp .eq 7, 3) := by decide +kernel
theorem dX8_isDoubt_70 : decode cX8_isDoubt 70 = .ok (.iconst 1, 1) := by decide +kernel
theorem dX8_isDoubt_71 : decode cX8_isDoubt 71 = .ok (.goto 4, 3) := by decide +kernel
theorem dX8_isDoubt_74 : decode cX8_isDoubt 74 = .ok (.iconst 0, 1) := by decide +kernel
theorem dX8_isDoubt_75 : decode cX8_isDoubt 75 = .ok (.ireturn, 1) := by decide +kernel
theorem dX8_isSo_0 : decode cX8_isSo 0 = .ok (.iload_n 1, 1) := by decide +kernel
theorem dX8_isSo_1 : decode cX8_isSo 1 = .ok (.ifCond .ne 17, 3) := by decide +kernel
theorem dX8_isSo_4 : decode cX8_isSo 4 = .ok (.iload_n 0, 1) := by decide +kernel
theorem dX8_isSo_5 : decode cX8_isSo 5 = .ok (.iconst 4, 1) := by decide +kernel
theorem dX8_isSo_6 : decode cX8_isSo 6 = .ok (.irem, 1) := by decide +kernel
theorem dX8_isSo_7 : decode cX8_isSo 7 = .ok (.ifCond .ne 7, 3) := by decide +kernel
theorem dX8_isSo_10 : decode cX8_isSo 10 = .ok (.iconst 1, 1) := by decide +kernel
theorem dX8_isSo_11 : decode cX8_isSo 11 = .ok (.goto 39, 3) := by decide +kernel
theorem dX8_isSo_14 : decode cX8_isSo 14 = .ok (.iconst 0, 1) := by decide +kernel
theorem dX8_isSo_15 : decode cX8_isSo 15 = .ok (.goto 35, 3) := by decide +kernel
theorem dX8_isSo_18 : decode cX8_isSo 18 = .ok (.iload_n 1, 1) := by decide +kernel
theorem dX8_isSo_19 : decode cX8_isSo 19 = .ok (.iconst 1, 1) := by decide +kernel
theorem dX8_isSo_20 : decode cX8_isSo 20 = .ok (.if_icmp .ne 18, 3) := by decide +kernel
theorem dX8_isSo_23 : decode cX8_isSo 23 = .ok (.iload_n 0, 1) := by decide +kernel
theorem dX8_isSo_24 : decode cX8_isSo 24 = .ok (.iconst 4, 1) := by decide +kernel
theorem dX8_isSo_25 : decode cX8_isSo 25 = .ok (.irem, 1) := by decide +kernel
theorem dX8_isSo_26 : decode cX8_isSo 26 = .ok (.iconst 2, 1) := by decide +kernel
theorem dX8_isSo_27 : decode cX8_isSo 27 = .ok (.if_icmp .ne 7, 3) := by decide +kernel
theorem dX8_isSo_30 : decode cX8_isSo 30 = .ok (.iconst 1, 1) := by decide +kernel
theorem dX8_isSo_31 : decode cX8_isSo 31 = .ok (.goto 19, 3) := by decide +kernel
theorem dX8_isSo_34 : decode cX8_isSo 34 = .ok (.iconst 0, 1) := by decide +kernel
theorem dX8_isSo_35 : decode cX8_isSo 35 = .ok (.goto 15, 3) := by decide +kernel
theorem dX8_isSo_38 : decode cX8_isSo 38 = .ok (.iload_n 0, 1) := by decide +kernel
theorem dX8_isSo_39 : decode cX8_isSo 39 = .ok (.iconst 2, 1) := by decide +kernel
theorem dX8_isSo_40 : decode cX8_isSo 40 = .ok (.irem, 1) := by decide +kernel
theorem dX8_isSo_41 : decode cX8_isSo 41 = .ok (.iconst 1, 1) := by decide +kernel
theorem dX8_isSo_42 : decode cX8_isSo 42 = .ok (.if_icmp .ne 7, 3) := by decide +kernel
theorem dX8_isSo_45 : decode cX8_isSo 45 = .ok (.iconst 1, 1) := by decide +kernel
theorem dX8_isSo_46 : decode cX8_isSo 46 = .ok (.goto 4, 3) := by decide +kernel
theorem dX8_isSo_49 : decode cX8_isSo 49 = .ok (.iconst 0, 1) := by decide +kernel
theorem dX8_isSo_50 : decode cX8_isSo 50 = .ok (.ireturn, 1) := by decide +kernel
set_option maxRecDepth 20000 in
theorem ggX8_next_X8_areTwo : GoodIn wsX8_next wsX8_areTwo := goodIn_r _ [9, 10, 11, 12, 8, 13, 14, 15, 16, 17, 42, 43, 44, 45, 46, 47, 48, 49, 50, 51, 52, 53, 54, 55, 56, 57, 58, 59, 60, 61, 62, 63, 64, 65, 66] (by decide +kernel) (by decide +kernel)
set_option maxRecDepth 20000 in
theorem gX8_next_X8_areTwo : GoodIn wsX8_next (wsV RX8 201 RX8 yX8_areTwo wsX8_areTwo) := goodIn_app (goodIn_of _ (by decide +kernel)) ggX8_next_X8_areTwo
set_option maxRecDepth 20000 in
theorem ggX8_next_X8_in : GoodIn wsX8_next wsX8_in := goodIn_r _ [17] (by decide +kernel) (by decide +kernel)
set_option maxRecDepth 20000 in
theorem gX8_next_X8_in : GoodIn wsX8_next (va_wsS RX8 51 yX8_in wsX8_in) := goodIn_app (goodIn_of _ (by decide +kernel)) ggX8_next_X8_in
set_option maxRecDepth 20000 in
theorem ggX8_next_X8_isMoment : GoodIn wsX8_next wsX8_isMoment := goodIn_r _ [20, 21, 15, 16, 8, 17] (by decide +kernel) (by decide +kernel)
set_option maxRecDepth 20000 in
theorem gX8_next_X8_isMoment : GoodIn wsX8_next (va_wsS RX8 184 yX8_isMoment wsX8_isMoment) := goodIn_app (goodIn_of _ (by decide +kernel)) ggX8_next_X8_isMoment
set_option maxRecDepth 20000 in
theorem ggX8_next_X8_speed : GoodIn wsX8_next wsX8_speed := goodIn_r _ [25, 26, 27, 28, 8, 29, 14, 42, 43, 44, 45, 46, 47, 48, 49, 50, 51, 52, 53, 54, 55, 56, 57, 58, 59, 60, 61, 62, 63, 64, 65, 66] (by decide +kernel) (by decide +kernel)
set_option maxRecDepth 20000 in
theorem gX8_next_X8_speed : GoodIn wsX8_next (wsV RX8 181 RX8 yX8_speed wsX8_speed) := goodIn_app (goodIn_of _ (by decide +kernel)) ggX8_next_X8_speed
set_option maxRecDepth 20000 in
theorem ggX8_next_X8_size : GoodIn wsX8_next wsX8_size := goodIn_r _ [32] (by decide +kernel) (by decide +kernel)
set_option maxRecDepth 20000 in
theorem gX8_next_X8_size : GoodIn wsX8_next (va_wsS RX8 195 yX8_size wsX8_size) := goodIn_app (goodIn_of _ (by decide +kernel)) ggX8_next_X8_size
set_option maxRecDepth 20000 in
theorem ggX8_next_X8_isSo : GoodIn wsX8_next wsX8_isSo := goodIn_r _ [35] (by decide +kernel) (by decide +kernel)
set_option maxRecDepth 20000 in
theorem gX8_next_X8_isSo : GoodIn wsX8_next (va_wsS RX8 209 yX8_isSo wsX8_isSo) := goodIn_app (goodIn_of _ (by decide +kernel)) ggX8_next_X8_isSo
set_option maxRecDepth 20000 in
theorem ggX8_next_X8_told : GoodIn wsX8_next wsX8_told := goodIn_r _ [38, 39, 40, 8, 41] (by decide +kernel) (by decide +kernel)
set_option maxRecDepth 20000 in
theorem gX8_next_X8_told : GoodIn wsX8_next (va_wsS RX8 192 yX8_told wsX8_told) := goodIn_app (goodIn_of _ (by decide +kernel)) ggX8_next_X8_told
theorem dX8_next_0 : decode cX8_next 0 = .ok (.aload_n 0, 1) := by decide +kernel
theorem dX8_next_1 : decode cX8_next 1 = .ok (.iconst 0, 1) := by decide +kernel
theorem dX8_next_2 : decode cX8_next 2 = .ok (.putfield 41, 3) := by decide +kernel
theorem dX8_next_5 : decode cX8_next 5 = .ok (.aload_n 0, 1) := by decide +kernel
theorem dX8_next_6 : decode cX8_next 6 = .ok (.iload_n 1, 1) := by decide +kernel
theorem dX8_next_7 : decode cX8_next 7 = .ok (.iload_n 2, 1) := by decide +kernel
theorem dX8_next_8 : decode cX8_next 8 = .ok (.invokevirtual 201, 3) := by decide +kernel
theorem dX8_next_11 : decode cX8_next 11 = .ok (.ifCond .eq 36, 3) := by decide +kernel
theorem dX8_next_14 : decode cX8_next 14 = .ok (.iload_n 3, 1) := by decide +kernel
theorem dX8_next_15 : decode cX8_next 15 = .ok (.i2l, 1) := by decide +kernel
theorem dX8_next_16 : decode cX8_next 16 = .ok (.lconst 0, 1) := by decide +kernel
theorem dX8_next_17 : decode cX8_next 17 = .ok (.ldc2_w 59, 3) := by decide +kernel
theorem dX8_next_20 : decode cX8_next 20 = .ok (.invokestatic 51, 3) := by decide +kernel
theorem dX8_next_23 : decode cX8_next 23 = .ok (.ifCond .eq 24, 3) := by decide +kernel
theorem dX8_next_26 : decode cX8_next 26 = .ok (.iload 4, 2) := by decide +kernel
theorem dX8_next_28 : decode cX8_next 28 = .ok (.iload 5, 2) := by decide +kernel
theorem dX8_next_30 : decode cX8_next 30 = .ok (.invokestatic 184, 3) := by decide +kernel
theorem dX8_next_33 : decode cX8_next 33 = .ok (.ifCond .eq 14, 3) := by decide +kernel
theorem dX8_next_36 : decode cX8_next 36 = .ok (.iload 6, 2) := by decide +kernel
theorem dX8_next_38 : decode cX8_next 38 = .ok (.i2l, 1) := by decide +kernel
theorem dX8_next_39 : decode cX8_next 39 = .ok (.lconst 0, 1) := by decide +kernel
theorem dX8_next_40 : decode cX8_next 40 = .ok (.lconst 1, 1) := by decide +kernel
theorem dX8_next_41 : decode cX8_next 41 = .ok (.invokestatic 51, 3) := by decide +kernel
theorem dX8_next_44 : decode cX8_next 44 = .ok (.ifCond .ne 6, 3) := by decide +kernel
theorem dX8_next_47 : decode cX8_next 47 = .ok (.ldc 61, 2) := by decide +kernel
theorem dX8_next_49 : decode cX8_next 49 = .ok (.ireturn, 1) := by decide +kernel
theorem dX8_next_50 : decode cX8_next 50 = .ok (.iconst 4, 1) := by decide +kernel
theorem dX8_next_51 : decode cX8_next 51 = .ok (.aload_n 0, 1) := by decide +kernel
theorem dX8_next_52 : decode cX8_next 52 = .ok (.iload_n 1, 1) := by decide +kernel
theorem dX8_next_53 : decode cX8_next 53 = .ok (.invokevirtual 181, 3) := by decide +kernel
theorem dX8_next_56 : decode cX8_next 56 = .ok (.aload_n 0, 1) := by decide +kernel
theorem dX8_next_57 : decode cX8_next 57 = .ok (.iload_n 2, 1) := by decide +kernel
theorem dX8_next_58 : decode cX8_next 58 = .ok (.invokevirtual 181, 3) := by decide +kernel
theorem dX8_next_61 : decode cX8_next 61 = .ok (.isub, 1) := by decide +kernel
theorem dX8_next_62 : decode cX8_next 62 = .ok (.invokestatic 195, 3) := by decide +kernel
theorem dX8_next_65 : decode cX8_next 65 = .ok (.imul, 1) := by decide +kernel
theorem dX8_next_66 : decode cX8_next 66 = .ok (.istore 7, 2) := by decide +kernel
theorem dX8_next_68 : decode cX8_next 68 = .ok (.iload 7, 2) := by decide +kernel
theorem dX8_next_70 : decode cX8_next 70 = .ok (.ifCond .ne 6, 3) := by decide +kernel
theorem dX8_next_73 : decode cX8_next 73 = .ok (.ldc 77, 2) := by decide +kernel
theorem dX8_next_75 : decode cX8_next 75 = .ok (.ireturn, 1) := by decide +kernel
theorem dX8_next_76 : decode cX8_next 76 = .ok (.iload 4, 2) := by decide +kernel
theorem dX8_next_78 : decode cX8_next 78 = .ok (.iload 7, 2) := by decide +kernel
theorem dX8_next_80 : decode cX8_next 80 = .ok (.imul, 1) := by decide +kernel
theorem dX8_next_81 : decode cX8_next 81 = .ok (.iload 5, 2) := by decide +kernel
theorem dX8_next_83 : decode cX8_next 83 = .ok (.iadd, 1) := by decide +kernel
theorem dX8_next_84 : decode cX8_next 84 = .ok (.iconst 1, 1) := by decide +kernel
theorem dX8_next_85 : decode cX8_next 85 = .ok (.isub, 1) := by decide +kernel
theorem dX8_next_86 : decode cX8_next 86 = .ok (.iload 5, 2) := by decide +kernel
theorem dX8_next_88 : decode cX8_next 88 = .ok (.idiv, 1) := by decide +kernel
theorem dX8_next_89 : decode cX8_next 89 = .ok (.istore 8, 2) := by decide +kernel
theorem dX8_next_91 : decode cX8_next 91 = .ok (.iconst 0, 1) := by decide +kernel
theorem dX8_next_92 : decode cX8_next 92 = .ok (.istore 9, 2) := by decide +kernel
theorem dX8_next_94 : decode cX8_next 94 = .ok (.iload 9, 2) := by decide +kernel
theorem dX8_next_96 : decode cX8_next 96 = .ok (.iload 7, 2) := by decide +kernel
theorem dX8_next_98 : decode cX8_next 98 = .ok (.if_icmp .ge 38, 3) := by decide +kernel
theorem dX8_next_101 : decode cX8_next 101 = .ok (.iload 8, 2) := by decide +kernel
theorem dX8_next_103 : decode cX8_next 103 = .ok (.iload 9, 2) := by decide +kernel
theorem dX8_next_105 : decode cX8_next 105 = .ok (.iadd, 1) := by decide +kernel
theorem dX8_next_106 : decode cX8_next 106 = .ok (.iload 7, 2) := by decide +kernel
theorem dX8_next_108 : decode cX8_next 108 = .ok (.irem, 1) := by decide +kernel
theorem dX8_next_109 : decode cX8_next 109 = .ok (.istore 10, 2) := by decide +kernel
theorem dX8_next_111 : decode cX8_next 111 = .ok (.iload 10, 2) := by decide +kernel
theorem dX8_next_113 : decode cX8_next 113 = .ok (.iload_n 3, 1) := by decide +kernel
theorem dX8_next_114 : decode cX8_next 114 = .ok (.invokestatic 209, 3) := by decide +kernel
theorem dX8_next_117 : decode cX8_next 117 = .ok (.ifCond .eq 13, 3) := by decide +kernel
theorem dX8_next_120 : decode cX8_next 120 = .ok (.iload 10, 2) := by decide +kernel
theorem dX8_next_122 : decode cX8_next 122 = .ok (.iload 7, 2) := by decide +kernel
theorem dX8_next_124 : decode cX8_next 124 = .ok (.iload 6, 2) := by decide +kernel
theorem dX8_next_126 : decode cX8_next 126 = .ok (.invokestatic 192, 3) := by decide +kernel
theorem dX8_next_129 : decode cX8_next 129 = .ok (.ireturn, 1) := by decide +kernel
theorem dX8_next_130 : decode cX8_next 130 = .ok (.iinc 9 1, 3) := by decide +kernel
theorem dX8_next_133 : decode cX8_next 133 = .ok (.goto (-39), 3) := by decide +kernel
theorem dX8_next_136 : decode cX8_next 136 = .ok (.ldc 77, 2) := by decide +kernel
theorem dX8_next_138 : decode cX8_next 138 = .ok (.ireturn, 1) := by decide +kernel
set_option maxRecDepth 20000 in
theorem ggX8_often_X8_areTwo : GoodIn wsX8_often wsX8_areTwo := goodIn_r _ [9, 10, 11, 12, 8, 13, 14, 15, 16, 17, 29, 30, 31, 32, 33, 34, 35, 36, 37, 38, 39, 40, 41, 42, 43, 44, 45, 46, 47, 48, 49, 50, 51, 52, 53] (by decide +kernel) (by decide +kernel)
set_option maxRecDepth 20000 in
theorem gX8_often_X8_areTwo : GoodIn wsX8_often (wsV RX8 201 RX8 yX8_areTwo wsX8_areTwo) := goodIn_app (goodIn_of _ (by decide +kernel)) ggX8_often_X8_areTwo
set_option maxRecDepth 20000 in
theorem ggX8_often_X8_in : GoodIn wsX8_often wsX8_in := goodIn_r _ [17] (by decide +kernel) (by decide +kernel)
set_option maxRecDepth 20000 in
theorem gX8_often_X8_in : GoodIn wsX8_often (va_wsS RX8 51 yX8_in wsX8_in) := goodIn_app (goodIn_of _ (by decide +kernel)) ggX8_often_X8_in
set_option maxRecDepth 20000 in
theorem ggX8_often_X8_speed : GoodIn wsX8_often wsX8_speed := goodIn_r _ [21, 22, 23, 24, 8, 25, 14, 29, 30, 31, 32, 33, 34, 35, 36, 37, 38, 39, 40, 41, 42, 43, 44, 45, 46, 47, 48, 49, 50, 51, 52, 53] (by decide +kernel) (by decide +kernel)
set_option maxRecDepth 20000 in
theorem gX8_often_X8_speed : GoodIn wsX8_often (wsV RX8 181 RX8 yX8_speed wsX8_speed) := goodIn_app (goodIn_of _ (by decide +kernel)) ggX8_often_X8_speed
set_option maxRecDepth 20000 in
theorem ggX8_often_X8_size : GoodIn wsX8_often wsX8_size := goodIn_r _ [28] (by decide +kernel) (by decide +kernel)
set_option maxRecDepth 20000 in
theorem gX8_often_X8_size : GoodIn wsX8_often (va_wsS RX8 195 yX8_size wsX8_size) := goodIn_app (goodIn_of _ (by decide +kernel)) ggX8_often_X8_size
theorem dX8_often_0 : decode cX8_often 0 = .ok (.aload_n 0, 1) := by decide +kernel
theorem dX8_often_1 : decode cX8_often 1 = .ok (.iconst 0, 1) := by decide +kernel
theorem dX8_often_2 : decode cX8_often 2 = .ok (.putfield 41, 3) := by decide +kernel
theorem dX8_often_5 : decode cX8_often 5 = .ok (.aload_n 0, 1) := by decide +kernel
theorem dX8_often_6 : decode cX8_often 6 = .ok (.iload_n 1, 1) := by decide +kernel
theorem dX8_often_7 : decode cX8_often 7 = .ok (.iload_n 2, 1) := by decide +kernel
theorem dX8_often_8 : decode cX8_often 8 = .ok (.invokevirtual 201, 3) := by decide +kernel
theorem dX8_often_11 : decode cX8_often 11 = .ok (.ifCond .eq 15, 3) := by decide +kernel
theorem dX8_often_14 : decode cX8_often 14 = .ok (.iload_n 3, 1) := by decide +kernel
theorem dX8_often_15 : decode cX8_often 15 = .ok (.i2l, 1) := by decide +kernel
theorem dX8_often_16 : decode cX8_often 16 = .ok (.lconst 0, 1) := by decide +kernel
theorem dX8_often_17 : decode cX8_often 17 = .ok (.ldc2_w 59, 3) := by decide +kernel
theorem dX8_often_20 : decode cX8_often 20 = .ok (.invokestatic 51, 3) := by decide +kernel
theorem dX8_often_23 : decode cX8_often 23 = .ok (.ifCond .ne 6, 3) := by decide +kernel
theorem dX8_often_26 : decode cX8_often 26 = .ok (.ldc 61, 2) := by decide +kernel
theorem dX8_often_28 : decode cX8_often 28 = .ok (.ireturn, 1) := by decide +kernel
theorem dX8_often_29 : decode cX8_often 29 = .ok (.aload_n 0, 1) := by decide +kernel
theorem dX8_often_30 : decode cX8_often 30 = .ok (.iload_n 1, 1) := by decide +kernel
theorem dX8_often_31 : decode cX8_often 31 = .ok (.invokevirtual 181, 3) := by decide +kernel
theorem dX8_often_34 : decode cX8_often 34 = .ok (.aload_n 0, 1) := by decide +kernel
theorem dX8_often_35 : decode cX8_often 35 = .ok (.iload_n 2, 1) := by decide +kernel
theorem dX8_often_36 : decode cX8_often 36 = .ok (.invokevirtual 181, 3) := by decide +kernel
theorem dX8_often_39 : decode cX8_often 39 = .ok (.isub, 1) := by decide +kernel
theorem dX8_often_40 : decode cX8_often 40 = .ok (.invokestatic 195, 3) := by decide +kernel
theorem dX8_often_43 : decode cX8_often 43 = .ok (.istore 4, 2) := by decide +kernel
theorem dX8_often_45 : decode cX8_often 45 = .ok (.iload 4, 2) := by decide +kernel
theorem dX8_often_47 : decode cX8_often 47 = .ok (.ifCond .ne 8, 3) := by decide +kernel
theorem dX8_often_50 : decode cX8_often 50 = .ok (.ldc 77, 2) := by decide +kernel
theorem dX8_often_52 : decode cX8_often 52 = .ok (.goto 17, 3) := by decide +kernel
theorem dX8_often_55 : decode cX8_often 55 = .ok (.iload_n 3, 1) := by decide +kernel
theorem dX8_often_56 : decode cX8_often 56 = .ok (.iconst 2, 1) := by decide +kernel
theorem dX8_often_57 : decode cX8_often 57 = .ok (.if_icmp .ne 10, 3) := by decide +kernel
theorem dX8_often_60 : decode cX8_often 60 = .ok (.iconst 2, 1) := by decide +kernel
theorem dX8_often_61 : decode cX8_often 61 = .ok (.iload 4, 2) := by decide +kernel
theorem dX8_often_63 : decode cX8_often 63 = .ok (.imul, 1) := by decide +kernel
theorem dX8_often_64 : decode cX8_often 64 = .ok (.goto 5, 3) := by decide +kernel
theorem dX8_often_67 : decode cX8_often 67 = .ok (.iload 4, 2) := by decide +kernel
theorem dX8_often_69 : decode cX8_often 69 = .ok (.ireturn, 1) := by decide +kernel
set_option maxRecDepth 20000 in
theorem ggX8_all_X8_isThere : GoodIn wsX8_all wsX8_isThere := goodIn_r _ [9, 3, 24, 25, 26, 27, 28, 29, 30, 31, 32, 33, 34, 35, 36, 37, 38, 39, 40, 41, 42, 43, 44, 45, 46, 47, 48] (by decide +kernel) (by decide +kernel)
set_option maxRecDepth 20000 in
theorem gX8_all_X8_isThere : GoodIn wsX8_all (wsV RX8 212 RX8 yX8_isThere wsX8_isThere) := goodIn_app (goodIn_of _ (by decide +kernel)) ggX8_all_X8_isThere
set_option maxRecDepth 20000 in
theorem ggX8_all_X8_speed : GoodIn wsX8_all wsX8_speed := goodIn_r _ [13, 14, 15, 16, 8, 17, 3, 24, 25, 26, 27, 28, 29, 30, 31, 32, 33, 34, 35, 36, 37, 38, 39, 40, 41, 42, 43, 44, 45, 46, 47, 48] (by decide +kernel) (by decide +kernel)
set_option maxRecDepth 20000 in
theorem gX8_all_X8_speed : GoodIn wsX8_all (wsV RX8 181 RX8 yX8_speed wsX8_speed) := goodIn_app (goodIn_of _ (by decide +kernel)) ggX8_all_X8_speed
set_option maxRecDepth 20000 in
theorem ggX8_all_X8_size : GoodIn wsX8_all wsX8_size := goodIn_r _ [20] (by decide +kernel) (by decide +kernel)
set_option maxRecDepth 20000 in
theorem gX8_all_X8_size : GoodIn wsX8_all (va_wsS RX8 195 yX8_size wsX8_size) := goodIn_app (goodIn_of _ (by decide +kernel)) ggX8_all_X8_size
set_option maxRecDepth 20000 in
theorem ggX8_all_X8_divisor : GoodIn wsX8_all wsX8_divisor := goodIn_r _ [23] (by decide +kernel) (by decide +kernel)
set_option maxRecDepth 20000 in
theorem gX8_all_X8_divisor : GoodIn wsX8_all (va_wsS RX8 170 yX8_divisor wsX8_divisor) := goodIn_app (goodIn_of _ (by decide +kernel)) ggX8_all_X8_divisor
theorem dX8_all_0 : decode cX8_all 0 = .ok (.aload_n 0, 1) := by decide +kernel
theorem dX8_all_1 : decode cX8_all 1 = .ok (.iconst 0, 1) := by decide +kernel
theorem dX8_all_2 : decode cX8_all 2 = .ok (.putfield 41, 3) := by decide +kernel
theorem dX8_all_5 : decode cX8_all 5 = .ok (.aload_n 0, 1) := by decide +kernel
theorem dX8_all_6 : decode cX8_all 6 = .ok (.invokevirtual 212, 3) := by decide +kernel
theorem dX8_all_9 : decode cX8_all 9 = .ok (.ifCond .ne 6, 3) := by decide +kernel
theorem dX8_all_12 : decode cX8_all 12 = .ok (.ldc 180, 2) := by decide +kernel
theorem dX8_all_14 : decode cX8_all 14 = .ok (.ireturn, 1) := by decide +kernel
theorem dX8_all_15 : decode cX8_all 15 = .ok (.iconst 0, 1) := by decide +kernel
theorem dX8_all_16 : decode cX8_all 16 = .ok (.istore_n 1, 1) := by decide +kernel
theorem dX8_all_17 : decode cX8_all 17 = .ok (.iconst 1, 1) := by decide +kernel
theorem dX8_all_18 : decode cX8_all 18 = .ok (.istore_n 2, 1) := by decide +kernel
theorem dX8_all_19 : decode cX8_all 19 = .ok (.iload_n 2, 1) := by decide +kernel
theorem dX8_all_20 : decode cX8_all 20 = .ok (.aload_n 0, 1) := by decide +kernel
theorem dX8_all_21 : decode cX8_all 21 = .ok (.getfield 19, 3) := by decide +kernel
theorem dX8_all_24 : decode cX8_all 24 = .ok (.iconst 1, 1) := by decide +kernel
theorem dX8_all_25 : decode cX8_all 25 = .ok (.iaload, 1) := by decide +kernel
theorem dX8_all_26 : decode cX8_all 26 = .ok (.if_icmp .ge 28, 3) := by decide +kernel
theorem dX8_all_29 : decode cX8_all 29 = .ok (.iload_n 1, 1) := by decide +kernel
theorem dX8_all_30 : decode cX8_all 30 = .ok (.aload_n 0, 1) := by decide +kernel
theorem dX8_all_31 : decode cX8_all 31 = .ok (.iload_n 2, 1) := by decide +kernel
theorem dX8_all_32 : decode cX8_all 32 = .ok (.invokevirtual 181, 3) := by decide +kernel
theorem dX8_all_35 : decode cX8_all 35 = .ok (.aload_n 0, 1) := by decide +kernel
theorem dX8_all_36 : decode cX8_all 36 = .ok (.iconst 0, 1) := by decide +kernel
theorem dX8_all_37 : decode cX8_all 37 = .ok (.invokevirtual 181, 3) := by decide +kernel
theorem dX8_all_40 : decode cX8_all 40 = .ok (.isub, 1) := by decide +kernel
theorem dX8_all_41 : decode cX8_all 41 = .ok (.invokestatic 195, 3) := by decide +kernel
theorem dX8_all_44 : decode cX8_all 44 = .ok (.invokestatic 170, 3) := by decide +kernel
theorem dX8_all_47 : decode cX8_all 47 = .ok (.istore_n 1, 1) := by decide +kernel
theorem dX8_all_48 : decode cX8_all 48 = .ok (.iinc 2 1, 3) := by decide +kernel
theorem dX8_all_51 : decode cX8_all 51 = .ok (.goto (-32), 3) := by decide +kernel
theorem dX8_all_54 : decode cX8_all 54 = .ok (.iload_n 1, 1) := by decide +kernel
theorem dX8_all_55 : decode cX8_all 55 = .ok (.ifCond .ne 8, 3) := by decide +kernel
theorem dX8_all_58 : decode cX8_all 58 = .ok (.ldc 77, 2) := by decide +kernel
theorem dX8_all_60 : decode cX8_all 60 = .ok (.goto 4, 3) := by decide +kernel
theorem dX8_all_63 : decode cX8_all 63 = .ok (.iload_n 1, 1) := by decide +kernel
theorem dX8_all_64 : decode cX8_all 64 = .ok (.ireturn, 1) := by decide +kernel
set_option maxRecDepth 20000 in
theorem ggX8_isTrue_X8_speed : GoodIn wsX8_isTrue wsX8_speed := goodIn_r _ [10, 11, 12, 13, 9, 14, 4, 21, 22, 23, 24, 25, 26, 27, 28, 29, 30, 31, 32, 33, 34, 35, 36, 37, 38, 39, 40, 41, 42, 43, 44, 45] (by decide +kernel) (by decide +kernel)
set_option maxRecDepth 20000 in
theorem gX8_isTrue_X8_speed : GoodIn wsX8_isTrue (wsV RX8 181 RX8 yX8_speed wsX8_speed) := goodIn_app (goodIn_of _ (by decide +kernel)) ggX8_isTrue_X8_speed
set_option maxRecDepth 20000 in
theorem ggX8_isTrue_X8_size : GoodIn wsX8_isTrue wsX8_size := goodIn_r _ [17] (by decide +kernel) (by decide +kernel)
set_option maxRecDepth 20000 in
theorem gX8_isTrue_X8_size : GoodIn wsX8_isTrue (va_wsS RX8 195 yX8_size wsX8_size) := goodIn_app (goodIn_of _ (by decide +kernel)) ggX8_isTrue_X8_size
set_option maxRecDepth 20000 in
theorem ggX8_isTrue_X8_rest : GoodIn wsX8_isTrue wsX8_rest := goodIn_r _ [20] (by decide +kernel) (by decide +kernel)
set_option maxRecDepth 20000 in
theorem gX8_isTrue_X8_rest : GoodIn wsX8_isTrue (va_wsS RX8 177 yX8_rest wsX8_rest) := goodIn_app (goodIn_of _ (by decide +kernel)) ggX8_isTrue_X8_rest
theorem dX8_isTrue_0 : decode cX8_isTrue 0 = .ok (.iload_n 3, 1) := by decide +kernel
theorem dX8_isTrue_1 : decode cX8_isTrue 1 = .ok (.ifCond .ne 7, 3) := by decide +kernel
theorem dX8_isTrue_4 : decode cX8_isTrue 4 = .ok (.iconst 1, 1) := by decide +kernel
theorem dX8_isTrue_5 : decode cX8_isTrue 5 = .ok (.goto 4, 3) := by decide +kernel
theorem dX8_isTrue_8 : decode cX8_isTrue 8 = .ok (.iconst 0, 1) := by decide +kernel
theorem dX8_isTrue_9 : decode cX8_isTrue 9 = .ok (.istore 4, 2) := by decide +kernel
theorem dX8_isTrue_11 : decode cX8_isTrue 11 = .ok (.aload_n 0, 1) := by decide +kernel
theorem dX8_isTrue_12 : decode cX8_isTrue 12 = .ok (.ldc 77, 2) := by decide +kernel
theorem dX8_isTrue_14 : decode cX8_isTrue 14 = .ok (.putfield 216, 3) := by decide +kernel
theorem dX8_isTrue_17 : decode cX8_isTrue 17 = .ok (.aload_n 0, 1) := by decide +kernel
theorem dX8_isTrue_18 : decode cX8_isTrue 18 = .ok (.iconst 1, 1) := by decide +kernel
theorem dX8_isTrue_19 : decode cX8_isTrue 19 = .ok (.putfield 219, 3) := by decide +kernel
theorem dX8_isTrue_22 : decode cX8_isTrue 22 = .ok (.iload 4, 2) := by decide +kernel
theorem dX8_isTrue_24 : decode cX8_isTrue 24 = .ok (.aload_n 0, 1) := by decide +kernel
theorem dX8_isTrue_25 : decode cX8_isTrue 25 = .ok (.getfield 19, 3) := by decide +kernel
theorem dX8_isTrue_28 : decode cX8_isTrue 28 = .ok (.iconst 1, 1) := by decide +kernel
theorem dX8_isTrue_29 : decode cX8_isTrue 29 = .ok (.iaload, 1) := by decide +kernel
theorem dX8_isTrue_30 : decode cX8_isTrue 30 = .ok (.if_icmp .ne 10, 3) := by decide +kernel
theorem dX8_isTrue_33 : decode cX8_isTrue 33 = .ok (.aload_n 0, 1) := by decide +kernel
theorem dX8_isTrue_34 : decode cX8_isTrue 34 = .ok (.iconst 0, 1) := by decide +kernel
theorem dX8_isTrue_35 : decode cX8_isTrue 35 = .ok (.putfield 216, 3) := by decide +kernel
theorem dX8_isTrue_38 : decode cX8_isTrue 38 = .ok (.iconst 1, 1) := by decide +kernel
theorem dX8_isTrue_39 : decode cX8_isTrue 39 = .ok (.ireturn, 1) := by decide +kernel
theorem dX8_isTrue_40 : decode cX8_isTrue 40 = .ok (.aload_n 0, 1) := by decide +kernel
theorem dX8_isTrue_41 : decode cX8_isTrue 41 = .ok (.iload 4, 2) := by decide +kernel
theorem dX8_isTrue_43 : decode cX8_isTrue 43 = .ok (.invokevirtual 181, 3) := by decide +kernel
theorem dX8_isTrue_46 : decode cX8_isTrue 46 = .ok (.invokestatic 195, 3) := by decide +kernel
theorem dX8_isTrue_49 : decode cX8_isTrue 49 = .ok (.istore 5, 2) := by decide +kernel
theorem dX8_isTrue_51 : decode cX8_isTrue 51 = .ok (.iload_n 2, 1) := by decide +kernel
theorem dX8_isTrue_52 : decode cX8_isTrue 52 = .ok (.iload 5, 2) := by decide +kernel
theorem dX8_isTrue_54 : decode cX8_isTrue 54 = .ok (.imul, 1) := by decide +kernel
theorem dX8_isTrue_55 : decode cX8_isTrue 55 = .ok (.istore 6, 2) := by decide +kernel
theorem dX8_isTrue_57 : decode cX8_isTrue 57 = .ok (.iconst 0, 1) := by decide +kernel
theorem dX8_isTrue_58 : decode cX8_isTrue 58 = .ok (.istore 7, 2) := by decide +kernel
theorem dX8_isTrue_60 : decode cX8_isTrue 60 = .ok (.iconst 0, 1) := by decide +kernel
theorem dX8_isTrue_61 : decode cX8_isTrue 61 = .ok (.istore 8, 2) := by decide +kernel
theorem dX8_isTrue_63 : decode cX8_isTrue 63 = .ok (.iload 8, 2) := by decide +kernel
theorem dX8_isTrue_65 : decode cX8_isTrue 65 = .ok (.iload 5, 2) := by decide +kernel
theorem dX8_isTrue_67 : decode cX8_isTrue 67 = .ok (.if_icmp .ge 222, 3) := by decide +kernel
theorem dX8_isTrue_70 : decode cX8_isTrue 70 = .ok (.aload_n 0, 1) := by decide +kernel
theorem dX8_isTrue_71 : decode cX8_isTrue 71 = .ok (.getfield 16, 3) := by decide +kernel
theorem dX8_isTrue_74 : decode cX8_isTrue 74 = .ok (.iload_n 1, 1) := by decide +kernel
theorem dX8_isTrue_75 : decode cX8_isTrue 75 = .ok (.iload 4, 2) := by decide +kernel
theorem dX8_isTrue_77 : decode cX8_isTrue 77 = .ok (.iadd, 1) := by decide +kernel
theorem dX8_isTrue_78 : decode cX8_isTrue 78 = .ok (.iaload, 1) := by decide +kernel
theorem dX8_isTrue_79 : decode cX8_isTrue 79 = .ok (.iload 8, 2) := by decide +kernel
theorem dX8_isTrue_81 : decode cX8_isTrue 81 = .ok (.iload_n 2, 1) := by decide +kernel
theorem dX8_isTrue_82 : decode cX8_isTrue 82 = .ok (.imul, 1) := by decide +kernel
theorem dX8_isTrue_83 : decode cX8_isTrue 83 = .ok (.iadd, 1) := by decide +kernel
theorem dX8_isTrue_84 : decode cX8_isTrue 84 = .ok (.istore 9, 2) := by decide +kernel
theorem dX8_isTrue_86 : decode cX8_isTrue 86 = .ok (.aload_n 0, 1) := by decide +kernel
theorem dX8_isTrue_87 : decode cX8_isTrue 87 = .ok (.iload 4, 2) := by decide +kernel
theorem dX8_isTrue_89 : decode cX8_isTrue 89 = .ok (.invokevirtual 181, 3) := by decide +kernel
theorem dX8_isTrue_92 : decode cX8_isTrue 92 = .ok (.ifCond .ge 14, 3) := by decide +kernel
theorem dX8_isTrue_95 : decode cX8_isTrue 95 = .ok (.iload 9, 2) := by decide +kernel
theorem dX8_isTrue_97 : decode cX8_isTrue 97 = .ok (.ineg, 1) := by decide +kernel
theorem dX8_isTrue_98 : decode cX8_isTrue 98 = .ok (.iload 6, 2) := by decide +kernel
theorem dX8_isTrue_100 : decode cX8_isTrue 100 = .ok (.invokestatic 177, 3) := by decide +kernel
theorem dX8_isTrue_103 : decode cX8_isTrue 103 = .ok (.goto 5, 3) := by decide +kernel
theorem dX8_isTrue_106 : decode cX8_isTrue 106 = .ok (.iload 9, 2) := by decide +kernel
theorem dX8_isTrue_108 : decode cX8_isTrue 108 = .ok (.istore 10, 2) := by decide +kernel
theorem dX8_isTrue_110 : decode cX8_isTrue 110 = .ok (.iconst 1, 1) := by decide +kernel
theorem dX8_isTrue_111 : decode cX8_isTrue 111 = .ok (.istore 11, 2) := by decide +kernel
theorem dX8_isTrue_113 : decode cX8_isTrue 113 = .ok (.iconst 0, 1) := by decide +kernel
theorem dX8_isTrue_114 : decode cX8_isTrue 114 = .ok (.istore 12, 2) := by decide +kernel
theorem dX8_isTrue_116 : decode cX8_isTrue 116 = .ok (.iload 12, 2) := by decide +kernel
theorem dX8_isTrue_118 : decode cX8_isTrue 118 = .ok (.aload_n 0, 1) := by decide +kernel
theorem dX8_isTrue_119 : decode cX8_isTrue 119 = .ok (.getfield 19, 3) := by decide +kernel
theorem dX8_isTrue_122 : decode cX8_isTrue 122 = .ok (.iconst 1, 1) := by decide +kernel
theorem dX8_isTrue_123 : decode cX8_isTrue 123 = .ok (.iaload, 1) := by decide +kernel
theorem dX8_isTrue_124 : decode cX8_isTrue 124 = .ok (.if_icmp .ge 57, 3) := by decide +kernel
theorem dX8_isTrue_127 : decode cX8_isTrue 127 = .ok (.iload 11, 2) := by decide +kernel
theorem dX8_isTrue_129 : decode cX8_isTrue 129 = .ok (.ifCond .eq 43, 3) := by decide +kernel
theorem dX8_isTrue_132 : decode cX8_isTrue 132 = .ok (.iload 12, 2) := by decide +kernel
theorem dX8_isTrue_134 : decode cX8_isTrue 134 = .ok (.iload_n 3, 1) := by decide +kernel
theorem dX8_isTrue_135 : decode cX8_isTrue 135 = .ok (.if_icmp .eq 33, 3) := by decide +kernel
theorem dX8_isTrue_138 : decode cX8_isTrue 138 = .ok (.aload_n 0, 1) := by decide +kernel
theorem dX8_isTrue_139 : decode cX8_isTrue 139 = .ok (.iload 12, 2) := by decide +kernel
theorem dX8_isTrue_141 : decode cX8_isTrue 141 = .ok (.invokevirtual 181, 3) := by decide +kernel
theorem dX8_isTrue_144 : decode cX8_isTrue 144 = .ok (.iload 10, 2) := by decide +kernel
theorem dX8_isTrue_146 : decode cX8_isTrue 146 = .ok (.imul, 1) := by decide +kernel
theorem dX8_isTrue_147 : decode cX8_isTrue 147 = .ok (.aload_n 0, 1) := by decide +kernel
theorem dX8_isTrue_148 : decode cX8_isTrue 148 = .ok (.getfield 16, 3) := by decide +kernel
theorem dX8_isTrue_151 : decode cX8_isTrue 151 = .ok (.iload_n 1, 1) := by decide +kernel
theorem dX8_isTrue_152 : decode cX8_isTrue 152 = .ok (.iload 12, 2) := by decide +kernel
theorem dX8_isTrue_154 : decode cX8_isTrue 154 = .ok (.iadd, 1) := by decide +kernel
theorem dX8_isTrue_155 : decode cX8_isTrue 155 = .ok (.iaload, 1) := by decide +kernel
theorem dX8_isTrue_156 : decode cX8_isTrue 156 = .ok (.iload 5, 2) := by decide +kernel
theorem dX8_isTrue_158 : decode cX8_isTrue 158 = .ok (.imul, 1) := by decide +kernel
theorem dX8_isTrue_159 : decode cX8_isTrue 159 = .ok (.isub, 1) := by decide +kernel
theorem dX8_isTrue_160 : decode cX8_isTrue 160 = .ok (.iload 6, 2) := by decide +kernel
theorem dX8_isTrue_162 : decode cX8_isTrue 162 = .ok (.invokestatic 177, 3) := by decide +kernel
theorem dX8_isTrue_165 : decode cX8_isTrue 165 = .ok (.ifCond .ne 7, 3) := by decide +kernel
theorem dX8_isTrue_168 : decode cX8_isTrue 168 = .ok (.iconst 1, 1) := by decide +kernel
theorem dX8_isTrue_169 : decode cX8_isTrue 169 = .ok (.goto 4, 3) := by decide +kernel
theorem dX8_isTrue_172 : decode cX8_isTrue 172 = .ok (.iconst 0, 1) := by decide +kernel
theorem dX8_isTrue_173 : decode cX8_isTrue 173 = .ok (.istore 11, 2) := by decide +kernel
theorem dX8_isTrue_175 : decode cX8_isTrue 175 = .ok (.iinc 12 1, 3) := by decide +kernel
theorem dX8_isTrue_178 : decode cX8_isTrue 178 = .ok (.goto (-62), 3) := by decide +kernel
theorem dX8_isTrue_181 : decode cX8_isTrue 181 = .ok (.iload 11, 2) := by decide +kernel
theorem dX8_isTrue_183 : decode cX8_isTrue 183 = .ok (.ifCond .eq 100, 3) := by decide +kernel
theorem dX8_isTrue_186 : decode cX8_isTrue 186 = .ok (.aload_n 0, 1) := by decide +kernel
theorem dX8_isTrue_187 : decode cX8_isTrue 187 = .ok (.getfield 19, 3) := by decide +kernel
theorem dX8_isTrue_190 : decode cX8_isTrue 190 = .ok (.iconst 1, 1) := by decide +kernel
theorem dX8_isTrue_191 : decode cX8_isTrue 191 = .ok (.iaload, 1) := by decide +kernel
theorem dX8_isTrue_192 : decode cX8_isTrue 192 = .ok (.iconst 1, 1) := by decide +kernel
theorem dX8_isTrue_193 : decode cX8_isTrue 193 = .ok (.isub, 1) := by decide +kernel
theorem dX8_isTrue_194 : decode cX8_isTrue 194 = .ok (.istore 12, 2) := by decide +kernel
theorem dX8_isTrue_196 : decode cX8_isTrue 196 = .ok (.aload_n 0, 1) := by decide +kernel
theorem dX8_isTrue_197 : decode cX8_isTrue 197 = .ok (.iload 12, 2) := by decide +kernel
theorem dX8_isTrue_199 : decode cX8_isTrue 199 = .ok (.invokevirtual 181, 3) := by decide +kernel
theorem dX8_isTrue_202 : decode cX8_isTrue 202 = .ok (.iload 10, 2) := by decide +kernel
theorem dX8_isTrue_204 : decode cX8_isTrue 204 = .ok (.imul, 1) := by decide +kernel
theorem dX8_isTrue_205 : decode cX8_isTrue 205 = .ok (.aload_n 0, 1) := by decide +kernel
theorem dX8_isTrue_206 : decode cX8_isTrue 206 = .ok (.getfield 16, 3) := by decide +kernel
theorem dX8_isTrue_209 : decode cX8_isTrue 209 = .ok (.iload_n 1, 1) := by decide +kernel
theorem dX8_isTrue_210 : decode cX8_isTrue 210 = .ok (.iload 12, 2) := by decide +kernel
theorem dX8_isTrue_212 : decode cX8_isTrue 212 = .ok (.iadd, 1) := by decide +kernel
theorem dX8_isTrue_213 : decode cX8_isTrue 213 = .ok (.iaload, 1) := by decide +kernel
theorem dX8_isTrue_214 : decode cX8_isTrue 214 = .ok (.iload 5, 2) := by decide +kernel
theorem dX8_isTrue_216 : decode cX8_isTrue 216 = .ok (.imul, 1) := by decide +kernel
theorem dX8_isTrue_217 : decode cX8_isTrue 217 = .ok (.isub, 1) := by decide +kernel
theorem dX8_isTrue_218 : decode cX8_isTrue 218 = .ok (.iload 6, 2) := by decide +kernel
theorem dX8_isTrue_220 : decode cX8_isTrue 220 = .ok (.invokestatic 177, 3) := by decide +kernel
theorem dX8_isTrue_223 : decode cX8_isTrue 223 = .ok (.istore 13, 2) := by decide +kernel
theorem dX8_isTrue_225 : decode cX8_isTrue 225 = .ok (.iload 13, 2) := by decide +kernel
theorem dX8_isTrue_227 : decode cX8_isTrue 227 = .ok (.iload 6, 2) := by decide +kernel
theorem dX8_isTrue_229 : decode cX8_isTrue 229 = .ok (.iload 13, 2) := by decide +kernel
theorem dX8_isTrue_231 : decode cX8_isTrue 231 = .ok (.isub, 1) := by decide +kernel
theorem dX8_isTrue_232 : decode cX8_isTrue 232 = .ok (.if_icmp .le 11, 3) := by decide +kernel
theorem dX8_isTrue_235 : decode cX8_isTrue 235 = .ok (.iload 6, 2) := by decide +kernel
theorem dX8_isTrue_237 : decode cX8_isTrue 237 = .ok (.iload 13, 2) := by decide +kernel
theorem dX8_isTrue_239 : decode cX8_isTrue 239 = .ok (.isub, 1) := by decide +kernel
theorem dX8_isTrue_240 : decode cX8_isTrue 240 = .ok (.goto 5, 3) := by decide +kernel
theorem dX8_isTrue_243 : decode cX8_isTrue 243 = .ok (.iload 13, 2) := by decide +kernel
theorem dX8_isTrue_245 : decode cX8_isTrue 245 = .ok (.istore 13, 2) := by decide +kernel
theorem dX8_isTrue_247 : decode cX8_isTrue 247 = .ok (.aload_n 0, 1) := by decide +kernel
theorem dX8_isTrue_248 : decode cX8_isTrue 248 = .ok (.iload 7, 2) := by decide +kernel
theorem dX8_isTrue_250 : decode cX8_isTrue 250 = .ok (.ifCond .eq 12, 3) := by decide +kernel
theorem dX8_isTrue_253 : decode cX8_isTrue 253 = .ok (.iload 13, 2) := by decide +kernel
theorem dX8_isTrue_255 : decode cX8_isTrue 255 = .ok (.aload_n 0, 1) := by decide +kernel
theorem dX8_isTrue_256 : decode cX8_isTrue 256 = .ok (.getfield 216, 3) := by decide +kernel
theorem dX8_isTrue_259 : decode cX8_isTrue 259 = .ok (.if_icmp .ge 8, 3) := by decide +kernel
theorem dX8_isTrue_262 : decode cX8_isTrue 262 = .ok (.iload 13, 2) := by decide +kernel
theorem dX8_isTrue_264 : decode cX8_isTrue 264 = .ok (.goto 7, 3) := by decide +kernel
theorem dX8_isTrue_267 : decode cX8_isTrue 267 = .ok (.aload_n 0, 1) := by decide +kernel
theorem dX8_isTrue_268 : decode cX8_isTrue 268 = .ok (.getfield 216, 3) := by decide +kernel
theorem dX8_isTrue_271 : decode cX8_isTrue 271 = .ok (.putfield 216, 3) := by decide +kernel
theorem dX8_isTrue_274 : decode cX8_isTrue 274 = .ok (.aload_n 0, 1) := by decide +kernel
theorem dX8_isTrue_275 : decode cX8_isTrue 275 = .ok (.iload 6, 2) := by decide +kernel
theorem dX8_isTrue_277 : decode cX8_isTrue 277 = .ok (.putfield 219, 3) := by decide +kernel
theorem dX8_isTrue_280 : decode cX8_isTrue 280 = .ok (.iconst 1, 1) := by decide +kernel
theorem dX8_isTrue_281 : decode cX8_isTrue 281 = .ok (.istore 7, 2) := by decide +kernel
theorem dX8_isTrue_283 : decode cX8_isTrue 283 = .ok (.iinc 8 1, 3) := by decide +kernel
theorem dX8_isTrue_286 : decode cX8_isTrue 286 = .ok (.goto (-223), 3) := by decide +kernel
theorem dX8_isTrue_289 : decode cX8_isTrue 289 = .ok (.iload 7, 2) := by decide +kernel
theorem dX8_isTrue_291 : decode cX8_isTrue 291 = .ok (.ireturn, 1) := by decide +kernel
theorem dX8_lacks_0 : decode cX8_lacks 0 = .ok (.aload_n 0, 1) := by decide +kernel
theorem dX8_lacks_1 : decode cX8_lacks 1 = .ok (.getfield 7, 3) := by decide +kernel
theorem dX8_lacks_4 : decode cX8_lacks 4 = .ok (.iload_n 1, 1) := by decide +kernel
theorem dX8_lacks_5 : decode cX8_lacks 5 = .ok (.iaload, 1) := by decide +kernel
theorem dX8_lacks_6 : decode cX8_lacks 6 = .ok (.ifCond .ge 7, 3) := by decide +kernel
theorem dX8_lacks_9 : decode cX8_lacks 9 = .ok (.iconst 1, 1) := by decide +kernel
theorem dX8_lacks_10 : decode cX8_lacks 10 = .ok (.goto 28, 3) := by decide +kernel
theorem dX8_lacks_13 : decode cX8_lacks 13 = .ok (.iload_n 2, 1) := by decide +kernel
theorem dX8_lacks_14 : decode cX8_lacks 14 = .ok (.ifCond .lt 19, 3) := by decide +kernel
theorem dX8_lacks_17 : decode cX8_lacks 17 = .ok (.iload_n 2, 1) := by decide +kernel
theorem dX8_lacks_18 : decode cX8_lacks 18 = .ok (.i2l, 1) := by decide +kernel
theorem dX8_lacks_19 : decode cX8_lacks 19 = .ok (.iload_n 3, 1) := by decide +kernel
theorem dX8_lacks_20 : decode cX8_lacks 20 = .ok (.i2l, 1) := by decide +kernel
theorem dX8_lacks_21 : decode cX8_lacks 21 = .ok (.ladd, 1) := by decide +kernel
theorem dX8_lacks_22 : decode cX8_lacks 22 = .ok (.aload_n 0, 1) := by decide +kernel
theorem dX8_lacks_23 : decode cX8_lacks 23 = .ok (.getfield 13, 3) := by decide +kernel
theorem dX8_lacks_26 : decode cX8_lacks 26 = .ok (.iload_n 1, 1) := by decide +kernel
theorem dX8_lacks_27 : decode cX8_lacks 27 = .ok (.iaload, 1) := by decide +kernel
theorem dX8_lacks_28 : decode cX8_lacks 28 = .ok (.i2l, 1) := by decide +kernel
theorem dX8_lacks_29 : decode cX8_lacks 29 = .ok (.lcmp, 1) := by decide +kernel
theorem dX8_lacks_30 : decode cX8_lacks 30 = .ok (.ifCond .le 7, 3) := by decide +kernel
theorem dX8_lacks_33 : decode cX8_lacks 33 = .ok (.iconst 2, 1) := by decide +kernel
theorem dX8_lacks_34 : decode cX8_lacks 34 = .ok (.goto 4, 3) := by decide +kernel
theorem dX8_lacks_37 : decode cX8_lacks 37 = .ok (.iconst 0, 1) := by decide +kernel
theorem dX8_lacks_38 : decode cX8_lacks 38 = .ok (.ireturn, 1) := by decide +kernel
set_option maxRecDepth 20000 in
theorem ggX8_areArcs_X8_in : GoodIn wsX8_areArcs wsX8_in := goodIn_r _ [5] (by decide +kernel) (by decide +kernel)
set_option maxRecDepth 20000 in
theorem gX8_areArcs_X8_in : GoodIn wsX8_areArcs (va_wsS RX8 51 yX8_in wsX8_in) := goodIn_app (goodIn_of _ (by decide +kernel)) ggX8_areArcs_X8_in
theorem dX8_areArcs_0 : decode cX8_areArcs 0 = .ok (.iconst 1, 1) := by decide +kernel
theorem dX8_areArcs_1 : decode cX8_areArcs 1 = .ok (.istore 4, 2) := by decide +kernel
theorem dX8_areArcs_3 : decode cX8_areArcs 3 = .ok (.iconst 0, 1) := by decide +kernel
theorem dX8_areArcs_4 : decode cX8_areArcs 4 = .ok (.istore 5, 2) := by decide +kernel
theorem dX8_areArcs_6 : decode cX8_areArcs 6 = .ok (.iload 5, 2) := by decide +kernel
theorem dX8_areArcs_8 : decode cX8_areArcs 8 = .ok (.iload_n 2, 1) := by decide +kernel
theorem dX8_areArcs_9 : decode cX8_areArcs 9 = .ok (.if_icmp .ge 42, 3) := by decide +kernel
theorem dX8_areArcs_12 : decode cX8_areArcs 12 = .ok (.iload 4, 2) := by decide +kernel
theorem dX8_areArcs_14 : decode cX8_areArcs 14 = .ok (.ifCond .eq 28, 3) := by decide +kernel
theorem dX8_areArcs_17 : decode cX8_areArcs 17 = .ok (.aload_n 0, 1) := by decide +kernel
theorem dX8_areArcs_18 : decode cX8_areArcs 18 = .ok (.getfield 16, 3) := by decide +kernel
theorem dX8_areArcs_21 : decode cX8_areArcs 21 = .ok (.iload_n 1, 1) := by decide +kernel
theorem dX8_areArcs_22 : decode cX8_areArcs 22 = .ok (.iload 5, 2) := by decide +kernel
theorem dX8_areArcs_24 : decode cX8_areArcs 24 = .ok (.iadd, 1) := by decide +kernel
theorem dX8_areArcs_25 : decode cX8_areArcs 25 = .ok (.iaload, 1) := by decide +kernel
theorem dX8_areArcs_26 : decode cX8_areArcs 26 = .ok (.i2l, 1) := by decide +kernel
theorem dX8_areArcs_27 : decode cX8_areArcs 27 = .ok (.lconst 0, 1) := by decide +kernel
theorem dX8_areArcs_28 : decode cX8_areArcs 28 = .ok (.iload_n 3, 1) := by decide +kernel
theorem dX8_areArcs_29 : decode cX8_areArcs 29 = .ok (.iconst 1, 1) := by decide +kernel
theorem dX8_areArcs_30 : decode cX8_areArcs 30 = .ok (.isub, 1) := by decide +kernel
theorem dX8_areArcs_31 : decode cX8_areArcs 31 = .ok (.i2l, 1) := by decide +kernel
theorem dX8_areArcs_32 : decode cX8_areArcs 32 = .ok (.invokestatic 51, 3) := by decide +kernel
theorem dX8_areArcs_35 : decode cX8_areArcs 35 = .ok (.ifCond .eq 7, 3) := by decide +kernel
theorem dX8_areArcs_38 : decode cX8_areArcs 38 = .ok (.iconst 1, 1) := by decide +kernel
theorem dX8_areArcs_39 : decode cX8_areArcs 39 = .ok (.goto 4, 3) := by decide +kernel
theorem dX8_areArcs_42 : decode cX8_areArcs 42 = .ok (.iconst 0, 1) := by decide +kernel
theorem dX8_areArcs_43 : decode cX8_areArcs 43 = .ok (.istore 4, 2) := by decide +kernel
theorem dX8_areArcs_45 : decode cX8_areArcs 45 = .ok (.iinc 5 1, 3) := by decide +kernel
theorem dX8_areArcs_48 : decode cX8_areArcs 48 = .ok (.goto (-42), 3) := by decide +kernel
theorem dX8_areArcs_51 : decode cX8_areArcs 51 = .ok (.iload 4, 2) := by decide +kernel
theorem dX8_areArcs_53 : decode cX8_areArcs 53 = .ok (.ireturn, 1) := by decide +kernel
set_option maxRecDepth 20000 in
theorem ggX8_lies_X8_isThere : GoodIn wsX8_lies wsX8_isThere := goodIn_r _ [15, 6, 63, 64, 65, 66, 67, 68, 69, 70, 71, 72, 73, 74, 75, 76, 77, 78, 79, 80, 81, 82, 83, 84, 85, 86, 87] (by decide +kernel) (by decide +kernel)
set_option maxRecDepth 20000 in
theorem gX8_lies_X8_isThere : GoodIn wsX8_lies (wsV RX8 212 RX8 yX8_isThere wsX8_isThere) := goodIn_app (goodIn_of _ (by decide +kernel)) ggX8_lies_X8_isThere
set_option maxRecDepth 20000 in
theorem ggX8_lies_X8_isRow : GoodIn wsX8_lies wsX8_isRow := goodIn_r _ [18, 19, 20, 21, 14, 22] (by decide +kernel) (by decide +kernel)
set_option maxRecDepth 20000 in
theorem gX8_lies_X8_isRow : GoodIn wsX8_lies (va_wsS RX8 55 yX8_isRow wsX8_isRow) := goodIn_app (goodIn_of _ (by decide +kernel)) ggX8_lies_X8_isRow
set_option maxRecDepth 20000 in
theorem ggX8_lies_X8_in : GoodIn wsX8_lies wsX8_in := goodIn_r _ [22] (by decide +kernel) (by decide +kernel)
set_option maxRecDepth 20000 in
theorem gX8_lies_X8_in : GoodIn wsX8_lies (va_wsS RX8 51 yX8_in wsX8_in) := goodIn_app (goodIn_of _ (by decide +kernel)) ggX8_lies_X8_in
set_option maxRecDepth 20000 in
theorem ggX8_lies_X8_lacks : GoodIn wsX8_lies wsX8_lacks := goodIn_r _ [26, 27, 28, 63, 64, 65, 66, 67, 68, 69, 70, 71, 72, 73, 74, 75, 76, 77, 78, 79, 80, 81, 82, 83, 84, 85, 86, 87] (by decide +kernel) (by decide +kernel)
set_option maxRecDepth 20000 in
theorem gX8_lies_X8_lacks : GoodIn wsX8_lies (wsV RX8 224 RX8 yX8_lacks wsX8_lacks) := goodIn_app (goodIn_of _ (by decide +kernel)) ggX8_lies_X8_lacks
set_option maxRecDepth 20000 in
theorem ggX8_lies_X8_finding : GoodIn wsX8_lies wsX8_finding := goodIn_r _ [32, 7, 33, 63, 64, 65, 66, 67, 68, 69, 70, 71, 72, 73, 74, 75, 76, 77, 78, 79, 80, 81, 82, 83, 84, 85, 86, 87] (by decide +kernel) (by decide +kernel)
set_option maxRecDepth 20000 in
theorem gX8_lies_X8_finding : GoodIn wsX8_lies (wsV RX8 62 RX8 yX8_finding wsX8_finding) := goodIn_app (goodIn_of _ (by decide +kernel)) ggX8_lies_X8_finding
set_option maxRecDepth 20000 in
theorem ggX8_lies_X8_areArcs : GoodIn wsX8_lies wsX8_areArcs := goodIn_r _ [37, 38, 20, 21, 14, 22, 63, 64, 65, 66, 67, 68, 69, 70, 71, 72, 73, 74, 75, 76, 77, 78, 79, 80, 81, 82, 83, 84, 85, 86, 87] (by decide +kernel) (by decide +kernel)
set_option maxRecDepth 20000 in
theorem gX8_lies_X8_areArcs : GoodIn wsX8_lies (wsV RX8 227 RX8 yX8_areArcs wsX8_areArcs) := goodIn_app (goodIn_of _ (by decide +kernel)) ggX8_lies_X8_areArcs
set_option maxRecDepth 20000 in
theorem ggX8_lies_X8_isTrue : GoodIn wsX8_lies wsX8_isTrue := goodIn_r _ [42, 8, 9, 10, 6, 38, 43, 44, 45, 14, 46, 47, 48, 49, 50, 51, 52, 53, 54, 55, 56, 63, 64, 65, 66, 67, 68, 69, 70, 71, 72, 73, 74, 75, 76, 77, 78, 79, 80, 81, 82, 83, 84, 85, 86, 87] (by decide +kernel) (by decide +kernel)
set_option maxRecDepth 20000 in
theorem gX8_lies_X8_isTrue : GoodIn wsX8_lies (wsV RX8 231 RX8 yX8_isTrue wsX8_isTrue) := goodIn_app (goodIn_of _ (by decide +kernel)) ggX8_lies_X8_isTrue
set_option maxRecDepth 20000 in
theorem ggX8_lies_X8_told : GoodIn wsX8_lies wsX8_told := goodIn_r _ [59, 60, 61, 14, 62] (by decide +kernel) (by decide +kernel)
set_option maxRecDepth 20000 in
theorem gX8_lies_X8_told : GoodIn wsX8_lies (va_wsS RX8 192 yX8_told wsX8_told) := goodIn_app (goodIn_of _ (by decide +kernel)) ggX8_lies_X8_told
theorem dX8_lies_0 : decode cX8_lies 0 = .ok (.aload_n 0, 1) := by decide +kernel
theorem dX8_lies_1 : decode cX8_lies 1 = .ok (.iconst 0, 1) := by decide +kernel
theorem dX8_lies_2 : decode cX8_lies 2 = .ok (.putfield 41, 3) := by decide +kernel
theorem dX8_lies_5 : decode cX8_lies 5 = .ok (.aload_n 0, 1) := by decide +kernel
theorem dX8_lies_6 : decode cX8_lies 6 = .ok (.invokevirtual 212, 3) := by decide +kernel
theorem dX8_lies_9 : decode cX8_lies 9 = .ok (.ifCond .ne 6, 3) := by decide +kernel
theorem dX8_lies_12 : decode cX8_lies 12 = .ok (.ldc 180, 2) := by decide +kernel
theorem dX8_lies_14 : decode cX8_lies 14 = .ok (.ireturn, 1) := by decide +kernel
theorem dX8_lies_15 : decode cX8_lies 15 = .ok (.iload_n 1, 1) := by decide +kernel
theorem dX8_lies_16 : decode cX8_lies 16 = .ok (.invokestatic 55, 3) := by decide +kernel
theorem dX8_lies_19 : decode cX8_lies 19 = .ok (.ifCond .eq 28, 3) := by decide +kernel
theorem dX8_lies_22 : decode cX8_lies 22 = .ok (.iload_n 3, 1) := by decide +kernel
theorem dX8_lies_23 : decode cX8_lies 23 = .ok (.i2l, 1) := by decide +kernel
theorem dX8_lies_24 : decode cX8_lies 24 = .ok (.lconst 1, 1) := by decide +kernel
theorem dX8_lies_25 : decode cX8_lies 25 = .ok (.ldc2_w 222, 3) := by decide +kernel
theorem dX8_lies_28 : decode cX8_lies 28 = .ok (.invokestatic 51, 3) := by decide +kernel
theorem dX8_lies_31 : decode cX8_lies 31 = .ok (.ifCond .eq 16, 3) := by decide +kernel
theorem dX8_lies_34 : decode cX8_lies 34 = .ok (.iload 4, 2) := by decide +kernel
theorem dX8_lies_36 : decode cX8_lies 36 = .ok (.i2l, 1) := by decide +kernel
theorem dX8_lies_37 : decode cX8_lies 37 = .ok (.lconst 0, 1) := by decide +kernel
theorem dX8_lies_38 : decode cX8_lies 38 = .ok (.ldc2_w 207, 3) := by decide +kernel
theorem dX8_lies_41 : decode cX8_lies 41 = .ok (.invokestatic 51, 3) := by decide +kernel
theorem dX8_lies_44 : decode cX8_lies 44 = .ok (.ifCond .ne 6, 3) := by decide +kernel
theorem dX8_lies_47 : decode cX8_lies 47 = .ok (.ldc 61, 2) := by decide +kernel
theorem dX8_lies_49 : decode cX8_lies 49 = .ok (.ireturn, 1) := by decide +kernel
theorem dX8_lies_50 : decode cX8_lies 50 = .ok (.aload_n 0, 1) := by decide +kernel
theorem dX8_lies_51 : decode cX8_lies 51 = .ok (.iload_n 1, 1) := by decide +kernel
theorem dX8_lies_52 : decode cX8_lies 52 = .ok (.iload_n 2, 1) := by decide +kernel
theorem dX8_lies_53 : decode cX8_lies 53 = .ok (.aload_n 0, 1) := by decide +kernel
theorem dX8_lies_54 : decode cX8_lies 54 = .ok (.getfield 19, 3) := by decide +kernel
theorem dX8_lies_57 : decode cX8_lies 57 = .ok (.iconst 1, 1) := by decide +kernel
theorem dX8_lies_58 : decode cX8_lies 58 = .ok (.iaload, 1) := by decide +kernel
theorem dX8_lies_59 : decode cX8_lies 59 = .ok (.invokevirtual 224, 3) := by decide +kernel
theorem dX8_lies_62 : decode cX8_lies 62 = .ok (.istore 5, 2) := by decide +kernel
theorem dX8_lies_64 : decode cX8_lies 64 = .ok (.iload 5, 2) := by decide +kernel
theorem dX8_lies_66 : decode cX8_lies 66 = .ok (.ifCond .le 10, 3) := by decide +kernel
theorem dX8_lies_69 : decode cX8_lies 69 = .ok (.aload_n 0, 1) := by decide +kernel
theorem dX8_lies_70 : decode cX8_lies 70 = .ok (.iload 5, 2) := by decide +kernel
theorem dX8_lies_72 : decode cX8_lies 72 = .ok (.invokevirtual 62, 3) := by decide +kernel
theorem dX8_lies_75 : decode cX8_lies 75 = .ok (.ireturn, 1) := by decide +kernel
theorem dX8_lies_76 : decode cX8_lies 76 = .ok (.bipush 40, 2) := by decide +kernel
theorem dX8_lies_78 : decode cX8_lies 78 = .ok (.iload_n 1, 1) := by decide +kernel
theorem dX8_lies_79 : decode cX8_lies 79 = .ok (.imul, 1) := by decide +kernel
theorem dX8_lies_80 : decode cX8_lies 80 = .ok (.iload_n 2, 1) := by decide +kernel
theorem dX8_lies_81 : decode cX8_lies 81 = .ok (.iadd, 1) := by decide +kernel
theorem dX8_lies_82 : decode cX8_lies 82 = .ok (.istore 6, 2) := by decide +kernel
theorem dX8_lies_84 : decode cX8_lies 84 = .ok (.aload_n 0, 1) := by decide +kernel
theorem dX8_lies_85 : decode cX8_lies 85 = .ok (.iload 6, 2) := by decide +kernel
theorem dX8_lies_87 : decode cX8_lies 87 = .ok (.aload_n 0, 1) := by decide +kernel
theorem dX8_lies_88 : decode cX8_lies 88 = .ok (.getfield 19, 3) := by decide +kernel
theorem dX8_lies_91 : decode cX8_lies 91 = .ok (.iconst 1, 1) := by decide +kernel
theorem dX8_lies_92 : decode cX8_lies 92 = .ok (.iaload, 1) := by decide +kernel
theorem dX8_lies_93 : decode cX8_lies 93 = .ok (.iload_n 3, 1) := by decide +kernel
theorem dX8_lies_94 : decode cX8_lies 94 = .ok (.invokevirtual 227, 3) := by decide +kernel
theorem dX8_lies_97 : decode cX8_lies 97 = .ok (.ifCond .ne 6, 3) := by decide +kernel
theorem dX8_lies_100 : decode cX8_lies 100 = .ok (.ldc 61, 2) := by decide +kernel
theorem dX8_lies_102 : decode cX8_lies 102 = .ok (.ireturn, 1) := by decide +kernel
theorem dX8_lies_103 : decode cX8_lies 103 = .ok (.aload_n 0, 1) := by decide +kernel
theorem dX8_lies_104 : decode cX8_lies 104 = .ok (.iconst 0, 1) := by decide +kernel
theorem dX8_lies_105 : decode cX8_lies 105 = .ok (.putfield 45, 3) := by decide +kernel
theorem dX8_lies_108 : decode cX8_lies 108 = .ok (.iload 4, 2) := by decide +kernel
theorem dX8_lies_110 : decode cX8_lies 110 = .ok (.ifCond .ne 21, 3) := by decide +kernel
theorem dX8_lies_113 : decode cX8_lies 113 = .ok (.aload_n 0, 1) := by decide +kernel
theorem dX8_lies_114 : decode cX8_lies 114 = .ok (.iload 6, 2) := by decide +kernel
theorem dX8_lies_116 : decode cX8_lies 116 = .ok (.iload_n 3, 1) := by decide +kernel
theorem dX8_lies_117 : decode cX8_lies 117 = .ok (.ldc 77, 2) := by decide +kernel
theorem dX8_lies_119 : decode cX8_lies 119 = .ok (.invokevirtual 231, 3) := by decide +kernel
theorem dX8_lies_122 : decode cX8_lies 122 = .ok (.ifCond .eq 7, 3) := by decide +kernel
theorem dX8_lies_125 : decode cX8_lies 125 = .ok (.iconst 1, 1) := by decide +kernel
theorem dX8_lies_126 : decode cX8_lies 126 = .ok (.goto 4, 3) := by decide +kernel
theorem dX8_lies_129 : decode cX8_lies 129 = .ok (.iconst 0, 1) := by decide +kernel
theorem dX8_lies_130 : decode cX8_lies 130 = .ok (.ireturn, 1) := by decide +kernel
theorem dX8_lies_131 : decode cX8_lies 131 = .ok (.iload 4, 2) := by decide +kernel
theorem dX8_lies_133 : decode cX8_lies 133 = .ok (.iconst 1, 1) := by decide +kernel
theorem dX8_lies_134 : decode cX8_lies 134 = .ok (.if_icmp .ne 54, 3) := by decide +kernel
theorem dX8_lies_137 : decode cX8_lies 137 = .ok (.iconst 0, 1) := by decide +kernel
theorem dX8_lies_138 : decode cX8_lies 138 = .ok (.istore 7, 2) := by decide +kernel
theorem dX8_lies_140 : decode cX8_lies 140 = .ok (.iconst 0, 1) := by decide +kernel
theorem dX8_lies_141 : decode cX8_lies 141 = .ok (.istore 8, 2) := by decide +kernel
theorem dX8_lies_143 : decode cX8_lies 143 = .ok (.iload 8, 2) := by decide +kernel
theorem dX8_lies_145 : decode cX8_lies 145 = .ok (.aload_n 0, 1) := by decide +kernel
theorem dX8_lies_146 : decode cX8_lies 146 = .ok (.getfield 19, 3) := by decide +kernel
theorem dX8_lies_149 : decode cX8_lies 149 = .ok (.iconst 1, 1) := by decide +kernel
theorem dX8_lies_150 : decode cX8_lies 150 = .ok (.iaload, 1) := by decide +kernel
theorem dX8_lies_151 : decode cX8_lies 151 = .ok (.if_icmp .ge 34, 3) := by decide +kernel
theorem dX8_lies_154 : decode cX8_lies 154 = .ok (.iload 7, 2) := by decide +kernel
theorem dX8_lies_156 : decode cX8_lies 156 = .ok (.aload_n 0, 1) := by decide +kernel
theorem dX8_lies_157 : decode cX8_lies 157 = .ok (.iload 6, 2) := by decide +kernel
theorem dX8_lies_159 : decode cX8_lies 159 = .ok (.iload_n 3, 1) := by decide +kernel
theorem dX8_lies_160 : decode cX8_lies 160 = .ok (.iload 8, 2) := by decide +kernel
theorem dX8_lies_162 : decode cX8_lies 162 = .ok (.invokevirtual 231, 3) := by decide +kernel
theorem dX8_lies_165 : decode cX8_lies 165 = .ok (.ifCond .eq 10, 3) := by decide +kernel
theorem dX8_lies_168 : decode cX8_lies 168 = .ok (.iconst 1, 1) := by decide +kernel
theorem dX8_lies_169 : decode cX8_lies 169 = .ok (.iload 8, 2) := by decide +kernel
theorem dX8_lies_171 : decode cX8_lies 171 = .ok (.ishl, 1) := by decide +kernel
theorem dX8_lies_172 : decode cX8_lies 172 = .ok (.goto 4, 3) := by decide +kernel
theorem dX8_lies_175 : decode cX8_lies 175 = .ok (.iconst 0, 1) := by decide +kernel
theorem dX8_lies_176 : decode cX8_lies 176 = .ok (.ior, 1) := by decide +kernel
theorem dX8_lies_177 : decode cX8_lies 177 = .ok (.istore 7, 2) := by decide +kernel
theorem dX8_lies_179 : decode cX8_lies 179 = .ok (.iinc 8 1, 3) := by decide +kernel
theorem dX8_lies_182 : decode cX8_lies 182 = .ok (.goto (-39), 3) := by decide +kernel
theorem dX8_lies_185 : decode cX8_lies 185 = .ok (.iload 7, 2) := by decide +kernel
theorem dX8_lies_187 : decode cX8_lies 187 = .ok (.ireturn, 1) := by decide +kernel
theorem dX8_lies_188 : decode cX8_lies 188 = .ok (.aload_n 0, 1) := by decide +kernel
theorem dX8_lies_189 : decode cX8_lies 189 = .ok (.iload 6, 2) := by decide +kernel
theorem dX8_lies_191 : decode cX8_lies 191 = .ok (.iload_n 3, 1) := by decide +kernel
theorem dX8_lies_192 : decode cX8_lies 192 = .ok (.aload_n 0, 1) := by decide +kernel
theorem dX8_lies_193 : decode cX8_lies 193 = .ok (.getfield 19, 3) := by decide +kernel
theorem dX8_lies_196 : decode cX8_lies 196 = .ok (.iconst 1, 1) := by decide +kernel
theorem dX8_lies_197 : decode cX8_lies 197 = .ok (.iaload, 1) := by decide +kernel
theorem dX8_lies_198 : decode cX8_lies 198 = .ok (.iconst 1, 1) := by decide +kernel
theorem dX8_lies_199 : decode cX8_lies 199 = .ok (.isub, 1) := by decide +kernel
theorem dX8_lies_200 : decode cX8_lies 200 = .ok (.invokevirtual 231, 3) := by decide +kernel
theorem dX8_lies_203 : decode cX8_lies 203 = .ok (.ifCond .eq 21, 3) := by decide +kernel
theorem dX8_lies_206 : decode cX8_lies 206 = .ok (.aload_n 0, 1) := by decide +kernel
theorem dX8_lies_207 : decode cX8_lies 207 = .ok (.getfield 216, 3) := by decide +kernel
theorem dX8_lies_210 : decode cX8_lies 210 = .ok (.aload_n 0, 1) := by decide +kernel
theorem dX8_lies_211 : decode cX8_lies 211 = .ok (.getfield 219, 3) := by decide +kernel
theorem dX8_lies_214 : decode cX8_lies 214 = .ok (.iload 4, 2) := by decide +kernel
theorem dX8_lies_216 : decode cX8_lies 216 = .ok (.iconst 2, 1) := by decide +kernel
theorem dX8_lies_217 : decode cX8_lies 217 = .ok (.isub, 1) := by decide +kernel
theorem dX8_lies_218 : decode cX8_lies 218 = .ok (.invokestatic 192, 3) := by decide +kernel
theorem dX8_lies_221 : decode cX8_lies 221 = .ok (.goto 5, 3) := by decide +kernel
theorem dX8_lies_224 : decode cX8_lies 224 = .ok (.ldc 77, 2) := by decide +kernel
theorem dX8_lies_226 : decode cX8_lies 226 = .ok (.ireturn, 1) := by decide +kernel
set_option maxRecDepth 20000 in
theorem ggX8_firstLie_X8_isThere : GoodIn wsX8_firstLie wsX8_isThere := goodIn_r _ [13, 6, 57, 58, 59, 60, 61, 62, 63, 64, 65, 66, 67, 68, 69, 70, 71, 72, 73, 74, 75, 76, 77, 78, 79, 80, 81] (by decide +kernel) (by decide +kernel)
set_option maxRecDepth 20000 in
theorem gX8_firstLie_X8_isThere : GoodIn wsX8_firstLie (wsV RX8 212 RX8 yX8_isThere wsX8_isThere) := goodIn_app (goodIn_of _ (by decide +kernel)) ggX8_firstLie_X8_isThere
set_option maxRecDepth 20000 in
theorem ggX8_firstLie_X8_isRow : GoodIn wsX8_firstLie wsX8_isRow := goodIn_r _ [16, 17, 18, 19, 12, 20] (by decide +kernel) (by decide +kernel)
set_option maxRecDepth 20000 in
theorem gX8_firstLie_X8_isRow : GoodIn wsX8_firstLie (va_wsS RX8 55 yX8_isRow wsX8_isRow) := goodIn_app (goodIn_of _ (by decide +kernel)) ggX8_firstLie_X8_isRow
set_option maxRecDepth 20000 in
theorem ggX8_firstLie_X8_in : GoodIn wsX8_firstLie wsX8_in := goodIn_r _ [20] (by decide +kernel) (by decide +kernel)
set_option maxRecDepth 20000 in
theorem gX8_firstLie_X8_in : GoodIn wsX8_firstLie (va_wsS RX8 51 yX8_in wsX8_in) := goodIn_app (goodIn_of _ (by decide +kernel)) ggX8_firstLie_X8_in
set_option maxRecDepth 20000 in
theorem ggX8_firstLie_X8_lacks : GoodIn wsX8_firstLie wsX8_lacks := goodIn_r _ [24, 25, 26, 57, 58, 59, 60, 61, 62, 63, 64, 65, 66, 67, 68, 69, 70, 71, 72, 73, 74, 75, 76, 77, 78, 79, 80, 81] (by decide +kernel) (by decide +kernel)
set_option maxRecDepth 20000 in
theorem gX8_firstLie_X8_lacks : GoodIn wsX8_firstLie (wsV RX8 224 RX8 yX8_lacks wsX8_lacks) := goodIn_app (goodIn_of _ (by decide +kernel)) ggX8_firstLie_X8_lacks
set_option maxRecDepth 20000 in
theorem ggX8_firstLie_X8_finding : GoodIn wsX8_firstLie wsX8_finding := goodIn_r _ [30, 7, 31, 57, 58, 59, 60, 61, 62, 63, 64, 65, 66, 67, 68, 69, 70, 71, 72, 73, 74, 75, 76, 77, 78, 79, 80, 81] (by decide +kernel) (by decide +kernel)
set_option maxRecDepth 20000 in
theorem gX8_firstLie_X8_finding : GoodIn wsX8_firstLie (wsV RX8 62 RX8 yX8_finding wsX8_finding) := goodIn_app (goodIn_of _ (by decide +kernel)) ggX8_firstLie_X8_finding
set_option maxRecDepth 20000 in
theorem ggX8_firstLie_X8_areArcs : GoodIn wsX8_firstLie wsX8_areArcs := goodIn_r _ [35, 36, 18, 19, 12, 20, 57, 58, 59, 60, 61, 62, 63, 64, 65, 66, 67, 68, 69, 70, 71, 72, 73, 74, 75, 76, 77, 78, 79, 80, 81] (by decide +kernel) (by decide +kernel)
set_option maxRecDepth 20000 in
theorem gX8_firstLie_X8_areArcs : GoodIn wsX8_firstLie (wsV RX8 227 RX8 yX8_areArcs wsX8_areArcs) := goodIn_app (goodIn_of _ (by decide +kernel)) ggX8_firstLie_X8_areArcs
set_option maxRecDepth 20000 in
theorem ggX8_firstLie_X8_isTrue : GoodIn wsX8_firstLie wsX8_isTrue := goodIn_r _ [40, 8, 41, 42, 6, 36, 43, 44, 45, 12, 46, 47, 48, 49, 50, 51, 52, 53, 54, 55, 56, 57, 58, 59, 60, 61, 62, 63, 64, 65, 66, 67, 68, 69, 70, 71, 72, 73, 74, 75, 76, 77, 78, 79, 80, 81] (by decide +kernel) (by decide +kernel)
set_option maxRecDepth 20000 in
theorem gX8_firstLie_X8_isTrue : GoodIn wsX8_firstLie (wsV RX8 231 RX8 yX8_isTrue wsX8_isTrue) := goodIn_app (goodIn_of _ (by decide +kernel)) ggX8_firstLie_X8_isTrue
theorem dX8_firstLie_0 : decode cX8_firstLie 0 = .ok (.aload_n 0, 1) := by decide +kernel
theorem dX8_firstLie_1 : decode cX8_firstLie 1 = .ok (.iconst 0, 1) := by decide +kernel
theorem dX8_firstLie_2 : decode cX8_firstLie 2 = .ok (.putfield 41, 3) := by decide +kernel
theorem dX8_firstLie_5 : decode cX8_firstLie 5 = .ok (.aload_n 0, 1) := by decide +kernel
theorem dX8_firstLie_6 : decode cX8_firstLie 6 = .ok (.invokevirtual 212, 3) := by decide +kernel
theorem dX8_firstLie_9 : decode cX8_firstLie 9 = .ok (.ifCond .ne 6, 3) := by decide +kernel
theorem dX8_firstLie_12 : decode cX8_firstLie 12 = .ok (.ldc 180, 2) := by decide +kernel
theorem dX8_firstLie_14 : decode cX8_firstLie 14 = .ok (.ireturn, 1) := by decide +kernel
theorem dX8_firstLie_15 : decode cX8_firstLie 15 = .ok (.iload_n 1, 1) := by decide +kernel
theorem dX8_firstLie_16 : decode cX8_firstLie 16 = .ok (.invokestatic 55, 3) := by decide +kernel
theorem dX8_firstLie_19 : decode cX8_firstLie 19 = .ok (.ifCond .eq 27, 3) := by decide +kernel
theorem dX8_firstLie_22 : decode cX8_firstLie 22 = .ok (.iload_n 2, 1) := by decide +kernel
theorem dX8_firstLie_23 : decode cX8_firstLie 23 = .ok (.i2l, 1) := by decide +kernel
theorem dX8_firstLie_24 : decode cX8_firstLie 24 = .ok (.lconst 1, 1) := by decide +kernel
theorem dX8_firstLie_25 : decode cX8_firstLie 25 = .ok (.ldc2_w 234, 3) := by decide +kernel
theorem dX8_firstLie_28 : decode cX8_firstLie 28 = .ok (.invokestatic 51, 3) := by decide +kernel
theorem dX8_firstLie_31 : decode cX8_firstLie 31 = .ok (.ifCond .eq 15, 3) := by decide +kernel
theorem dX8_firstLie_34 : decode cX8_firstLie 34 = .ok (.iload_n 3, 1) := by decide +kernel
theorem dX8_firstLie_35 : decode cX8_firstLie 35 = .ok (.i2l, 1) := by decide +kernel
theorem dX8_firstLie_36 : decode cX8_firstLie 36 = .ok (.lconst 1, 1) := by decide +kernel
theorem dX8_firstLie_37 : decode cX8_firstLie 37 = .ok (.ldc2_w 222, 3) := by decide +kernel
theorem dX8_firstLie_40 : decode cX8_firstLie 40 = .ok (.invokestatic 51, 3) := by decide +kernel
theorem dX8_firstLie_43 : decode cX8_firstLie 43 = .ok (.ifCond .ne 6, 3) := by decide +kernel
theorem dX8_firstLie_46 : decode cX8_firstLie 46 = .ok (.ldc 61, 2) := by decide +kernel
theorem dX8_firstLie_48 : decode cX8_firstLie 48 = .ok (.ireturn, 1) := by decide +kernel
theorem dX8_firstLie_49 : decode cX8_firstLie 49 = .ok (.aload_n 0, 1) := by decide +kernel
theorem dX8_firstLie_50 : decode cX8_firstLie 50 = .ok (.iload_n 1, 1) := by decide +kernel
theorem dX8_firstLie_51 : decode cX8_firstLie 51 = .ok (.iconst 0, 1) := by decide +kernel
theorem dX8_firstLie_52 : decode cX8_firstLie 52 = .ok (.iload_n 2, 1) := by decide +kernel
theorem dX8_firstLie_53 : decode cX8_firstLie 53 = .ok (.aload_n 0, 1) := by decide +kernel
theorem dX8_firstLie_54 : decode cX8_firstLie 54 = .ok (.getfield 19, 3) := by decide +kernel
theorem dX8_firstLie_57 : decode cX8_firstLie 57 = .ok (.iconst 1, 1) := by decide +kernel
theorem dX8_firstLie_58 : decode cX8_firstLie 58 = .ok (.iaload, 1) := by decide +kernel
theorem dX8_firstLie_59 : decode cX8_firstLie 59 = .ok (.imul, 1) := by decide +kernel
theorem dX8_firstLie_60 : decode cX8_firstLie 60 = .ok (.invokevirtual 224, 3) := by decide +kernel
theorem dX8_firstLie_63 : decode cX8_firstLie 63 = .ok (.istore 4, 2) := by decide +kernel
theorem dX8_firstLie_65 : decode cX8_firstLie 65 = .ok (.iload 4, 2) := by decide +kernel
theorem dX8_firstLie_67 : decode cX8_firstLie 67 = .ok (.ifCond .le 10, 3) := by decide +kernel
theorem dX8_firstLie_70 : decode cX8_firstLie 70 = .ok (.aload_n 0, 1) := by decide +kernel
theorem dX8_firstLie_71 : decode cX8_firstLie 71 = .ok (.iload 4, 2) := by decide +kernel
theorem dX8_firstLie_73 : decode cX8_firstLie 73 = .ok (.invokevirtual 62, 3) := by decide +kernel
theorem dX8_firstLie_76 : decode cX8_firstLie 76 = .ok (.ireturn, 1) := by decide +kernel
theorem dX8_firstLie_77 : decode cX8_firstLie 77 = .ok (.aload_n 0, 1) := by decide +kernel
theorem dX8_firstLie_78 : decode cX8_firstLie 78 = .ok (.bipush 40, 2) := by decide +kernel
theorem dX8_firstLie_80 : decode cX8_firstLie 80 = .ok (.iload_n 1, 1) := by decide +kernel
theorem dX8_firstLie_81 : decode cX8_firstLie 81 = .ok (.imul, 1) := by decide +kernel
theorem dX8_firstLie_82 : decode cX8_firstLie 82 = .ok (.iload_n 2, 1) := by decide +kernel
theorem dX8_firstLie_83 : decode cX8_firstLie 83 = .ok (.aload_n 0, 1) := by decide +kernel
theorem dX8_firstLie_84 : decode cX8_firstLie 84 = .ok (.getfield 19, 3) := by decide +kernel
theorem dX8_firstLie_87 : decode cX8_firstLie 87 = .ok (.iconst 1, 1) := by decide +kernel
theorem dX8_firstLie_88 : decode cX8_firstLie 88 = .ok (.iaload, 1) := by decide +kernel
theorem dX8_firstLie_89 : decode cX8_firstLie 89 = .ok (.imul, 1) := by decide +kernel
theorem dX8_firstLie_90 : decode cX8_firstLie 90 = .ok (.iload_n 3, 1) := by decide +kernel
theorem dX8_firstLie_91 : decode cX8_firstLie 91 = .ok (.invokevirtual 227, 3) := by decide +kernel
theorem dX8_firstLie_94 : decode cX8_firstLie 94 = .ok (.ifCond .ne 6, 3) := by decide +kernel
theorem dX8_firstLie_97 : decode cX8_firstLie 97 = .ok (.ldc 61, 2) := by decide +kernel
theorem dX8_firstLie_99 : decode cX8_firstLie 99 = .ok (.ireturn, 1) := by decide +kernel
theorem dX8_firstLie_100 : decode cX8_firstLie 100 = .ok (.aload_n 0, 1) := by decide +kernel
theorem dX8_firstLie_101 : decode cX8_firstLie 101 = .ok (.iconst 0, 1) := by decide +kernel
theorem dX8_firstLie_102 : decode cX8_firstLie 102 = .ok (.putfield 45, 3) := by decide +kernel
theorem dX8_firstLie_105 : decode cX8_firstLie 105 = .ok (.iconst 0, 1) := by decide +kernel
theorem dX8_firstLie_106 : decode cX8_firstLie 106 = .ok (.istore 5, 2) := by decide +kernel
theorem dX8_firstLie_108 : decode cX8_firstLie 108 = .ok (.iload 5, 2) := by decide +kernel
theorem dX8_firstLie_110 : decode cX8_firstLie 110 = .ok (.iload_n 2, 1) := by decide +kernel
theorem dX8_firstLie_111 : decode cX8_firstLie 111 = .ok (.if_icmp .ge 36, 3) := by decide +kernel
theorem dX8_firstLie_114 : decode cX8_firstLie 114 = .ok (.aload_n 0, 1) := by decide +kernel
theorem dX8_firstLie_115 : decode cX8_firstLie 115 = .ok (.bipush 40, 2) := by decide +kernel
theorem dX8_firstLie_117 : decode cX8_firstLie 117 = .ok (.iload_n 1, 1) := by decide +kernel
theorem dX8_firstLie_118 : decode cX8_firstLie 118 = .ok (.imul, 1) := by decide +kernel
theorem dX8_firstLie_119 : decode cX8_firstLie 119 = .ok (.iload 5, 2) := by decide +kernel
theorem dX8_firstLie_121 : decode cX8_firstLie 121 = .ok (.aload_n 0, 1) := by decide +kernel
theorem dX8_firstLie_122 : decode cX8_firstLie 122 = .ok (.getfield 19, 3) := by decide +kernel
theorem dX8_firstLie_125 : decode cX8_firstLie 125 = .ok (.iconst 1, 1) := by decide +kernel
theorem dX8_firstLie_126 : decode cX8_firstLie 126 = .ok (.iaload, 1) := by decide +kernel
theorem dX8_firstLie_127 : decode cX8_firstLie 127 = .ok (.imul, 1) := by decide +kernel
theorem dX8_firstLie_128 : decode cX8_firstLie 128 = .ok (.iadd, 1) := by decide +kernel
theorem dX8_firstLie_129 : decode cX8_firstLie 129 = .ok (.iload_n 3, 1) := by decide +kernel
theorem dX8_firstLie_130 : decode cX8_firstLie 130 = .ok (.ldc 77, 2) := by decide +kernel
theorem dX8_firstLie_132 : decode cX8_firstLie 132 = .ok (.invokevirtual 231, 3) := by decide +kernel
theorem dX8_firstLie_135 : decode cX8_firstLie 135 = .ok (.ifCond .ne 6, 3) := by decide +kernel
theorem dX8_firstLie_138 : decode cX8_firstLie 138 = .ok (.iload 5, 2) := by decide +kernel
theorem dX8_firstLie_140 : decode cX8_firstLie 140 = .ok (.ireturn, 1) := by decide +kernel
theorem dX8_firstLie_141 : decode cX8_firstLie 141 = .ok (.iinc 5 1, 3) := by decide +kernel
theorem dX8_firstLie_144 : decode cX8_firstLie 144 = .ok (.goto (-36), 3) := by decide +kernel
theorem dX8_firstLie_147 : decode cX8_firstLie 147 = .ok (.ldc 77, 2) := by decide +kernel
theorem dX8_firstLie_149 : decode cX8_firstLie 149 = .ok (.ireturn, 1) := by decide +kernel
set_option maxRecDepth 20000 in
theorem ggX8_glass_X8_isThere : GoodIn wsX8_glass wsX8_isThere := goodIn_r _ [10, 5, 39, 40, 41, 42, 43, 44, 45, 46, 47, 48, 49, 50, 51, 52, 53, 54, 55, 56, 57, 58, 59, 60, 61, 62, 63] (by decide +kernel) (by decide +kernel)
set_option maxRecDepth 20000 in
theorem gX8_glass_X8_isThere : GoodIn wsX8_glass (wsV RX8 212 RX8 yX8_isThere wsX8_isThere) := goodIn_app (goodIn_of _ (by decide +kernel)) ggX8_glass_X8_isThere
set_option maxRecDepth 20000 in
theorem ggX8_glass_X8_isMoment : GoodIn wsX8_glass wsX8_isMoment := goodIn_r _ [13, 14, 15, 16, 9, 17] (by decide +kernel) (by decide +kernel)
set_option maxRecDepth 20000 in
theorem gX8_glass_X8_isMoment : GoodIn wsX8_glass (va_wsS RX8 184 yX8_isMoment wsX8_isMoment) := goodIn_app (goodIn_of _ (by decide +kernel)) ggX8_glass_X8_isMoment
set_option maxRecDepth 20000 in
theorem ggX8_glass_X8_in : GoodIn wsX8_glass wsX8_in := goodIn_r _ [17] (by decide +kernel) (by decide +kernel)
set_option maxRecDepth 20000 in
theorem gX8_glass_X8_in : GoodIn wsX8_glass (va_wsS RX8 51 yX8_in wsX8_in) := goodIn_app (goodIn_of _ (by decide +kernel)) ggX8_glass_X8_in
set_option maxRecDepth 20000 in
theorem ggX8_glass_X8_told : GoodIn wsX8_glass wsX8_told := goodIn_r _ [20, 21, 22, 9, 23] (by decide +kernel) (by decide +kernel)
set_option maxRecDepth 20000 in
theorem gX8_glass_X8_told : GoodIn wsX8_glass (va_wsS RX8 192 yX8_told wsX8_told) := goodIn_app (goodIn_of _ (by decide +kernel)) ggX8_glass_X8_told
set_option maxRecDepth 20000 in
theorem ggX8_glass_X8_arc : GoodIn wsX8_glass wsX8_arc := goodIn_r _ [27, 5, 28, 29, 30, 9, 31, 32, 33, 34, 35, 36, 37, 38, 39, 40, 41, 42, 43, 44, 45, 46, 47, 48, 49, 50, 51, 52, 53, 54, 55, 56, 57, 58, 59, 60, 61, 62, 63] (by decide +kernel) (by decide +kernel)
set_option maxRecDepth 20000 in
theorem gX8_glass_X8_arc : GoodIn wsX8_glass (wsV RX8 188 RX8 yX8_arc wsX8_arc) := goodIn_app (goodIn_of _ (by decide +kernel)) ggX8_glass_X8_arc
theorem dX8_glass_0 : decode cX8_glass 0 = .ok (.aload_n 0, 1) := by decide +kernel
theorem dX8_glass_1 : decode cX8_glass 1 = .ok (.iconst 0, 1) := by decide +kernel
theorem dX8_glass_2 : decode cX8_glass 2 = .ok (.putfield 41, 3) := by decide +kernel
theorem dX8_glass_5 : decode cX8_glass 5 = .ok (.aload_n 0, 1) := by decide +kernel
theorem dX8_glass_6 : decode cX8_glass 6 = .ok (.invokevirtual 212, 3) := by decide +kernel
theorem dX8_glass_9 : decode cX8_glass 9 = .ok (.ifCond .ne 6, 3) := by decide +kernel
theorem dX8_glass_12 : decode cX8_glass 12 = .ok (.ldc 180, 2) := by decide +kernel
theorem dX8_glass_14 : decode cX8_glass 14 = .ok (.ireturn, 1) := by decide +kernel
theorem dX8_glass_15 : decode cX8_glass 15 = .ok (.iload_n 1, 1) := by decide +kernel
theorem dX8_glass_16 : decode cX8_glass 16 = .ok (.iload_n 2, 1) := by decide +kernel
theorem dX8_glass_17 : decode cX8_glass 17 = .ok (.invokestatic 184, 3) := by decide +kernel
theorem dX8_glass_20 : decode cX8_glass 20 = .ok (.ifCond .eq 15, 3) := by decide +kernel
theorem dX8_glass_23 : decode cX8_glass 23 = .ok (.iload_n 3, 1) := by decide +kernel
theorem dX8_glass_24 : decode cX8_glass 24 = .ok (.i2l, 1) := by decide +kernel
theorem dX8_glass_25 : decode cX8_glass 25 = .ok (.lconst 0, 1) := by decide +kernel
theorem dX8_glass_26 : decode cX8_glass 26 = .ok (.ldc2_w 59, 3) := by decide +kernel
theorem dX8_glass_29 : decode cX8_glass 29 = .ok (.invokestatic 51, 3) := by decide +kernel
theorem dX8_glass_32 : decode cX8_glass 32 = .ok (.ifCond .ne 6, 3) := by decide +kernel
theorem dX8_glass_35 : decode cX8_glass 35 = .ok (.ldc 61, 2) := by decide +kernel
theorem dX8_glass_37 : decode cX8_glass 37 = .ok (.ireturn, 1) := by decide +kernel
theorem dX8_glass_38 : decode cX8_glass 38 = .ok (.iload_n 3, 1) := by decide +kernel
theorem dX8_glass_39 : decode cX8_glass 39 = .ok (.iconst 2, 1) := by decide +kernel
theorem dX8_glass_40 : decode cX8_glass 40 = .ok (.if_icmp .ge 20, 3) := by decide +kernel
theorem dX8_glass_43 : decode cX8_glass 43 = .ok (.iload_n 1, 1) := by decide +kernel
theorem dX8_glass_44 : decode cX8_glass 44 = .ok (.ifCond .ne 7, 3) := by decide +kernel
theorem dX8_glass_47 : decode cX8_glass 47 = .ok (.iconst 0, 1) := by decide +kernel
theorem dX8_glass_48 : decode cX8_glass 48 = .ok (.goto 6, 3) := by decide +kernel
theorem dX8_glass_51 : decode cX8_glass 51 = .ok (.iload_n 2, 1) := by decide +kernel
theorem dX8_glass_52 : decode cX8_glass 52 = .ok (.iload_n 1, 1) := by decide +kernel
theorem dX8_glass_53 : decode cX8_glass 53 = .ok (.isub, 1) := by decide +kernel
theorem dX8_glass_54 : decode cX8_glass 54 = .ok (.iload_n 2, 1) := by decide +kernel
theorem dX8_glass_55 : decode cX8_glass 55 = .ok (.iload_n 3, 1) := by decide +kernel
theorem dX8_glass_56 : decode cX8_glass 56 = .ok (.invokestatic 192, 3) := by decide +kernel
theorem dX8_glass_59 : decode cX8_glass 59 = .ok (.ireturn, 1) := by decide +kernel
theorem dX8_glass_60 : decode cX8_glass 60 = .ok (.iconst 0, 1) := by decide +kernel
theorem dX8_glass_61 : decode cX8_glass 61 = .ok (.istore 4, 2) := by decide +kernel
theorem dX8_glass_63 : decode cX8_glass 63 = .ok (.iconst 0, 1) := by decide +kernel
theorem dX8_glass_64 : decode cX8_glass 64 = .ok (.istore 5, 2) := by decide +kernel
theorem dX8_glass_66 : decode cX8_glass 66 = .ok (.iload 5, 2) := by decide +kernel
theorem dX8_glass_68 : decode cX8_glass 68 = .ok (.aload_n 0, 1) := by decide +kernel
theorem dX8_glass_69 : decode cX8_glass 69 = .ok (.getfield 19, 3) := by decide +kernel
theorem dX8_glass_72 : decode cX8_glass 72 = .ok (.iconst 1, 1) := by decide +kernel
theorem dX8_glass_73 : decode cX8_glass 73 = .ok (.iaload, 1) := by decide +kernel
theorem dX8_glass_74 : decode cX8_glass 74 = .ok (.if_icmp .ge 44, 3) := by decide +kernel
theorem dX8_glass_77 : decode cX8_glass 77 = .ok (.iload 4, 2) := by decide +kernel
theorem dX8_glass_79 : decode cX8_glass 79 = .ok (.iconst 2, 1) := by decide +kernel
theorem dX8_glass_80 : decode cX8_glass 80 = .ok (.aload_n 0, 1) := by decide +kernel
theorem dX8_glass_81 : decode cX8_glass 81 = .ok (.iload 5, 2) := by decide +kernel
theorem dX8_glass_83 : decode cX8_glass 83 = .ok (.iload_n 1, 1) := by decide +kernel
theorem dX8_glass_84 : decode cX8_glass 84 = .ok (.iload_n 2, 1) := by decide +kernel
theorem dX8_glass_85 : decode cX8_glass 85 = .ok (.invokevirtual 188, 3) := by decide +kernel
theorem dX8_glass_88 : decode cX8_glass 88 = .ok (.imul, 1) := by decide +kernel
theorem dX8_glass_89 : decode cX8_glass 89 = .ok (.iload_n 2, 1) := by decide +kernel
theorem dX8_glass_90 : decode cX8_glass 90 = .ok (.aload_n 0, 1) := by decide +kernel
theorem dX8_glass_91 : decode cX8_glass 91 = .ok (.getfield 19, 3) := by decide +kernel
theorem dX8_glass_94 : decode cX8_glass 94 = .ok (.iconst 0, 1) := by decide +kernel
theorem dX8_glass_95 : decode cX8_glass 95 = .ok (.iaload, 1) := by decide +kernel
theorem dX8_glass_96 : decode cX8_glass 96 = .ok (.imul, 1) := by decide +kernel
theorem dX8_glass_97 : decode cX8_glass 97 = .ok (.irem, 1) := by decide +kernel
theorem dX8_glass_98 : decode cX8_glass 98 = .ok (.ifCond .ne 10, 3) := by decide +kernel
theorem dX8_glass_101 : decode cX8_glass 101 = .ok (.iconst 1, 1) := by decide +kernel
theorem dX8_glass_102 : decode cX8_glass 102 = .ok (.iload 5, 2) := by decide +kernel
theorem dX8_glass_104 : decode cX8_glass 104 = .ok (.ishl, 1) := by decide +kernel
theorem dX8_glass_105 : decode cX8_glass 105 = .ok (.goto 4, 3) := by decide +kernel
theorem dX8_glass_108 : decode cX8_glass 108 = .ok (.iconst 0, 1) := by decide +kernel
theorem dX8_glass_109 : decode cX8_glass 109 = .ok (.ior, 1) := by decide +kernel
theorem dX8_glass_110 : decode cX8_glass 110 = .ok (.istore 4, 2) := by decide +kernel
theorem dX8_glass_112 : decode cX8_glass 112 = .ok (.iinc 5 1, 3) := by decide +kernel
theorem dX8_glass_115 : decode cX8_glass 115 = .ok (.goto (-49), 3) := by decide +kernel
theorem dX8_glass_118 : decode cX8_glass 118 = .ok (.iload 4, 2) := by decide +kernel
theorem dX8_glass_120 : decode cX8_glass 120 = .ok (.ireturn, 1) := by decide +kernel
set_option maxRecDepth 20000 in
theorem ggX8_image_X8_in : GoodIn wsX8_image wsX8_in := goodIn_r _ [10] (by decide +kernel) (by decide +kernel)
set_option maxRecDepth 20000 in
theorem gX8_image_X8_in : GoodIn wsX8_image (va_wsS RX8 51 yX8_in wsX8_in) := goodIn_app (goodIn_of _ (by decide +kernel)) ggX8_image_X8_in
set_option maxRecDepth 20000 in
theorem ggX8_image_X8_isThere : GoodIn wsX8_image wsX8_isThere := goodIn_r _ [14, 5, 15, 16, 17, 18, 19, 20, 21, 22, 23, 24, 25, 26, 27, 28, 29, 30, 31, 32, 33, 34, 35, 36, 37, 38, 39] (by decide +kernel) (by decide +kernel)
set_option maxRecDepth 20000 in
theorem gX8_image_X8_isThere : GoodIn wsX8_image (wsV RX8 212 RX8 yX8_isThere wsX8_isThere) := goodIn_app (goodIn_of _ (by decide +kernel)) ggX8_image_X8_isThere
theorem dX8_image_0 : decode cX8_image 0 = .ok (.aload_n 0, 1) := by decide +kernel
theorem dX8_image_1 : decode cX8_image 1 = .ok (.iconst 0, 1) := by decide +kernel
theorem dX8_image_2 : decode cX8_image 2 = .ok (.putfield 41, 3) := by decide +kernel
theorem dX8_image_5 : decode cX8_image 5 = .ok (.iload_n 1, 1) := by decide +kernel
theorem dX8_image_6 : decode cX8_image 6 = .ok (.i2l, 1) := by decide +kernel
theorem dX8_image_7 : decode cX8_image 7 = .ok (.lconst 0, 1) := by decide +kernel
theorem dX8_image_8 : decode cX8_image 8 = .ok (.lconst 1, 1) := by decide +kernel
theorem dX8_image_9 : decode cX8_image 9 = .ok (.invokestatic 51, 3) := by decide +kernel
theorem dX8_image_12 : decode cX8_image 12 = .ok (.ifCond .ne 6, 3) := by decide +kernel
theorem dX8_image_15 : decode cX8_image 15 = .ok (.ldc 61, 2) := by decide +kernel
theorem dX8_image_17 : decode cX8_image 17 = .ok (.ireturn, 1) := by decide +kernel
theorem dX8_image_18 : decode cX8_image 18 = .ok (.aload_n 0, 1) := by decide +kernel
theorem dX8_image_19 : decode cX8_image 19 = .ok (.invokevirtual 212, 3) := by decide +kernel
theorem dX8_image_22 : decode cX8_image 22 = .ok (.ifCond .ne 6, 3) := by decide +kernel
theorem dX8_image_25 : decode cX8_image 25 = .ok (.ldc 180, 2) := by decide +kernel
theorem dX8_image_27 : decode cX8_image 27 = .ok (.ireturn, 1) := by decide +kernel
theorem dX8_image_28 : decode cX8_image 28 = .ok (.iconst 0, 1) := by decide +kernel
theorem dX8_image_29 : decode cX8_image 29 = .ok (.istore_n 2, 1) := by decide +kernel
theorem dX8_image_30 : decode cX8_image 30 = .ok (.iload_n 2, 1) := by decide +kernel
theorem dX8_image_31 : decode cX8_image 31 = .ok (.bipush 14, 2) := by decide +kernel
theorem dX8_image_33 : decode cX8_image 33 = .ok (.if_icmp .ge 26, 3) := by decide +kernel
theorem dX8_image_36 : decode cX8_image 36 = .ok (.aload_n 0, 1) := by decide +kernel
theorem dX8_image_37 : decode cX8_image 37 = .ok (.getfield 35, 3) := by decide +kernel
theorem dX8_image_40 : decode cX8_image 40 = .ok (.bipush 14, 2) := by decide +kernel
theorem dX8_image_42 : decode cX8_image 42 = .ok (.iload_n 1, 1) := by decide +kernel
theorem dX8_image_43 : decode cX8_image 43 = .ok (.imul, 1) := by decide +kernel
theorem dX8_image_44 : decode cX8_image 44 = .ok (.iload_n 2, 1) := by decide +kernel
theorem dX8_image_45 : decode cX8_image 45 = .ok (.iadd, 1) := by decide +kernel
theorem dX8_image_46 : decode cX8_image 46 = .ok (.aload_n 0, 1) := by decide +kernel
theorem dX8_image_47 : decode cX8_image 47 = .ok (.getfield 19, 3) := by decide +kernel
theorem dX8_image_50 : decode cX8_image 50 = .ok (.iload_n 2, 1) := by decide +kernel
theorem dX8_image_51 : decode cX8_image 51 = .ok (.iaload, 1) := by decide +kernel
theorem dX8_image_52 : decode cX8_image 52 = .ok (.iastore, 1) := by decide +kernel
theorem dX8_image_53 : decode cX8_image 53 = .ok (.iinc 2 1, 3) := by decide +kernel
theorem dX8_image_56 : decode cX8_image 56 = .ok (.goto (-26), 3) := by decide +kernel
theorem dX8_image_59 : decode cX8_image 59 = .ok (.aload_n 0, 1) := by decide +kernel
theorem dX8_image_60 : decode cX8_image 60 = .ok (.getfield 31, 3) := by decide +kernel
theorem dX8_image_63 : decode cX8_image 63 = .ok (.iload_n 1, 1) := by decide +kernel
theorem dX8_image_64 : decode cX8_image 64 = .ok (.iconst 1, 1) := by decide +kernel
theorem dX8_image_65 : decode cX8_image 65 = .ok (.bastore, 1) := by decide +kernel
theorem dX8_image_66 : decode cX8_image 66 = .ok (.iconst 1, 1) := by decide +kernel
theorem dX8_image_67 : decode cX8_image 67 = .ok (.ireturn, 1) := by decide +kernel
set_option maxRecDepth 20000 in
theorem ggX8_restore_X8_in : GoodIn wsX8_restore wsX8_in := goodIn_r _ [11] (by decide +kernel) (by decide +kernel)
set_option maxRecDepth 20000 in
theorem gX8_restore_X8_in : GoodIn wsX8_restore (va_wsS RX8 51 yX8_in wsX8_in) := goodIn_app (goodIn_of _ (by decide +kernel)) ggX8_restore_X8_in
theorem dX8_restore_0 : decode cX8_restore 0 = .ok (.aload_n 0, 1) := by decide +kernel
theorem dX8_restore_1 : decode cX8_restore 1 = .ok (.iconst 0, 1) := by decide +kernel
theorem dX8_restore_2 : decode cX8_restore 2 = .ok (.putfield 41, 3) := by decide +kernel
theorem dX8_restore_5 : decode cX8_restore 5 = .ok (.iload_n 1, 1) := by decide +kernel
theorem dX8_restore_6 : decode cX8_restore 6 = .ok (.i2l, 1) := by decide +kernel
theorem dX8_restore_7 : decode cX8_restore 7 = .ok (.lconst 0, 1) := by decide +kernel
theorem dX8_restore_8 : decode cX8_restore 8 = .ok (.lconst 1, 1) := by decide +kernel
theorem dX8_restore_9 : decode cX8_restore 9 = .ok (.invokestatic 51, 3) := by decide +kernel
theorem dX8_restore_12 : decode cX8_restore 12 = .ok (.ifCond .ne 6, 3) := by decide +kernel
theorem dX8_restore_15 : decode cX8_restore 15 = .ok (.ldc 61, 2) := by decide +kernel
theorem dX8_restore_17 : decode cX8_restore 17 = .ok (.ireturn, 1) := by decide +kernel
theorem dX8_restore_18 : decode cX8_restore 18 = .ok (.aload_n 0, 1) := by decide +kernel
theorem dX8_restore_19 : decode cX8_restore 19 = .ok (.getfield 31, 3) := by decide +kernel
theorem dX8_restore_22 : decode cX8_restore 22 = .ok (.iload_n 1, 1) := by decide +kernel
theorem dX8_restore_23 : decode cX8_restore 23 = .ok (.baload, 1) := by decide +kernel
theorem dX8_restore_24 : decode cX8_restore 24 = .ok (.ifCond .ne 6, 3) := by decide +kernel
theorem dX8_restore_27 : decode cX8_restore 27 = .ok (.ldc 180, 2) := by decide +kernel
theorem dX8_restore_29 : decode cX8_restore 29 = .ok (.ireturn, 1) := by decide +kernel
theorem dX8_restore_30 : decode cX8_restore 30 = .ok (.iconst 0, 1) := by decide +kernel
theorem dX8_restore_31 : decode cX8_restore 31 = .ok (.istore_n 2, 1) := by decide +kernel
theorem dX8_restore_32 : decode cX8_restore 32 = .ok (.iload_n 2, 1) := by decide +kernel
theorem dX8_restore_33 : decode cX8_restore 33 = .ok (.bipush 14, 2) := by decide +kernel
theorem dX8_restore_35 : decode cX8_restore 35 = .ok (.if_icmp .ge 26, 3) := by decide +kernel
theorem dX8_restore_38 : decode cX8_restore 38 = .ok (.aload_n 0, 1) := by decide +kernel
theorem dX8_restore_39 : decode cX8_restore 39 = .ok (.getfield 19, 3) := by decide +kernel
theorem dX8_restore_42 : decode cX8_restore 42 = .ok (.iload_n 2, 1) := by decide +kernel
theorem dX8_restore_43 : decode cX8_restore 43 = .ok (.aload_n 0, 1) := by decide +kernel
theorem dX8_restore_44 : decode cX8_restore 44 = .ok (.getfield 35, 3) := by decide +kernel
theorem dX8_restore_47 : decode cX8_restore 47 = .ok (.bipush 14, 2) := by decide +kernel
theorem dX8_restore_49 : decode cX8_restore 49 = .ok (.iload_n 1, 1) := by decide +kernel
theorem dX8_restore_50 : decode cX8_restore 50 = .ok (.imul, 1) := by decide +kernel
theorem dX8_restore_51 : decode cX8_restore 51 = .ok (.iload_n 2, 1) := by decide +kernel
theorem dX8_restore_52 : decode cX8_restore 52 = .ok (.iadd, 1) := by decide +kernel
theorem dX8_restore_53 : decode cX8_restore 53 = .ok (.iaload, 1) := by decide +kernel
theorem dX8_restore_54 : decode cX8_restore 54 = .ok (.iastore, 1) := by decide +kernel
theorem dX8_restore_55 : decode cX8_restore 55 = .ok (.iinc 2 1, 3) := by decide +kernel
theorem dX8_restore_58 : decode cX8_restore 58 = .ok (.goto (-26), 3) := by decide +kernel
theorem dX8_restore_61 : decode cX8_restore 61 = .ok (.aload_n 0, 1) := by decide +kernel
theorem dX8_restore_62 : decode cX8_restore 62 = .ok (.iconst 0, 1) := by decide +kernel
theorem dX8_restore_63 : decode cX8_restore 63 = .ok (.putfield 159, 3) := by decide +kernel
theorem dX8_restore_66 : decode cX8_restore 66 = .ok (.iconst 1, 1) := by decide +kernel
theorem dX8_restore_67 : decode cX8_restore 67 = .ok (.ireturn, 1) := by decide +kernel
theorem dX8_isOf_0 : decode cX8_isOf 0 = .ok (.iload_n 1, 1) := by decide +kernel
theorem dX8_isOf_1 : decode cX8_isOf 1 = .ok (.ifCond .eq 28, 3) := by decide +kernel
theorem dX8_isOf_4 : decode cX8_isOf 4 = .ok (.iload_n 0, 1) := by decide +kernel
theorem dX8_isOf_5 : decode cX8_isOf 5 = .ok (.iload_n 1, 1) := by decide +kernel
theorem dX8_isOf_6 : decode cX8_isOf 6 = .ok (.if_icmp .eq 23, 3) := by decide +kernel
theorem dX8_isOf_9 : decode cX8_isOf 9 = .ok (.iload_n 1, 1) := by decide +kernel
theorem dX8_isOf_10 : decode cX8_isOf 10 = .ok (.iconst 1, 1) := by decide +kernel
theorem dX8_isOf_11 : decode cX8_isOf 11 = .ok (.if_icmp .ne 8, 3) := by decide +kernel
theorem dX8_isOf_14 : decode cX8_isOf 14 = .ok (.iload_n 0, 1) := by decide +kernel
theorem dX8_isOf_15 : decode cX8_isOf 15 = .ok (.iconst 4, 1) := by decide +kernel
theorem dX8_isOf_16 : decode cX8_isOf 16 = .ok (.if_icmp .lt 13, 3) := by decide +kernel
theorem dX8_isOf_19 : decode cX8_isOf 19 = .ok (.iload_n 1, 1) := by decide +kernel
theorem dX8_isOf_20 : decode cX8_isOf 20 = .ok (.iconst 4, 1) := by decide +kernel
theorem dX8_isOf_21 : decode cX8_isOf 21 = .ok (.if_icmp .ne 12, 3) := by decide +kernel
theorem dX8_isOf_24 : decode cX8_isOf 24 = .ok (.iload_n 0, 1) := by decide +kernel
theorem dX8_isOf_25 : decode cX8_isOf 25 = .ok (.iconst 5, 1) := by decide +kernel
theorem dX8_isOf_26 : decode cX8_isOf 26 = .ok (.if_icmp .ne 7, 3) := by decide +kernel
theorem dX8_isOf_29 : decode cX8_isOf 29 = .ok (.iconst 1, 1) := by decide +kernel
theorem dX8_isOf_30 : decode cX8_isOf 30 = .ok (.goto 4, 3) := by decide +kernel
theorem dX8_isOf_33 : decode cX8_isOf 33 = .ok (.iconst 0, 1) := by decide +kernel
theorem dX8_isOf_34 : decode cX8_isOf 34 = .ok (.ireturn, 1) := by decide +kernel
set_option maxRecDepth 20000 in
theorem ggX8_kind_X8_isHand : GoodIn wsX8_kind wsX8_isHand := goodIn_r _ [7, 8, 9, 10, 6, 11, 16, 17, 18, 19, 20, 21, 22, 23, 24, 25, 26, 27, 28, 29, 30, 31, 32, 33, 34, 35, 36, 37, 38, 39, 40] (by decide +kernel) (by decide +kernel)
set_option maxRecDepth 20000 in
theorem gX8_kind_X8_isHand : GoodIn wsX8_kind (wsV RX8 162 RX8 yX8_isHand wsX8_isHand) := goodIn_app (goodIn_of _ (by decide +kernel)) ggX8_kind_X8_isHand
set_option maxRecDepth 20000 in
theorem ggX8_kind_X8_of : GoodIn wsX8_kind wsX8_of := goodIn_r _ [15, 8, 16, 17, 18, 19, 20, 21, 22, 23, 24, 25, 26, 27, 28, 29, 30, 31, 32, 33, 34, 35, 36, 37, 38, 39, 40] (by decide +kernel) (by decide +kernel)
set_option maxRecDepth 20000 in
theorem gX8_kind_X8_of : GoodIn wsX8_kind (wsV RX8 167 RX8 yX8_of wsX8_of) := goodIn_app (goodIn_of _ (by decide +kernel)) ggX8_kind_X8_of
theorem dX8_kind_0 : decode cX8_kind 0 = .ok (.aload_n 0, 1) := by decide +kernel
theorem dX8_kind_1 : decode cX8_kind 1 = .ok (.iconst 0, 1) := by decide +kernel
theorem dX8_kind_2 : decode cX8_kind 2 = .ok (.putfield 41, 3) := by decide +kernel
theorem dX8_kind_5 : decode cX8_kind 5 = .ok (.aload_n 0, 1) := by decide +kernel
theorem dX8_kind_6 : decode cX8_kind 6 = .ok (.iload_n 1, 1) := by decide +kernel
theorem dX8_kind_7 : decode cX8_kind 7 = .ok (.invokevirtual 162, 3) := by decide +kernel
theorem dX8_kind_10 : decode cX8_kind 10 = .ok (.ifCond .eq 12, 3) := by decide +kernel
theorem dX8_kind_13 : decode cX8_kind 13 = .ok (.aload_n 0, 1) := by decide +kernel
theorem dX8_kind_14 : decode cX8_kind 14 = .ok (.iload_n 1, 1) := by decide +kernel
theorem dX8_kind_15 : decode cX8_kind 15 = .ok (.iconst 0, 1) := by decide +kernel
theorem dX8_kind_16 : decode cX8_kind 16 = .ok (.invokevirtual 167, 3) := by decide +kernel
theorem dX8_kind_19 : decode cX8_kind 19 = .ok (.goto 5, 3) := by decide +kernel
theorem dX8_kind_22 : decode cX8_kind 22 = .ok (.ldc 61, 2) := by decide +kernel
theorem dX8_kind_24 : decode cX8_kind 24 = .ok (.ireturn, 1) := by decide +kernel
set_option maxRecDepth 20000 in
theorem ggX8_as_X8_isHand : GoodIn wsX8_as wsX8_isHand := goodIn_r _ [9, 10, 11, 12, 8, 13, 26, 27, 28, 29, 30, 31, 32, 33, 34, 35, 36, 37, 38, 39, 40, 41, 42, 43, 44, 45, 46, 47, 48, 49, 50] (by decide +kernel) (by decide +kernel)
set_option maxRecDepth 20000 in
theorem gX8_as_X8_isHand : GoodIn wsX8_as (wsV RX8 162 RX8 yX8_isHand wsX8_isHand) := goodIn_app (goodIn_of _ (by decide +kernel)) ggX8_as_X8_isHand
set_option maxRecDepth 20000 in
theorem ggX8_as_X8_in : GoodIn wsX8_as wsX8_in := goodIn_r _ [13] (by decide +kernel) (by decide +kernel)
set_option maxRecDepth 20000 in
theorem gX8_as_X8_in : GoodIn wsX8_as (va_wsS RX8 51 yX8_in wsX8_in) := goodIn_app (goodIn_of _ (by decide +kernel)) ggX8_as_X8_in
set_option maxRecDepth 20000 in
theorem ggX8_as_X8_of : GoodIn wsX8_as wsX8_of := goodIn_r _ [17, 10, 26, 27, 28, 29, 30, 31, 32, 33, 34, 35, 36, 37, 38, 39, 40, 41, 42, 43, 44, 45, 46, 47, 48, 49, 50] (by decide +kernel) (by decide +kernel)
set_option maxRecDepth 20000 in
theorem gX8_as_X8_of : GoodIn wsX8_as (wsV RX8 167 RX8 yX8_of wsX8_of) := goodIn_app (goodIn_of _ (by decide +kernel)) ggX8_as_X8_of
set_option maxRecDepth 20000 in
theorem ggX8_as_X8_isOf : GoodIn wsX8_as wsX8_isOf := goodIn_r _ [20] (by decide +kernel) (by decide +kernel)
set_option maxRecDepth 20000 in
theorem gX8_as_X8_isOf : GoodIn wsX8_as (va_wsS RX8 238 yX8_isOf wsX8_isOf) := goodIn_app (goodIn_of _ (by decide +kernel)) ggX8_as_X8_isOf
set_option maxRecDepth 20000 in
theorem ggX8_as_X8_finding : GoodIn wsX8_as wsX8_finding := goodIn_r _ [24, 4, 25, 26, 27, 28, 29, 30, 31, 32, 33, 34, 35, 36, 37, 38, 39, 40, 41, 42, 43, 44, 45, 46, 47, 48, 49, 50] (by decide +kernel) (by decide +kernel)
set_option maxRecDepth 20000 in
theorem gX8_as_X8_finding : GoodIn wsX8_as (wsV RX8 62 RX8 yX8_finding wsX8_finding) := goodIn_app (goodIn_of _ (by decide +kernel)) ggX8_as_X8_finding
theorem dX8_as_0 : decode cX8_as 0 = .ok (.aload_n 0, 1) := by decide +kernel
theorem dX8_as_1 : decode cX8_as 1 = .ok (.iconst 0, 1) := by decide +kernel
theorem dX8_as_2 : decode cX8_as 2 = .ok (.putfield 41, 3) := by decide +kernel
theorem dX8_as_5 : decode cX8_as 5 = .ok (.aload_n 0, 1) := by decide +kernel
theorem dX8_as_6 : decode cX8_as 6 = .ok (.iload_n 1, 1) := by decide +kernel
theorem dX8_as_7 : decode cX8_as 7 = .ok (.invokevirtual 162, 3) := by decide +kernel
theorem dX8_as_10 : decode cX8_as 10 = .ok (.ifCond .eq 15, 3) := by decide +kernel
theorem dX8_as_13 : decode cX8_as 13 = .ok (.iload_n 2, 1) := by decide +kernel
theorem dX8_as_14 : decode cX8_as 14 = .ok (.i2l, 1) := by decide +kernel
theorem dX8_as_15 : decode cX8_as 15 = .ok (.lconst 0, 1) := by decide +kernel
theorem dX8_as_16 : decode cX8_as 16 = .ok (.ldc2_w 236, 3) := by decide +kernel
theorem dX8_as_19 : decode cX8_as 19 = .ok (.invokestatic 51, 3) := by decide +kernel
theorem dX8_as_22 : decode cX8_as 22 = .ok (.ifCond .ne 6, 3) := by decide +kernel
theorem dX8_as_25 : decode cX8_as 25 = .ok (.ldc 61, 2) := by decide +kernel
theorem dX8_as_27 : decode cX8_as 27 = .ok (.ireturn, 1) := by decide +kernel
theorem dX8_as_28 : decode cX8_as 28 = .ok (.aload_n 0, 1) := by decide +kernel
theorem dX8_as_29 : decode cX8_as 29 = .ok (.iconst 0, 1) := by decide +kernel
theorem dX8_as_30 : decode cX8_as 30 = .ok (.putfield 45, 3) := by decide +kernel
theorem dX8_as_33 : decode cX8_as 33 = .ok (.aload_n 0, 1) := by decide +kernel
theorem dX8_as_34 : decode cX8_as 34 = .ok (.iload_n 1, 1) := by decide +kernel
theorem dX8_as_35 : decode cX8_as 35 = .ok (.iconst 0, 1) := by decide +kernel
theorem dX8_as_36 : decode cX8_as 36 = .ok (.invokevirtual 167, 3) := by decide +kernel
theorem dX8_as_39 : decode cX8_as 39 = .ok (.iload_n 2, 1) := by decide +kernel
theorem dX8_as_40 : decode cX8_as 40 = .ok (.invokestatic 238, 3) := by decide +kernel
theorem dX8_as_43 : decode cX8_as 43 = .ok (.ifCond .eq 7, 3) := by decide +kernel
theorem dX8_as_46 : decode cX8_as 46 = .ok (.iload_n 1, 1) := by decide +kernel
theorem dX8_as_47 : decode cX8_as 47 = .ok (.goto 8, 3) := by decide +kernel
theorem dX8_as_50 : decode cX8_as 50 = .ok (.aload_n 0, 1) := by decide +kernel
theorem dX8_as_51 : decode cX8_as 51 = .ok (.iconst 3, 1) := by decide +kernel
theorem dX8_as_52 : decode cX8_as 52 = .ok (.invokevirtual 62, 3) := by decide +kernel
theorem dX8_as_55 : decode cX8_as 55 = .ok (.ireturn, 1) := by decide +kernel
theorem dX8_began_0 : decode cX8_began 0 = .ok (.aload_n 0, 1) := by decide +kernel
theorem dX8_began_1 : decode cX8_began 1 = .ok (.getfield 241, 3) := by decide +kernel
theorem dX8_began_4 : decode cX8_began 4 = .ok (.bipush 16, 2) := by decide +kernel
theorem dX8_began_6 : decode cX8_began 6 = .ok (.if_icmp .ge 23, 3) := by decide +kernel
theorem dX8_began_9 : decode cX8_began 9 = .ok (.aload_n 0, 1) := by decide +kernel
theorem dX8_began_10 : decode cX8_began 10 = .ok (.getfield 38, 3) := by decide +kernel
theorem dX8_began_13 : decode cX8_began 13 = .ok (.aload_n 0, 1) := by decide +kernel
theorem dX8_began_14 : decode cX8_began 14 = .ok (.getfield 241, 3) := by decide +kernel
theorem dX8_began_17 : decode cX8_began 17 = .ok (.iload_n 1, 1) := by decide +kernel
theorem dX8_began_18 : decode cX8_began 18 = .ok (.iastore, 1) := by decide +kernel
theorem dX8_began_19 : decode cX8_began 19 = .ok (.aload_n 0, 1) := by decide +kernel
theorem dX8_began_20 : decode cX8_began 20 = .ok (.dup, 1) := by decide +kernel
theorem dX8_began_21 : decode cX8_began 21 = .ok (.getfield 241, 3) := by decide +kernel
theorem dX8_began_24 : decode cX8_began 24 = .ok (.iconst 1, 1) := by decide +kernel
theorem dX8_began_25 : decode cX8_began 25 = .ok (.iadd, 1) := by decide +kernel
theorem dX8_began_26 : decode cX8_began 26 = .ok (.putfield 241, 3) := by decide +kernel
theorem dX8_began_29 : decode cX8_began 29 = .ok (.return_, 1) := by decide +kernel
set_option maxRecDepth 20000 in
theorem ggX8_plainSize_X8_began : GoodIn wsX8_plainSize wsX8_began := goodIn_r _ [5, 6, 7, 13, 14, 15, 16, 17, 18, 19, 20, 21, 22, 23, 24, 25, 26, 27, 28, 29, 30, 31, 32, 33, 34, 35, 36, 37] (by decide +kernel) (by decide +kernel)
set_option maxRecDepth 20000 in
theorem gX8_plainSize_X8_began : GoodIn wsX8_plainSize (wsV RX8 244 RX8 yX8_began wsX8_began) := goodIn_app (goodIn_of _ (by decide +kernel)) ggX8_plainSize_X8_began
set_option maxRecDepth 20000 in
theorem ggX8_plainSize_X8_of : GoodIn wsX8_plainSize wsX8_of := goodIn_r _ [11, 12, 13, 14, 15, 16, 17, 18, 19, 20, 21, 22, 23, 24, 25, 26, 27, 28, 29, 30, 31, 32, 33, 34, 35, 36, 37] (by decide +kernel) (by decide +kernel)
set_option maxRecDepth 20000 in
theorem gX8_plainSize_X8_of : GoodIn wsX8_plainSize (wsV RX8 167 RX8 yX8_of wsX8_of) := goodIn_app (goodIn_of _ (by decide +kernel)) ggX8_plainSize_X8_of
theorem dX8_plainSize_0 : decode cX8_plainSize 0 = .ok (.aload_n 0, 1) := by decide +kernel
theorem dX8_plainSize_1 : decode cX8_plainSize 1 = .ok (.bipush 10, 2) := by decide +kernel
theorem dX8_plainSize_3 : decode cX8_plainSize 3 = .ok (.invokevirtual 244, 3) := by decide +kernel
theorem dX8_plainSize_6 : decode cX8_plainSize 6 = .ok (.aload_n 0, 1) := by decide +kernel
theorem dX8_plainSize_7 : decode cX8_plainSize 7 = .ok (.iload_n 1, 1) := by decide +kernel
theorem dX8_plainSize_8 : decode cX8_plainSize 8 = .ok (.iconst 1, 1) := by decide +kernel
theorem dX8_plainSize_9 : decode cX8_plainSize 9 = .ok (.invokevirtual 167, 3) := by decide +kernel
theorem dX8_plainSize_12 : decode cX8_plainSize 12 = .ok (.ireturn, 1) := by decide +kernel
set_option maxRecDepth 20000 in
theorem ggX8_backSize_X8_of : GoodIn wsX8_backSize wsX8_of := goodIn_r _ [5, 6, 17, 18, 19, 20, 21, 22, 23, 24, 25, 26, 27, 28, 29, 30, 31, 32, 33, 34, 35, 36, 37, 38, 39, 40, 41] (by decide +kernel) (by decide +kernel)
set_option maxRecDepth 20000 in
theorem gX8_backSize_X8_of : GoodIn wsX8_backSize (wsV RX8 167 RX8 yX8_of wsX8_of) := goodIn_app (goodIn_of _ (by decide +kernel)) ggX8_backSize_X8_of
set_option maxRecDepth 20000 in
theorem ggX8_backSize_X8_began : GoodIn wsX8_backSize wsX8_began := goodIn_r _ [10, 11, 12, 17, 18, 19, 20, 21, 22, 23, 24, 25, 26, 27, 28, 29, 30, 31, 32, 33, 34, 35, 36, 37, 38, 39, 40, 41] (by decide +kernel) (by decide +kernel)
set_option maxRecDepth 20000 in
theorem gX8_backSize_X8_began : GoodIn wsX8_backSize (wsV RX8 244 RX8 yX8_began wsX8_began) := goodIn_app (goodIn_of _ (by decide +kernel)) ggX8_backSize_X8_began
set_option maxRecDepth 20000 in
theorem ggX8_backSize_X8_plainSize : GoodIn wsX8_backSize wsX8_plainSize := goodIn_r _ [16, 7, 8, 9, 4, 10, 11, 12, 1, 2, 3, 5, 6, 17, 18, 19, 20, 21, 22, 23, 24, 25, 26, 27, 28, 29, 30, 31, 32, 33, 34, 35, 36, 37, 38, 39, 40, 41] (by decide +kernel) (by decide +kernel)
set_option maxRecDepth 20000 in
theorem gX8_backSize_X8_plainSize : GoodIn wsX8_backSize (wsV RX8 247 RX8 yX8_plainSize wsX8_plainSize) := goodIn_app (goodIn_of _ (by decide +kernel)) ggX8_backSize_X8_plainSize
theorem dX8_backSize_0 : decode cX8_backSize 0 = .ok (.aload_n 0, 1) := by decide +kernel
theorem dX8_backSize_1 : decode cX8_backSize 1 = .ok (.iload_n 1, 1) := by decide +kernel
theorem dX8_backSize_2 : decode cX8_backSize 2 = .ok (.iconst 0, 1) := by decide +kernel
theorem dX8_backSize_3 : decode cX8_backSize 3 = .ok (.invokevirtual 167, 3) := by decide +kernel
theorem dX8_backSize_6 : decode cX8_backSize 6 = .ok (.iconst 5, 1) := by decide +kernel
theorem dX8_backSize_7 : decode cX8_backSize 7 = .ok (.if_icmp .ne 9, 3) := by decide +kernel
theorem dX8_backSize_10 : decode cX8_backSize 10 = .ok (.aload_n 0, 1) := by decide +kernel
theorem dX8_backSize_11 : decode cX8_backSize 11 = .ok (.bipush 14, 2) := by decide +kernel
theorem dX8_backSize_13 : decode cX8_backSize 13 = .ok (.invokevirtual 244, 3) := by decide +kernel
theorem dX8_backSize_16 : decode cX8_backSize 16 = .ok (.aload_n 0, 1) := by decide +kernel
theorem dX8_backSize_17 : decode cX8_backSize 17 = .ok (.bipush 13, 2) := by decide +kernel
theorem dX8_backSize_19 : decode cX8_backSize 19 = .ok (.invokevirtual 244, 3) := by decide +kernel
theorem dX8_backSize_22 : decode cX8_backSize 22 = .ok (.aload_n 0, 1) := by decide +kernel
theorem dX8_backSize_23 : decode cX8_backSize 23 = .ok (.iload_n 1, 1) := by decide +kernel
theorem dX8_backSize_24 : decode cX8_backSize 24 = .ok (.invokevirtual 247, 3) := by decide +kernel
theorem dX8_backSize_27 : decode cX8_backSize 27 = .ok (.bipush 100, 2) := by decide +kernel
theorem dX8_backSize_29 : decode cX8_backSize 29 = .ok (.isub, 1) := by decide +kernel
theorem dX8_backSize_30 : decode cX8_backSize 30 = .ok (.istore_n 2, 1) := by decide +kernel
theorem dX8_backSize_31 : decode cX8_backSize 31 = .ok (.aload_n 0, 1) := by decide +kernel
theorem dX8_backSize_32 : decode cX8_backSize 32 = .ok (.iload_n 1, 1) := by decide +kernel
theorem dX8_backSize_33 : decode cX8_backSize 33 = .ok (.iconst 0, 1) := by decide +kernel
theorem dX8_backSize_34 : decode cX8_backSize 34 = .ok (.invokevirtual 167, 3) := by decide +kernel
theorem dX8_backSize_37 : decode cX8_backSize 37 = .ok (.iconst 5, 1) := by decide +kernel
theorem dX8_backSize_38 : decode cX8_backSize 38 = .ok (.if_icmp .ne 9, 3) := by decide +kernel
theorem dX8_backSize_41 : decode cX8_backSize 41 = .ok (.iconst 2, 1) := by decide +kernel
theorem dX8_backSize_42 : decode cX8_backSize 42 = .ok (.iload_n 2, 1) := by decide +kernel
theorem dX8_backSize_43 : decode cX8_backSize 43 = .ok (.imul, 1) := by decide +kernel
theorem dX8_backSize_44 : decode cX8_backSize 44 = .ok (.goto 4, 3) := by decide +kernel
theorem dX8_backSize_47 : decode cX8_backSize 47 = .ok (.iload_n 2, 1) := by decide +kernel
theorem dX8_backSize_48 : decode cX8_backSize 48 = .ok (.ireturn, 1) := by decide +kernel
set_option maxRecDepth 20000 in
theorem ggX8_markOf_X8_of : GoodIn wsX8_markOf wsX8_of := goodIn_r _ [5, 6, 21, 22, 23, 24, 25, 26, 27, 28, 29, 30, 31, 32, 33, 34, 35, 36, 37, 38, 39, 40, 41, 42, 43, 44, 45] (by decide +kernel) (by decide +kernel)
set_option maxRecDepth 20000 in
theorem gX8_markOf_X8_of : GoodIn wsX8_markOf (wsV RX8 167 RX8 yX8_of wsX8_of) := goodIn_app (goodIn_of _ (by decide +kernel)) ggX8_markOf_X8_of
set_option maxRecDepth 20000 in
theorem ggX8_markOf_X8_began : GoodIn wsX8_markOf wsX8_began := goodIn_r _ [10, 11, 12, 21, 22, 23, 24, 25, 26, 27, 28, 29, 30, 31, 32, 33, 34, 35, 36, 37, 38, 39, 40, 41, 42, 43, 44, 45] (by decide +kernel) (by decide +kernel)
set_option maxRecDepth 20000 in
theorem gX8_markOf_X8_began : GoodIn wsX8_markOf (wsV RX8 244 RX8 yX8_began wsX8_began) := goodIn_app (goodIn_of _ (by decide +kernel)) ggX8_markOf_X8_began
set_option maxRecDepth 20000 in
theorem ggX8_markOf_X8_backSize : GoodIn wsX8_markOf wsX8_backSize := goodIn_r _ [16, 1, 2, 3, 4, 5, 6, 7, 8, 9, 10, 11, 12, 17, 18, 19, 20, 21, 22, 23, 24, 25, 26, 27, 28, 29, 30, 31, 32, 33, 34, 35, 36, 37, 38, 39, 40, 41, 42, 43, 44, 45] (by decide +kernel) (by decide +kernel)
set_option maxRecDepth 20000 in
theorem gX8_markOf_X8_backSize : GoodIn wsX8_markOf (wsV RX8 250 RX8 yX8_backSize wsX8_backSize) := goodIn_app (goodIn_of _ (by decide +kernel)) ggX8_markOf_X8_backSize
theorem dX8_markOf_0 : decode cX8_markOf 0 = .ok (.aload_n 0, 1) := by decide +kernel
theorem dX8_markOf_1 : decode cX8_markOf 1 = .ok (.iload_n 1, 1) := by decide +kernel
theorem dX8_markOf_2 : decode cX8_markOf 2 = .ok (.iconst 0, 1) := by decide +kernel
theorem dX8_markOf_3 : decode cX8_markOf 3 = .ok (.invokevirtual 167, 3) := by decide +kernel
theorem dX8_markOf_6 : decode cX8_markOf 6 = .ok (.istore_n 2, 1) := by decide +kernel
theorem dX8_markOf_7 : decode cX8_markOf 7 = .ok (.iload_n 2, 1) := by decide +kernel
theorem dX8_markOf_8 : decode cX8_markOf 8 = .ok (.iconst 4, 1) := by decide +kernel
theorem dX8_markOf_9 : decode cX8_markOf 9 = .ok (.if_icmp .lt 23, 3) := by decide +kernel
theorem dX8_markOf_12 : decode cX8_markOf 12 = .ok (.aload_n 0, 1) := by decide +kernel
theorem dX8_markOf_13 : decode cX8_markOf 13 = .ok (.bipush 23, 2) := by decide +kernel
theorem dX8_markOf_15 : decode cX8_markOf 15 = .ok (.invokevirtual 244, 3) := by decide +kernel
theorem dX8_markOf_18 : decode cX8_markOf 18 = .ok (.aload_n 0, 1) := by decide +kernel
theorem dX8_markOf_19 : decode cX8_markOf 19 = .ok (.bipush 20, 2) := by decide +kernel
theorem dX8_markOf_21 : decode cX8_markOf 21 = .ok (.invokevirtual 244, 3) := by decide +kernel
theorem dX8_markOf_24 : decode cX8_markOf 24 = .ok (.iload_n 1, 1) := by decide +kernel
theorem dX8_markOf_25 : decode cX8_markOf 25 = .ok (.aload_n 0, 1) := by decide +kernel
theorem dX8_markOf_26 : decode cX8_markOf 26 = .ok (.iload_n 1, 1) := by decide +kernel
theorem dX8_markOf_27 : decode cX8_markOf 27 = .ok (.invokevirtual 250, 3) := by decide +kernel
theorem dX8_markOf_30 : decode cX8_markOf 30 = .ok (.isub, 1) := by decide +kernel
theorem dX8_markOf_31 : decode cX8_markOf 31 = .ok (.ireturn, 1) := by decide +kernel
theorem dX8_markOf_32 : decode cX8_markOf 32 = .ok (.iload_n 2, 1) := by decide +kernel
theorem dX8_markOf_33 : decode cX8_markOf 33 = .ok (.iconst 1, 1) := by decide +kernel
theorem dX8_markOf_34 : decode cX8_markOf 34 = .ok (.if_icmp .eq 19, 3) := by decide +kernel
theorem dX8_markOf_37 : decode cX8_markOf 37 = .ok (.aload_n 0, 1) := by decide +kernel
theorem dX8_markOf_38 : decode cX8_markOf 38 = .ok (.iload_n 2, 1) := by decide +kernel
theorem dX8_markOf_39 : decode cX8_markOf 39 = .ok (.iconst 3, 1) := by decide +kernel
theorem dX8_markOf_40 : decode cX8_markOf 40 = .ok (.if_icmp .ne 8, 3) := by decide +kernel
theorem dX8_markOf_43 : decode cX8_markOf 43 = .ok (.bipush 22, 2) := by decide +kernel
theorem dX8_markOf_45 : decode cX8_markOf 45 = .ok (.goto 5, 3) := by decide +kernel
theorem dX8_markOf_48 : decode cX8_markOf 48 = .ok (.bipush 24, 2) := by decide +kernel
theorem dX8_markOf_50 : decode cX8_markOf 50 = .ok (.invokevirtual 244, 3) := by decide +kernel
theorem dX8_markOf_53 : decode cX8_markOf 53 = .ok (.aload_n 0, 1) := by decide +kernel
theorem dX8_markOf_54 : decode cX8_markOf 54 = .ok (.bipush 21, 2) := by decide +kernel
theorem dX8_markOf_56 : decode cX8_markOf 56 = .ok (.invokevirtual 244, 3) := by decide +kernel
theorem dX8_markOf_59 : decode cX8_markOf 59 = .ok (.aload_n 0, 1) := by decide +kernel
theorem dX8_markOf_60 : decode cX8_markOf 60 = .ok (.bipush 20, 2) := by decide +kernel
theorem dX8_markOf_62 : decode cX8_markOf 62 = .ok (.invokevirtual 244, 3) := by decide +kernel
theorem dX8_markOf_65 : decode cX8_markOf 65 = .ok (.iload_n 1, 1) := by decide +kernel
theorem dX8_markOf_66 : decode cX8_markOf 66 = .ok (.aload_n 0, 1) := by decide +kernel
theorem dX8_markOf_67 : decode cX8_markOf 67 = .ok (.iload_n 1, 1) := by decide +kernel
theorem dX8_markOf_68 : decode cX8_markOf 68 = .ok (.iconst 2, 1) := by decide +kernel
theorem dX8_markOf_69 : decode cX8_markOf 69 = .ok (.invokevirtual 167, 3) := by decide +kernel
theorem dX8_markOf_72 : decode cX8_markOf 72 = .ok (.iadd, 1) := by decide +kernel
theorem dX8_markOf_73 : decode cX8_markOf 73 = .ok (.istore_n 3, 1) := by decide +kernel
theorem dX8_markOf_74 : decode cX8_markOf 74 = .ok (.iload_n 2, 1) := by decide +kernel
theorem dX8_markOf_75 : decode cX8_markOf 75 = .ok (.iconst 1, 1) := by decide +kernel
theorem dX8_markOf_76 : decode cX8_markOf 76 = .ok (.if_icmp .ne 7, 3) := by decide +kernel
theorem dX8_markOf_79 : decode cX8_markOf 79 = .ok (.iload_n 3, 1) := by decide +kernel
theorem dX8_markOf_80 : decode cX8_markOf 80 = .ok (.goto 19, 3) := by decide +kernel
theorem dX8_markOf_83 : decode cX8_markOf 83 = .ok (.iload_n 2, 1) := by decide +kernel
theorem dX8_markOf_84 : decode cX8_markOf 84 = .ok (.iconst 3, 1) := by decide +kernel
theorem dX8_markOf_85 : decode cX8_markOf 85 = .ok (.if_icmp .ne 11, 3) := by decide +kernel
theorem dX8_markOf_88 : decode cX8_markOf 88 = .ok (.iload_n 3, 1) := by decide +kernel
theorem dX8_markOf_89 : decode cX8_markOf 89 = .ok (.sipush 1000, 3) := by decide +kernel
theorem dX8_markOf_92 : decode cX8_markOf 92 = .ok (.isub, 1) := by decide +kernel
theorem dX8_markOf_93 : decode cX8_markOf 93 = .ok (.goto 6, 3) := by decide +kernel
theorem dX8_markOf_96 : decode cX8_markOf 96 = .ok (.iconst 2, 1) := by decide +kernel
theorem dX8_markOf_97 : decode cX8_markOf 97 = .ok (.iload_n 3, 1) := by decide +kernel
theorem dX8_markOf_98 : decode cX8_markOf 98 = .ok (.imul, 1) := by decide +kernel
theorem dX8_markOf_99 : decode cX8_markOf 99 = .ok (.ireturn, 1) := by decide +kernel
set_option maxRecDepth 20000 in
theorem ggX8_sizeOf_X8_of : GoodIn wsX8_sizeOf wsX8_of := goodIn_r _ [5, 6, 25, 26, 27, 28, 29, 30, 31, 32, 33, 34, 35, 36, 37, 38, 39, 40, 41, 42, 43, 44, 45, 46, 47, 48, 49] (by decide +kernel) (by decide +kernel)
set_option maxRecDepth 20000 in
theorem gX8_sizeOf_X8_of : GoodIn wsX8_sizeOf (wsV RX8 167 RX8 yX8_of wsX8_of) := goodIn_app (goodIn_of _ (by decide +kernel)) ggX8_sizeOf_X8_of
set_option maxRecDepth 20000 in
theorem ggX8_sizeOf_X8_backSize : GoodIn wsX8_sizeOf wsX8_backSize := goodIn_r _ [10, 1, 2, 3, 4, 5, 6, 11, 12, 13, 14, 15, 16, 17, 18, 19, 20, 25, 26, 27, 28, 29, 30, 31, 32, 33, 34, 35, 36, 37, 38, 39, 40, 41, 42, 43, 44, 45, 46, 47, 48, 49] (by decide +kernel) (by decide +kernel)
set_option maxRecDepth 20000 in
theorem gX8_sizeOf_X8_backSize : GoodIn wsX8_sizeOf (wsV RX8 250 RX8 yX8_backSize wsX8_backSize) := goodIn_app (goodIn_of _ (by decide +kernel)) ggX8_sizeOf_X8_backSize
set_option maxRecDepth 20000 in
theorem ggX8_sizeOf_X8_began : GoodIn wsX8_sizeOf wsX8_began := goodIn_r _ [14, 15, 16, 25, 26, 27, 28, 29, 30, 31, 32, 33, 34, 35, 36, 37, 38, 39, 40, 41, 42, 43, 44, 45, 46, 47, 48, 49] (by decide +kernel) (by decide +kernel)
set_option maxRecDepth 20000 in
theorem gX8_sizeOf_X8_began : GoodIn wsX8_sizeOf (wsV RX8 244 RX8 yX8_began wsX8_began) := goodIn_app (goodIn_of _ (by decide +kernel)) ggX8_sizeOf_X8_began
set_option maxRecDepth 20000 in
theorem ggX8_sizeOf_X8_plainSize : GoodIn wsX8_sizeOf wsX8_plainSize := goodIn_r _ [20, 11, 12, 13, 4, 14, 15, 16, 1, 2, 3, 5, 6, 25, 26, 27, 28, 29, 30, 31, 32, 33, 34, 35, 36, 37, 38, 39, 40, 41, 42, 43, 44, 45, 46, 47, 48, 49] (by decide +kernel) (by decide +kernel)
set_option maxRecDepth 20000 in
theorem gX8_sizeOf_X8_plainSize : GoodIn wsX8_sizeOf (wsV RX8 247 RX8 yX8_plainSize wsX8_plainSize) := goodIn_app (goodIn_of _ (by decide +kernel)) ggX8_sizeOf_X8_plainSize
set_option maxRecDepth 20000 in
theorem ggX8_sizeOf_X8_markOf : GoodIn wsX8_sizeOf wsX8_markOf := goodIn_r _ [24, 1, 2, 3, 4, 5, 6, 11, 12, 13, 14, 15, 16, 7, 8, 9, 10, 17, 18, 19, 20, 25, 26, 27, 28, 29, 30, 31, 32, 33, 34, 35, 36, 37, 38, 39, 40, 41, 42, 43, 44, 45, 46, 47, 48, 49] (by decide +kernel) (by decide +kernel)
set_option maxRecDepth 20000 in
theorem gX8_sizeOf_X8_markOf : GoodIn wsX8_sizeOf (wsV RX8 253 RX8 yX8_markOf wsX8_markOf) := goodIn_app (goodIn_of _ (by decide +kernel)) ggX8_sizeOf_X8_markOf
theorem dX8_sizeOf_0 : decode cX8_sizeOf 0 = .ok (.aload_n 0, 1) := by decide +kernel
theorem dX8_sizeOf_1 : decode cX8_sizeOf 1 = .ok (.iload_n 1, 1) := by decide +kernel
theorem dX8_sizeOf_2 : decode cX8_sizeOf 2 = .ok (.iconst 0, 1) := by decide +kernel
theorem dX8_sizeOf_3 : decode cX8_sizeOf 3 = .ok (.invokevirtual 167, 3) := by decide +kernel
theorem dX8_sizeOf_6 : decode cX8_sizeOf 6 = .ok (.istore_n 2, 1) := by decide +kernel
theorem dX8_sizeOf_7 : decode cX8_sizeOf 7 = .ok (.iload_n 2, 1) := by decide +kernel
theorem dX8_sizeOf_8 : decode cX8_sizeOf 8 = .ok (.iconst 4, 1) := by decide +kernel
theorem dX8_sizeOf_9 : decode cX8_sizeOf 9 = .ok (.if_icmp .lt 9, 3) := by decide +kernel
theorem dX8_sizeOf_12 : decode cX8_sizeOf 12 = .ok (.aload_n 0, 1) := by decide +kernel
theorem dX8_sizeOf_13 : decode cX8_sizeOf 13 = .ok (.iload_n 1, 1) := by decide +kernel
theorem dX8_sizeOf_14 : decode cX8_sizeOf 14 = .ok (.invokevirtual 250, 3) := by decide +kernel
theorem dX8_sizeOf_17 : decode cX8_sizeOf 17 = .ok (.ireturn, 1) := by decide +kernel
theorem dX8_sizeOf_18 : decode cX8_sizeOf 18 = .ok (.iload_n 2, 1) := by decide +kernel
theorem dX8_sizeOf_19 : decode cX8_sizeOf 19 = .ok (.iconst 2, 1) := by decide +kernel
theorem dX8_sizeOf_20 : decode cX8_sizeOf 20 = .ok (.if_icmp .ne 9, 3) := by decide +kernel
theorem dX8_sizeOf_23 : decode cX8_sizeOf 23 = .ok (.aload_n 0, 1) := by decide +kernel
theorem dX8_sizeOf_24 : decode cX8_sizeOf 24 = .ok (.bipush 12, 2) := by decide +kernel
theorem dX8_sizeOf_26 : decode cX8_sizeOf 26 = .ok (.invokevirtual 244, 3) := by decide +kernel
theorem dX8_sizeOf_29 : decode cX8_sizeOf 29 = .ok (.aload_n 0, 1) := by decide +kernel
theorem dX8_sizeOf_30 : decode cX8_sizeOf 30 = .ok (.bipush 11, 2) := by decide +kernel
theorem dX8_sizeOf_32 : decode cX8_sizeOf 32 = .ok (.invokevirtual 244, 3) := by decide +kernel
theorem dX8_sizeOf_35 : decode cX8_sizeOf 35 = .ok (.aload_n 0, 1) := by decide +kernel
theorem dX8_sizeOf_36 : decode cX8_sizeOf 36 = .ok (.iload_n 1, 1) := by decide +kernel
theorem dX8_sizeOf_37 : decode cX8_sizeOf 37 = .ok (.invokevirtual 247, 3) := by decide +kernel
theorem dX8_sizeOf_40 : decode cX8_sizeOf 40 = .ok (.istore_n 3, 1) := by decide +kernel
theorem dX8_sizeOf_41 : decode cX8_sizeOf 41 = .ok (.iload_n 3, 1) := by decide +kernel
theorem dX8_sizeOf_42 : decode cX8_sizeOf 42 = .ok (.aload_n 0, 1) := by decide +kernel
theorem dX8_sizeOf_43 : decode cX8_sizeOf 43 = .ok (.iload_n 1, 1) := by decide +kernel
theorem dX8_sizeOf_44 : decode cX8_sizeOf 44 = .ok (.invokevirtual 253, 3) := by decide +kernel
theorem dX8_sizeOf_47 : decode cX8_sizeOf 47 = .ok (.iadd, 1) := by decide +kernel
theorem dX8_sizeOf_48 : decode cX8_sizeOf 48 = .ok (.istore_n 3, 1) := by decide +kernel
theorem dX8_sizeOf_49 : decode cX8_sizeOf 49 = .ok (.iload_n 2, 1) := by decide +kernel
theorem dX8_sizeOf_50 : decode cX8_sizeOf 50 = .ok (.iconst 2, 1) := by decide +kernel
theorem dX8_sizeOf_51 : decode cX8_sizeOf 51 = .ok (.if_icmp .ne 8, 3) := by decide +kernel
theorem dX8_sizeOf_54 : decode cX8_sizeOf 54 = .ok (.iload_n 3, 1) := by decide +kernel
theorem dX8_sizeOf_55 : decode cX8_sizeOf 55 = .ok (.ineg, 1) := by decide +kernel
theorem dX8_sizeOf_56 : decode cX8_sizeOf 56 = .ok (.goto 4, 3) := by decide +kernel
theorem dX8_sizeOf_59 : decode cX8_sizeOf 59 = .ok (.iload_n 3, 1) := by decide +kernel
theorem dX8_sizeOf_60 : decode cX8_sizeOf 60 = .ok (.ireturn, 1) := by decide +kernel
set_option maxRecDepth 20000 in
theorem ggX8_ask_X8_isHand : GoodIn wsX8_ask wsX8_isHand := goodIn_r _ [8, 9, 10, 11, 7, 12, 38, 39, 40, 41, 42, 43, 44, 45, 46, 47, 48, 49, 50, 51, 52, 53, 54, 55, 56, 57, 58, 59, 60, 61, 62] (by decide +kernel) (by decide +kernel)
set_option maxRecDepth 20000 in
theorem gX8_ask_X8_isHand : GoodIn wsX8_ask (wsV RX8 162 RX8 yX8_isHand wsX8_isHand) := goodIn_app (goodIn_of _ (by decide +kernel)) ggX8_ask_X8_isHand
set_option maxRecDepth 20000 in
theorem ggX8_ask_X8_in : GoodIn wsX8_ask wsX8_in := goodIn_r _ [12] (by decide +kernel) (by decide +kernel)
set_option maxRecDepth 20000 in
theorem gX8_ask_X8_in : GoodIn wsX8_ask (va_wsS RX8 51 yX8_in wsX8_in) := goodIn_app (goodIn_of _ (by decide +kernel)) ggX8_ask_X8_in
set_option maxRecDepth 20000 in
theorem ggX8_ask_X8_sizeOf : GoodIn wsX8_ask wsX8_sizeOf := goodIn_r _ [16, 17, 18, 19, 7, 20, 9, 21, 22, 23, 24, 25, 26, 27, 28, 3, 29, 30, 31, 32, 33, 34, 35, 36, 37, 38, 39, 40, 41, 42, 43, 44, 45, 46, 47, 48, 49, 50, 51, 52, 53, 54, 55, 56, 57, 58, 59, 60, 61, 62] (by decide +kernel) (by decide +kernel)
set_option maxRecDepth 20000 in
theorem gX8_ask_X8_sizeOf : GoodIn wsX8_ask (wsV RX8 256 RX8 yX8_sizeOf wsX8_sizeOf) := goodIn_app (goodIn_of _ (by decide +kernel)) ggX8_ask_X8_sizeOf
set_option maxRecDepth 20000 in
theorem ggX8_ask_X8_markOf : GoodIn wsX8_ask wsX8_markOf := goodIn_r _ [37, 17, 18, 19, 7, 20, 9, 25, 26, 27, 28, 3, 29, 21, 22, 23, 24, 30, 31, 32, 33, 38, 39, 40, 41, 42, 43, 44, 45, 46, 47, 48, 49, 50, 51, 52, 53, 54, 55, 56, 57, 58, 59, 60, 61, 62] (by decide +kernel) (by decide +kernel)
set_option maxRecDepth 20000 in
theorem gX8_ask_X8_markOf : GoodIn wsX8_ask (wsV RX8 253 RX8 yX8_markOf wsX8_markOf) := goodIn_app (goodIn_of _ (by decide +kernel)) ggX8_ask_X8_markOf
theorem dX8_ask_0 : decode cX8_ask 0 = .ok (.aload_n 0, 1) := by decide +kernel
theorem dX8_ask_1 : decode cX8_ask 1 = .ok (.iconst 0, 1) := by decide +kernel
theorem dX8_ask_2 : decode cX8_ask 2 = .ok (.putfield 41, 3) := by decide +kernel
theorem dX8_ask_5 : decode cX8_ask 5 = .ok (.aload_n 0, 1) := by decide +kernel
theorem dX8_ask_6 : decode cX8_ask 6 = .ok (.iload_n 1, 1) := by decide +kernel
theorem dX8_ask_7 : decode cX8_ask 7 = .ok (.invokevirtual 162, 3) := by decide +kernel
theorem dX8_ask_10 : decode cX8_ask 10 = .ok (.ifCond .eq 13, 3) := by decide +kernel
theorem dX8_ask_13 : decode cX8_ask 13 = .ok (.iload_n 2, 1) := by decide +kernel
theorem dX8_ask_14 : decode cX8_ask 14 = .ok (.i2l, 1) := by decide +kernel
theorem dX8_ask_15 : decode cX8_ask 15 = .ok (.lconst 0, 1) := by decide +kernel
theorem dX8_ask_16 : decode cX8_ask 16 = .ok (.lconst 1, 1) := by decide +kernel
theorem dX8_ask_17 : decode cX8_ask 17 = .ok (.invokestatic 51, 3) := by decide +kernel
theorem dX8_ask_20 : decode cX8_ask 20 = .ok (.ifCond .ne 6, 3) := by decide +kernel
theorem dX8_ask_23 : decode cX8_ask 23 = .ok (.ldc 61, 2) := by decide +kernel
theorem dX8_ask_25 : decode cX8_ask 25 = .ok (.ireturn, 1) := by decide +kernel
theorem dX8_ask_26 : decode cX8_ask 26 = .ok (.aload_n 0, 1) := by decide +kernel
theorem dX8_ask_27 : decode cX8_ask 27 = .ok (.iconst 0, 1) := by decide +kernel
theorem dX8_ask_28 : decode cX8_ask 28 = .ok (.putfield 241, 3) := by decide +kernel
theorem dX8_ask_31 : decode cX8_ask 31 = .ok (.iload_n 2, 1) := by decide +kernel
theorem dX8_ask_32 : decode cX8_ask 32 = .ok (.ifCond .ne 11, 3) := by decide +kernel
theorem dX8_ask_35 : decode cX8_ask 35 = .ok (.aload_n 0, 1) := by decide +kernel
theorem dX8_ask_36 : decode cX8_ask 36 = .ok (.iload_n 1, 1) := by decide +kernel
theorem dX8_ask_37 : decode cX8_ask 37 = .ok (.invokevirtual 256, 3) := by decide +kernel
theorem dX8_ask_40 : decode cX8_ask 40 = .ok (.goto 8, 3) := by decide +kernel
theorem dX8_ask_43 : decode cX8_ask 43 = .ok (.aload_n 0, 1) := by decide +kernel
theorem dX8_ask_44 : decode cX8_ask 44 = .ok (.iload_n 1, 1) := by decide +kernel
theorem dX8_ask_45 : decode cX8_ask 45 = .ok (.invokevirtual 253, 3) := by decide +kernel
theorem dX8_ask_48 : decode cX8_ask 48 = .ok (.ireturn, 1) := by decide +kernel
set_option maxRecDepth 20000 in
theorem ggX8_trace_X8_in : GoodIn wsX8_trace wsX8_in := goodIn_r _ [8] (by decide +kernel) (by decide +kernel)
set_option maxRecDepth 20000 in
theorem gX8_trace_X8_in : GoodIn wsX8_trace (va_wsS RX8 51 yX8_in wsX8_in) := goodIn_app (goodIn_of _ (by decide +kernel)) ggX8_trace_X8_in
theorem dX8_trace_0 : decode cX8_trace 0 = .ok (.aload_n 0, 1) := by decide +kernel
theorem dX8_trace_1 : decode cX8_trace 1 = .ok (.iconst 0, 1) := by decide +kernel
theorem dX8_trace_2 : decode cX8_trace 2 = .ok (.putfield 41, 3) := by decide +kernel
theorem dX8_trace_5 : decode cX8_trace 5 = .ok (.iload_n 1, 1) := by decide +kernel
theorem dX8_trace_6 : decode cX8_trace 6 = .ok (.i2l, 1) := by decide +kernel
theorem dX8_trace_7 : decode cX8_trace 7 = .ok (.lconst 0, 1) := by decide +kernel
theorem dX8_trace_8 : decode cX8_trace 8 = .ok (.aload_n 0, 1) := by decide +kernel
theorem dX8_trace_9 : decode cX8_trace 9 = .ok (.getfield 241, 3) := by decide +kernel
theorem dX8_trace_12 : decode cX8_trace 12 = .ok (.iconst 1, 1) := by decide +kernel
theorem dX8_trace_13 : decode cX8_trace 13 = .ok (.isub, 1) := by decide +kernel
theorem dX8_trace_14 : decode cX8_trace 14 = .ok (.i2l, 1) := by decide +kernel
theorem dX8_trace_15 : decode cX8_trace 15 = .ok (.invokestatic 51, 3) := by decide +kernel
theorem dX8_trace_18 : decode cX8_trace 18 = .ok (.ifCond .eq 12, 3) := by decide +kernel
theorem dX8_trace_21 : decode cX8_trace 21 = .ok (.aload_n 0, 1) := by decide +kernel
theorem dX8_trace_22 : decode cX8_trace 22 = .ok (.getfield 38, 3) := by decide +kernel
theorem dX8_trace_25 : decode cX8_trace 25 = .ok (.iload_n 1, 1) := by decide +kernel
theorem dX8_trace_26 : decode cX8_trace 26 = .ok (.iaload, 1) := by decide +kernel
theorem dX8_trace_27 : decode cX8_trace 27 = .ok (.goto 5, 3) := by decide +kernel
theorem dX8_trace_30 : decode cX8_trace 30 = .ok (.ldc 77, 2) := by decide +kernel
theorem dX8_trace_32 : decode cX8_trace 32 = .ok (.ireturn, 1) := by decide +kernel
set_option maxRecDepth 20000 in
theorem ggX8_count_X8_of : GoodIn wsX8_count wsX8_of := goodIn_r _ [11, 3, 12, 13, 14, 15, 16, 17, 18, 19, 20, 21, 22, 23, 24, 25, 26, 27, 28, 29, 30, 31, 32, 33, 34, 35, 36] (by decide +kernel) (by decide +kernel)
set_option maxRecDepth 20000 in
theorem gX8_count_X8_of : GoodIn wsX8_count (wsV RX8 167 RX8 yX8_of wsX8_of) := goodIn_app (goodIn_of _ (by decide +kernel)) ggX8_count_X8_of
theorem dX8_count_0 : decode cX8_count 0 = .ok (.aload_n 0, 1) := by decide +kernel
theorem dX8_count_1 : decode cX8_count 1 = .ok (.iconst 0, 1) := by decide +kernel
theorem dX8_count_2 : decode cX8_count 2 = .ok (.putfield 41, 3) := by decide +kernel
theorem dX8_count_5 : decode cX8_count 5 = .ok (.iconst 0, 1) := by decide +kernel
theorem dX8_count_6 : decode cX8_count 6 = .ok (.istore_n 2, 1) := by decide +kernel
theorem dX8_count_7 : decode cX8_count 7 = .ok (.iload_n 1, 1) := by decide +kernel
theorem dX8_count_8 : decode cX8_count 8 = .ok (.tableswitch 134 0 5 #[40, 73, 80, 87, 124, 129], 40) := by decide +kernel
theorem dX8_count_48 : decode cX8_count 48 = .ok (.iconst 0, 1) := by decide +kernel
theorem dX8_count_49 : decode cX8_count 49 = .ok (.istore_n 3, 1) := by decide +kernel
theorem dX8_count_50 : decode cX8_count 50 = .ok (.iload_n 3, 1) := by decide +kernel
theorem dX8_count_51 : decode cX8_count 51 = .ok (.bipush 8, 2) := by decide +kernel
theorem dX8_count_53 : decode cX8_count 53 = .ok (.if_icmp .ge 26, 3) := by decide +kernel
theorem dX8_count_56 : decode cX8_count 56 = .ok (.iload_n 2, 1) := by decide +kernel
theorem dX8_count_57 : decode cX8_count 57 = .ok (.aload_n 0, 1) := by decide +kernel
theorem dX8_count_58 : decode cX8_count 58 = .ok (.getfield 7, 3) := by decide +kernel
theorem dX8_count_61 : decode cX8_count 61 = .ok (.iload_n 3, 1) := by decide +kernel
theorem dX8_count_62 : decode cX8_count 62 = .ok (.iaload, 1) := by decide +kernel
theorem dX8_count_63 : decode cX8_count 63 = .ok (.ifCond .lt 7, 3) := by decide +kernel
theorem dX8_count_66 : decode cX8_count 66 = .ok (.iconst 1, 1) := by decide +kernel
theorem dX8_count_67 : decode cX8_count 67 = .ok (.goto 4, 3) := by decide +kernel
theorem dX8_count_70 : decode cX8_count 70 = .ok (.iconst 0, 1) := by decide +kernel
theorem dX8_count_71 : decode cX8_count 71 = .ok (.iadd, 1) := by decide +kernel
theorem dX8_count_72 : decode cX8_count 72 = .ok (.istore_n 2, 1) := by decide +kernel
theorem dX8_count_73 : decode cX8_count 73 = .ok (.iinc 3 1, 3) := by decide +kernel
theorem dX8_count_76 : decode cX8_count 76 = .ok (.goto (-26), 3) := by decide +kernel
theorem dX8_count_79 : decode cX8_count 79 = .ok (.iload_n 2, 1) := by decide +kernel
theorem dX8_count_80 : decode cX8_count 80 = .ok (.ireturn, 1) := by decide +kernel
theorem dX8_count_81 : decode cX8_count 81 = .ok (.aload_n 0, 1) := by decide +kernel
theorem dX8_count_82 : decode cX8_count 82 = .ok (.getfield 19, 3) := by decide +kernel
theorem dX8_count_85 : decode cX8_count 85 = .ok (.iconst 1, 1) := by decide +kernel
theorem dX8_count_86 : decode cX8_count 86 = .ok (.iaload, 1) := by decide +kernel
theorem dX8_count_87 : decode cX8_count 87 = .ok (.ireturn, 1) := by decide +kernel
theorem dX8_count_88 : decode cX8_count 88 = .ok (.aload_n 0, 1) := by decide +kernel
theorem dX8_count_89 : decode cX8_count 89 = .ok (.getfield 19, 3) := by decide +kernel
theorem dX8_count_92 : decode cX8_count 92 = .ok (.iconst 0, 1) := by decide +kernel
theorem dX8_count_93 : decode cX8_count 93 = .ok (.iaload, 1) := by decide +kernel
theorem dX8_count_94 : decode cX8_count 94 = .ok (.ireturn, 1) := by decide +kernel
theorem dX8_count_95 : decode cX8_count 95 = .ok (.iconst 0, 1) := by decide +kernel
theorem dX8_count_96 : decode cX8_count 96 = .ok (.istore_n 3, 1) := by decide +kernel
theorem dX8_count_97 : decode cX8_count 97 = .ok (.iload_n 3, 1) := by decide +kernel
theorem dX8_count_98 : decode cX8_count 98 = .ok (.aload_n 0, 1) := by decide +kernel
theorem dX8_count_99 : decode cX8_count 99 = .ok (.getfield 19, 3) := by decide +kernel
theorem dX8_count_102 : decode cX8_count 102 = .ok (.iconst 1, 1) := by decide +kernel
theorem dX8_count_103 : decode cX8_count 103 = .ok (.iaload, 1) := by decide +kernel
theorem dX8_count_104 : decode cX8_count 104 = .ok (.if_icmp .ge 26, 3) := by decide +kernel
theorem dX8_count_107 : decode cX8_count 107 = .ok (.iload_n 2, 1) := by decide +kernel
theorem dX8_count_108 : decode cX8_count 108 = .ok (.aload_n 0, 1) := by decide +kernel
theorem dX8_count_109 : decode cX8_count 109 = .ok (.iload_n 3, 1) := by decide +kernel
theorem dX8_count_110 : decode cX8_count 110 = .ok (.iconst 2, 1) := by decide +kernel
theorem dX8_count_111 : decode cX8_count 111 = .ok (.invokevirtual 167, 3) := by decide +kernel
theorem dX8_count_114 : decode cX8_count 114 = .ok (.ifCond .le 7, 3) := by decide +kernel
theorem dX8_count_117 : decode cX8_count 117 = .ok (.iconst 1, 1) := by decide +kernel
theorem dX8_count_118 : decode cX8_count 118 = .ok (.goto 4, 3) := by decide +kernel
theorem dX8_count_121 : decode cX8_count 121 = .ok (.iconst 0, 1) := by decide +kernel
theorem dX8_count_122 : decode cX8_count 122 = .ok (.iadd, 1) := by decide +kernel
theorem dX8_count_123 : decode cX8_count 123 = .ok (.istore_n 2, 1) := by decide +kernel
theorem dX8_count_124 : decode cX8_count 124 = .ok (.iinc 3 1, 3) := by decide +kernel
theorem dX8_count_127 : decode cX8_count 127 = .ok (.goto (-30), 3) := by decide +kernel
theorem dX8_count_130 : decode cX8_count 130 = .ok (.iload_n 2, 1) := by decide +kernel
theorem dX8_count_131 : decode cX8_count 131 = .ok (.ireturn, 1) := by decide +kernel
theorem dX8_count_132 : decode cX8_count 132 = .ok (.aload_n 0, 1) := by decide +kernel
theorem dX8_count_133 : decode cX8_count 133 = .ok (.getfield 159, 3) := by decide +kernel
theorem dX8_count_136 : decode cX8_count 136 = .ok (.ireturn, 1) := by decide +kernel
theorem dX8_count_137 : decode cX8_count 137 = .ok (.aload_n 0, 1) := by decide +kernel
theorem dX8_count_138 : decode cX8_count 138 = .ok (.getfield 68, 3) := by decide +kernel
theorem dX8_count_141 : decode cX8_count 141 = .ok (.ireturn, 1) := by decide +kernel
theorem dX8_count_142 : decode cX8_count 142 = .ok (.ldc 61, 2) := by decide +kernel
theorem dX8_count_144 : decode cX8_count 144 = .ok (.ireturn, 1) := by decide +kernel
theorem dX8_status_0 : decode cX8_status 0 = .ok (.aload_n 0, 1) := by decide +kernel
theorem dX8_status_1 : decode cX8_status 1 = .ok (.iconst 0, 1) := by decide +kernel
theorem dX8_status_2 : decode cX8_status 2 = .ok (.putfield 41, 3) := by decide +kernel
theorem dX8_status_5 : decode cX8_status 5 = .ok (.aload_n 0, 1) := by decide +kernel
theorem dX8_status_6 : decode cX8_status 6 = .ok (.getfield 45, 3) := by decide +kernel
theorem dX8_status_9 : decode cX8_status 9 = .ok (.ireturn, 1) := by decide +kernel
theorem dJ9_floorMod_7cf53_0 : decode cJ9_floorMod_7cf53 0 = .ok (.iload_n 0, 1) := by decide +kernel
theorem dJ9_floorMod_7cf53_1 : decode cJ9_floorMod_7cf53 1 = .ok (.iload_n 1, 1) := by decide +kernel
theorem dJ9_floorMod_7cf53_2 : decode cJ9_floorMod_7cf53 2 = .ok (.irem, 1) := by decide +kernel
theorem dJ9_floorMod_7cf53_3 : decode cJ9_floorMod_7cf53 3 = .ok (.istore_n 2, 1) := by decide +kernel
theorem dJ9_floorMod_7cf53_4 : decode cJ9_floorMod_7cf53 4 = .ok (.iload_n 0, 1) := by decide +kernel
theorem dJ9_floorMod_7cf53_5 : decode cJ9_floorMod_7cf53 5 = .ok (.iload_n 1, 1) := by decide +kernel
theorem dJ9_floorMod_7cf53_6 : decode cJ9_floorMod_7cf53 6 = .ok (.ixor, 1) := by decide +kernel
theorem dJ9_floorMod_7cf53_7 : decode cJ9_floorMod_7cf53 7 = .ok (.ifCond .ge 11, 3) := by decide +kernel
theorem dJ9_floorMod_7cf53_10 : decode cJ9_floorMod_7cf53 10 = .ok (.iload_n 2, 1) := by decide +kernel
theorem dJ9_floorMod_7cf53_11 : decode cJ9_floorMod_7cf53 11 = .ok (.ifCond .eq 7, 3) := by decide +kernel
theorem dJ9_floorMod_7cf53_14 : decode cJ9_floorMod_7cf53 14 = .ok (.iload_n 2, 1) := by decide +kernel
theorem dJ9_floorMod_7cf53_15 : decode cJ9_floorMod_7cf53 15 = .ok (.iload_n 1, 1) := by decide +kernel
theorem dJ9_floorMod_7cf53_16 : decode cJ9_floorMod_7cf53 16 = .ok (.iadd, 1) := by decide +kernel
theorem dJ9_floorMod_7cf53_17 : decode cJ9_floorMod_7cf53 17 = .ok (.ireturn, 1) := by decide +kernel
theorem dJ9_floorMod_7cf53_18 : decode cJ9_floorMod_7cf53 18 = .ok (.iload_n 2, 1) := by decide +kernel
theorem dJ9_floorMod_7cf53_19 : decode cJ9_floorMod_7cf53 19 = .ok (.ireturn, 1) := by decide +kernel
theorem dJ9_abs_0f7a4_0 : decode cJ9_abs_0f7a4 0 = .ok (.iload_n 0, 1) := by decide +kernel
theorem dJ9_abs_0f7a4_1 : decode cJ9_abs_0f7a4 1 = .ok (.ifCond .ge 8, 3) := by decide +kernel
theorem dJ9_abs_0f7a4_4 : decode cJ9_abs_0f7a4 4 = .ok (.iload_n 0, 1) := by decide +kernel
theorem dJ9_abs_0f7a4_5 : decode cJ9_abs_0f7a4 5 = .ok (.ineg, 1) := by decide +kernel
theorem dJ9_abs_0f7a4_6 : decode cJ9_abs_0f7a4 6 = .ok (.goto 4, 3) := by decide +kernel
theorem dJ9_abs_0f7a4_9 : decode cJ9_abs_0f7a4 9 = .ok (.iload_n 0, 1) := by decide +kernel
theorem dJ9_abs_0f7a4_10 : decode cJ9_abs_0f7a4 10 = .ok (.ireturn, 1) := by decide +kernel
theorem dJ9_max_7cf53_0 : decode cJ9_max_7cf53 0 = .ok (.iload_n 0, 1) := by decide +kernel
theorem dJ9_max_7cf53_1 : decode cJ9_max_7cf53 1 = .ok (.iload_n 1, 1) := by decide +kernel
theorem dJ9_max_7cf53_2 : decode cJ9_max_7cf53 2 = .ok (.if_icmp .lt 7, 3) := by decide +kernel
theorem dJ9_max_7cf53_5 : decode cJ9_max_7cf53 5 = .ok (.iload_n 0, 1) := by decide +kernel
theorem dJ9_max_7cf53_6 : decode cJ9_max_7cf53 6 = .ok (.goto 4, 3) := by decide +kernel
theorem dJ9_max_7cf53_9 : decode cJ9_max_7cf53 9 = .ok (.iload_n 1, 1) := by decide +kernel
theorem dJ9_max_7cf53_10 : decode cJ9_max_7cf53 10 = .ok (.ireturn, 1) := by decide +kernel
theorem dJ9_min_7cf53_0 : decode cJ9_min_7cf53 0 = .ok (.iload_n 0, 1) := by decide +kernel
theorem dJ9_min_7cf53_1 : decode cJ9_min_7cf53 1 = .ok (.iload_n 1, 1) := by decide +kernel
theorem dJ9_min_7cf53_2 : decode cJ9_min_7cf53 2 = .ok (.if_icmp .gt 7, 3) := by decide +kernel
theorem dJ9_min_7cf53_5 : decode cJ9_min_7cf53 5 = .ok (.iload_n 0, 1) := by decide +kernel
theorem dJ9_min_7cf53_6 : decode cJ9_min_7cf53 6 = .ok (.goto 4, 3) := by decide +kernel
theorem dJ9_min_7cf53_9 : decode cJ9_min_7cf53 9 = .ok (.iload_n 1, 1) := by decide +kernel
theorem dJ9_min_7cf53_10 : decode cJ9_min_7cf53 10 = .ok (.ireturn, 1) := by decide +kernel
set_option maxRecDepth 20000 in
theorem ggJ0_length_8abf5_J0_coder_7d493 : GoodIn wsJ0_length_8abf5 wsJ0_coder_7d493 := goodIn_r _ [6, 7, 8] (by decide +kernel) (by decide +kernel)
set_option maxRecDepth 20000 in
theorem gJ0_length_8abf5_J0_coder_7d493 : GoodIn wsJ0_length_8abf5 (wsV RJ0 335 RJ0 yJ0_coder_7d493 wsJ0_coder_7d493) := goodIn_app (goodIn_of _ (by decide +kernel)) ggJ0_length_8abf5_J0_coder_7d493
theorem dJ0_length_8abf5_0 : decode cJ0_length_8abf5 0 = .ok (.aload_n 0, 1) := by decide +kernel
theorem dJ0_length_8abf5_1 : decode cJ0_length_8abf5 1 = .ok (.getfield 9, 3) := by decide +kernel
theorem dJ0_length_8abf5_4 : decode cJ0_length_8abf5 4 = .ok (.arraylength, 1) := by decide +kernel
theorem dJ0_length_8abf5_5 : decode cJ0_length_8abf5 5 = .ok (.aload_n 0, 1) := by decide +kernel
theorem dJ0_length_8abf5_6 : decode cJ0_length_8abf5 6 = .ok (.invokevirtual 335, 3) := by decide +kernel
theorem dJ0_length_8abf5_9 : decode cJ0_length_8abf5 9 = .ok (.ishr, 1) := by decide +kernel
theorem dJ0_length_8abf5_10 : decode cJ0_length_8abf5 10 = .ok (.ireturn, 1) := by decide +kernel
set_option maxRecDepth 20000 in
theorem ggJ0_charAt_5068e_J0_isLatin1_aae02 : GoodIn wsJ0_charAt_5068e wsJ0_isLatin1_aae02 := goodIn_r _ [6, 7, 8] (by decide +kernel) (by decide +kernel)
set_option maxRecDepth 20000 in
theorem gJ0_charAt_5068e_J0_isLatin1_aae02 : GoodIn wsJ0_charAt_5068e (wsV RJ0 492 RJ0 yJ0_isLatin1_aae02 wsJ0_isLatin1_aae02) := goodIn_app (goodIn_of _ (by decide +kernel)) ggJ0_charAt_5068e_J0_isLatin1_aae02
set_option maxRecDepth 20000 in
theorem ggJ0_charAt_5068e_J1_charAt_3b067 : GoodIn wsJ0_charAt_5068e wsJ1_charAt_3b067 := goodIn_r _ [12, 13, 14, 5, 15, 16, 17, 18, 19, 20] (by decide +kernel) (by decide +kernel)
set_option maxRecDepth 20000 in
theorem gJ0_charAt_5068e_J1_charAt_3b067 : GoodIn wsJ0_charAt_5068e (va_wsS RJ0 495 yJ1_charAt_3b067 wsJ1_charAt_3b067) := goodIn_app (goodIn_of _ (by decide +kernel)) ggJ0_charAt_5068e_J1_charAt_3b067
set_option maxRecDepth 20000 in
theorem ggJ0_charAt_5068e_J2_charAt_3b067 : GoodIn wsJ0_charAt_5068e wsJ2_charAt_3b067 := goodIn_r _ [24, 25, 26, 23, 27, 28, 29, 30, 31, 14, 5, 15, 16, 17, 18, 19, 20, 32, 33, 34, 35, 36, 37] (by decide +kernel) (by decide +kernel)
set_option maxRecDepth 20000 in
theorem gJ0_charAt_5068e_J2_charAt_3b067 : GoodIn wsJ0_charAt_5068e (va_wsS RJ0 498 yJ2_charAt_3b067 wsJ2_charAt_3b067) := goodIn_app (goodIn_of _ (by decide +kernel)) ggJ0_charAt_5068e_J2_charAt_3b067
theorem dJ0_charAt_5068e_0 : decode cJ0_charAt_5068e 0 = .ok (.aload_n 0, 1) := by decide +kernel
theorem dJ0_charAt_5068e_1 : decode cJ0_charAt_5068e 1 = .ok (.invokevirtual 492, 3) := by decide +kernel
theorem dJ0_charAt_5068e_4 : decode cJ0_charAt_5068e 4 = .ok (.ifCond .eq 12, 3) := by decide +kernel
theorem dJ0_charAt_5068e_7 : decode cJ0_charAt_5068e 7 = .ok (.aload_n 0, 1) := by decide +kernel
theorem dJ0_charAt_5068e_8 : decode cJ0_charAt_5068e 8 = .ok (.getfield 9, 3) := by decide +kernel
theorem dJ0_charAt_5068e_11 : decode cJ0_charAt_5068e 11 = .ok (.iload_n 1, 1) := by decide +kernel
theorem dJ0_charAt_5068e_12 : decode cJ0_charAt_5068e 12 = .ok (.invokestatic 495, 3) := by decide +kernel
theorem dJ0_charAt_5068e_15 : decode cJ0_charAt_5068e 15 = .ok (.ireturn, 1) := by decide +kernel
theorem dJ0_charAt_5068e_16 : decode cJ0_charAt_5068e 16 = .ok (.aload_n 0, 1) := by decide +kernel
theorem dJ0_charAt_5068e_17 : decode cJ0_charAt_5068e 17 = .ok (.getfield 9, 3) := by decide +kernel
theorem dJ0_charAt_5068e_20 : decode cJ0_charAt_5068e 20 = .ok (.iload_n 1, 1) := by decide +kernel
theorem dJ0_charAt_5068e_21 : decode cJ0_charAt_5068e 21 = .ok (.invokestatic 498, 3) := by decide +kernel
theorem dJ0_charAt_5068e_24 : decode cJ0_charAt_5068e 24 = .ok (.ireturn, 1) := by decide +kernel
theorem dJ0_coder_7d493_0 : decode cJ0_coder_7d493 0 = .ok (.getstatic 38, 3) := by decide +kernel
theorem dJ0_coder_7d493_3 : decode cJ0_coder_7d493 3 = .ok (.ifCond .eq 10, 3) := by decide +kernel
theorem dJ0_coder_7d493_6 : decode cJ0_coder_7d493 6 = .ok (.aload_n 0, 1) := by decide +kernel
theorem dJ0_coder_7d493_7 : decode cJ0_coder_7d493 7 = .ok (.getfield 15, 3) := by decide +kernel
theorem dJ0_coder_7d493_10 : decode cJ0_coder_7d493 10 = .ok (.goto 4, 3) := by decide +kernel
theorem dJ0_coder_7d493_13 : decode cJ0_coder_7d493 13 = .ok (.iconst 1, 1) := by decide +kernel
theorem dJ0_coder_7d493_14 : decode cJ0_coder_7d493 14 = .ok (.ireturn, 1) := by decide +kernel
theorem dJ0_isLatin1_aae02_0 : decode cJ0_isLatin1_aae02 0 = .ok (.getstatic 38, 3) := by decide +kernel
theorem dJ0_isLatin1_aae02_3 : decode cJ0_isLatin1_aae02 3 = .ok (.ifCond .eq 14, 3) := by decide +kernel
theorem dJ0_isLatin1_aae02_6 : decode cJ0_isLatin1_aae02 6 = .ok (.aload_n 0, 1) := by decide +kernel
theorem dJ0_isLatin1_aae02_7 : decode cJ0_isLatin1_aae02 7 = .ok (.getfield 15, 3) := by decide +kernel
theorem dJ0_isLatin1_aae02_10 : decode cJ0_isLatin1_aae02 10 = .ok (.ifCond .ne 7, 3) := by decide +kernel
theorem dJ0_isLatin1_aae02_13 : decode cJ0_isLatin1_aae02 13 = .ok (.iconst 1, 1) := by decide +kernel
theorem dJ0_isLatin1_aae02_14 : decode cJ0_isLatin1_aae02 14 = .ok (.goto 4, 3) := by decide +kernel
theorem dJ0_isLatin1_aae02_17 : decode cJ0_isLatin1_aae02 17 = .ok (.iconst 0, 1) := by decide +kernel
theorem dJ0_isLatin1_aae02_18 : decode cJ0_isLatin1_aae02 18 = .ok (.ireturn, 1) := by decide +kernel
set_option maxRecDepth 20000 in
theorem ggJ0_checkIndex_df160_J3_checkIndex_8e157 : GoodIn wsJ0_checkIndex_df160 wsJ3_checkIndex_8e157 := goodIn_r _ [5] (by decide +kernel) (by decide +kernel)
set_option maxRecDepth 20000 in
theorem gJ0_checkIndex_df160_J3_checkIndex_8e157 : GoodIn wsJ0_checkIndex_df160 (va_wsS RJ0 1059 yJ3_checkIndex_8e157 wsJ3_checkIndex_8e157) := goodIn_app (goodIn_of _ (by decide +kernel)) ggJ0_checkIndex_df160_J3_checkIndex_8e157
theorem dJ0_checkIndex_df160_0 : decode cJ0_checkIndex_df160 0 = .ok (.iload_n 0, 1) := by decide +kernel
theorem dJ0_checkIndex_df160_1 : decode cJ0_checkIndex_df160 1 = .ok (.iload_n 1, 1) := by decide +kernel
theorem dJ0_checkIndex_df160_2 : decode cJ0_checkIndex_df160 2 = .ok (.getstatic 1053, 3) := by decide +kernel
theorem dJ0_checkIndex_df160_5 : decode cJ0_checkIndex_df160 5 = .ok (.invokestatic 1059, 3) := by decide +kernel
theorem dJ0_checkIndex_df160_8 : decode cJ0_checkIndex_df160 8 = .ok (.pop, 1) := by decide +kernel
theorem dJ0_checkIndex_df160_9 : decode cJ0_checkIndex_df160 9 = .ok (.return_, 1) := by decide +kernel
set_option maxRecDepth 20000 in
theorem ggJ1_charAt_3b067_J0_checkIndex_df160 : GoodIn wsJ1_charAt_3b067 wsJ0_checkIndex_df160 := goodIn_r _ [4, 5, 6, 7, 8, 9] (by decide +kernel) (by decide +kernel)
set_option maxRecDepth 20000 in
theorem gJ1_charAt_3b067_J0_checkIndex_df160 : GoodIn wsJ1_charAt_3b067 (va_wsS RJ1 9 yJ0_checkIndex_df160 wsJ0_checkIndex_df160) := goodIn_app (goodIn_of _ (by decide +kernel)) ggJ1_charAt_3b067_J0_checkIndex_df160
theorem dJ1_charAt_3b067_0 : decode cJ1_charAt_3b067 0 = .ok (.iload_n 1, 1) := by decide +kernel
theorem dJ1_charAt_3b067_1 : decode cJ1_charAt_3b067 1 = .ok (.aload_n 0, 1) := by decide +kernel
theorem dJ1_charAt_3b067_2 : decode cJ1_charAt_3b067 2 = .ok (.arraylength, 1) := by decide +kernel
theorem dJ1_charAt_3b067_3 : decode cJ1_charAt_3b067 3 = .ok (.invokestatic 9, 3) := by decide +kernel
theorem dJ1_charAt_3b067_6 : decode cJ1_charAt_3b067 6 = .ok (.aload_n 0, 1) := by decide +kernel
theorem dJ1_charAt_3b067_7 : decode cJ1_charAt_3b067 7 = .ok (.iload_n 1, 1) := by decide +kernel
theorem dJ1_charAt_3b067_8 : decode cJ1_charAt_3b067 8 = .ok (.baload, 1) := by decide +kernel
theorem dJ1_charAt_3b067_9 : decode cJ1_charAt_3b067 9 = .ok (.sipush 255, 3) := by decide +kernel
theorem dJ1_charAt_3b067_12 : decode cJ1_charAt_3b067 12 = .ok (.iand, 1) := by decide +kernel
theorem dJ1_charAt_3b067_13 : decode cJ1_charAt_3b067 13 = .ok (.i2c, 1) := by decide +kernel
theorem dJ1_charAt_3b067_14 : decode cJ1_charAt_3b067 14 = .ok (.ireturn, 1) := by decide +kernel
set_option maxRecDepth 20000 in
theorem ggJ2_getChar_3b067_J2_length_9d52b : GoodIn wsJ2_getChar_3b067 wsJ2_length_9d52b := goodIn_r _ [7] (by decide +kernel) (by decide +kernel)
set_option maxRecDepth 20000 in
theorem gJ2_getChar_3b067_J2_length_9d52b : GoodIn wsJ2_getChar_3b067 (va_wsS RJ2 48 yJ2_length_9d52b wsJ2_length_9d52b) := goodIn_app (goodIn_of _ (by decide +kernel)) ggJ2_getChar_3b067_J2_length_9d52b
theorem dJ2_getChar_3b067_0 : decode cJ2_getChar_3b067 0 = .ok (.getstatic 44, 3) := by decide +kernel
theorem dJ2_getChar_3b067_3 : decode cJ2_getChar_3b067 3 = .ok (.ifCond .ne 25, 3) := by decide +kernel
theorem dJ2_getChar_3b067_6 : decode cJ2_getChar_3b067 6 = .ok (.iload_n 1, 1) := by decide +kernel
theorem dJ2_getChar_3b067_7 : decode cJ2_getChar_3b067 7 = .ok (.ifCond .lt 11, 3) := by decide +kernel
theorem dJ2_getChar_3b067_10 : decode cJ2_getChar_3b067 10 = .ok (.iload_n 1, 1) := by decide +kernel
theorem dJ2_getChar_3b067_11 : decode cJ2_getChar_3b067 11 = .ok (.aload_n 0, 1) := by decide +kernel
theorem dJ2_getChar_3b067_12 : decode cJ2_getChar_3b067 12 = .ok (.invokestatic 48, 3) := by decide +kernel
theorem dJ2_getChar_3b067_15 : decode cJ2_getChar_3b067 15 = .ok (.if_icmp .lt 13, 3) := by decide +kernel
theorem dJ2_getChar_3b067_18 : decode cJ2_getChar_3b067 18 = .ok (.new 52, 3) := by decide +kernel
theorem dJ2_getChar_3b067_21 : decode cJ2_getChar_3b067 21 = .ok (.dup, 1) := by decide +kernel
theorem dJ2_getChar_3b067_22 : decode cJ2_getChar_3b067 22 = .ok (.ldc 54, 2) := by decide +kernel
theorem dJ2_getChar_3b067_24 : decode cJ2_getChar_3b067 24 = .ok (.invokespecial 56, 3) := by decide +kernel
theorem dJ2_getChar_3b067_27 : decode cJ2_getChar_3b067 27 = .ok (.athrow, 1) := by decide +kernel
theorem dJ2_getChar_3b067_28 : decode cJ2_getChar_3b067 28 = .ok (.iload_n 1, 1) := by decide +kernel
theorem dJ2_getChar_3b067_29 : decode cJ2_getChar_3b067 29 = .ok (.iconst 1, 1) := by decide +kernel
theorem dJ2_getChar_3b067_30 : decode cJ2_getChar_3b067 30 = .ok (.ishl, 1) := by decide +kernel
theorem dJ2_getChar_3b067_31 : decode cJ2_getChar_3b067 31 = .ok (.istore_n 1, 1) := by decide +kernel
theorem dJ2_getChar_3b067_32 : decode cJ2_getChar_3b067 32 = .ok (.aload_n 0, 1) := by decide +kernel
theorem dJ2_getChar_3b067_33 : decode cJ2_getChar_3b067 33 = .ok (.iload_n 1, 1) := by decide +kernel
theorem dJ2_getChar_3b067_34 : decode cJ2_getChar_3b067 34 = .ok (.iinc 1 1, 3) := by decide +kernel
theorem dJ2_getChar_3b067_37 : decode cJ2_getChar_3b067 37 = .ok (.baload, 1) := by decide +kernel
theorem dJ2_getChar_3b067_38 : decode cJ2_getChar_3b067 38 = .ok (.sipush 255, 3) := by decide +kernel
theorem dJ2_getChar_3b067_41 : decode cJ2_getChar_3b067 41 = .ok (.iand, 1) := by decide +kernel
theorem dJ2_getChar_3b067_42 : decode cJ2_getChar_3b067 42 = .ok (.getstatic 59, 3) := by decide +kernel
theorem dJ2_getChar_3b067_45 : decode cJ2_getChar_3b067 45 = .ok (.ishl, 1) := by decide +kernel
theorem dJ2_getChar_3b067_46 : decode cJ2_getChar_3b067 46 = .ok (.aload_n 0, 1) := by decide +kernel
theorem dJ2_getChar_3b067_47 : decode cJ2_getChar_3b067 47 = .ok (.iload_n 1, 1) := by decide +kernel
theorem dJ2_getChar_3b067_48 : decode cJ2_getChar_3b067 48 = .ok (.baload, 1) := by decide +kernel
theorem dJ2_getChar_3b067_49 : decode cJ2_getChar_3b067 49 = .ok (.sipush 255, 3) := by decide +kernel
theorem dJ2_getChar_3b067_52 : decode cJ2_getChar_3b067 52 = .ok (.iand, 1) := by decide +kernel
theorem dJ2_getChar_3b067_53 : decode cJ2_getChar_3b067 53 = .ok (.getstatic 63, 3) := by decide +kernel
theorem dJ2_getChar_3b067_56 : decode cJ2_getChar_3b067 56 = .ok (.ishl, 1) := by decide +kernel
theorem dJ2_getChar_3b067_57 : decode cJ2_getChar_3b067 57 = .ok (.ior, 1) := by decide +kernel
theorem dJ2_getChar_3b067_58 : decode cJ2_getChar_3b067 58 = .ok (.i2c, 1) := by decide +kernel
theorem dJ2_getChar_3b067_59 : decode cJ2_getChar_3b067 59 = .ok (.ireturn, 1) := by decide +kernel
theorem dJ2_length_9d52b_0 : decode cJ2_length_9d52b 0 = .ok (.aload_n 0, 1) := by decide +kernel
theorem dJ2_length_9d52b_1 : decode cJ2_length_9d52b 1 = .ok (.arraylength, 1) := by decide +kernel
theorem dJ2_length_9d52b_2 : decode cJ2_length_9d52b 2 = .ok (.iconst 1, 1) := by decide +kernel
theorem dJ2_length_9d52b_3 : decode cJ2_length_9d52b 3 = .ok (.ishr, 1) := by decide +kernel
theorem dJ2_length_9d52b_4 : decode cJ2_length_9d52b 4 = .ok (.ireturn, 1) := by decide +kernel
set_option maxRecDepth 20000 in
theorem ggJ2_charAt_3b067_J2_checkIndex_2214a : GoodIn wsJ2_charAt_3b067 wsJ2_checkIndex_2214a := goodIn_r _ [4, 5, 6, 3, 7, 8, 9, 10, 11, 12, 13, 14, 15, 16] (by decide +kernel) (by decide +kernel)
set_option maxRecDepth 20000 in
theorem gJ2_charAt_3b067_J2_checkIndex_2214a : GoodIn wsJ2_charAt_3b067 (va_wsS RJ2 67 yJ2_checkIndex_2214a wsJ2_checkIndex_2214a) := goodIn_app (goodIn_of _ (by decide +kernel)) ggJ2_charAt_3b067_J2_checkIndex_2214a
set_option maxRecDepth 20000 in
theorem ggJ2_charAt_3b067_J2_getChar_3b067 : GoodIn wsJ2_charAt_3b067 wsJ2_getChar_3b067 := goodIn_r _ [19, 20, 21, 22, 5, 6, 3, 7] (by decide +kernel) (by decide +kernel)
set_option maxRecDepth 20000 in
theorem gJ2_charAt_3b067_J2_getChar_3b067 : GoodIn wsJ2_charAt_3b067 (va_wsS RJ2 71 yJ2_getChar_3b067 wsJ2_getChar_3b067) := goodIn_app (goodIn_of _ (by decide +kernel)) ggJ2_charAt_3b067_J2_getChar_3b067
theorem dJ2_charAt_3b067_0 : decode cJ2_charAt_3b067 0 = .ok (.iload_n 1, 1) := by decide +kernel
theorem dJ2_charAt_3b067_1 : decode cJ2_charAt_3b067 1 = .ok (.aload_n 0, 1) := by decide +kernel
theorem dJ2_charAt_3b067_2 : decode cJ2_charAt_3b067 2 = .ok (.invokestatic 67, 3) := by decide +kernel
theorem dJ2_charAt_3b067_5 : decode cJ2_charAt_3b067 5 = .ok (.aload_n 0, 1) := by decide +kernel
theorem dJ2_charAt_3b067_6 : decode cJ2_charAt_3b067 6 = .ok (.iload_n 1, 1) := by decide +kernel
theorem dJ2_charAt_3b067_7 : decode cJ2_charAt_3b067 7 = .ok (.invokestatic 71, 3) := by decide +kernel
theorem dJ2_charAt_3b067_10 : decode cJ2_charAt_3b067 10 = .ok (.ireturn, 1) := by decide +kernel
set_option maxRecDepth 20000 in
theorem ggJ2_checkIndex_2214a_J2_length_9d52b : GoodIn wsJ2_checkIndex_2214a wsJ2_length_9d52b := goodIn_r _ [4] (by decide +kernel) (by decide +kernel)
set_option maxRecDepth 20000 in
theorem gJ2_checkIndex_2214a_J2_length_9d52b : GoodIn wsJ2_checkIndex_2214a (va_wsS RJ2 48 yJ2_length_9d52b wsJ2_length_9d52b) := goodIn_app (goodIn_of _ (by decide +kernel)) ggJ2_checkIndex_2214a_J2_length_9d52b
set_option maxRecDepth 20000 in
theorem ggJ2_checkIndex_2214a_J0_checkIndex_df160 : GoodIn wsJ2_checkIndex_2214a wsJ0_checkIndex_df160 := goodIn_r _ [8, 9, 10, 11, 12, 13] (by decide +kernel) (by decide +kernel)
set_option maxRecDepth 20000 in
theorem gJ2_checkIndex_2214a_J0_checkIndex_df160 : GoodIn wsJ2_checkIndex_2214a (va_wsS RJ2 414 yJ0_checkIndex_df160 wsJ0_checkIndex_df160) := goodIn_app (goodIn_of _ (by decide +kernel)) ggJ2_checkIndex_2214a_J0_checkIndex_df160
theorem dJ2_checkIndex_2214a_0 : decode cJ2_checkIndex_2214a 0 = .ok (.iload_n 0, 1) := by decide +kernel
theorem dJ2_checkIndex_2214a_1 : decode cJ2_checkIndex_2214a 1 = .ok (.aload_n 1, 1) := by decide +kernel
theorem dJ2_checkIndex_2214a_2 : decode cJ2_checkIndex_2214a 2 = .ok (.invokestatic 48, 3) := by decide +kernel
theorem dJ2_checkIndex_2214a_5 : decode cJ2_checkIndex_2214a 5 = .ok (.invokestatic 414, 3) := by decide +kernel
theorem dJ2_checkIndex_2214a_8 : decode cJ2_checkIndex_2214a 8 = .ok (.return_, 1) := by decide +kernel
theorem dJ7_fill_53178_0 : decode cJ7_fill_53178 0 = .ok (.iconst 0, 1) := by decide +kernel
theorem dJ7_fill_53178_1 : decode cJ7_fill_53178 1 = .ok (.istore_n 2, 1) := by decide +kernel
theorem dJ7_fill_53178_2 : decode cJ7_fill_53178 2 = .ok (.aload_n 0, 1) := by decide +kernel
theorem dJ7_fill_53178_3 : decode cJ7_fill_53178 3 = .ok (.arraylength, 1) := by decide +kernel
theorem dJ7_fill_53178_4 : decode cJ7_fill_53178 4 = .ok (.istore_n 3, 1) := by decide +kernel
theorem dJ7_fill_53178_5 : decode cJ7_fill_53178 5 = .ok (.iload_n 2, 1) := by decide +kernel
theorem dJ7_fill_53178_6 : decode cJ7_fill_53178 6 = .ok (.iload_n 3, 1) := by decide +kernel
theorem dJ7_fill_53178_7 : decode cJ7_fill_53178 7 = .ok (.if_icmp .ge 13, 3) := by decide +kernel
theorem dJ7_fill_53178_10 : decode cJ7_fill_53178 10 = .ok (.aload_n 0, 1) := by decide +kernel
theorem dJ7_fill_53178_11 : decode cJ7_fill_53178 11 = .ok (.iload_n 2, 1) := by decide +kernel
theorem dJ7_fill_53178_12 : decode cJ7_fill_53178 12 = .ok (.iload_n 1, 1) := by decide +kernel
theorem dJ7_fill_53178_13 : decode cJ7_fill_53178 13 = .ok (.iastore, 1) := by decide +kernel
theorem dJ7_fill_53178_14 : decode cJ7_fill_53178 14 = .ok (.iinc 2 1, 3) := by decide +kernel
theorem dJ7_fill_53178_17 : decode cJ7_fill_53178 17 = .ok (.goto (-12), 3) := by decide +kernel
theorem dJ7_fill_53178_20 : decode cJ7_fill_53178 20 = .ok (.return_, 1) := by decide +kernel
theorem dJ3_checkIndex_8e157_0 : decode cJ3_checkIndex_8e157 0 = .ok (.iload_n 0, 1) := by decide +kernel
theorem dJ3_checkIndex_8e157_1 : decode cJ3_checkIndex_8e157 1 = .ok (.ifCond .lt 8, 3) := by decide +kernel
theorem dJ3_checkIndex_8e157_4 : decode cJ3_checkIndex_8e157 4 = .ok (.iload_n 0, 1) := by decide +kernel
theorem dJ3_checkIndex_8e157_5 : decode cJ3_checkIndex_8e157 5 = .ok (.iload_n 1, 1) := by decide +kernel
theorem dJ3_checkIndex_8e157_6 : decode cJ3_checkIndex_8e157 6 = .ok (.if_icmp .lt 10, 3) := by decide +kernel
theorem dJ3_checkIndex_8e157_9 : decode cJ3_checkIndex_8e157 9 = .ok (.aload_n 2, 1) := by decide +kernel
theorem dJ3_checkIndex_8e157_10 : decode cJ3_checkIndex_8e157 10 = .ok (.iload_n 0, 1) := by decide +kernel
theorem dJ3_checkIndex_8e157_11 : decode cJ3_checkIndex_8e157 11 = .ok (.iload_n 1, 1) := by decide +kernel
theorem dJ3_checkIndex_8e157_12 : decode cJ3_checkIndex_8e157 12 = .ok (.invokestatic 95, 3) := by decide +kernel
theorem dJ3_checkIndex_8e157_15 : decode cJ3_checkIndex_8e157 15 = .ok (.athrow, 1) := by decide +kernel
theorem dJ3_checkIndex_8e157_16 : decode cJ3_checkIndex_8e157 16 = .ok (.iload_n 0, 1) := by decide +kernel
theorem dJ3_checkIndex_8e157_17 : decode cJ3_checkIndex_8e157 17 = .ok (.ireturn, 1) := by decide +kernel
