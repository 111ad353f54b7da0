theorem dX7_firstMeeting_25 : decode cX7_firstMeeting 25 = .ok (.isub, 1) := by decide +kernel
theorem dX7_firstMeeting_26 : decode cX7_firstMeeting 26 = .ok (.iload_n 3, 1) := by decide +kernel
theorem dX7_firstMeeting_27 : decode cX7_firstMeeting 27 = .ok (.idiv, 1) := by decide +kernel
theorem dX7_firstMeeting_28 : decode cX7_firstMeeting 28 = .ok (.istore 5, 2) := by decide +kernel
theorem dX7_firstMeeting_30 : decode cX7_firstMeeting 30 = .ok (.iload_n 1, 1) := by decide +kernel
theorem dX7_firstMeeting_31 : decode cX7_firstMeeting 31 = .ok (.ifCond .eq 13, 3) := by decide +kernel
theorem dX7_firstMeeting_34 : decode cX7_firstMeeting 34 = .ok (.iload 5, 2) := by decide +kernel
theorem dX7_firstMeeting_36 : decode cX7_firstMeeting 36 = .ok (.iconst 2, 1) := by decide +kernel
theorem dX7_firstMeeting_37 : decode cX7_firstMeeting 37 = .ok (.irem, 1) := by decide +kernel
theorem dX7_firstMeeting_38 : decode cX7_firstMeeting 38 = .ok (.ifCond .ne 6, 3) := by decide +kernel
theorem dX7_firstMeeting_41 : decode cX7_firstMeeting 41 = .ok (.iinc 5 1, 3) := by decide +kernel
theorem dX7_firstMeeting_44 : decode cX7_firstMeeting 44 = .ok (.iload 5, 2) := by decide +kernel
theorem dX7_firstMeeting_46 : decode cX7_firstMeeting 46 = .ok (.iload_n 0, 1) := by decide +kernel
theorem dX7_firstMeeting_47 : decode cX7_firstMeeting 47 = .ok (.if_icmp .ge 8, 3) := by decide +kernel
theorem dX7_firstMeeting_50 : decode cX7_firstMeeting 50 = .ok (.iload 5, 2) := by decide +kernel
theorem dX7_firstMeeting_52 : decode cX7_firstMeeting 52 = .ok (.goto 5, 3) := by decide +kernel
theorem dX7_firstMeeting_55 : decode cX7_firstMeeting 55 = .ok (.iload 4, 2) := by decide +kernel
theorem dX7_firstMeeting_57 : decode cX7_firstMeeting 57 = .ok (.ireturn, 1) := by decide +kernel
theorem dX7_isOfKind_0 : decode cX7_isOfKind 0 = .ok (.iload_n 1, 1) := by decide +kernel
theorem dX7_isOfKind_1 : decode cX7_isOfKind 1 = .ok (.ifCond .eq 8, 3) := by decide +kernel
theorem dX7_isOfKind_4 : decode cX7_isOfKind 4 = .ok (.iload_n 1, 1) := by decide +kernel
theorem dX7_isOfKind_5 : decode cX7_isOfKind 5 = .ok (.iload_n 0, 1) := by decide +kernel
theorem dX7_isOfKind_6 : decode cX7_isOfKind 6 = .ok (.if_icmp .ne 5, 3) := by decide +kernel
theorem dX7_isOfKind_9 : decode cX7_isOfKind 9 = .ok (.iconst 1, 1) := by decide +kernel
theorem dX7_isOfKind_10 : decode cX7_isOfKind 10 = .ok (.ireturn, 1) := by decide +kernel
theorem dX7_isOfKind_11 : decode cX7_isOfKind 11 = .ok (.iload_n 1, 1) := by decide +kernel
theorem dX7_isOfKind_12 : decode cX7_isOfKind 12 = .ok (.iconst 1, 1) := by decide +kernel
theorem dX7_isOfKind_13 : decode cX7_isOfKind 13 = .ok (.if_icmp .ne 21, 3) := by decide +kernel
theorem dX7_isOfKind_16 : decode cX7_isOfKind 16 = .ok (.iload_n 0, 1) := by decide +kernel
theorem dX7_isOfKind_17 : decode cX7_isOfKind 17 = .ok (.iconst 2, 1) := by decide +kernel
theorem dX7_isOfKind_18 : decode cX7_isOfKind 18 = .ok (.if_icmp .eq 8, 3) := by decide +kernel
theorem dX7_isOfKind_21 : decode cX7_isOfKind 21 = .ok (.iload_n 0, 1) := by decide +kernel
theorem dX7_isOfKind_22 : decode cX7_isOfKind 22 = .ok (.iconst 3, 1) := by decide +kernel
theorem dX7_isOfKind_23 : decode cX7_isOfKind 23 = .ok (.if_icmp .ne 7, 3) := by decide +kernel
theorem dX7_isOfKind_26 : decode cX7_isOfKind 26 = .ok (.iconst 1, 1) := by decide +kernel
theorem dX7_isOfKind_27 : decode cX7_isOfKind 27 = .ok (.goto 22, 3) := by decide +kernel
theorem dX7_isOfKind_30 : decode cX7_isOfKind 30 = .ok (.iconst 0, 1) := by decide +kernel
theorem dX7_isOfKind_31 : decode cX7_isOfKind 31 = .ok (.goto 18, 3) := by decide +kernel
theorem dX7_isOfKind_34 : decode cX7_isOfKind 34 = .ok (.iload_n 1, 1) := by decide +kernel
theorem dX7_isOfKind_35 : decode cX7_isOfKind 35 = .ok (.iconst 4, 1) := by decide +kernel
theorem dX7_isOfKind_36 : decode cX7_isOfKind 36 = .ok (.if_icmp .ne 12, 3) := by decide +kernel
theorem dX7_isOfKind_39 : decode cX7_isOfKind 39 = .ok (.iload_n 0, 1) := by decide +kernel
theorem dX7_isOfKind_40 : decode cX7_isOfKind 40 = .ok (.iconst 5, 1) := by decide +kernel
theorem dX7_isOfKind_41 : decode cX7_isOfKind 41 = .ok (.if_icmp .ne 7, 3) := by decide +kernel
theorem dX7_isOfKind_44 : decode cX7_isOfKind 44 = .ok (.iconst 1, 1) := by decide +kernel
theorem dX7_isOfKind_45 : decode cX7_isOfKind 45 = .ok (.goto 4, 3) := by decide +kernel
theorem dX7_isOfKind_48 : decode cX7_isOfKind 48 = .ok (.iconst 0, 1) := by decide +kernel
theorem dX7_isOfKind_49 : decode cX7_isOfKind 49 = .ok (.ireturn, 1) := by decide +kernel
theorem dX7_isRow_0 : decode cX7_isRow 0 = .ok (.iload_n 0, 1) := by decide +kernel
theorem dX7_isRow_1 : decode cX7_isRow 1 = .ok (.ifCond .lt 13, 3) := by decide +kernel
theorem dX7_isRow_4 : decode cX7_isRow 4 = .ok (.iload_n 0, 1) := by decide +kernel
theorem dX7_isRow_5 : decode cX7_isRow 5 = .ok (.bipush 8, 2) := by decide +kernel
theorem dX7_isRow_7 : decode cX7_isRow 7 = .ok (.if_icmp .ge 7, 3) := by decide +kernel
theorem dX7_isRow_10 : decode cX7_isRow 10 = .ok (.iconst 1, 1) := by decide +kernel
theorem dX7_isRow_11 : decode cX7_isRow 11 = .ok (.goto 4, 3) := by decide +kernel
theorem dX7_isRow_14 : decode cX7_isRow 14 = .ok (.iconst 0, 1) := by decide +kernel
theorem dX7_isRow_15 : decode cX7_isRow 15 = .ok (.ireturn, 1) := by decide +kernel
set_option maxRecDepth 20000 in
theorem ggX7_isMoment_X7_isWithin : GoodIn wsX7_isMoment wsX7_isWithin := goodIn_r _ [4] (by decide +kernel) (by decide +kernel)
set_option maxRecDepth 20000 in
theorem gX7_isMoment_X7_isWithin : GoodIn wsX7_isMoment (va_wsS RX7 71 yX7_isWithin wsX7_isWithin) := goodIn_app (goodIn_of _ (by decide +kernel)) ggX7_isMoment_X7_isWithin
theorem dX7_isMoment_0 : decode cX7_isMoment 0 = .ok (.iload_n 1, 1) := by decide +kernel
theorem dX7_isMoment_1 : decode cX7_isMoment 1 = .ok (.iconst 1, 1) := by decide +kernel
theorem dX7_isMoment_2 : decode cX7_isMoment 2 = .ok (.sipush 9999, 3) := by decide +kernel
theorem dX7_isMoment_5 : decode cX7_isMoment 5 = .ok (.invokestatic 71, 3) := by decide +kernel
theorem dX7_isMoment_8 : decode cX7_isMoment 8 = .ok (.ifCond .eq 18, 3) := by decide +kernel
theorem dX7_isMoment_11 : decode cX7_isMoment 11 = .ok (.iload_n 0, 1) := by decide +kernel
theorem dX7_isMoment_12 : decode cX7_isMoment 12 = .ok (.iconst 0, 1) := by decide +kernel
theorem dX7_isMoment_13 : decode cX7_isMoment 13 = .ok (.iload_n 1, 1) := by decide +kernel
theorem dX7_isMoment_14 : decode cX7_isMoment 14 = .ok (.iconst 1, 1) := by decide +kernel
theorem dX7_isMoment_15 : decode cX7_isMoment 15 = .ok (.isub, 1) := by decide +kernel
theorem dX7_isMoment_16 : decode cX7_isMoment 16 = .ok (.invokestatic 71, 3) := by decide +kernel
theorem dX7_isMoment_19 : decode cX7_isMoment 19 = .ok (.ifCond .eq 7, 3) := by decide +kernel
theorem dX7_isMoment_22 : decode cX7_isMoment 22 = .ok (.iconst 1, 1) := by decide +kernel
theorem dX7_isMoment_23 : decode cX7_isMoment 23 = .ok (.goto 4, 3) := by decide +kernel
theorem dX7_isMoment_26 : decode cX7_isMoment 26 = .ok (.iconst 0, 1) := by decide +kernel
theorem dX7_isMoment_27 : decode cX7_isMoment 27 = .ok (.ireturn, 1) := by decide +kernel
theorem dX7_isWithin_0 : decode cX7_isWithin 0 = .ok (.iload_n 1, 1) := by decide +kernel
theorem dX7_isWithin_1 : decode cX7_isWithin 1 = .ok (.iload_n 0, 1) := by decide +kernel
theorem dX7_isWithin_2 : decode cX7_isWithin 2 = .ok (.if_icmp .gt 12, 3) := by decide +kernel
theorem dX7_isWithin_5 : decode cX7_isWithin 5 = .ok (.iload_n 0, 1) := by decide +kernel
theorem dX7_isWithin_6 : decode cX7_isWithin 6 = .ok (.iload_n 2, 1) := by decide +kernel
theorem dX7_isWithin_7 : decode cX7_isWithin 7 = .ok (.if_icmp .gt 7, 3) := by decide +kernel
theorem dX7_isWithin_10 : decode cX7_isWithin 10 = .ok (.iconst 1, 1) := by decide +kernel
theorem dX7_isWithin_11 : decode cX7_isWithin 11 = .ok (.goto 4, 3) := by decide +kernel
theorem dX7_isWithin_14 : decode cX7_isWithin 14 = .ok (.iconst 0, 1) := by decide +kernel
theorem dX7_isWithin_15 : decode cX7_isWithin 15 = .ok (.ireturn, 1) := by decide +kernel
set_option maxRecDepth 20000 in
theorem ggX7_rest_J9_floorMod_7cf53 : GoodIn wsX7_rest wsJ9_floorMod_7cf53 := goodIn_r _ [4] (by decide +kernel) (by decide +kernel)
set_option maxRecDepth 20000 in
theorem gX7_rest_J9_floorMod_7cf53 : GoodIn wsX7_rest (va_wsS RX7 305 yJ9_floorMod_7cf53 wsJ9_floorMod_7cf53) := goodIn_app (goodIn_of _ (by decide +kernel)) ggX7_rest_J9_floorMod_7cf53
theorem dX7_rest_0 : decode cX7_rest 0 = .ok (.iload_n 1, 1) := by decide +kernel
theorem dX7_rest_1 : decode cX7_rest 1 = .ok (.iconst 1, 1) := by decide +kernel
theorem dX7_rest_2 : decode cX7_rest 2 = .ok (.if_icmp .ge 7, 3) := by decide +kernel
theorem dX7_rest_5 : decode cX7_rest 5 = .ok (.iconst 0, 1) := by decide +kernel
theorem dX7_rest_6 : decode cX7_rest 6 = .ok (.goto 8, 3) := by decide +kernel
theorem dX7_rest_9 : decode cX7_rest 9 = .ok (.iload_n 0, 1) := by decide +kernel
theorem dX7_rest_10 : decode cX7_rest 10 = .ok (.iload_n 1, 1) := by decide +kernel
theorem dX7_rest_11 : decode cX7_rest 11 = .ok (.invokestatic 305, 3) := by decide +kernel
theorem dX7_rest_14 : decode cX7_rest 14 = .ok (.ireturn, 1) := by decide +kernel
theorem dX7_common_0 : decode cX7_common 0 = .ok (.iload_n 0, 1) := by decide +kernel
theorem dX7_common_1 : decode cX7_common 1 = .ok (.istore_n 2, 1) := by decide +kernel
theorem dX7_common_2 : decode cX7_common 2 = .ok (.iload_n 1, 1) := by decide +kernel
theorem dX7_common_3 : decode cX7_common 3 = .ok (.istore_n 3, 1) := by decide +kernel
theorem dX7_common_4 : decode cX7_common 4 = .ok (.iconst 0, 1) := by decide +kernel
theorem dX7_common_5 : decode cX7_common 5 = .ok (.istore 4, 2) := by decide +kernel
theorem dX7_common_7 : decode cX7_common 7 = .ok (.iload 4, 2) := by decide +kernel
theorem dX7_common_9 : decode cX7_common 9 = .ok (.bipush 64, 2) := by decide +kernel
theorem dX7_common_11 : decode cX7_common 11 = .ok (.if_icmp .ge 23, 3) := by decide +kernel
theorem dX7_common_14 : decode cX7_common 14 = .ok (.iload_n 3, 1) := by decide +kernel
theorem dX7_common_15 : decode cX7_common 15 = .ok (.ifCond .le 19, 3) := by decide +kernel
theorem dX7_common_18 : decode cX7_common 18 = .ok (.iload_n 2, 1) := by decide +kernel
theorem dX7_common_19 : decode cX7_common 19 = .ok (.iload_n 3, 1) := by decide +kernel
theorem dX7_common_20 : decode cX7_common 20 = .ok (.irem, 1) := by decide +kernel
theorem dX7_common_21 : decode cX7_common 21 = .ok (.istore 5, 2) := by decide +kernel
theorem dX7_common_23 : decode cX7_common 23 = .ok (.iload_n 3, 1) := by decide +kernel
theorem dX7_common_24 : decode cX7_common 24 = .ok (.istore_n 2, 1) := by decide +kernel
theorem dX7_common_25 : decode cX7_common 25 = .ok (.iload 5, 2) := by decide +kernel
theorem dX7_common_27 : decode cX7_common 27 = .ok (.istore_n 3, 1) := by decide +kernel
theorem dX7_common_28 : decode cX7_common 28 = .ok (.iinc 4 1, 3) := by decide +kernel
theorem dX7_common_31 : decode cX7_common 31 = .ok (.goto (-24), 3) := by decide +kernel
theorem dX7_common_34 : decode cX7_common 34 = .ok (.iload_n 2, 1) := by decide +kernel
theorem dX7_common_35 : decode cX7_common 35 = .ok (.ireturn, 1) := by decide +kernel
set_option maxRecDepth 20000 in
theorem ggX7_part_X7_common : GoodIn wsX7_part wsX7_common := goodIn_r _ [4] (by decide +kernel) (by decide +kernel)
set_option maxRecDepth 20000 in
theorem gX7_part_X7_common : GoodIn wsX7_part (va_wsS RX7 232 yX7_common wsX7_common) := goodIn_app (goodIn_of _ (by decide +kernel)) ggX7_part_X7_common
theorem dX7_part_0 : decode cX7_part 0 = .ok (.iload_n 0, 1) := by decide +kernel
theorem dX7_part_1 : decode cX7_part 1 = .ok (.iload_n 1, 1) := by decide +kernel
theorem dX7_part_2 : decode cX7_part 2 = .ok (.invokestatic 232, 3) := by decide +kernel
theorem dX7_part_5 : decode cX7_part 5 = .ok (.istore_n 3, 1) := by decide +kernel
theorem dX7_part_6 : decode cX7_part 6 = .ok (.iload_n 3, 1) := by decide +kernel
theorem dX7_part_7 : decode cX7_part 7 = .ok (.iconst 1, 1) := by decide +kernel
theorem dX7_part_8 : decode cX7_part 8 = .ok (.if_icmp .ge 5, 3) := by decide +kernel
theorem dX7_part_11 : decode cX7_part 11 = .ok (.iconst 0, 1) := by decide +kernel
theorem dX7_part_12 : decode cX7_part 12 = .ok (.ireturn, 1) := by decide +kernel
theorem dX7_part_13 : decode cX7_part 13 = .ok (.iload_n 2, 1) := by decide +kernel
theorem dX7_part_14 : decode cX7_part 14 = .ok (.ifCond .ne 9, 3) := by decide +kernel
theorem dX7_part_17 : decode cX7_part 17 = .ok (.iload_n 0, 1) := by decide +kernel
theorem dX7_part_18 : decode cX7_part 18 = .ok (.iload_n 3, 1) := by decide +kernel
theorem dX7_part_19 : decode cX7_part 19 = .ok (.idiv, 1) := by decide +kernel
theorem dX7_part_20 : decode cX7_part 20 = .ok (.goto 6, 3) := by decide +kernel
theorem dX7_part_23 : decode cX7_part 23 = .ok (.iload_n 1, 1) := by decide +kernel
theorem dX7_part_24 : decode cX7_part 24 = .ok (.iload_n 3, 1) := by decide +kernel
theorem dX7_part_25 : decode cX7_part 25 = .ok (.idiv, 1) := by decide +kernel
theorem dX7_part_26 : decode cX7_part 26 = .ok (.ireturn, 1) := by decide +kernel
theorem dX8_init_0 : decode cX8_init 0 = .ok (.aload_n 0, 1) := by decide +kernel
theorem dX8_init_1 : decode cX8_init 1 = .ok (.invokespecial 1, 3) := by decide +kernel
theorem dX8_init_4 : decode cX8_init 4 = .ok (.aload_n 0, 1) := by decide +kernel
theorem dX8_init_5 : decode cX8_init 5 = .ok (.bipush 8, 2) := by decide +kernel
theorem dX8_init_7 : decode cX8_init 7 = .ok (.newarray .int, 2) := by decide +kernel
theorem dX8_init_9 : decode cX8_init 9 = .ok (.dup, 1) := by decide +kernel
theorem dX8_init_10 : decode cX8_init 10 = .ok (.iconst 0, 1) := by decide +kernel
theorem dX8_init_11 : decode cX8_init 11 = .ok (.iconst (-1), 1) := by decide +kernel
theorem dX8_init_12 : decode cX8_init 12 = .ok (.iastore, 1) := by decide +kernel
theorem dX8_init_13 : decode cX8_init 13 = .ok (.dup, 1) := by decide +kernel
theorem dX8_init_14 : decode cX8_init 14 = .ok (.iconst 1, 1) := by decide +kernel
theorem dX8_init_15 : decode cX8_init 15 = .ok (.iconst (-1), 1) := by decide +kernel
theorem dX8_init_16 : decode cX8_init 16 = .ok (.iastore, 1) := by decide +kernel
theorem dX8_init_17 : decode cX8_init 17 = .ok (.dup, 1) := by decide +kernel
theorem dX8_init_18 : decode cX8_init 18 = .ok (.iconst 2, 1) := by decide +kernel
theorem dX8_init_19 : decode cX8_init 19 = .ok (.iconst (-1), 1) := by decide +kernel
theorem dX8_init_20 : decode cX8_init 20 = .ok (.iastore, 1) := by decide +kernel
theorem dX8_init_21 : decode cX8_init 21 = .ok (.dup, 1) := by decide +kernel
theorem dX8_init_22 : decode cX8_init 22 = .ok (.iconst 3, 1) := by decide +kernel
theorem dX8_init_23 : decode cX8_init 23 = .ok (.iconst (-1), 1) := by decide +kernel
theorem dX8_init_24 : decode cX8_init 24 = .ok (.iastore, 1) := by decide +kernel
theorem dX8_init_25 : decode cX8_init 25 = .ok (.dup, 1) := by decide +kernel
theorem dX8_init_26 : decode cX8_init 26 = .ok (.iconst 4, 1) := by decide +kernel
theorem dX8_init_27 : decode cX8_init 27 = .ok (.iconst (-1), 1) := by decide +kernel
theorem dX8_init_28 : decode cX8_init 28 = .ok (.iastore, 1) := by decide +kernel
theorem dX8_init_29 : decode cX8_init 29 = .ok (.dup, 1) := by decide +kernel
theorem dX8_init_30 : decode cX8_init 30 = .ok (.iconst 5, 1) := by decide +kernel
theorem dX8_init_31 : decode cX8_init 31 = .ok (.iconst (-1), 1) := by decide +kernel
theorem dX8_init_32 : decode cX8_init 32 = .ok (.iastore, 1) := by decide +kernel
theorem dX8_init_33 : decode cX8_init 33 = .ok (.dup, 1) := by decide +kernel
theorem dX8_init_34 : decode cX8_init 34 = .ok (.bipush 6, 2) := by decide +kernel
theorem dX8_init_36 : decode cX8_init 36 = .ok (.iconst (-1), 1) := by decide +kernel
theorem dX8_init_37 : decode cX8_init 37 = .ok (.iastore, 1) := by decide +kernel
theorem dX8_init_38 : decode cX8_init 38 = .ok (.dup, 1) := by decide +kernel
theorem dX8_init_39 : decode cX8_init 39 = .ok (.bipush 7, 2) := by decide +kernel
theorem dX8_init_41 : decode cX8_init 41 = .ok (.iconst (-1), 1) := by decide +kernel
theorem dX8_init_42 : decode cX8_init 42 = .ok (.iastore, 1) := by decide +kernel
theorem dX8_init_43 : decode cX8_init 43 = .ok (.putfield 7, 3) := by decide +kernel
theorem dX8_init_46 : decode cX8_init 46 = .ok (.aload_n 0, 1) := by decide +kernel
theorem dX8_init_47 : decode cX8_init 47 = .ok (.bipush 8, 2) := by decide +kernel
theorem dX8_init_49 : decode cX8_init 49 = .ok (.newarray .int, 2) := by decide +kernel
theorem dX8_init_51 : decode cX8_init 51 = .ok (.putfield 13, 3) := by decide +kernel
theorem dX8_init_54 : decode cX8_init 54 = .ok (.aload_n 0, 1) := by decide +kernel
theorem dX8_init_55 : decode cX8_init 55 = .ok (.sipush 320, 3) := by decide +kernel
theorem dX8_init_58 : decode cX8_init 58 = .ok (.newarray .int, 2) := by decide +kernel
theorem dX8_init_60 : decode cX8_init 60 = .ok (.putfield 16, 3) := by decide +kernel
theorem dX8_init_63 : decode cX8_init 63 = .ok (.aload_n 0, 1) := by decide +kernel
theorem dX8_init_64 : decode cX8_init 64 = .ok (.bipush 14, 2) := by decide +kernel
theorem dX8_init_66 : decode cX8_init 66 = .ok (.newarray .int, 2) := by decide +kernel
theorem dX8_init_68 : decode cX8_init 68 = .ok (.putfield 19, 3) := by decide +kernel
theorem dX8_init_71 : decode cX8_init 71 = .ok (.aload_n 0, 1) := by decide +kernel
theorem dX8_init_72 : decode cX8_init 72 = .ok (.bipush 14, 2) := by decide +kernel
theorem dX8_init_74 : decode cX8_init 74 = .ok (.newarray .int, 2) := by decide +kernel
theorem dX8_init_76 : decode cX8_init 76 = .ok (.putfield 22, 3) := by decide +kernel
theorem dX8_init_79 : decode cX8_init 79 = .ok (.aload_n 0, 1) := by decide +kernel
theorem dX8_init_80 : decode cX8_init 80 = .ok (.sipush 336, 3) := by decide +kernel
theorem dX8_init_83 : decode cX8_init 83 = .ok (.newarray .int, 2) := by decide +kernel
theorem dX8_init_85 : decode cX8_init 85 = .ok (.putfield 25, 3) := by decide +kernel
theorem dX8_init_88 : decode cX8_init 88 = .ok (.aload_n 0, 1) := by decide +kernel
theorem dX8_init_89 : decode cX8_init 89 = .ok (.sipush 200, 3) := by decide +kernel
theorem dX8_init_92 : decode cX8_init 92 = .ok (.newarray .int, 2) := by decide +kernel
theorem dX8_init_94 : decode cX8_init 94 = .ok (.putfield 28, 3) := by decide +kernel
theorem dX8_init_97 : decode cX8_init 97 = .ok (.aload_n 0, 1) := by decide +kernel
theorem dX8_init_98 : decode cX8_init 98 = .ok (.iconst 2, 1) := by decide +kernel
theorem dX8_init_99 : decode cX8_init 99 = .ok (.newarray .boolean, 2) := by decide +kernel
theorem dX8_init_101 : decode cX8_init 101 = .ok (.putfield 31, 3) := by decide +kernel
theorem dX8_init_104 : decode cX8_init 104 = .ok (.aload_n 0, 1) := by decide +kernel
theorem dX8_init_105 : decode cX8_init 105 = .ok (.bipush 28, 2) := by decide +kernel
theorem dX8_init_107 : decode cX8_init 107 = .ok (.newarray .int, 2) := by decide +kernel
theorem dX8_init_109 : decode cX8_init 109 = .ok (.putfield 35, 3) := by decide +kernel
theorem dX8_init_112 : decode cX8_init 112 = .ok (.aload_n 0, 1) := by decide +kernel
theorem dX8_init_113 : decode cX8_init 113 = .ok (.bipush 16, 2) := by decide +kernel
theorem dX8_init_115 : decode cX8_init 115 = .ok (.newarray .int, 2) := by decide +kernel
theorem dX8_init_117 : decode cX8_init 117 = .ok (.putfield 38, 3) := by decide +kernel
theorem dX8_init_120 : decode cX8_init 120 = .ok (.return_, 1) := by decide +kernel
theorem dX8_in_0 : decode cX8_in 0 = .ok (.lload_n 0, 1) := by decide +kernel
theorem dX8_in_1 : decode cX8_in 1 = .ok (.lload_n 2, 1) := by decide +kernel
theorem dX8_in_2 : decode cX8_in 2 = .ok (.lcmp, 1) := by decide +kernel
theorem dX8_in_3 : decode cX8_in 3 = .ok (.ifCond .lt 14, 3) := by decide +kernel
theorem dX8_in_6 : decode cX8_in 6 = .ok (.lload_n 0, 1) := by decide +kernel
theorem dX8_in_7 : decode cX8_in 7 = .ok (.lload 4, 2) := by decide +kernel
theorem dX8_in_9 : decode cX8_in 9 = .ok (.lcmp, 1) := by decide +kernel
theorem dX8_in_10 : decode cX8_in 10 = .ok (.ifCond .gt 7, 3) := by decide +kernel
theorem dX8_in_13 : decode cX8_in 13 = .ok (.iconst 1, 1) := by decide +kernel
theorem dX8_in_14 : decode cX8_in 14 = .ok (.goto 4, 3) := by decide +kernel
theorem dX8_in_17 : decode cX8_in 17 = .ok (.iconst 0, 1) := by decide +kernel
theorem dX8_in_18 : decode cX8_in 18 = .ok (.ireturn, 1) := by decide +kernel
theorem dX8_finding_0 : decode cX8_finding 0 = .ok (.aload_n 0, 1) := by decide +kernel
theorem dX8_finding_1 : decode cX8_finding 1 = .ok (.iload_n 1, 1) := by decide +kernel
theorem dX8_finding_2 : decode cX8_finding 2 = .ok (.putfield 45, 3) := by decide +kernel
theorem dX8_finding_5 : decode cX8_finding 5 = .ok (.ldc 48, 2) := by decide +kernel
theorem dX8_finding_7 : decode cX8_finding 7 = .ok (.iload_n 1, 1) := by decide +kernel
theorem dX8_finding_8 : decode cX8_finding 8 = .ok (.isub, 1) := by decide +kernel
theorem dX8_finding_9 : decode cX8_finding 9 = .ok (.ireturn, 1) := by decide +kernel
set_option maxRecDepth 20000 in
theorem ggX8_isRow_X8_in : GoodIn wsX8_isRow wsX8_in := goodIn_r _ [5] (by decide +kernel) (by decide +kernel)
set_option maxRecDepth 20000 in
theorem gX8_isRow_X8_in : GoodIn wsX8_isRow (va_wsS RX8 51 yX8_in wsX8_in) := goodIn_app (goodIn_of _ (by decide +kernel)) ggX8_isRow_X8_in
theorem dX8_isRow_0 : decode cX8_isRow 0 = .ok (.iload_n 0, 1) := by decide +kernel
theorem dX8_isRow_1 : decode cX8_isRow 1 = .ok (.i2l, 1) := by decide +kernel
theorem dX8_isRow_2 : decode cX8_isRow 2 = .ok (.lconst 0, 1) := by decide +kernel
theorem dX8_isRow_3 : decode cX8_isRow 3 = .ok (.ldc2_w 49, 3) := by decide +kernel
theorem dX8_isRow_6 : decode cX8_isRow 6 = .ok (.invokestatic 51, 3) := by decide +kernel
theorem dX8_isRow_9 : decode cX8_isRow 9 = .ok (.ireturn, 1) := by decide +kernel
set_option maxRecDepth 20000 in
theorem ggX8_row_X8_isRow : GoodIn wsX8_row wsX8_isRow := goodIn_r _ [11, 12, 13, 14, 10, 15] (by decide +kernel) (by decide +kernel)
set_option maxRecDepth 20000 in
theorem gX8_row_X8_isRow : GoodIn wsX8_row (va_wsS RX8 55 yX8_isRow wsX8_isRow) := goodIn_app (goodIn_of _ (by decide +kernel)) ggX8_row_X8_isRow
set_option maxRecDepth 20000 in
theorem ggX8_row_X8_in : GoodIn wsX8_row wsX8_in := goodIn_r _ [15] (by decide +kernel) (by decide +kernel)
set_option maxRecDepth 20000 in
theorem gX8_row_X8_in : GoodIn wsX8_row (va_wsS RX8 51 yX8_in wsX8_in) := goodIn_app (goodIn_of _ (by decide +kernel)) ggX8_row_X8_in
set_option maxRecDepth 20000 in
theorem ggX8_row_X8_finding : GoodIn wsX8_row wsX8_finding := goodIn_r _ [19, 4, 20, 21, 22, 23, 24, 25, 26, 27, 28, 29, 30, 31, 32, 33, 34, 35, 36, 37, 38, 39, 40, 41, 42, 43, 44, 45] (by decide +kernel) (by decide +kernel)
set_option maxRecDepth 20000 in
theorem gX8_row_X8_finding : GoodIn wsX8_row (wsV RX8 62 RX8 yX8_finding wsX8_finding) := goodIn_app (goodIn_of _ (by decide +kernel)) ggX8_row_X8_finding
theorem dX8_row_0 : decode cX8_row 0 = .ok (.aload_n 0, 1) := by decide +kernel
theorem dX8_row_1 : decode cX8_row 1 = .ok (.iconst 0, 1) := by decide +kernel
theorem dX8_row_2 : decode cX8_row 2 = .ok (.putfield 41, 3) := by decide +kernel
theorem dX8_row_5 : decode cX8_row 5 = .ok (.iload_n 1, 1) := by decide +kernel
theorem dX8_row_6 : decode cX8_row 6 = .ok (.invokestatic 55, 3) := by decide +kernel
theorem dX8_row_9 : decode cX8_row 9 = .ok (.ifCond .eq 21, 3) := by decide +kernel
theorem dX8_row_12 : decode cX8_row 12 = .ok (.iload_n 2, 1) := by decide +kernel
theorem dX8_row_13 : decode cX8_row 13 = .ok (.i2l, 1) := by decide +kernel
theorem dX8_row_14 : decode cX8_row 14 = .ok (.lconst 0, 1) := by decide +kernel
theorem dX8_row_15 : decode cX8_row 15 = .ok (.ldc2_w 59, 3) := by decide +kernel
theorem dX8_row_18 : decode cX8_row 18 = .ok (.invokestatic 51, 3) := by decide +kernel
theorem dX8_row_21 : decode cX8_row 21 = .ok (.ifCond .eq 9, 3) := by decide +kernel
theorem dX8_row_24 : decode cX8_row 24 = .ok (.iload_n 3, 1) := by decide +kernel
theorem dX8_row_25 : decode cX8_row 25 = .ok (.bipush 40, 2) := by decide +kernel
theorem dX8_row_27 : decode cX8_row 27 = .ok (.if_icmp .le 6, 3) := by decide +kernel
theorem dX8_row_30 : decode cX8_row 30 = .ok (.ldc 61, 2) := by decide +kernel
theorem dX8_row_32 : decode cX8_row 32 = .ok (.ireturn, 1) := by decide +kernel
theorem dX8_row_33 : decode cX8_row 33 = .ok (.aload_n 0, 1) := by decide +kernel
theorem dX8_row_34 : decode cX8_row 34 = .ok (.iconst 0, 1) := by decide +kernel
theorem dX8_row_35 : decode cX8_row 35 = .ok (.putfield 45, 3) := by decide +kernel
theorem dX8_row_38 : decode cX8_row 38 = .ok (.iload_n 3, 1) := by decide +kernel
theorem dX8_row_39 : decode cX8_row 39 = .ok (.ifCond .ge 9, 3) := by decide +kernel
theorem dX8_row_42 : decode cX8_row 42 = .ok (.aload_n 0, 1) := by decide +kernel
theorem dX8_row_43 : decode cX8_row 43 = .ok (.iconst 4, 1) := by decide +kernel
theorem dX8_row_44 : decode cX8_row 44 = .ok (.invokevirtual 62, 3) := by decide +kernel
theorem dX8_row_47 : decode cX8_row 47 = .ok (.ireturn, 1) := by decide +kernel
theorem dX8_row_48 : decode cX8_row 48 = .ok (.aload_n 0, 1) := by decide +kernel
theorem dX8_row_49 : decode cX8_row 49 = .ok (.getfield 7, 3) := by decide +kernel
theorem dX8_row_52 : decode cX8_row 52 = .ok (.iload_n 1, 1) := by decide +kernel
theorem dX8_row_53 : decode cX8_row 53 = .ok (.iload_n 2, 1) := by decide +kernel
theorem dX8_row_54 : decode cX8_row 54 = .ok (.iastore, 1) := by decide +kernel
theorem dX8_row_55 : decode cX8_row 55 = .ok (.aload_n 0, 1) := by decide +kernel
theorem dX8_row_56 : decode cX8_row 56 = .ok (.getfield 13, 3) := by decide +kernel
theorem dX8_row_59 : decode cX8_row 59 = .ok (.iload_n 1, 1) := by decide +kernel
theorem dX8_row_60 : decode cX8_row 60 = .ok (.iload_n 3, 1) := by decide +kernel
theorem dX8_row_61 : decode cX8_row 61 = .ok (.iastore, 1) := by decide +kernel
theorem dX8_row_62 : decode cX8_row 62 = .ok (.iconst 0, 1) := by decide +kernel
theorem dX8_row_63 : decode cX8_row 63 = .ok (.istore 4, 2) := by decide +kernel
theorem dX8_row_65 : decode cX8_row 65 = .ok (.iload 4, 2) := by decide +kernel
theorem dX8_row_67 : decode cX8_row 67 = .ok (.bipush 40, 2) := by decide +kernel
theorem dX8_row_69 : decode cX8_row 69 = .ok (.if_icmp .ge 22, 3) := by decide +kernel
theorem dX8_row_72 : decode cX8_row 72 = .ok (.aload_n 0, 1) := by decide +kernel
theorem dX8_row_73 : decode cX8_row 73 = .ok (.getfield 16, 3) := by decide +kernel
theorem dX8_row_76 : decode cX8_row 76 = .ok (.bipush 40, 2) := by decide +kernel
theorem dX8_row_78 : decode cX8_row 78 = .ok (.iload_n 1, 1) := by decide +kernel
theorem dX8_row_79 : decode cX8_row 79 = .ok (.imul, 1) := by decide +kernel
theorem dX8_row_80 : decode cX8_row 80 = .ok (.iload 4, 2) := by decide +kernel
theorem dX8_row_82 : decode cX8_row 82 = .ok (.iadd, 1) := by decide +kernel
theorem dX8_row_83 : decode cX8_row 83 = .ok (.iconst 0, 1) := by decide +kernel
theorem dX8_row_84 : decode cX8_row 84 = .ok (.iastore, 1) := by decide +kernel
theorem dX8_row_85 : decode cX8_row 85 = .ok (.iinc 4 1, 3) := by decide +kernel
theorem dX8_row_88 : decode cX8_row 88 = .ok (.goto (-23), 3) := by decide +kernel
theorem dX8_row_91 : decode cX8_row 91 = .ok (.iload_n 3, 1) := by decide +kernel
theorem dX8_row_92 : decode cX8_row 92 = .ok (.ireturn, 1) := by decide +kernel
set_option maxRecDepth 20000 in
theorem ggX8_set_X8_isRow : GoodIn wsX8_set wsX8_isRow := goodIn_r _ [10, 11, 12, 13, 9, 14] (by decide +kernel) (by decide +kernel)
set_option maxRecDepth 20000 in
theorem gX8_set_X8_isRow : GoodIn wsX8_set (va_wsS RX8 55 yX8_isRow wsX8_isRow) := goodIn_app (goodIn_of _ (by decide +kernel)) ggX8_set_X8_isRow
set_option maxRecDepth 20000 in
theorem ggX8_set_X8_finding : GoodIn wsX8_set wsX8_finding := goodIn_r _ [18, 3, 19, 20, 21, 22, 23, 24, 25, 26, 27, 28, 29, 30, 31, 32, 33, 34, 35, 36, 37, 38, 39, 40, 41, 42, 43, 44] (by decide +kernel) (by decide +kernel)
set_option maxRecDepth 20000 in
theorem gX8_set_X8_finding : GoodIn wsX8_set (wsV RX8 62 RX8 yX8_finding wsX8_finding) := goodIn_app (goodIn_of _ (by decide +kernel)) ggX8_set_X8_finding
set_option maxRecDepth 20000 in
theorem ggX8_set_X8_in : GoodIn wsX8_set wsX8_in := goodIn_r _ [14] (by decide +kernel) (by decide +kernel)
set_option maxRecDepth 20000 in
theorem gX8_set_X8_in : GoodIn wsX8_set (va_wsS RX8 51 yX8_in wsX8_in) := goodIn_app (goodIn_of _ (by decide +kernel)) ggX8_set_X8_in
theorem dX8_set_0 : decode cX8_set 0 = .ok (.aload_n 0, 1) := by decide +kernel
theorem dX8_set_1 : decode cX8_set 1 = .ok (.iconst 0, 1) := by decide +kernel
theorem dX8_set_2 : decode cX8_set 2 = .ok (.putfield 41, 3) := by decide +kernel
theorem dX8_set_5 : decode cX8_set 5 = .ok (.iload_n 1, 1) := by decide +kernel
theorem dX8_set_6 : decode cX8_set 6 = .ok (.invokestatic 55, 3) := by decide +kernel
theorem dX8_set_9 : decode cX8_set 9 = .ok (.ifCond .ne 6, 3) := by decide +kernel
theorem dX8_set_12 : decode cX8_set 12 = .ok (.ldc 61, 2) := by decide +kernel
theorem dX8_set_14 : decode cX8_set 14 = .ok (.ireturn, 1) := by decide +kernel
theorem dX8_set_15 : decode cX8_set 15 = .ok (.aload_n 0, 1) := by decide +kernel
theorem dX8_set_16 : decode cX8_set 16 = .ok (.iconst 0, 1) := by decide +kernel
theorem dX8_set_17 : decode cX8_set 17 = .ok (.putfield 45, 3) := by decide +kernel
theorem dX8_set_20 : decode cX8_set 20 = .ok (.aload_n 0, 1) := by decide +kernel
theorem dX8_set_21 : decode cX8_set 21 = .ok (.getfield 7, 3) := by decide +kernel
theorem dX8_set_24 : decode cX8_set 24 = .ok (.iload_n 1, 1) := by decide +kernel
theorem dX8_set_25 : decode cX8_set 25 = .ok (.iaload, 1) := by decide +kernel
theorem dX8_set_26 : decode cX8_set 26 = .ok (.ifCond .ge 9, 3) := by decide +kernel
theorem dX8_set_29 : decode cX8_set 29 = .ok (.aload_n 0, 1) := by decide +kernel
theorem dX8_set_30 : decode cX8_set 30 = .ok (.iconst 1, 1) := by decide +kernel
theorem dX8_set_31 : decode cX8_set 31 = .ok (.invokevirtual 62, 3) := by decide +kernel
theorem dX8_set_34 : decode cX8_set 34 = .ok (.ireturn, 1) := by decide +kernel
theorem dX8_set_35 : decode cX8_set 35 = .ok (.iload_n 2, 1) := by decide +kernel
theorem dX8_set_36 : decode cX8_set 36 = .ok (.i2l, 1) := by decide +kernel
theorem dX8_set_37 : decode cX8_set 37 = .ok (.lconst 0, 1) := by decide +kernel
theorem dX8_set_38 : decode cX8_set 38 = .ok (.aload_n 0, 1) := by decide +kernel
theorem dX8_set_39 : decode cX8_set 39 = .ok (.getfield 13, 3) := by decide +kernel
theorem dX8_set_42 : decode cX8_set 42 = .ok (.iload_n 1, 1) := by decide +kernel
theorem dX8_set_43 : decode cX8_set 43 = .ok (.iaload, 1) := by decide +kernel
theorem dX8_set_44 : decode cX8_set 44 = .ok (.iconst 1, 1) := by decide +kernel
theorem dX8_set_45 : decode cX8_set 45 = .ok (.isub, 1) := by decide +kernel
theorem dX8_set_46 : decode cX8_set 46 = .ok (.i2l, 1) := by decide +kernel
theorem dX8_set_47 : decode cX8_set 47 = .ok (.invokestatic 51, 3) := by decide +kernel
theorem dX8_set_50 : decode cX8_set 50 = .ok (.ifCond .ne 9, 3) := by decide +kernel
theorem dX8_set_53 : decode cX8_set 53 = .ok (.aload_n 0, 1) := by decide +kernel
theorem dX8_set_54 : decode cX8_set 54 = .ok (.iconst 2, 1) := by decide +kernel
theorem dX8_set_55 : decode cX8_set 55 = .ok (.invokevirtual 62, 3) := by decide +kernel
theorem dX8_set_58 : decode cX8_set 58 = .ok (.ireturn, 1) := by decide +kernel
theorem dX8_set_59 : decode cX8_set 59 = .ok (.aload_n 0, 1) := by decide +kernel
theorem dX8_set_60 : decode cX8_set 60 = .ok (.getfield 16, 3) := by decide +kernel
theorem dX8_set_63 : decode cX8_set 63 = .ok (.bipush 40, 2) := by decide +kernel
theorem dX8_set_65 : decode cX8_set 65 = .ok (.iload_n 1, 1) := by decide +kernel
theorem dX8_set_66 : decode cX8_set 66 = .ok (.imul, 1) := by decide +kernel
theorem dX8_set_67 : decode cX8_set 67 = .ok (.iload_n 2, 1) := by decide +kernel
theorem dX8_set_68 : decode cX8_set 68 = .ok (.iadd, 1) := by decide +kernel
theorem dX8_set_69 : decode cX8_set 69 = .ok (.aload_n 0, 1) := by decide +kernel
theorem dX8_set_70 : decode cX8_set 70 = .ok (.getfield 7, 3) := by decide +kernel
theorem dX8_set_73 : decode cX8_set 73 = .ok (.iload_n 1, 1) := by decide +kernel
theorem dX8_set_74 : decode cX8_set 74 = .ok (.iaload, 1) := by decide +kernel
theorem dX8_set_75 : decode cX8_set 75 = .ok (.ifCond .ne 8, 3) := by decide +kernel
theorem dX8_set_78 : decode cX8_set 78 = .ok (.iload_n 3, 1) := by decide +kernel
theorem dX8_set_79 : decode cX8_set 79 = .ok (.i2b, 1) := by decide +kernel
theorem dX8_set_80 : decode cX8_set 80 = .ok (.goto 19, 3) := by decide +kernel
theorem dX8_set_83 : decode cX8_set 83 = .ok (.aload_n 0, 1) := by decide +kernel
theorem dX8_set_84 : decode cX8_set 84 = .ok (.getfield 7, 3) := by decide +kernel
theorem dX8_set_87 : decode cX8_set 87 = .ok (.iload_n 1, 1) := by decide +kernel
theorem dX8_set_88 : decode cX8_set 88 = .ok (.iaload, 1) := by decide +kernel
theorem dX8_set_89 : decode cX8_set 89 = .ok (.iconst 1, 1) := by decide +kernel
theorem dX8_set_90 : decode cX8_set 90 = .ok (.if_icmp .ne 8, 3) := by decide +kernel
theorem dX8_set_93 : decode cX8_set 93 = .ok (.iload_n 3, 1) := by decide +kernel
theorem dX8_set_94 : decode cX8_set 94 = .ok (.i2s, 1) := by decide +kernel
theorem dX8_set_95 : decode cX8_set 95 = .ok (.goto 4, 3) := by decide +kernel
theorem dX8_set_98 : decode cX8_set 98 = .ok (.iload_n 3, 1) := by decide +kernel
theorem dX8_set_99 : decode cX8_set 99 = .ok (.iastore, 1) := by decide +kernel
theorem dX8_set_100 : decode cX8_set 100 = .ok (.aload_n 0, 1) := by decide +kernel
theorem dX8_set_101 : decode cX8_set 101 = .ok (.getfield 16, 3) := by decide +kernel
theorem dX8_set_104 : decode cX8_set 104 = .ok (.bipush 40, 2) := by decide +kernel
theorem dX8_set_106 : decode cX8_set 106 = .ok (.iload_n 1, 1) := by decide +kernel
theorem dX8_set_107 : decode cX8_set 107 = .ok (.imul, 1) := by decide +kernel
theorem dX8_set_108 : decode cX8_set 108 = .ok (.iload_n 2, 1) := by decide +kernel
theorem dX8_set_109 : decode cX8_set 109 = .ok (.iadd, 1) := by decide +kernel
theorem dX8_set_110 : decode cX8_set 110 = .ok (.iaload, 1) := by decide +kernel
theorem dX8_set_111 : decode cX8_set 111 = .ok (.ireturn, 1) := by decide +kernel
set_option maxRecDepth 20000 in
theorem ggX8_copy_X8_isRow : GoodIn wsX8_copy wsX8_isRow := goodIn_r _ [10, 11, 12, 13, 9, 14] (by decide +kernel) (by decide +kernel)
set_option maxRecDepth 20000 in
theorem gX8_copy_X8_isRow : GoodIn wsX8_copy (va_wsS RX8 55 yX8_isRow wsX8_isRow) := goodIn_app (goodIn_of _ (by decide +kernel)) ggX8_copy_X8_isRow
set_option maxRecDepth 20000 in
theorem ggX8_copy_X8_finding : GoodIn wsX8_copy wsX8_finding := goodIn_r _ [18, 3, 19, 20, 21, 22, 23, 24, 25, 26, 27, 28, 29, 30, 31, 32, 33, 34, 35, 36, 37, 38, 39, 40, 41, 42, 43, 44] (by decide +kernel) (by decide +kernel)
set_option maxRecDepth 20000 in
theorem gX8_copy_X8_finding : GoodIn wsX8_copy (wsV RX8 62 RX8 yX8_finding wsX8_finding) := goodIn_app (goodIn_of _ (by decide +kernel)) ggX8_copy_X8_finding
theorem dX8_copy_0 : decode cX8_copy 0 = .ok (.aload_n 0, 1) := by decide +kernel
theorem dX8_copy_1 : decode cX8_copy 1 = .ok (.iconst 0, 1) := by decide +kernel
theorem dX8_copy_2 : decode cX8_copy 2 = .ok (.putfield 41, 3) := by decide +kernel
theorem dX8_copy_5 : decode cX8_copy 5 = .ok (.iload_n 1, 1) := by decide +kernel
theorem dX8_copy_6 : decode cX8_copy 6 = .ok (.invokestatic 55, 3) := by decide +kernel
theorem dX8_copy_9 : decode cX8_copy 9 = .ok (.ifCond .eq 10, 3) := by decide +kernel
theorem dX8_copy_12 : decode cX8_copy 12 = .ok (.iload_n 3, 1) := by decide +kernel
theorem dX8_copy_13 : decode cX8_copy 13 = .ok (.invokestatic 55, 3) := by decide +kernel
theorem dX8_copy_16 : decode cX8_copy 16 = .ok (.ifCond .ne 6, 3) := by decide +kernel
theorem dX8_copy_19 : decode cX8_copy 19 = .ok (.ldc 61, 2) := by decide +kernel
theorem dX8_copy_21 : decode cX8_copy 21 = .ok (.ireturn, 1) := by decide +kernel
theorem dX8_copy_22 : decode cX8_copy 22 = .ok (.aload_n 0, 1) := by decide +kernel
theorem dX8_copy_23 : decode cX8_copy 23 = .ok (.iconst 0, 1) := by decide +kernel
theorem dX8_copy_24 : decode cX8_copy 24 = .ok (.putfield 45, 3) := by decide +kernel
theorem dX8_copy_27 : decode cX8_copy 27 = .ok (.aload_n 0, 1) := by decide +kernel
theorem dX8_copy_28 : decode cX8_copy 28 = .ok (.getfield 7, 3) := by decide +kernel
theorem dX8_copy_31 : decode cX8_copy 31 = .ok (.iload_n 1, 1) := by decide +kernel
theorem dX8_copy_32 : decode cX8_copy 32 = .ok (.iaload, 1) := by decide +kernel
theorem dX8_copy_33 : decode cX8_copy 33 = .ok (.ifCond .lt 12, 3) := by decide +kernel
theorem dX8_copy_36 : decode cX8_copy 36 = .ok (.aload_n 0, 1) := by decide +kernel
theorem dX8_copy_37 : decode cX8_copy 37 = .ok (.getfield 7, 3) := by decide +kernel
theorem dX8_copy_40 : decode cX8_copy 40 = .ok (.iload_n 3, 1) := by decide +kernel
theorem dX8_copy_41 : decode cX8_copy 41 = .ok (.iaload, 1) := by decide +kernel
theorem dX8_copy_42 : decode cX8_copy 42 = .ok (.ifCond .ge 9, 3) := by decide +kernel
theorem dX8_copy_45 : decode cX8_copy 45 = .ok (.aload_n 0, 1) := by decide +kernel
theorem dX8_copy_46 : decode cX8_copy 46 = .ok (.iconst 1, 1) := by decide +kernel
theorem dX8_copy_47 : decode cX8_copy 47 = .ok (.invokevirtual 62, 3) := by decide +kernel
theorem dX8_copy_50 : decode cX8_copy 50 = .ok (.ireturn, 1) := by decide +kernel
theorem dX8_copy_51 : decode cX8_copy 51 = .ok (.aload_n 0, 1) := by decide +kernel
theorem dX8_copy_52 : decode cX8_copy 52 = .ok (.getfield 7, 3) := by decide +kernel
theorem dX8_copy_55 : decode cX8_copy 55 = .ok (.iload_n 1, 1) := by decide +kernel
theorem dX8_copy_56 : decode cX8_copy 56 = .ok (.iaload, 1) := by decide +kernel
theorem dX8_copy_57 : decode cX8_copy 57 = .ok (.aload_n 0, 1) := by decide +kernel
theorem dX8_copy_58 : decode cX8_copy 58 = .ok (.getfield 7, 3) := by decide +kernel
theorem dX8_copy_61 : decode cX8_copy 61 = .ok (.iload_n 3, 1) := by decide +kernel
theorem dX8_copy_62 : decode cX8_copy 62 = .ok (.iaload, 1) := by decide +kernel
theorem dX8_copy_63 : decode cX8_copy 63 = .ok (.if_icmp .eq 9, 3) := by decide +kernel
theorem dX8_copy_66 : decode cX8_copy 66 = .ok (.aload_n 0, 1) := by decide +kernel
theorem dX8_copy_67 : decode cX8_copy 67 = .ok (.iconst 5, 1) := by decide +kernel
theorem dX8_copy_68 : decode cX8_copy 68 = .ok (.invokevirtual 62, 3) := by decide +kernel
theorem dX8_copy_71 : decode cX8_copy 71 = .ok (.ireturn, 1) := by decide +kernel
theorem dX8_copy_72 : decode cX8_copy 72 = .ok (.iload_n 2, 1) := by decide +kernel
theorem dX8_copy_73 : decode cX8_copy 73 = .ok (.ifCond .lt 48, 3) := by decide +kernel
theorem dX8_copy_76 : decode cX8_copy 76 = .ok (.iload 4, 2) := by decide +kernel
theorem dX8_copy_78 : decode cX8_copy 78 = .ok (.ifCond .lt 43, 3) := by decide +kernel
theorem dX8_copy_81 : decode cX8_copy 81 = .ok (.iload 5, 2) := by decide +kernel
theorem dX8_copy_83 : decode cX8_copy 83 = .ok (.ifCond .lt 38, 3) := by decide +kernel
theorem dX8_copy_86 : decode cX8_copy 86 = .ok (.iload_n 2, 1) := by decide +kernel
theorem dX8_copy_87 : decode cX8_copy 87 = .ok (.i2l, 1) := by decide +kernel
theorem dX8_copy_88 : decode cX8_copy 88 = .ok (.iload 5, 2) := by decide +kernel
theorem dX8_copy_90 : decode cX8_copy 90 = .ok (.i2l, 1) := by decide +kernel
theorem dX8_copy_91 : decode cX8_copy 91 = .ok (.ladd, 1) := by decide +kernel
theorem dX8_copy_92 : decode cX8_copy 92 = .ok (.aload_n 0, 1) := by decide +kernel
theorem dX8_copy_93 : decode cX8_copy 93 = .ok (.getfield 13, 3) := by decide +kernel
theorem dX8_copy_96 : decode cX8_copy 96 = .ok (.iload_n 1, 1) := by decide +kernel
theorem dX8_copy_97 : decode cX8_copy 97 = .ok (.iaload, 1) := by decide +kernel
theorem dX8_copy_98 : decode cX8_copy 98 = .ok (.i2l, 1) := by decide +kernel
theorem dX8_copy_99 : decode cX8_copy 99 = .ok (.lcmp, 1) := by decide +kernel
theorem dX8_copy_100 : decode cX8_copy 100 = .ok (.ifCond .gt 21, 3) := by decide +kernel
theorem dX8_copy_103 : decode cX8_copy 103 = .ok (.iload 4, 2) := by decide +kernel
theorem dX8_copy_105 : decode cX8_copy 105 = .ok (.i2l, 1) := by decide +kernel
theorem dX8_copy_106 : decode cX8_copy 106 = .ok (.iload 5, 2) := by decide +kernel
theorem dX8_copy_108 : decode cX8_copy 108 = .ok (.i2l, 1) := by decide +kernel
theorem dX8_copy_109 : decode cX8_copy 109 = .ok (.ladd, 1) := by decide +kernel
theorem dX8_copy_110 : decode cX8_copy 110 = .ok (.aload_n 0, 1) := by decide +kernel
theorem dX8_copy_111 : decode cX8_copy 111 = .ok (.getfield 13, 3) := by decide +kernel
theorem dX8_copy_114 : decode cX8_copy 114 = .ok (.iload_n 3, 1) := by decide +kernel
theorem dX8_copy_115 : decode cX8_copy 115 = .ok (.iaload, 1) := by decide +kernel
theorem dX8_copy_116 : decode cX8_copy 116 = .ok (.i2l, 1) := by decide +kernel
theorem dX8_copy_117 : decode cX8_copy 117 = .ok (.lcmp, 1) := by decide +kernel
theorem dX8_copy_118 : decode cX8_copy 118 = .ok (.ifCond .le 9, 3) := by decide +kernel
theorem dX8_copy_121 : decode cX8_copy 121 = .ok (.aload_n 0, 1) := by decide +kernel
theorem dX8_copy_122 : decode cX8_copy 122 = .ok (.iconst 2, 1) := by decide +kernel
theorem dX8_copy_123 : decode cX8_copy 123 = .ok (.invokevirtual 62, 3) := by decide +kernel
theorem dX8_copy_126 : decode cX8_copy 126 = .ok (.ireturn, 1) := by decide +kernel
theorem dX8_copy_127 : decode cX8_copy 127 = .ok (.iload_n 2, 1) := by decide +kernel
theorem dX8_copy_128 : decode cX8_copy 128 = .ok (.iload 4, 2) := by decide +kernel
theorem dX8_copy_130 : decode cX8_copy 130 = .ok (.if_icmp .lt 7, 3) := by decide +kernel
theorem dX8_copy_133 : decode cX8_copy 133 = .ok (.iconst 1, 1) := by decide +kernel
theorem dX8_copy_134 : decode cX8_copy 134 = .ok (.goto 4, 3) := by decide +kernel
theorem dX8_copy_137 : decode cX8_copy 137 = .ok (.iconst 0, 1) := by decide +kernel
theorem dX8_copy_138 : decode cX8_copy 138 = .ok (.istore 6, 2) := by decide +kernel
theorem dX8_copy_140 : decode cX8_copy 140 = .ok (.iconst 0, 1) := by decide +kernel
theorem dX8_copy_141 : decode cX8_copy 141 = .ok (.istore 7, 2) := by decide +kernel
theorem dX8_copy_143 : decode cX8_copy 143 = .ok (.iload 7, 2) := by decide +kernel
theorem dX8_copy_145 : decode cX8_copy 145 = .ok (.iload 5, 2) := by decide +kernel
theorem dX8_copy_147 : decode cX8_copy 147 = .ok (.if_icmp .ge 57, 3) := by decide +kernel
theorem dX8_copy_150 : decode cX8_copy 150 = .ok (.iload 6, 2) := by decide +kernel
theorem dX8_copy_152 : decode cX8_copy 152 = .ok (.ifCond .eq 8, 3) := by decide +kernel
theorem dX8_copy_155 : decode cX8_copy 155 = .ok (.iload 7, 2) := by decide +kernel
theorem dX8_copy_157 : decode cX8_copy 157 = .ok (.goto 10, 3) := by decide +kernel
theorem dX8_copy_160 : decode cX8_copy 160 = .ok (.iload 5, 2) := by decide +kernel
theorem dX8_copy_162 : decode cX8_copy 162 = .ok (.iconst 1, 1) := by decide +kernel
theorem dX8_copy_163 : decode cX8_copy 163 = .ok (.isub, 1) := by decide +kernel
theorem dX8_copy_164 : decode cX8_copy 164 = .ok (.iload 7, 2) := by decide +kernel
theorem dX8_copy_166 : decode cX8_copy 166 = .ok (.isub, 1) := by decide +kernel
theorem dX8_copy_167 : decode cX8_copy 167 = .ok (.istore 8, 2) := by decide +kernel
theorem dX8_copy_169 : decode cX8_copy 169 = .ok (.aload_n 0, 1) := by decide +kernel
theorem dX8_copy_170 : decode cX8_copy 170 = .ok (.getfield 16, 3) := by decide +kernel
theorem dX8_copy_173 : decode cX8_copy 173 = .ok (.bipush 40, 2) := by decide +kernel
theorem dX8_copy_175 : decode cX8_copy 175 = .ok (.iload_n 3, 1) := by decide +kernel
theorem dX8_copy_176 : decode cX8_copy 176 = .ok (.imul, 1) := by decide +kernel
theorem dX8_copy_177 : decode cX8_copy 177 = .ok (.iload 4, 2) := by decide +kernel
theorem dX8_copy_179 : decode cX8_copy 179 = .ok (.iadd, 1) := by decide +kernel
theorem dX8_copy_180 : decode cX8_copy 180 = .ok (.iload 8, 2) := by decide +kernel
theorem dX8_copy_182 : decode cX8_copy 182 = .ok (.iadd, 1) := by decide +kernel
theorem dX8_copy_183 : decode cX8_copy 183 = .ok (.aload_n 0, 1) := by decide +kernel
theorem dX8_copy_184 : decode cX8_copy 184 = .ok (.getfield 16, 3) := by decide +kernel
theorem dX8_copy_187 : decode cX8_copy 187 = .ok (.bipush 40, 2) := by decide +kernel
theorem dX8_copy_189 : decode cX8_copy 189 = .ok (.iload_n 1, 1) := by decide +kernel
theorem dX8_copy_190 : decode cX8_copy 190 = .ok (.imul, 1) := by decide +kernel
theorem dX8_copy_191 : decode cX8_copy 191 = .ok (.iload_n 2, 1) := by decide +kernel
theorem dX8_copy_192 : decode cX8_copy 192 = .ok (.iadd, 1) := by decide +kernel
theorem dX8_copy_193 : decode cX8_copy 193 = .ok (.iload 8, 2) := by decide +kernel
theorem dX8_copy_195 : decode cX8_copy 195 = .ok (.iadd, 1) := by decide +kernel
theorem dX8_copy_196 : decode cX8_copy 196 = .ok (.iaload, 1) := by decide +kernel
theorem dX8_copy_197 : decode cX8_copy 197 = .ok (.iastore, 1) := by decide +kernel
theorem dX8_copy_198 : decode cX8_copy 198 = .ok (.iinc 7 1, 3) := by decide +kernel
theorem dX8_copy_201 : decode cX8_copy 201 = .ok (.goto (-58), 3) := by decide +kernel
theorem dX8_copy_204 : decode cX8_copy 204 = .ok (.iload 5, 2) := by decide +kernel
theorem dX8_copy_206 : decode cX8_copy 206 = .ok (.ireturn, 1) := by decide +kernel
set_option maxRecDepth 20000 in
theorem ggX8_drop_X8_isRow : GoodIn wsX8_drop wsX8_isRow := goodIn_r _ [9, 10, 11, 12, 8, 13] (by decide +kernel) (by decide +kernel)
set_option maxRecDepth 20000 in
theorem gX8_drop_X8_isRow : GoodIn wsX8_drop (va_wsS RX8 55 yX8_isRow wsX8_isRow) := goodIn_app (goodIn_of _ (by decide +kernel)) ggX8_drop_X8_isRow
set_option maxRecDepth 20000 in
theorem ggX8_drop_X8_finding : GoodIn wsX8_drop wsX8_finding := goodIn_r _ [17, 3, 18, 19, 20, 21, 22, 23, 24, 25, 26, 27, 28, 29, 30, 31, 32, 33, 34, 35, 36, 37, 38, 39, 40, 41, 42, 43] (by decide +kernel) (by decide +kernel)
set_option maxRecDepth 20000 in
theorem gX8_drop_X8_finding : GoodIn wsX8_drop (wsV RX8 62 RX8 yX8_finding wsX8_finding) := goodIn_app (goodIn_of _ (by decide +kernel)) ggX8_drop_X8_finding
theorem dX8_drop_0 : decode cX8_drop 0 = .ok (.aload_n 0, 1) := by decide +kernel
theorem dX8_drop_1 : decode cX8_drop 1 = .ok (.iconst 0, 1) := by decide +kernel
theorem dX8_drop_2 : decode cX8_drop 2 = .ok (.putfield 41, 3) := by decide +kernel
theorem dX8_drop_5 : decode cX8_drop 5 = .ok (.iload_n 1, 1) := by decide +kernel
theorem dX8_drop_6 : decode cX8_drop 6 = .ok (.invokestatic 55, 3) := by decide +kernel
theorem dX8_drop_9 : decode cX8_drop 9 = .ok (.ifCond .ne 6, 3) := by decide +kernel
theorem dX8_drop_12 : decode cX8_drop 12 = .ok (.ldc 61, 2) := by decide +kernel
theorem dX8_drop_14 : decode cX8_drop 14 = .ok (.ireturn, 1) := by decide +kernel
theorem dX8_drop_15 : decode cX8_drop 15 = .ok (.aload_n 0, 1) := by decide +kernel
theorem dX8_drop_16 : decode cX8_drop 16 = .ok (.iconst 0, 1) := by decide +kernel
theorem dX8_drop_17 : decode cX8_drop 17 = .ok (.putfield 45, 3) := by decide +kernel
theorem dX8_drop_20 : decode cX8_drop 20 = .ok (.aload_n 0, 1) := by decide +kernel
theorem dX8_drop_21 : decode cX8_drop 21 = .ok (.getfield 7, 3) := by decide +kernel
theorem dX8_drop_24 : decode cX8_drop 24 = .ok (.iload_n 1, 1) := by decide +kernel
theorem dX8_drop_25 : decode cX8_drop 25 = .ok (.iaload, 1) := by decide +kernel
theorem dX8_drop_26 : decode cX8_drop 26 = .ok (.ifCond .ge 9, 3) := by decide +kernel
theorem dX8_drop_29 : decode cX8_drop 29 = .ok (.aload_n 0, 1) := by decide +kernel
theorem dX8_drop_30 : decode cX8_drop 30 = .ok (.iconst 1, 1) := by decide +kernel
theorem dX8_drop_31 : decode cX8_drop 31 = .ok (.invokevirtual 62, 3) := by decide +kernel
theorem dX8_drop_34 : decode cX8_drop 34 = .ok (.ireturn, 1) := by decide +kernel
theorem dX8_drop_35 : decode cX8_drop 35 = .ok (.aload_n 0, 1) := by decide +kernel
theorem dX8_drop_36 : decode cX8_drop 36 = .ok (.getfield 7, 3) := by decide +kernel
theorem dX8_drop_39 : decode cX8_drop 39 = .ok (.iload_n 1, 1) := by decide +kernel
theorem dX8_drop_40 : decode cX8_drop 40 = .ok (.iconst (-1), 1) := by decide +kernel
theorem dX8_drop_41 : decode cX8_drop 41 = .ok (.iastore, 1) := by decide +kernel
theorem dX8_drop_42 : decode cX8_drop 42 = .ok (.aload_n 0, 1) := by decide +kernel
theorem dX8_drop_43 : decode cX8_drop 43 = .ok (.getfield 13, 3) := by decide +kernel
theorem dX8_drop_46 : decode cX8_drop 46 = .ok (.iload_n 1, 1) := by decide +kernel
theorem dX8_drop_47 : decode cX8_drop 47 = .ok (.iaload, 1) := by decide +kernel
theorem dX8_drop_48 : decode cX8_drop 48 = .ok (.ireturn, 1) := by decide +kernel
set_option maxRecDepth 20000 in
theorem ggX8_feed_X8_in : GoodIn wsX8_feed wsX8_in := goodIn_r _ [11] (by decide +kernel) (by decide +kernel)
set_option maxRecDepth 20000 in
theorem gX8_feed_X8_in : GoodIn wsX8_feed (va_wsS RX8 51 yX8_in wsX8_in) := goodIn_app (goodIn_of _ (by decide +kernel)) ggX8_feed_X8_in
theorem dX8_feed_0 : decode cX8_feed 0 = .ok (.aload_n 0, 1) := by decide +kernel
theorem dX8_feed_1 : decode cX8_feed 1 = .ok (.iconst 0, 1) := by decide +kernel
theorem dX8_feed_2 : decode cX8_feed 2 = .ok (.putfield 41, 3) := by decide +kernel
theorem dX8_feed_5 : decode cX8_feed 5 = .ok (.iload_n 3, 1) := by decide +kernel
theorem dX8_feed_6 : decode cX8_feed 6 = .ok (.i2l, 1) := by decide +kernel
theorem dX8_feed_7 : decode cX8_feed 7 = .ok (.lconst 1, 1) := by decide +kernel
theorem dX8_feed_8 : decode cX8_feed 8 = .ok (.ldc2_w 66, 3) := by decide +kernel
theorem dX8_feed_11 : decode cX8_feed 11 = .ok (.invokestatic 51, 3) := by decide +kernel
theorem dX8_feed_14 : decode cX8_feed 14 = .ok (.ifCond .ne 6, 3) := by decide +kernel
theorem dX8_feed_17 : decode cX8_feed 17 = .ok (.ldc 61, 2) := by decide +kernel
theorem dX8_feed_19 : decode cX8_feed 19 = .ok (.ireturn, 1) := by decide +kernel
theorem dX8_feed_20 : decode cX8_feed 20 = .ok (.aload_n 0, 1) := by decide +kernel
theorem dX8_feed_21 : decode cX8_feed 21 = .ok (.getfield 68, 3) := by decide +kernel
theorem dX8_feed_24 : decode cX8_feed 24 = .ok (.iload_n 3, 1) := by decide +kernel
theorem dX8_feed_25 : decode cX8_feed 25 = .ok (.iadd, 1) := by decide +kernel
theorem dX8_feed_26 : decode cX8_feed 26 = .ok (.sipush 200, 3) := by decide +kernel
theorem dX8_feed_29 : decode cX8_feed 29 = .ok (.if_icmp .le 6, 3) := by decide +kernel
theorem dX8_feed_32 : decode cX8_feed 32 = .ok (.ldc 71, 2) := by decide +kernel
theorem dX8_feed_34 : decode cX8_feed 34 = .ok (.ireturn, 1) := by decide +kernel
theorem dX8_feed_35 : decode cX8_feed 35 = .ok (.iload_n 3, 1) := by decide +kernel
theorem dX8_feed_36 : decode cX8_feed 36 = .ok (.iconst 1, 1) := by decide +kernel
theorem dX8_feed_37 : decode cX8_feed 37 = .ok (.isub, 1) := by decide +kernel
theorem dX8_feed_38 : decode cX8_feed 38 = .ok (.istore 4, 2) := by decide +kernel
theorem dX8_feed_40 : decode cX8_feed 40 = .ok (.iload 4, 2) := by decide +kernel
theorem dX8_feed_42 : decode cX8_feed 42 = .ok (.ifCond .lt 40, 3) := by decide +kernel
theorem dX8_feed_45 : decode cX8_feed 45 = .ok (.aload_n 0, 1) := by decide +kernel
theorem dX8_feed_46 : decode cX8_feed 46 = .ok (.getfield 28, 3) := by decide +kernel
theorem dX8_feed_49 : decode cX8_feed 49 = .ok (.aload_n 0, 1) := by decide +kernel
theorem dX8_feed_50 : decode cX8_feed 50 = .ok (.getfield 68, 3) := by decide +kernel
theorem dX8_feed_53 : decode cX8_feed 53 = .ok (.lload_n 1, 1) := by decide +kernel
theorem dX8_feed_54 : decode cX8_feed 54 = .ok (.bipush 8, 2) := by decide +kernel
theorem dX8_feed_56 : decode cX8_feed 56 = .ok (.iload 4, 2) := by decide +kernel
theorem dX8_feed_58 : decode cX8_feed 58 = .ok (.imul, 1) := by decide +kernel
theorem dX8_feed_59 : decode cX8_feed 59 = .ok (.lshr, 1) := by decide +kernel
theorem dX8_feed_60 : decode cX8_feed 60 = .ok (.ldc2_w 72, 3) := by decide +kernel
theorem dX8_feed_63 : decode cX8_feed 63 = .ok (.land, 1) := by decide +kernel
theorem dX8_feed_64 : decode cX8_feed 64 = .ok (.l2i, 1) := by decide +kernel
theorem dX8_feed_65 : decode cX8_feed 65 = .ok (.iastore, 1) := by decide +kernel
theorem dX8_feed_66 : decode cX8_feed 66 = .ok (.aload_n 0, 1) := by decide +kernel
theorem dX8_feed_67 : decode cX8_feed 67 = .ok (.dup, 1) := by decide +kernel
theorem dX8_feed_68 : decode cX8_feed 68 = .ok (.getfield 68, 3) := by decide +kernel
theorem dX8_feed_71 : decode cX8_feed 71 = .ok (.iconst 1, 1) := by decide +kernel
theorem dX8_feed_72 : decode cX8_feed 72 = .ok (.iadd, 1) := by decide +kernel
theorem dX8_feed_73 : decode cX8_feed 73 = .ok (.putfield 68, 3) := by decide +kernel
theorem dX8_feed_76 : decode cX8_feed 76 = .ok (.iinc 4 (-1), 3) := by decide +kernel
theorem dX8_feed_79 : decode cX8_feed 79 = .ok (.goto (-39), 3) := by decide +kernel
theorem dX8_feed_82 : decode cX8_feed 82 = .ok (.aload_n 0, 1) := by decide +kernel
theorem dX8_feed_83 : decode cX8_feed 83 = .ok (.getfield 68, 3) := by decide +kernel
theorem dX8_feed_86 : decode cX8_feed 86 = .ok (.ireturn, 1) := by decide +kernel
theorem dX8_byteAt_0 : decode cX8_byteAt 0 = .ok (.iload_n 1, 1) := by decide +kernel
theorem dX8_byteAt_1 : decode cX8_byteAt 1 = .ok (.aload_n 0, 1) := by decide +kernel
theorem dX8_byteAt_2 : decode cX8_byteAt 2 = .ok (.getfield 74, 3) := by decide +kernel
theorem dX8_byteAt_5 : decode cX8_byteAt 5 = .ok (.if_icmp .ge 12, 3) := by decide +kernel
theorem dX8_byteAt_8 : decode cX8_byteAt 8 = .ok (.aload_n 0, 1) := by decide +kernel
theorem dX8_byteAt_9 : decode cX8_byteAt 9 = .ok (.getfield 28, 3) := by decide +kernel
theorem dX8_byteAt_12 : decode cX8_byteAt 12 = .ok (.iload_n 1, 1) := by decide +kernel
theorem dX8_byteAt_13 : decode cX8_byteAt 13 = .ok (.iaload, 1) := by decide +kernel
theorem dX8_byteAt_14 : decode cX8_byteAt 14 = .ok (.goto 5, 3) := by decide +kernel
theorem dX8_byteAt_17 : decode cX8_byteAt 17 = .ok (.ldc 77, 2) := by decide +kernel
theorem dX8_byteAt_19 : decode cX8_byteAt 19 = .ok (.ireturn, 1) := by decide +kernel
theorem dX8_isLetter_0 : decode cX8_isLetter 0 = .ok (.iload_n 0, 1) := by decide +kernel
theorem dX8_isLetter_1 : decode cX8_isLetter 1 = .ok (.bipush 97, 2) := by decide +kernel
theorem dX8_isLetter_3 : decode cX8_isLetter 3 = .ok (.if_icmp .lt 13, 3) := by decide +kernel
theorem dX8_isLetter_6 : decode cX8_isLetter 6 = .ok (.iload_n 0, 1) := by decide +kernel
theorem dX8_isLetter_7 : decode cX8_isLetter 7 = .ok (.bipush 122, 2) := by decide +kernel
theorem dX8_isLetter_9 : decode cX8_isLetter 9 = .ok (.if_icmp .gt 7, 3) := by decide +kernel
theorem dX8_isLetter_12 : decode cX8_isLetter 12 = .ok (.iconst 1, 1) := by decide +kernel
theorem dX8_isLetter_13 : decode cX8_isLetter 13 = .ok (.goto 4, 3) := by decide +kernel
theorem dX8_isLetter_16 : decode cX8_isLetter 16 = .ok (.iconst 0, 1) := by decide +kernel
theorem dX8_isLetter_17 : decode cX8_isLetter 17 = .ok (.ireturn, 1) := by decide +kernel
theorem dX8_isFigure_0 : decode cX8_isFigure 0 = .ok (.iload_n 0, 1) := by decide +kernel
theorem dX8_isFigure_1 : decode cX8_isFigure 1 = .ok (.bipush 48, 2) := by decide +kernel
theorem dX8_isFigure_3 : decode cX8_isFigure 3 = .ok (.if_icmp .lt 13, 3) := by decide +kernel
theorem dX8_isFigure_6 : decode cX8_isFigure 6 = .ok (.iload_n 0, 1) := by decide +kernel
theorem dX8_isFigure_7 : decode cX8_isFigure 7 = .ok (.bipush 57, 2) := by decide +kernel
theorem dX8_isFigure_9 : decode cX8_isFigure 9 = .ok (.if_icmp .gt 7, 3) := by decide +kernel
theorem dX8_isFigure_12 : decode cX8_isFigure 12 = .ok (.iconst 1, 1) := by decide +kernel
theorem dX8_isFigure_13 : decode cX8_isFigure 13 = .ok (.goto 4, 3) := by decide +kernel
theorem dX8_isFigure_16 : decode cX8_isFigure 16 = .ok (.iconst 0, 1) := by decide +kernel
theorem dX8_isFigure_17 : decode cX8_isFigure 17 = .ok (.ireturn, 1) := by decide +kernel
set_option maxRecDepth 20000 in
theorem ggX8_nextToken_X8_byteAt : GoodIn wsX8_nextToken wsX8_byteAt := goodIn_r _ [10, 11, 12, 3, 19, 20, 21, 22, 23, 24, 25, 26, 27, 28, 29, 30, 31, 32, 33, 34, 35, 36, 37, 38, 39, 40, 41, 42, 43] (by decide +kernel) (by decide +kernel)
set_option maxRecDepth 20000 in
theorem gX8_nextToken_X8_byteAt : GoodIn wsX8_nextToken (wsV RX8 81 RX8 yX8_byteAt wsX8_byteAt) := goodIn_app (goodIn_of _ (by decide +kernel)) ggX8_nextToken_X8_byteAt
set_option maxRecDepth 20000 in
theorem ggX8_nextToken_X8_isLetter : GoodIn wsX8_nextToken wsX8_isLetter := goodIn_r _ [15] (by decide +kernel) (by decide +kernel)
set_option maxRecDepth 20000 in
theorem gX8_nextToken_X8_isLetter : GoodIn wsX8_nextToken (va_wsS RX8 90 yX8_isLetter wsX8_isLetter) := goodIn_app (goodIn_of _ (by decide +kernel)) ggX8_nextToken_X8_isLetter
set_option maxRecDepth 20000 in
theorem ggX8_nextToken_X8_isFigure : GoodIn wsX8_nextToken wsX8_isFigure := goodIn_r _ [18] (by decide +kernel) (by decide +kernel)
set_option maxRecDepth 20000 in
theorem gX8_nextToken_X8_isFigure : GoodIn wsX8_nextToken (va_wsS RX8 93 yX8_isFigure wsX8_isFigure) := goodIn_app (goodIn_of _ (by decide +kernel)) ggX8_nextToken_X8_isFigure
theorem dX8_nextToken_0 : decode cX8_nextToken 0 = .ok (.aload_n 0, 1) := by decide +kernel
theorem dX8_nextToken_1 : decode cX8_nextToken 1 = .ok (.aload_n 0, 1) := by decide +kernel
theorem dX8_nextToken_2 : decode cX8_nextToken 2 = .ok (.getfield 78, 3) := by decide +kernel
theorem dX8_nextToken_5 : decode cX8_nextToken 5 = .ok (.invokevirtual 81, 3) := by decide +kernel
theorem dX8_nextToken_8 : decode cX8_nextToken 8 = .ok (.bipush 32, 2) := by decide +kernel
theorem dX8_nextToken_10 : decode cX8_nextToken 10 = .ok (.if_icmp .eq 16, 3) := by decide +kernel
theorem dX8_nextToken_13 : decode cX8_nextToken 13 = .ok (.aload_n 0, 1) := by decide +kernel
theorem dX8_nextToken_14 : decode cX8_nextToken 14 = .ok (.aload_n 0, 1) := by decide +kernel
theorem dX8_nextToken_15 : decode cX8_nextToken 15 = .ok (.getfield 78, 3) := by decide +kernel
theorem dX8_nextToken_18 : decode cX8_nextToken 18 = .ok (.invokevirtual 81, 3) := by decide +kernel
theorem dX8_nextToken_21 : decode cX8_nextToken 21 = .ok (.bipush 10, 2) := by decide +kernel
theorem dX8_nextToken_23 : decode cX8_nextToken 23 = .ok (.if_icmp .ne 16, 3) := by decide +kernel
theorem dX8_nextToken_26 : decode cX8_nextToken 26 = .ok (.aload_n 0, 1) := by decide +kernel
theorem dX8_nextToken_27 : decode cX8_nextToken 27 = .ok (.dup, 1) := by decide +kernel
theorem dX8_nextToken_28 : decode cX8_nextToken 28 = .ok (.getfield 78, 3) := by decide +kernel
theorem dX8_nextToken_31 : decode cX8_nextToken 31 = .ok (.iconst 1, 1) := by decide +kernel
theorem dX8_nextToken_32 : decode cX8_nextToken 32 = .ok (.iadd, 1) := by decide +kernel
theorem dX8_nextToken_33 : decode cX8_nextToken 33 = .ok (.putfield 78, 3) := by decide +kernel
theorem dX8_nextToken_36 : decode cX8_nextToken 36 = .ok (.goto (-36), 3) := by decide +kernel
theorem dX8_nextToken_39 : decode cX8_nextToken 39 = .ok (.aload_n 0, 1) := by decide +kernel
theorem dX8_nextToken_40 : decode cX8_nextToken 40 = .ok (.aload_n 0, 1) := by decide +kernel
theorem dX8_nextToken_41 : decode cX8_nextToken 41 = .ok (.getfield 78, 3) := by decide +kernel
theorem dX8_nextToken_44 : decode cX8_nextToken 44 = .ok (.putfield 84, 3) := by decide +kernel
theorem dX8_nextToken_47 : decode cX8_nextToken 47 = .ok (.aload_n 0, 1) := by decide +kernel
theorem dX8_nextToken_48 : decode cX8_nextToken 48 = .ok (.aload_n 0, 1) := by decide +kernel
theorem dX8_nextToken_49 : decode cX8_nextToken 49 = .ok (.getfield 78, 3) := by decide +kernel
theorem dX8_nextToken_52 : decode cX8_nextToken 52 = .ok (.invokevirtual 81, 3) := by decide +kernel
theorem dX8_nextToken_55 : decode cX8_nextToken 55 = .ok (.istore_n 1, 1) := by decide +kernel
theorem dX8_nextToken_56 : decode cX8_nextToken 56 = .ok (.iload_n 1, 1) := by decide +kernel
theorem dX8_nextToken_57 : decode cX8_nextToken 57 = .ok (.ldc 77, 2) := by decide +kernel
theorem dX8_nextToken_59 : decode cX8_nextToken 59 = .ok (.if_icmp .ne 11, 3) := by decide +kernel
theorem dX8_nextToken_62 : decode cX8_nextToken 62 = .ok (.aload_n 0, 1) := by decide +kernel
theorem dX8_nextToken_63 : decode cX8_nextToken 63 = .ok (.iconst 1, 1) := by decide +kernel
theorem dX8_nextToken_64 : decode cX8_nextToken 64 = .ok (.putfield 87, 3) := by decide +kernel
theorem dX8_nextToken_67 : decode cX8_nextToken 67 = .ok (.goto 129, 3) := by decide +kernel
theorem dX8_nextToken_70 : decode cX8_nextToken 70 = .ok (.iload_n 1, 1) := by decide +kernel
theorem dX8_nextToken_71 : decode cX8_nextToken 71 = .ok (.invokestatic 90, 3) := by decide +kernel
theorem dX8_nextToken_74 : decode cX8_nextToken 74 = .ok (.ifCond .eq 38, 3) := by decide +kernel
theorem dX8_nextToken_77 : decode cX8_nextToken 77 = .ok (.aload_n 0, 1) := by decide +kernel
theorem dX8_nextToken_78 : decode cX8_nextToken 78 = .ok (.aload_n 0, 1) := by decide +kernel
theorem dX8_nextToken_79 : decode cX8_nextToken 79 = .ok (.getfield 78, 3) := by decide +kernel
theorem dX8_nextToken_82 : decode cX8_nextToken 82 = .ok (.invokevirtual 81, 3) := by decide +kernel
theorem dX8_nextToken_85 : decode cX8_nextToken 85 = .ok (.invokestatic 90, 3) := by decide +kernel
theorem dX8_nextToken_88 : decode cX8_nextToken 88 = .ok (.ifCond .eq 16, 3) := by decide +kernel
theorem dX8_nextToken_91 : decode cX8_nextToken 91 = .ok (.aload_n 0, 1) := by decide +kernel
theorem dX8_nextToken_92 : decode cX8_nextToken 92 = .ok (.dup, 1) := by decide +kernel
theorem dX8_nextToken_93 : decode cX8_nextToken 93 = .ok (.getfield 78, 3) := by decide +kernel
theorem dX8_nextToken_96 : decode cX8_nextToken 96 = .ok (.iconst 1, 1) := by decide +kernel
theorem dX8_nextToken_97 : decode cX8_nextToken 97 = .ok (.iadd, 1) := by decide +kernel
theorem dX8_nextToken_98 : decode cX8_nextToken 98 = .ok (.putfield 78, 3) := by decide +kernel
theorem dX8_nextToken_101 : decode cX8_nextToken 101 = .ok (.goto (-24), 3) := by decide +kernel
theorem dX8_nextToken_104 : decode cX8_nextToken 104 = .ok (.aload_n 0, 1) := by decide +kernel
theorem dX8_nextToken_105 : decode cX8_nextToken 105 = .ok (.iconst 2, 1) := by decide +kernel
theorem dX8_nextToken_106 : decode cX8_nextToken 106 = .ok (.putfield 87, 3) := by decide +kernel
theorem dX8_nextToken_109 : decode cX8_nextToken 109 = .ok (.goto 87, 3) := by decide +kernel
theorem dX8_nextToken_112 : decode cX8_nextToken 112 = .ok (.iload_n 1, 1) := by decide +kernel
theorem dX8_nextToken_113 : decode cX8_nextToken 113 = .ok (.invokestatic 93, 3) := by decide +kernel
theorem dX8_nextToken_116 : decode cX8_nextToken 116 = .ok (.ifCond .eq 55, 3) := by decide +kernel
theorem dX8_nextToken_119 : decode cX8_nextToken 119 = .ok (.aload_n 0, 1) := by decide +kernel
theorem dX8_nextToken_120 : decode cX8_nextToken 120 = .ok (.aload_n 0, 1) := by decide +kernel
theorem dX8_nextToken_121 : decode cX8_nextToken 121 = .ok (.getfield 78, 3) := by decide +kernel
theorem dX8_nextToken_124 : decode cX8_nextToken 124 = .ok (.invokevirtual 81, 3) := by decide +kernel
theorem dX8_nextToken_127 : decode cX8_nextToken 127 = .ok (.invokestatic 93, 3) := by decide +kernel
theorem dX8_nextToken_130 : decode cX8_nextToken 130 = .ok (.ifCond .eq 16, 3) := by decide +kernel
theorem dX8_nextToken_133 : decode cX8_nextToken 133 = .ok (.aload_n 0, 1) := by decide +kernel
theorem dX8_nextToken_134 : decode cX8_nextToken 134 = .ok (.dup, 1) := by decide +kernel
theorem dX8_nextToken_135 : decode cX8_nextToken 135 = .ok (.getfield 78, 3) := by decide +kernel
theorem dX8_nextToken_138 : decode cX8_nextToken 138 = .ok (.iconst 1, 1) := by decide +kernel
theorem dX8_nextToken_139 : decode cX8_nextToken 139 = .ok (.iadd, 1) := by decide +kernel
theorem dX8_nextToken_140 : decode cX8_nextToken 140 = .ok (.putfield 78, 3) := by decide +kernel
theorem dX8_nextToken_143 : decode cX8_nextToken 143 = .ok (.goto (-24), 3) := by decide +kernel
theorem dX8_nextToken_146 : decode cX8_nextToken 146 = .ok (.aload_n 0, 1) := by decide +kernel
theorem dX8_nextToken_147 : decode cX8_nextToken 147 = .ok (.aload_n 0, 1) := by decide +kernel
theorem dX8_nextToken_148 : decode cX8_nextToken 148 = .ok (.getfield 78, 3) := by decide +kernel
theorem dX8_nextToken_151 : decode cX8_nextToken 151 = .ok (.aload_n 0, 1) := by decide +kernel
theorem dX8_nextToken_152 : decode cX8_nextToken 152 = .ok (.getfield 84, 3) := by decide +kernel
theorem dX8_nextToken_155 : decode cX8_nextToken 155 = .ok (.isub, 1) := by decide +kernel
theorem dX8_nextToken_156 : decode cX8_nextToken 156 = .ok (.iconst 3, 1) := by decide +kernel
theorem dX8_nextToken_157 : decode cX8_nextToken 157 = .ok (.if_icmp .le 7, 3) := by decide +kernel
theorem dX8_nextToken_160 : decode cX8_nextToken 160 = .ok (.iconst 0, 1) := by decide +kernel
theorem dX8_nextToken_161 : decode cX8_nextToken 161 = .ok (.goto 4, 3) := by decide +kernel
theorem dX8_nextToken_164 : decode cX8_nextToken 164 = .ok (.iconst 3, 1) := by decide +kernel
theorem dX8_nextToken_165 : decode cX8_nextToken 165 = .ok (.putfield 87, 3) := by decide +kernel
theorem dX8_nextToken_168 : decode cX8_nextToken 168 = .ok (.goto 28, 3) := by decide +kernel
theorem dX8_nextToken_171 : decode cX8_nextToken 171 = .ok (.aload_n 0, 1) := by decide +kernel
theorem dX8_nextToken_172 : decode cX8_nextToken 172 = .ok (.dup, 1) := by decide +kernel
theorem dX8_nextToken_173 : decode cX8_nextToken 173 = .ok (.getfield 78, 3) := by decide +kernel
theorem dX8_nextToken_176 : decode cX8_nextToken 176 = .ok (.iconst 1, 1) := by decide +kernel
theorem dX8_nextToken_177 : decode cX8_nextToken 177 = .ok (.iadd, 1) := by decide +kernel
theorem dX8_nextToken_178 : decode cX8_nextToken 178 = .ok (.putfield 78, 3) := by decide +kernel
theorem dX8_nextToken_181 : decode cX8_nextToken 181 = .ok (.aload_n 0, 1) := by decide +kernel
theorem dX8_nextToken_182 : decode cX8_nextToken 182 = .ok (.iload_n 1, 1) := by decide +kernel
theorem dX8_nextToken_183 : decode cX8_nextToken 183 = .ok (.bipush 59, 2) := by decide +kernel
theorem dX8_nextToken_185 : decode cX8_nextToken 185 = .ok (.if_icmp .ne 7, 3) := by decide +kernel
theorem dX8_nextToken_188 : decode cX8_nextToken 188 = .ok (.iconst 4, 1) := by decide +kernel
theorem dX8_nextToken_189 : decode cX8_nextToken 189 = .ok (.goto 4, 3) := by decide +kernel
theorem dX8_nextToken_192 : decode cX8_nextToken 192 = .ok (.iconst 0, 1) := by decide +kernel
theorem dX8_nextToken_193 : decode cX8_nextToken 193 = .ok (.putfield 87, 3) := by decide +kernel
theorem dX8_nextToken_196 : decode cX8_nextToken 196 = .ok (.aload_n 0, 1) := by decide +kernel
theorem dX8_nextToken_197 : decode cX8_nextToken 197 = .ok (.aload_n 0, 1) := by decide +kernel
theorem dX8_nextToken_198 : decode cX8_nextToken 198 = .ok (.getfield 78, 3) := by decide +kernel
theorem dX8_nextToken_201 : decode cX8_nextToken 201 = .ok (.putfield 96, 3) := by decide +kernel
theorem dX8_nextToken_204 : decode cX8_nextToken 204 = .ok (.return_, 1) := by decide +kernel
set_option maxRecDepth 20000 in
theorem ggX8_begin_X8_nextToken : GoodIn wsX8_begin wsX8_nextToken := goodIn_r _ [9, 3, 10, 11, 12, 13, 14, 15, 16, 8, 17, 2, 18, 19, 20, 21, 22, 23, 24, 25, 26, 27, 28, 29, 30, 31, 32, 33, 34, 35, 36, 37, 38, 39, 40, 41, 42, 43, 44, 45, 46, 47, 48, 49] (by decide +kernel) (by decide +kernel)
set_option maxRecDepth 20000 in
theorem gX8_begin_X8_nextToken : GoodIn wsX8_begin (wsV RX8 102 RX8 yX8_nextToken wsX8_nextToken) := goodIn_app (goodIn_of _ (by decide +kernel)) ggX8_begin_X8_nextToken
theorem dX8_begin_0 : decode cX8_begin 0 = .ok (.aload_n 0, 1) := by decide +kernel
theorem dX8_begin_1 : decode cX8_begin 1 = .ok (.aload_n 0, 1) := by decide +kernel
theorem dX8_begin_2 : decode cX8_begin 2 = .ok (.getfield 68, 3) := by decide +kernel
theorem dX8_begin_5 : decode cX8_begin 5 = .ok (.putfield 74, 3) := by decide +kernel
theorem dX8_begin_8 : decode cX8_begin 8 = .ok (.aload_n 0, 1) := by decide +kernel
theorem dX8_begin_9 : decode cX8_begin 9 = .ok (.iconst 0, 1) := by decide +kernel
theorem dX8_begin_10 : decode cX8_begin 10 = .ok (.putfield 68, 3) := by decide +kernel
theorem dX8_begin_13 : decode cX8_begin 13 = .ok (.aload_n 0, 1) := by decide +kernel
theorem dX8_begin_14 : decode cX8_begin 14 = .ok (.iconst 0, 1) := by decide +kernel
theorem dX8_begin_15 : decode cX8_begin 15 = .ok (.putfield 78, 3) := by decide +kernel
theorem dX8_begin_18 : decode cX8_begin 18 = .ok (.aload_n 0, 1) := by decide +kernel
theorem dX8_begin_19 : decode cX8_begin 19 = .ok (.iconst 0, 1) := by decide +kernel
theorem dX8_begin_20 : decode cX8_begin 20 = .ok (.putfield 99, 3) := by decide +kernel
theorem dX8_begin_23 : decode cX8_begin 23 = .ok (.aload_n 0, 1) := by decide +kernel
theorem dX8_begin_24 : decode cX8_begin 24 = .ok (.invokevirtual 102, 3) := by decide +kernel
theorem dX8_begin_27 : decode cX8_begin 27 = .ok (.return_, 1) := by decide +kernel
theorem dX8_bad_0 : decode cX8_bad 0 = .ok (.aload_n 0, 1) := by decide +kernel
theorem dX8_bad_1 : decode cX8_bad 1 = .ok (.getfield 99, 3) := by decide +kernel
theorem dX8_bad_4 : decode cX8_bad 4 = .ok (.ifCond .ne 16, 3) := by decide +kernel
theorem dX8_bad_7 : decode cX8_bad 7 = .ok (.aload_n 0, 1) := by decide +kernel
theorem dX8_bad_8 : decode cX8_bad 8 = .ok (.iload_n 1, 1) := by decide +kernel
theorem dX8_bad_9 : decode cX8_bad 9 = .ok (.putfield 99, 3) := by decide +kernel
theorem dX8_bad_12 : decode cX8_bad 12 = .ok (.aload_n 0, 1) := by decide +kernel
theorem dX8_bad_13 : decode cX8_bad 13 = .ok (.aload_n 0, 1) := by decide +kernel
theorem dX8_bad_14 : decode cX8_bad 14 = .ok (.getfield 84, 3) := by decide +kernel
theorem dX8_bad_17 : decode cX8_bad 17 = .ok (.putfield 105, 3) := by decide +kernel
theorem dX8_bad_20 : decode cX8_bad 20 = .ok (.return_, 1) := by decide +kernel
set_option maxRecDepth 20000 in
theorem ggX8_must_X8_bad : GoodIn wsX8_must wsX8_bad := goodIn_r _ [6, 1, 7, 8, 29, 30, 31, 32, 33, 34, 35, 36, 37, 38, 39, 40, 41, 42, 43, 44, 45, 46, 47, 48, 49, 50, 51, 52, 53] (by decide +kernel) (by decide +kernel)
set_option maxRecDepth 20000 in
theorem gX8_must_X8_bad : GoodIn wsX8_must (wsV RX8 108 RX8 yX8_bad wsX8_bad) := goodIn_app (goodIn_of _ (by decide +kernel)) ggX8_must_X8_bad
set_option maxRecDepth 20000 in
theorem ggX8_must_X8_nextToken : GoodIn wsX8_must wsX8_nextToken := goodIn_r _ [12, 13, 7, 14, 15, 16, 17, 18, 19, 5, 20, 21, 22, 23, 24, 25, 26, 27, 28, 29, 30, 31, 32, 33, 34, 35, 36, 37, 38, 39, 40, 41, 42, 43, 44, 45, 46, 47, 48, 49, 50, 51, 52, 53] (by decide +kernel) (by decide +kernel)
set_option maxRecDepth 20000 in
theorem gX8_must_X8_nextToken : GoodIn wsX8_must (wsV RX8 102 RX8 yX8_nextToken wsX8_nextToken) := goodIn_app (goodIn_of _ (by decide +kernel)) ggX8_must_X8_nextToken
theorem dX8_must_0 : decode cX8_must 0 = .ok (.iload_n 1, 1) := by decide +kernel
theorem dX8_must_1 : decode cX8_must 1 = .ok (.ifCond .ne 8, 3) := by decide +kernel
theorem dX8_must_4 : decode cX8_must 4 = .ok (.aload_n 0, 1) := by decide +kernel
theorem dX8_must_5 : decode cX8_must 5 = .ok (.iconst 1, 1) := by decide +kernel
theorem dX8_must_6 : decode cX8_must 6 = .ok (.invokevirtual 108, 3) := by decide +kernel
theorem dX8_must_9 : decode cX8_must 9 = .ok (.aload_n 0, 1) := by decide +kernel
theorem dX8_must_10 : decode cX8_must 10 = .ok (.getfield 99, 3) := by decide +kernel
theorem dX8_must_13 : decode cX8_must 13 = .ok (.ifCond .ne 7, 3) := by decide +kernel
theorem dX8_must_16 : decode cX8_must 16 = .ok (.aload_n 0, 1) := by decide +kernel
theorem dX8_must_17 : decode cX8_must 17 = .ok (.invokevirtual 102, 3) := by decide +kernel
theorem dX8_must_20 : decode cX8_must 20 = .ok (.return_, 1) := by decide +kernel
theorem dX8_name_0 : decode cX8_name 0 = .ok (.lconst 0, 1) := by decide +kernel
theorem dX8_name_1 : decode cX8_name 1 = .ok (.lstore_n 1, 1) := by decide +kernel
theorem dX8_name_2 : decode cX8_name 2 = .ok (.aload_n 0, 1) := by decide +kernel
theorem dX8_name_3 : decode cX8_name 3 = .ok (.getfield 84, 3) := by decide +kernel
theorem dX8_name_6 : decode cX8_name 6 = .ok (.istore_n 3, 1) := by decide +kernel
theorem dX8_name_7 : decode cX8_name 7 = .ok (.iload_n 3, 1) := by decide +kernel
theorem dX8_name_8 : decode cX8_name 8 = .ok (.aload_n 0, 1) := by decide +kernel
theorem dX8_name_9 : decode cX8_name 9 = .ok (.getfield 96, 3) := by decide +kernel
theorem dX8_name_12 : decode cX8_name 12 = .ok (.if_icmp .ge 44, 3) := by decide +kernel
theorem dX8_name_15 : decode cX8_name 15 = .ok (.aload_n 0, 1) := by decide +kernel
theorem dX8_name_16 : decode cX8_name 16 = .ok (.getfield 87, 3) := by decide +kernel
theorem dX8_name_19 : decode cX8_name 19 = .ok (.iconst 2, 1) := by decide +kernel
theorem dX8_name_20 : decode cX8_name 20 = .ok (.if_icmp .ne 36, 3) := by decide +kernel
theorem dX8_name_23 : decode cX8_name 23 = .ok (.aload_n 0, 1) := by decide +kernel
theorem dX8_name_24 : decode cX8_name 24 = .ok (.getfield 96, 3) := by decide +kernel
theorem dX8_name_27 : decode cX8_name 27 = .ok (.aload_n 0, 1) := by decide +kernel
theorem dX8_name_28 : decode cX8_name 28 = .ok (.getfield 84, 3) := by decide +kernel
theorem dX8_name_31 : decode cX8_name 31 = .ok (.isub, 1) := by decide +kernel
theorem dX8_name_32 : decode cX8_name 32 = .ok (.bipush 8, 2) := by decide +kernel
theorem dX8_name_34 : decode cX8_name 34 = .ok (.if_icmp .ge 22, 3) := by decide +kernel
theorem dX8_name_37 : decode cX8_name 37 = .ok (.lload_n 1, 1) := by decide +kernel
theorem dX8_name_38 : decode cX8_name 38 = .ok (.bipush 8, 2) := by decide +kernel
theorem dX8_name_40 : decode cX8_name 40 = .ok (.lshl, 1) := by decide +kernel
theorem dX8_name_41 : decode cX8_name 41 = .ok (.aload_n 0, 1) := by decide +kernel
theorem dX8_name_42 : decode cX8_name 42 = .ok (.getfield 28, 3) := by decide +kernel
theorem dX8_name_45 : decode cX8_name 45 = .ok (.iload_n 3, 1) := by decide +kernel
theorem dX8_name_46 : decode cX8_name 46 = .ok (.iaload, 1) := by decide +kernel
theorem dX8_name_47 : decode cX8_name 47 = .ok (.i2l, 1) := by decide +kernel
theorem dX8_name_48 : decode cX8_name 48 = .ok (.lor, 1) := by decide +kernel
theorem dX8_name_49 : decode cX8_name 49 = .ok (.lstore_n 1, 1) := by decide +kernel
theorem dX8_name_50 : decode cX8_name 50 = .ok (.iinc 3 1, 3) := by decide +kernel
theorem dX8_name_53 : decode cX8_name 53 = .ok (.goto (-46), 3) := by decide +kernel
theorem dX8_name_56 : decode cX8_name 56 = .ok (.aload_n 0, 1) := by decide +kernel
theorem dX8_name_57 : decode cX8_name 57 = .ok (.getfield 99, 3) := by decide +kernel
theorem dX8_name_60 : decode cX8_name 60 = .ok (.ifCond .ne 7, 3) := by decide +kernel
theorem dX8_name_63 : decode cX8_name 63 = .ok (.lload_n 1, 1) := by decide +kernel
theorem dX8_name_64 : decode cX8_name 64 = .ok (.goto 4, 3) := by decide +kernel
theorem dX8_name_67 : decode cX8_name 67 = .ok (.lconst 0, 1) := by decide +kernel
theorem dX8_name_68 : decode cX8_name 68 = .ok (.lreturn, 1) := by decide +kernel
theorem dX8_figures_0 : decode cX8_figures 0 = .ok (.iconst 0, 1) := by decide +kernel
theorem dX8_figures_1 : decode cX8_figures 1 = .ok (.istore_n 1, 1) := by decide +kernel
theorem dX8_figures_2 : decode cX8_figures 2 = .ok (.aload_n 0, 1) := by decide +kernel
theorem dX8_figures_3 : decode cX8_figures 3 = .ok (.getfield 84, 3) := by decide +kernel
theorem dX8_figures_6 : decode cX8_figures 6 = .ok (.istore_n 2, 1) := by decide +kernel
theorem dX8_figures_7 : decode cX8_figures 7 = .ok (.iload_n 2, 1) := by decide +kernel
theorem dX8_figures_8 : decode cX8_figures 8 = .ok (.aload_n 0, 1) := by decide +kernel
theorem dX8_figures_9 : decode cX8_figures 9 = .ok (.getfield 96, 3) := by decide +kernel
theorem dX8_figures_12 : decode cX8_figures 12 = .ok (.if_icmp .ge 32, 3) := by decide +kernel
theorem dX8_figures_15 : decode cX8_figures 15 = .ok (.aload_n 0, 1) := by decide +kernel
theorem dX8_figures_16 : decode cX8_figures 16 = .ok (.getfield 87, 3) := by decide +kernel
theorem dX8_figures_19 : decode cX8_figures 19 = .ok (.iconst 3, 1) := by decide +kernel
theorem dX8_figures_20 : decode cX8_figures 20 = .ok (.if_icmp .ne 24, 3) := by decide +kernel
theorem dX8_figures_23 : decode cX8_figures 23 = .ok (.bipush 10, 2) := by decide +kernel
theorem dX8_figures_25 : decode cX8_figures 25 = .ok (.iload_n 1, 1) := by decide +kernel
theorem dX8_figures_26 : decode cX8_figures 26 = .ok (.imul, 1) := by decide +kernel
theorem dX8_figures_27 : decode cX8_figures 27 = .ok (.aload_n 0, 1) := by decide +kernel
theorem dX8_figures_28 : decode cX8_figures 28 = .ok (.getfield 28, 3) := by decide +kernel
theorem dX8_figures_31 : decode cX8_figures 31 = .ok (.iload_n 2, 1) := by decide +kernel
theorem dX8_figures_32 : decode cX8_figures 32 = .ok (.iaload, 1) := by decide +kernel
theorem dX8_figures_33 : decode cX8_figures 33 = .ok (.iadd, 1) := by decide +kernel
theorem dX8_figures_34 : decode cX8_figures 34 = .ok (.bipush 48, 2) := by decide +kernel
theorem dX8_figures_36 : decode cX8_figures 36 = .ok (.isub, 1) := by decide +kernel
theorem dX8_figures_37 : decode cX8_figures 37 = .ok (.istore_n 1, 1) := by decide +kernel
theorem dX8_figures_38 : decode cX8_figures 38 = .ok (.iinc 2 1, 3) := by decide +kernel
theorem dX8_figures_41 : decode cX8_figures 41 = .ok (.goto (-34), 3) := by decide +kernel
theorem dX8_figures_44 : decode cX8_figures 44 = .ok (.iload_n 1, 1) := by decide +kernel
theorem dX8_figures_45 : decode cX8_figures 45 = .ok (.ireturn, 1) := by decide +kernel
set_option maxRecDepth 20000 in
theorem ggX8_number_X8_figures : GoodIn wsX8_number wsX8_figures := goodIn_r _ [7, 8, 9, 2, 10, 40, 41, 42, 43, 44, 45, 46, 47, 48, 49, 50, 51, 52, 53, 54, 55, 56, 57, 58, 59, 60, 61, 62, 63, 64] (by decide +kernel) (by decide +kernel)
set_option maxRecDepth 20000 in
theorem gX8_number_X8_figures : GoodIn wsX8_number (wsV RX8 112 RX8 yX8_figures wsX8_figures) := goodIn_app (goodIn_of _ (by decide +kernel)) ggX8_number_X8_figures
set_option maxRecDepth 20000 in
theorem ggX8_number_X8_in : GoodIn wsX8_number wsX8_in := goodIn_r _ [13] (by decide +kernel) (by decide +kernel)
set_option maxRecDepth 20000 in
theorem gX8_number_X8_in : GoodIn wsX8_number (va_wsS RX8 51 yX8_in wsX8_in) := goodIn_app (goodIn_of _ (by decide +kernel)) ggX8_number_X8_in
set_option maxRecDepth 20000 in
theorem ggX8_number_X8_bad : GoodIn wsX8_number wsX8_bad := goodIn_r _ [17, 1, 8, 18, 40, 41, 42, 43, 44, 45, 46, 47, 48, 49, 50, 51, 52, 53, 54, 55, 56, 57, 58, 59, 60, 61, 62, 63, 64] (by decide +kernel) (by decide +kernel)
set_option maxRecDepth 20000 in
theorem gX8_number_X8_bad : GoodIn wsX8_number (wsV RX8 108 RX8 yX8_bad wsX8_bad) := goodIn_app (goodIn_of _ (by decide +kernel)) ggX8_number_X8_bad
set_option maxRecDepth 20000 in
theorem ggX8_number_X8_must : GoodIn wsX8_number wsX8_must := goodIn_r _ [22, 1, 14, 15, 16, 6, 17, 8, 18, 23, 24, 25, 26, 27, 28, 2, 9, 29, 30, 31, 32, 33, 10, 34, 35, 36, 37, 38, 39, 40, 41, 42, 43, 44, 45, 46, 47, 48, 49, 50, 51, 52, 53, 54, 55, 56, 57, 58, 59, 60, 61, 62, 63, 64] (by decide +kernel) (by decide +kernel)
set_option maxRecDepth 20000 in
theorem gX8_number_X8_must : GoodIn wsX8_number (wsV RX8 116 RX8 yX8_must wsX8_must) := goodIn_app (goodIn_of _ (by decide +kernel)) ggX8_number_X8_must
theorem dX8_number_0 : decode cX8_number 0 = .ok (.aload_n 0, 1) := by decide +kernel
theorem dX8_number_1 : decode cX8_number 1 = .ok (.getfield 99, 3) := by decide +kernel
theorem dX8_number_4 : decode cX8_number 4 = .ok (.ifCond .le 5, 3) := by decide +kernel
theorem dX8_number_7 : decode cX8_number 7 = .ok (.iconst 0, 1) := by decide +kernel
theorem dX8_number_8 : decode cX8_number 8 = .ok (.ireturn, 1) := by decide +kernel
theorem dX8_number_9 : decode cX8_number 9 = .ok (.aload_n 0, 1) := by decide +kernel
theorem dX8_number_10 : decode cX8_number 10 = .ok (.invokevirtual 112, 3) := by decide +kernel
theorem dX8_number_13 : decode cX8_number 13 = .ok (.istore_n 3, 1) := by decide +kernel
theorem dX8_number_14 : decode cX8_number 14 = .ok (.aload_n 0, 1) := by decide +kernel
theorem dX8_number_15 : decode cX8_number 15 = .ok (.getfield 87, 3) := by decide +kernel
theorem dX8_number_18 : decode cX8_number 18 = .ok (.iconst 3, 1) := by decide +kernel
theorem dX8_number_19 : decode cX8_number 19 = .ok (.if_icmp .ne 20, 3) := by decide +kernel
theorem dX8_number_22 : decode cX8_number 22 = .ok (.iload_n 3, 1) := by decide +kernel
theorem dX8_number_23 : decode cX8_number 23 = .ok (.i2l, 1) := by decide +kernel
theorem dX8_number_24 : decode cX8_number 24 = .ok (.iload_n 1, 1) := by decide +kernel
theorem dX8_number_25 : decode cX8_number 25 = .ok (.i2l, 1) := by decide +kernel
theorem dX8_number_26 : decode cX8_number 26 = .ok (.iload_n 2, 1) := by decide +kernel
theorem dX8_number_27 : decode cX8_number 27 = .ok (.i2l, 1) := by decide +kernel
theorem dX8_number_28 : decode cX8_number 28 = .ok (.invokestatic 51, 3) := by decide +kernel
theorem dX8_number_31 : decode cX8_number 31 = .ok (.ifCond .ne 8, 3) := by decide +kernel
theorem dX8_number_34 : decode cX8_number 34 = .ok (.aload_n 0, 1) := by decide +kernel
theorem dX8_number_35 : decode cX8_number 35 = .ok (.iconst 2, 1) := by decide +kernel
theorem dX8_number_36 : decode cX8_number 36 = .ok (.invokevirtual 108, 3) := by decide +kernel
theorem dX8_number_39 : decode cX8_number 39 = .ok (.aload_n 0, 1) := by decide +kernel
theorem dX8_number_40 : decode cX8_number 40 = .ok (.aload_n 0, 1) := by decide +kernel
theorem dX8_number_41 : decode cX8_number 41 = .ok (.getfield 87, 3) := by decide +kernel
theorem dX8_number_44 : decode cX8_number 44 = .ok (.iconst 3, 1) := by decide +kernel
theorem dX8_number_45 : decode cX8_number 45 = .ok (.if_icmp .ne 7, 3) := by decide +kernel
theorem dX8_number_48 : decode cX8_number 48 = .ok (.iconst 1, 1) := by decide +kernel
theorem dX8_number_49 : decode cX8_number 49 = .ok (.goto 4, 3) := by decide +kernel
theorem dX8_number_52 : decode cX8_number 52 = .ok (.iconst 0, 1) := by decide +kernel
theorem dX8_number_53 : decode cX8_number 53 = .ok (.invokevirtual 116, 3) := by decide +kernel
theorem dX8_number_56 : decode cX8_number 56 = .ok (.iload_n 3, 1) := by decide +kernel
theorem dX8_number_57 : decode cX8_number 57 = .ok (.ireturn, 1) := by decide +kernel
theorem dX8_kindBy_0 : decode cX8_kindBy 0 = .ok (.lload_n 0, 1) := by decide +kernel
theorem dX8_kindBy_1 : decode cX8_kindBy 1 = .ok (.ldc2_w 120, 3) := by decide +kernel
theorem dX8_kindBy_4 : decode cX8_kindBy 4 = .ok (.lcmp, 1) := by decide +kernel
theorem dX8_kindBy_5 : decode cX8_kindBy 5 = .ok (.ifCond .ne 7, 3) := by decide +kernel
theorem dX8_kindBy_8 : decode cX8_kindBy 8 = .ok (.iconst 1, 1) := by decide +kernel
theorem dX8_kindBy_9 : decode cX8_kindBy 9 = .ok (.goto 53, 3) := by decide +kernel
theorem dX8_kindBy_12 : decode cX8_kindBy 12 = .ok (.lload_n 0, 1) := by decide +kernel
theorem dX8_kindBy_13 : decode cX8_kindBy 13 = .ok (.ldc2_w 122, 3) := by decide +kernel
theorem dX8_kindBy_16 : decode cX8_kindBy 16 = .ok (.lcmp, 1) := by decide +kernel
theorem dX8_kindBy_17 : decode cX8_kindBy 17 = .ok (.ifCond .ne 7, 3) := by decide +kernel
theorem dX8_kindBy_20 : decode cX8_kindBy 20 = .ok (.iconst 2, 1) := by decide +kernel
theorem dX8_kindBy_21 : decode cX8_kindBy 21 = .ok (.goto 41, 3) := by decide +kernel
theorem dX8_kindBy_24 : decode cX8_kindBy 24 = .ok (.lload_n 0, 1) := by decide +kernel
theorem dX8_kindBy_25 : decode cX8_kindBy 25 = .ok (.ldc2_w 124, 3) := by decide +kernel
theorem dX8_kindBy_28 : decode cX8_kindBy 28 = .ok (.lcmp, 1) := by decide +kernel
theorem dX8_kindBy_29 : decode cX8_kindBy 29 = .ok (.ifCond .ne 7, 3) := by decide +kernel
theorem dX8_kindBy_32 : decode cX8_kindBy 32 = .ok (.iconst 3, 1) := by decide +kernel
theorem dX8_kindBy_33 : decode cX8_kindBy 33 = .ok (.goto 29, 3) := by decide +kernel
theorem dX8_kindBy_36 : decode cX8_kindBy 36 = .ok (.lload_n 0, 1) := by decide +kernel
theorem dX8_kindBy_37 : decode cX8_kindBy 37 = .ok (.ldc2_w 126, 3) := by decide +kernel
theorem dX8_kindBy_40 : decode cX8_kindBy 40 = .ok (.lcmp, 1) := by decide +kernel
theorem dX8_kindBy_41 : decode cX8_kindBy 41 = .ok (.ifCond .ne 7, 3) := by decide +kernel
theorem dX8_kindBy_44 : decode cX8_kindBy 44 = .ok (.iconst 4, 1) := by decide +kernel
theorem dX8_kindBy_45 : decode cX8_kindBy 45 = .ok (.goto 17, 3) := by decide +kernel
theorem dX8_kindBy_48 : decode cX8_kindBy 48 = .ok (.lload_n 0, 1) := by decide +kernel
theorem dX8_kindBy_49 : decode cX8_kindBy 49 = .ok (.ldc2_w 128, 3) := by decide +kernel
theorem dX8_kindBy_52 : decode cX8_kindBy 52 = .ok (.lcmp, 1) := by decide +kernel
theorem dX8_kindBy_53 : decode cX8_kindBy 53 = .ok (.ifCond .ne 7, 3) := by decide +kernel
theorem dX8_kindBy_56 : decode cX8_kindBy 56 = .ok (.iconst 5, 1) := by decide +kernel
theorem dX8_kindBy_57 : decode cX8_kindBy 57 = .ok (.goto 5, 3) := by decide +kernel
theorem dX8_kindBy_60 : decode cX8_kindBy 60 = .ok (.ldc 77, 2) := by decide +kernel
theorem dX8_kindBy_62 : decode cX8_kindBy 62 = .ok (.ireturn, 1) := by decide +kernel
set_option maxRecDepth 20000 in
theorem ggX8_mustEnd_X8_must : GoodIn wsX8_mustEnd wsX8_must := goodIn_r _ [7, 1, 8, 9, 10, 6, 11, 12, 13, 14, 15, 16, 17, 18, 19, 2, 20, 21, 22, 23, 24, 25, 26, 27, 28, 29, 30, 31, 32, 33, 34, 35, 36, 37, 38, 39, 40, 41, 42, 43, 44, 45, 46, 47, 48, 49, 50, 51, 52, 53, 54, 55, 56, 57] (by decide +kernel) (by decide +kernel)
set_option maxRecDepth 20000 in
theorem gX8_mustEnd_X8_must : GoodIn wsX8_mustEnd (wsV RX8 116 RX8 yX8_must wsX8_must) := goodIn_app (goodIn_of _ (by decide +kernel)) ggX8_mustEnd_X8_must
theorem dX8_mustEnd_0 : decode cX8_mustEnd 0 = .ok (.aload_n 0, 1) := by decide +kernel
theorem dX8_mustEnd_1 : decode cX8_mustEnd 1 = .ok (.getfield 99, 3) := by decide +kernel
theorem dX8_mustEnd_4 : decode cX8_mustEnd 4 = .ok (.ifCond .ne 20, 3) := by decide +kernel
theorem dX8_mustEnd_7 : decode cX8_mustEnd 7 = .ok (.aload_n 0, 1) := by decide +kernel
theorem dX8_mustEnd_8 : decode cX8_mustEnd 8 = .ok (.aload_n 0, 1) := by decide +kernel
theorem dX8_mustEnd_9 : decode cX8_mustEnd 9 = .ok (.getfield 87, 3) := by decide +kernel
theorem dX8_mustEnd_12 : decode cX8_mustEnd 12 = .ok (.iconst 4, 1) := by decide +kernel
theorem dX8_mustEnd_13 : decode cX8_mustEnd 13 = .ok (.if_icmp .ne 7, 3) := by decide +kernel
theorem dX8_mustEnd_16 : decode cX8_mustEnd 16 = .ok (.iconst 1, 1) := by decide +kernel
theorem dX8_mustEnd_17 : decode cX8_mustEnd 17 = .ok (.goto 4, 3) := by decide +kernel
theorem dX8_mustEnd_20 : decode cX8_mustEnd 20 = .ok (.iconst 0, 1) := by decide +kernel
theorem dX8_mustEnd_21 : decode cX8_mustEnd 21 = .ok (.invokevirtual 116, 3) := by decide +kernel
theorem dX8_mustEnd_24 : decode cX8_mustEnd 24 = .ok (.return_, 1) := by decide +kernel
set_option maxRecDepth 20000 in
theorem ggX8_readHand_X8_bad : GoodIn wsX8_readHand wsX8_bad := goodIn_r _ [8, 2, 9, 10, 61, 62, 63, 64, 65, 66, 67, 68, 69, 70, 71, 72, 73, 74, 75, 76, 77, 78, 79, 80, 81, 82, 83, 84, 85] (by decide +kernel) (by decide +kernel)
set_option maxRecDepth 20000 in
theorem gX8_readHand_X8_bad : GoodIn wsX8_readHand (wsV RX8 108 RX8 yX8_bad wsX8_bad) := goodIn_app (goodIn_of _ (by decide +kernel)) ggX8_readHand_X8_bad
set_option maxRecDepth 20000 in
theorem ggX8_readHand_X8_must : GoodIn wsX8_readHand wsX8_must := goodIn_r _ [14, 2, 4, 5, 6, 7, 8, 9, 10, 15, 16, 17, 18, 19, 3, 20, 21, 22, 23, 24, 25, 26, 27, 28, 29, 30, 31, 32, 33, 61, 62, 63, 64, 65, 66, 67, 68, 69, 70, 71, 72, 73, 74, 75, 76, 77, 78, 79, 80, 81, 82, 83, 84, 85] (by decide +kernel) (by decide +kernel)
set_option maxRecDepth 20000 in
theorem gX8_readHand_X8_must : GoodIn wsX8_readHand (wsV RX8 116 RX8 yX8_must wsX8_must) := goodIn_app (goodIn_of _ (by decide +kernel)) ggX8_readHand_X8_must
set_option maxRecDepth 20000 in
theorem ggX8_readHand_X8_name : GoodIn wsX8_readHand wsX8_name := goodIn_r _ [37, 9, 21, 20, 27, 2, 61, 62, 63, 64, 65, 66, 67, 68, 69, 70, 71, 72, 73, 74, 75, 76, 77, 78, 79, 80, 81, 82, 83, 84, 85] (by decide +kernel) (by decide +kernel)
set_option maxRecDepth 20000 in
theorem gX8_readHand_X8_name : GoodIn wsX8_readHand (wsV RX8 130 RX8 yX8_name wsX8_name) := goodIn_app (goodIn_of _ (by decide +kernel)) ggX8_readHand_X8_name
set_option maxRecDepth 20000 in
theorem ggX8_readHand_X8_kindBy : GoodIn wsX8_readHand wsX8_kindBy := goodIn_r _ [40, 41, 42, 43, 44, 45, 3] (by decide +kernel) (by decide +kernel)
set_option maxRecDepth 20000 in
theorem gX8_readHand_X8_kindBy : GoodIn wsX8_readHand (va_wsS RX8 134 yX8_kindBy wsX8_kindBy) := goodIn_app (goodIn_of _ (by decide +kernel)) ggX8_readHand_X8_kindBy
set_option maxRecDepth 20000 in
theorem ggX8_readHand_X8_number : GoodIn wsX8_readHand wsX8_number := goodIn_r _ [49, 2, 20, 50, 51, 52, 7, 53, 9, 21, 27, 54, 55, 56, 4, 5, 6, 8, 10, 11, 12, 13, 14, 15, 16, 17, 18, 19, 3, 22, 23, 24, 25, 26, 28, 29, 30, 31, 32, 33, 61, 62, 63, 64, 65, 66, 67, 68, 69, 70, 71, 72, 73, 74, 75, 76, 77, 78, 79, 80, 81, 82, 83, 84, 85] (by decide +kernel) (by decide +kernel)
set_option maxRecDepth 20000 in
theorem gX8_readHand_X8_number : GoodIn wsX8_readHand (wsV RX8 138 RX8 yX8_number wsX8_number) := goodIn_app (goodIn_of _ (by decide +kernel)) ggX8_readHand_X8_number
set_option maxRecDepth 20000 in
theorem ggX8_readHand_X8_mustEnd : GoodIn wsX8_readHand wsX8_mustEnd := goodIn_r _ [60, 2, 20, 11, 12, 13, 7, 14, 4, 5, 6, 8, 9, 10, 15, 16, 17, 18, 19, 3, 21, 22, 23, 24, 25, 26, 27, 28, 29, 30, 31, 32, 33, 61, 62, 63, 64, 65, 66, 67, 68, 69, 70, 71, 72, 73, 74, 75, 76, 77, 78, 79, 80, 81, 82, 83, 84, 85] (by decide +kernel) (by decide +kernel)
set_option maxRecDepth 20000 in
theorem gX8_readHand_X8_mustEnd : GoodIn wsX8_readHand (wsV RX8 142 RX8 yX8_mustEnd wsX8_mustEnd) := goodIn_app (goodIn_of _ (by decide +kernel)) ggX8_readHand_X8_mustEnd
theorem dX8_readHand_0 : decode cX8_readHand 0 = .ok (.aload_n 0, 1) := by decide +kernel
theorem dX8_readHand_1 : decode cX8_readHand 1 = .ok (.getfield 22, 3) := by decide +kernel
theorem dX8_readHand_4 : decode cX8_readHand 4 = .ok (.iconst 1, 1) := by decide +kernel
theorem dX8_readHand_5 : decode cX8_readHand 5 = .ok (.iaload, 1) := by decide +kernel
theorem dX8_readHand_6 : decode cX8_readHand 6 = .ok (.iconst 4, 1) := by decide +kernel
theorem dX8_readHand_7 : decode cX8_readHand 7 = .ok (.if_icmp .ne 8, 3) := by decide +kernel
theorem dX8_readHand_10 : decode cX8_readHand 10 = .ok (.aload_n 0, 1) := by decide +kernel
theorem dX8_readHand_11 : decode cX8_readHand 11 = .ok (.iconst 3, 1) := by decide +kernel
theorem dX8_readHand_12 : decode cX8_readHand 12 = .ok (.invokevirtual 108, 3) := by decide +kernel
theorem dX8_readHand_15 : decode cX8_readHand 15 = .ok (.aload_n 0, 1) := by decide +kernel
theorem dX8_readHand_16 : decode cX8_readHand 16 = .ok (.iconst 1, 1) := by decide +kernel
theorem dX8_readHand_17 : decode cX8_readHand 17 = .ok (.invokevirtual 116, 3) := by decide +kernel
theorem dX8_readHand_20 : decode cX8_readHand 20 = .ok (.aload_n 0, 1) := by decide +kernel
theorem dX8_readHand_21 : decode cX8_readHand 21 = .ok (.invokevirtual 130, 3) := by decide +kernel
theorem dX8_readHand_24 : decode cX8_readHand 24 = .ok (.invokestatic 134, 3) := by decide +kernel
theorem dX8_readHand_27 : decode cX8_readHand 27 = .ok (.istore_n 1, 1) := by decide +kernel
theorem dX8_readHand_28 : decode cX8_readHand 28 = .ok (.aload_n 0, 1) := by decide +kernel
theorem dX8_readHand_29 : decode cX8_readHand 29 = .ok (.getfield 99, 3) := by decide +kernel
theorem dX8_readHand_32 : decode cX8_readHand 32 = .ok (.ifCond .ne 18, 3) := by decide +kernel
theorem dX8_readHand_35 : decode cX8_readHand 35 = .ok (.aload_n 0, 1) := by decide +kernel
theorem dX8_readHand_36 : decode cX8_readHand 36 = .ok (.iload_n 1, 1) := by decide +kernel
theorem dX8_readHand_37 : decode cX8_readHand 37 = .ok (.ldc 77, 2) := by decide +kernel
theorem dX8_readHand_39 : decode cX8_readHand 39 = .ok (.if_icmp .eq 7, 3) := by decide +kernel
theorem dX8_readHand_42 : decode cX8_readHand 42 = .ok (.iconst 1, 1) := by decide +kernel
theorem dX8_readHand_43 : decode cX8_readHand 43 = .ok (.goto 4, 3) := by decide +kernel
theorem dX8_readHand_46 : decode cX8_readHand 46 = .ok (.iconst 0, 1) := by decide +kernel
theorem dX8_readHand_47 : decode cX8_readHand 47 = .ok (.invokevirtual 116, 3) := by decide +kernel
theorem dX8_readHand_50 : decode cX8_readHand 50 = .ok (.aload_n 0, 1) := by decide +kernel
theorem dX8_readHand_51 : decode cX8_readHand 51 = .ok (.iconst 1, 1) := by decide +kernel
theorem dX8_readHand_52 : decode cX8_readHand 52 = .ok (.bipush 12, 2) := by decide +kernel
theorem dX8_readHand_54 : decode cX8_readHand 54 = .ok (.invokevirtual 138, 3) := by decide +kernel
theorem dX8_readHand_57 : decode cX8_readHand 57 = .ok (.istore_n 2, 1) := by decide +kernel
theorem dX8_readHand_58 : decode cX8_readHand 58 = .ok (.aload_n 0, 1) := by decide +kernel
theorem dX8_readHand_59 : decode cX8_readHand 59 = .ok (.invokevirtual 142, 3) := by decide +kernel
theorem dX8_readHand_62 : decode cX8_readHand 62 = .ok (.aload_n 0, 1) := by decide +kernel
theorem dX8_readHand_63 : decode cX8_readHand 63 = .ok (.getfield 99, 3) := by decide +kernel
theorem dX8_readHand_66 : decode cX8_readHand 66 = .ok (.ifCond .ne 47, 3) := by decide +kernel
theorem dX8_readHand_69 : decode cX8_readHand 69 = .ok (.aload_n 0, 1) := by decide +kernel
theorem dX8_readHand_70 : decode cX8_readHand 70 = .ok (.getfield 22, 3) := by decide +kernel
theorem dX8_readHand_73 : decode cX8_readHand 73 = .ok (.iconst 2, 1) := by decide +kernel
theorem dX8_readHand_74 : decode cX8_readHand 74 = .ok (.iconst 3, 1) := by decide +kernel
theorem dX8_readHand_75 : decode cX8_readHand 75 = .ok (.aload_n 0, 1) := by decide +kernel
theorem dX8_readHand_76 : decode cX8_readHand 76 = .ok (.getfield 22, 3) := by decide +kernel
theorem dX8_readHand_79 : decode cX8_readHand 79 = .ok (.iconst 1, 1) := by decide +kernel
theorem dX8_readHand_80 : decode cX8_readHand 80 = .ok (.iaload, 1) := by decide +kernel
theorem dX8_readHand_81 : decode cX8_readHand 81 = .ok (.imul, 1) := by decide +kernel
theorem dX8_readHand_82 : decode cX8_readHand 82 = .ok (.iadd, 1) := by decide +kernel
theorem dX8_readHand_83 : decode cX8_readHand 83 = .ok (.iload_n 1, 1) := by decide +kernel
theorem dX8_readHand_84 : decode cX8_readHand 84 = .ok (.iastore, 1) := by decide +kernel
theorem dX8_readHand_85 : decode cX8_readHand 85 = .ok (.aload_n 0, 1) := by decide +kernel
theorem dX8_readHand_86 : decode cX8_readHand 86 = .ok (.getfield 22, 3) := by decide +kernel
theorem dX8_readHand_89 : decode cX8_readHand 89 = .ok (.iconst 2, 1) := by decide +kernel
theorem dX8_readHand_90 : decode cX8_readHand 90 = .ok (.iconst 3, 1) := by decide +kernel
theorem dX8_readHand_91 : decode cX8_readHand 91 = .ok (.aload_n 0, 1) := by decide +kernel
theorem dX8_readHand_92 : decode cX8_readHand 92 = .ok (.getfield 22, 3) := by decide +kernel
theorem dX8_readHand_95 : decode cX8_readHand 95 = .ok (.iconst 1, 1) := by decide +kernel
theorem dX8_readHand_96 : decode cX8_readHand 96 = .ok (.iaload, 1) := by decide +kernel
theorem dX8_readHand_97 : decode cX8_readHand 97 = .ok (.imul, 1) := by decide +kernel
theorem dX8_readHand_98 : decode cX8_readHand 98 = .ok (.iadd, 1) := by decide +kernel
theorem dX8_readHand_99 : decode cX8_readHand 99 = .ok (.iconst 1, 1) := by decide +kernel
theorem dX8_readHand_100 : decode cX8_readHand 100 = .ok (.iadd, 1) := by decide +kernel
theorem dX8_readHand_101 : decode cX8_readHand 101 = .ok (.iload_n 2, 1) := by decide +kernel
theorem dX8_readHand_102 : decode cX8_readHand 102 = .ok (.iastore, 1) := by decide +kernel
theorem dX8_readHand_103 : decode cX8_readHand 103 = .ok (.aload_n 0, 1) := by decide +kernel
theorem dX8_readHand_104 : decode cX8_readHand 104 = .ok (.getfield 22, 3) := by decide +kernel
theorem dX8_readHand_107 : decode cX8_readHand 107 = .ok (.iconst 1, 1) := by decide +kernel
theorem dX8_readHand_108 : decode cX8_readHand 108 = .ok (.dup2, 1) := by decide +kernel
theorem dX8_readHand_109 : decode cX8_readHand 109 = .ok (.iaload, 1) := by decide +kernel
theorem dX8_readHand_110 : decode cX8_readHand 110 = .ok (.iconst 1, 1) := by decide +kernel
theorem dX8_readHand_111 : decode cX8_readHand 111 = .ok (.iadd, 1) := by decide +kernel
theorem dX8_readHand_112 : decode cX8_readHand 112 = .ok (.iastore, 1) := by decide +kernel
theorem dX8_readHand_113 : decode cX8_readHand 113 = .ok (.return_, 1) := by decide +kernel
set_option maxRecDepth 20000 in
theorem ggX8_clock_X8_begin : GoodIn wsX8_clock wsX8_begin := goodIn_r _ [16, 17, 18, 19, 5, 20, 21, 22, 15, 23, 24, 25, 6, 26, 27, 28, 29, 30, 31, 32, 33, 34, 35, 36, 37, 77, 78, 79, 80, 81, 82, 83, 84, 85, 86, 87, 88, 89, 90, 91, 92, 93, 94, 95, 96, 97, 98, 99, 100, 101] (by decide +kernel) (by decide +kernel)
set_option maxRecDepth 20000 in
theorem gX8_clock_X8_begin : GoodIn wsX8_clock (wsV RX8 145 RX8 yX8_begin wsX8_begin) := goodIn_app (goodIn_of _ (by decide +kernel)) ggX8_clock_X8_begin
set_option maxRecDepth 20000 in
theorem ggX8_clock_X8_name : GoodIn wsX8_clock wsX8_name := goodIn_r _ [41, 24, 26, 6, 31, 5, 77, 78, 79, 80, 81, 82, 83, 84, 85, 86, 87, 88, 89, 90, 91, 92, 93, 94, 95, 96, 97, 98, 99, 100, 101] (by decide +kernel) (by decide +kernel)
set_option maxRecDepth 20000 in
theorem gX8_clock_X8_name : GoodIn wsX8_clock (wsV RX8 130 RX8 yX8_name wsX8_name) := goodIn_app (goodIn_of _ (by decide +kernel)) ggX8_clock_X8_name
set_option maxRecDepth 20000 in
theorem ggX8_clock_X8_must : GoodIn wsX8_clock wsX8_must := goodIn_r _ [45, 5, 46, 47, 48, 15, 49, 24, 9, 20, 21, 22, 23, 19, 25, 6, 26, 27, 28, 29, 30, 18, 31, 32, 33, 34, 35, 36, 37, 77, 78, 79, 80, 81, 82, 83, 84, 85, 86, 87, 88, 89, 90, 91, 92, 93, 94, 95, 96, 97, 98, 99, 100, 101] (by decide +kernel) (by decide +kernel)
set_option maxRecDepth 20000 in
theorem gX8_clock_X8_must : GoodIn wsX8_clock (wsV RX8 116 RX8 yX8_must wsX8_must) := goodIn_app (goodIn_of _ (by decide +kernel)) ggX8_clock_X8_must
set_option maxRecDepth 20000 in
theorem ggX8_clock_X8_number : GoodIn wsX8_clock wsX8_number := goodIn_r _ [53, 5, 6, 54, 55, 56, 15, 57, 24, 26, 31, 58, 59, 60, 46, 47, 48, 49, 9, 42, 43, 44, 45, 20, 21, 22, 23, 19, 25, 27, 28, 29, 30, 18, 32, 33, 34, 35, 36, 37, 77, 78, 79, 80, 81, 82, 83, 84, 85, 86, 87, 88, 89, 90, 91, 92, 93, 94, 95, 96, 97, 98, 99, 100, 101] (by decide +kernel) (by decide +kernel)
set_option maxRecDepth 20000 in
theorem gX8_clock_X8_number : GoodIn wsX8_clock (wsV RX8 138 RX8 yX8_number wsX8_number) := goodIn_app (goodIn_of _ (by decide +kernel)) ggX8_clock_X8_number
set_option maxRecDepth 20000 in
theorem ggX8_clock_X8_mustEnd : GoodIn wsX8_clock wsX8_mustEnd := goodIn_r _ [64, 5, 6, 42, 43, 44, 15, 45, 46, 47, 48, 49, 24, 9, 20, 21, 22, 23, 19, 25, 26, 27, 28, 29, 30, 18, 31, 32, 33, 34, 35, 36, 37, 77, 78, 79, 80, 81, 82, 83, 84, 85, 86, 87, 88, 89, 90, 91, 92, 93, 94, 95, 96, 97, 98, 99, 100, 101] (by decide +kernel) (by decide +kernel)
set_option maxRecDepth 20000 in
theorem gX8_clock_X8_mustEnd : GoodIn wsX8_clock (wsV RX8 142 RX8 yX8_mustEnd wsX8_mustEnd) := goodIn_app (goodIn_of _ (by decide +kernel)) ggX8_clock_X8_mustEnd
set_option maxRecDepth 20000 in
theorem ggX8_clock_X8_bad : GoodIn wsX8_clock wsX8_bad := goodIn_r _ [49, 5, 24, 9, 77, 78, 79, 80, 81, 82, 83, 84, 85, 86, 87, 88, 89, 90, 91, 92, 93, 94, 95, 96, 97, 98, 99, 100, 101] (by decide +kernel) (by decide +kernel)
set_option maxRecDepth 20000 in
theorem gX8_clock_X8_bad : GoodIn wsX8_clock (wsV RX8 108 RX8 yX8_bad wsX8_bad) := goodIn_app (goodIn_of _ (by decide +kernel)) ggX8_clock_X8_bad
set_option maxRecDepth 20000 in
theorem ggX8_clock_X8_readHand : GoodIn wsX8_clock wsX8_readHand := goodIn_r _ [68, 2, 5, 25, 46, 47, 48, 15, 49, 24, 9, 42, 43, 44, 45, 20, 21, 22, 23, 19, 6, 26, 27, 28, 29, 30, 18, 31, 32, 33, 34, 35, 36, 37, 38, 39, 40, 41, 69, 70, 71, 72, 73, 74, 75, 76, 50, 51, 52, 53, 54, 55, 56, 57, 58, 59, 60, 61, 62, 63, 64, 77, 78, 79, 80, 81, 82, 83, 84, 85, 86, 87, 88, 89, 90, 91, 92, 93, 94, 95, 96, 97, 98, 99, 100, 101] (by decide +kernel) (by decide +kernel)
set_option maxRecDepth 20000 in
theorem gX8_clock_X8_readHand : GoodIn wsX8_clock (wsV RX8 152 RX8 yX8_readHand wsX8_readHand) := goodIn_app (goodIn_of _ (by decide +kernel)) ggX8_clock_X8_readHand
theorem dX8_clock_0 : decode cX8_clock 0 = .ok (.aload_n 0, 1) := by decide +kernel
theorem dX8_clock_1 : decode cX8_clock 1 = .ok (.iconst 0, 1) := by decide +kernel
theorem dX8_clock_2 : decode cX8_clock 2 = .ok (.putfield 41, 3) := by decide +kernel
theorem dX8_clock_5 : decode cX8_clock 5 = .ok (.aload_n 0, 1) := by decide +kernel
theorem dX8_clock_6 : decode cX8_clock 6 = .ok (.invokevirtual 145, 3) := by decide +kernel
theorem dX8_clock_9 : decode cX8_clock 9 = .ok (.iconst 0, 1) := by decide +kernel
theorem dX8_clock_10 : decode cX8_clock 10 = .ok (.istore_n 1, 1) := by decide +kernel
theorem dX8_clock_11 : decode cX8_clock 11 = .ok (.iload_n 1, 1) := by decide +kernel
theorem dX8_clock_12 : decode cX8_clock 12 = .ok (.bipush 14, 2) := by decide +kernel
theorem dX8_clock_14 : decode cX8_clock 14 = .ok (.if_icmp .ge 16, 3) := by decide +kernel
theorem dX8_clock_17 : decode cX8_clock 17 = .ok (.aload_n 0, 1) := by decide +kernel
theorem dX8_clock_18 : decode cX8_clock 18 = .ok (.getfield 22, 3) := by decide +kernel
theorem dX8_clock_21 : decode cX8_clock 21 = .ok (.iload_n 1, 1) := by decide +kernel
theorem dX8_clock_22 : decode cX8_clock 22 = .ok (.iconst 0, 1) := by decide +kernel
theorem dX8_clock_23 : decode cX8_clock 23 = .ok (.iastore, 1) := by decide +kernel
theorem dX8_clock_24 : decode cX8_clock 24 = .ok (.iinc 1 1, 3) := by decide +kernel
theorem dX8_clock_27 : decode cX8_clock 27 = .ok (.goto (-16), 3) := by decide +kernel
theorem dX8_clock_30 : decode cX8_clock 30 = .ok (.aload_n 0, 1) := by decide +kernel
theorem dX8_clock_31 : decode cX8_clock 31 = .ok (.aload_n 0, 1) := by decide +kernel
theorem dX8_clock_32 : decode cX8_clock 32 = .ok (.invokevirtual 130, 3) := by decide +kernel
theorem dX8_clock_35 : decode cX8_clock 35 = .ok (.ldc2_w 148, 3) := by decide +kernel
theorem dX8_clock_38 : decode cX8_clock 38 = .ok (.lcmp, 1) := by decide +kernel
theorem dX8_clock_39 : decode cX8_clock 39 = .ok (.ifCond .ne 7, 3) := by decide +kernel
theorem dX8_clock_42 : decode cX8_clock 42 = .ok (.iconst 1, 1) := by decide +kernel
theorem dX8_clock_43 : decode cX8_clock 43 = .ok (.goto 4, 3) := by decide +kernel
theorem dX8_clock_46 : decode cX8_clock 46 = .ok (.iconst 0, 1) := by decide +kernel
theorem dX8_clock_47 : decode cX8_clock 47 = .ok (.invokevirtual 116, 3) := by decide +kernel
theorem dX8_clock_50 : decode cX8_clock 50 = .ok (.aload_n 0, 1) := by decide +kernel
theorem dX8_clock_51 : decode cX8_clock 51 = .ok (.getfield 22, 3) := by decide +kernel
theorem dX8_clock_54 : decode cX8_clock 54 = .ok (.iconst 0, 1) := by decide +kernel
theorem dX8_clock_55 : decode cX8_clock 55 = .ok (.aload_n 0, 1) := by decide +kernel
theorem dX8_clock_56 : decode cX8_clock 56 = .ok (.iconst 2, 1) := by decide +kernel
theorem dX8_clock_57 : decode cX8_clock 57 = .ok (.bipush 60, 2) := by decide +kernel
theorem dX8_clock_59 : decode cX8_clock 59 = .ok (.invokevirtual 138, 3) := by decide +kernel
theorem dX8_clock_62 : decode cX8_clock 62 = .ok (.iastore, 1) := by decide +kernel
theorem dX8_clock_63 : decode cX8_clock 63 = .ok (.aload_n 0, 1) := by decide +kernel
theorem dX8_clock_64 : decode cX8_clock 64 = .ok (.invokevirtual 142, 3) := by decide +kernel
theorem dX8_clock_67 : decode cX8_clock 67 = .ok (.aload_n 0, 1) := by decide +kernel
theorem dX8_clock_68 : decode cX8_clock 68 = .ok (.invokevirtual 130, 3) := by decide +kernel
theorem dX8_clock_71 : decode cX8_clock 71 = .ok (.ldc2_w 150, 3) := by decide +kernel
theorem dX8_clock_74 : decode cX8_clock 74 = .ok (.lcmp, 1) := by decide +kernel
theorem dX8_clock_75 : decode cX8_clock 75 = .ok (.ifCond .eq 8, 3) := by decide +kernel
theorem dX8_clock_78 : decode cX8_clock 78 = .ok (.aload_n 0, 1) := by decide +kernel
theorem dX8_clock_79 : decode cX8_clock 79 = .ok (.iconst 1, 1) := by decide +kernel
theorem dX8_clock_80 : decode cX8_clock 80 = .ok (.invokevirtual 108, 3) := by decide +kernel
theorem dX8_clock_83 : decode cX8_clock 83 = .ok (.aload_n 0, 1) := by decide +kernel
theorem dX8_clock_84 : decode cX8_clock 84 = .ok (.invokevirtual 130, 3) := by decide +kernel
theorem dX8_clock_87 : decode cX8_clock 87 = .ok (.ldc2_w 150, 3) := by decide +kernel
theorem dX8_clock_90 : decode cX8_clock 90 = .ok (.lcmp, 1) := by decide +kernel
theorem dX8_clock_91 : decode cX8_clock 91 = .ok (.ifCond .ne 10, 3) := by decide +kernel
theorem dX8_clock_94 : decode cX8_clock 94 = .ok (.aload_n 0, 1) := by decide +kernel
theorem dX8_clock_95 : decode cX8_clock 95 = .ok (.invokevirtual 152, 3) := by decide +kernel
theorem dX8_clock_98 : decode cX8_clock 98 = .ok (.goto (-15), 3) := by decide +kernel
theorem dX8_clock_101 : decode cX8_clock 101 = .ok (.aload_n 0, 1) := by decide +kernel
theorem dX8_clock_102 : decode cX8_clock 102 = .ok (.getfield 99, 3) := by decide +kernel
theorem dX8_clock_105 : decode cX8_clock 105 = .ok (.ifCond .ne 16, 3) := by decide +kernel
theorem dX8_clock_108 : decode cX8_clock 108 = .ok (.aload_n 0, 1) := by decide +kernel
theorem dX8_clock_109 : decode cX8_clock 109 = .ok (.getfield 87, 3) := by decide +kernel
theorem dX8_clock_112 : decode cX8_clock 112 = .ok (.iconst 1, 1) := by decide +kernel
theorem dX8_clock_113 : decode cX8_clock 113 = .ok (.if_icmp .eq 8, 3) := by decide +kernel
theorem dX8_clock_116 : decode cX8_clock 116 = .ok (.aload_n 0, 1) := by decide +kernel
theorem dX8_clock_117 : decode cX8_clock 117 = .ok (.iconst 1, 1) := by decide +kernel
theorem dX8_clock_118 : decode cX8_clock 118 = .ok (.invokevirtual 108, 3) := by decide +kernel
theorem dX8_clock_121 : decode cX8_clock 121 = .ok (.aload_n 0, 1) := by decide +kernel
theorem dX8_clock_122 : decode cX8_clock 122 = .ok (.getfield 99, 3) := by decide +kernel
theorem dX8_clock_125 : decode cX8_clock 125 = .ok (.ifCond .le 19, 3) := by decide +kernel
theorem dX8_clock_128 : decode cX8_clock 128 = .ok (.aload_n 0, 1) := by decide +kernel
theorem dX8_clock_129 : decode cX8_clock 129 = .ok (.aload_n 0, 1) := by decide +kernel
theorem dX8_clock_130 : decode cX8_clock 130 = .ok (.getfield 99, 3) := by decide +kernel
theorem dX8_clock_133 : decode cX8_clock 133 = .ok (.putfield 155, 3) := by decide +kernel
theorem dX8_clock_136 : decode cX8_clock 136 = .ok (.ldc 158, 2) := by decide +kernel
theorem dX8_clock_138 : decode cX8_clock 138 = .ok (.aload_n 0, 1) := by decide +kernel
theorem dX8_clock_139 : decode cX8_clock 139 = .ok (.getfield 105, 3) := by decide +kernel
theorem dX8_clock_142 : decode cX8_clock 142 = .ok (.isub, 1) := by decide +kernel
theorem dX8_clock_143 : decode cX8_clock 143 = .ok (.ireturn, 1) := by decide +kernel
theorem dX8_clock_144 : decode cX8_clock 144 = .ok (.aload_n 0, 1) := by decide +kernel
theorem dX8_clock_145 : decode cX8_clock 145 = .ok (.iconst 0, 1) := by decide +kernel
theorem dX8_clock_146 : decode cX8_clock 146 = .ok (.putfield 159, 3) := by decide +kernel
theorem dX8_clock_149 : decode cX8_clock 149 = .ok (.iconst 0, 1) := by decide +kernel
theorem dX8_clock_150 : decode cX8_clock 150 = .ok (.istore_n 1, 1) := by decide +kernel
theorem dX8_clock_151 : decode cX8_clock 151 = .ok (.iload_n 1, 1) := by decide +kernel
theorem dX8_clock_152 : decode cX8_clock 152 = .ok (.bipush 14, 2) := by decide +kernel
theorem dX8_clock_154 : decode cX8_clock 154 = .ok (.if_icmp .ge 21, 3) := by decide +kernel
theorem dX8_clock_157 : decode cX8_clock 157 = .ok (.aload_n 0, 1) := by decide +kernel
theorem dX8_clock_158 : decode cX8_clock 158 = .ok (.getfield 19, 3) := by decide +kernel
theorem dX8_clock_161 : decode cX8_clock 161 = .ok (.iload_n 1, 1) := by decide +kernel
theorem dX8_clock_162 : decode cX8_clock 162 = .ok (.aload_n 0, 1) := by decide +kernel
theorem dX8_clock_163 : decode cX8_clock 163 = .ok (.getfield 22, 3) := by decide +kernel
theorem dX8_clock_166 : decode cX8_clock 166 = .ok (.iload_n 1, 1) := by decide +kernel
theorem dX8_clock_167 : decode cX8_clock 167 = .ok (.iaload, 1) := by decide +kernel
theorem dX8_clock_168 : decode cX8_clock 168 = .ok (.iastore, 1) := by decide +kernel
theorem dX8_clock_169 : decode cX8_clock 169 = .ok (.iinc 1 1, 3) := by decide +kernel
theorem dX8_clock_172 : decode cX8_clock 172 = .ok (.goto (-21), 3) := by decide +kernel
theorem dX8_clock_175 : decode cX8_clock 175 = .ok (.aload_n 0, 1) := by decide +kernel
theorem dX8_clock_176 : decode cX8_clock 176 = .ok (.getfield 19, 3) := by decide +kernel
theorem dX8_clock_179 : decode cX8_clock 179 = .ok (.iconst 1, 1) := by decide +kernel
theorem dX8_clock_180 : decode cX8_clock 180 = .ok (.iaload, 1) := by decide +kernel
theorem dX8_clock_181 : decode cX8_clock 181 = .ok (.ireturn, 1) := by decide +kernel
theorem dX8_fault_0 : decode cX8_fault 0 = .ok (.aload_n 0, 1) := by decide +kernel
theorem dX8_fault_1 : decode cX8_fault 1 = .ok (.iconst 0, 1) := by decide +kernel
theorem dX8_fault_2 : decode cX8_fault 2 = .ok (.putfield 41, 3) := by decide +kernel
theorem dX8_fault_5 : decode cX8_fault 5 = .ok (.aload_n 0, 1) := by decide +kernel
theorem dX8_fault_6 : decode cX8_fault 6 = .ok (.getfield 155, 3) := by decide +kernel
theorem dX8_fault_9 : decode cX8_fault 9 = .ok (.ireturn, 1) := by decide +kernel
theorem dX8_isThere_0 : decode cX8_isThere 0 = .ok (.aload_n 0, 1) := by decide +kernel
theorem dX8_isThere_1 : decode cX8_isThere 1 = .ok (.getfield 19, 3) := by decide +kernel
theorem dX8_isThere_4 : decode cX8_isThere 4 = .ok (.iconst 0, 1) := by decide +kernel
theorem dX8_isThere_5 : decode cX8_isThere 5 = .ok (.iaload, 1) := by decide +kernel
theorem dX8_isThere_6 : decode cX8_isThere 6 = .ok (.ifCond .le 7, 3) := by decide +kernel
theorem dX8_isThere_9 : decode cX8_isThere 9 = .ok (.iconst 1, 1) := by decide +kernel
theorem dX8_isThere_10 : decode cX8_isThere 10 = .ok (.goto 4, 3) := by decide +kernel
theorem dX8_isThere_13 : decode cX8_isThere 13 = .ok (.iconst 0, 1) := by decide +kernel
theorem dX8_isThere_14 : decode cX8_isThere 14 = .ok (.ireturn, 1) := by decide +kernel
set_option maxRecDepth 20000 in
theorem ggX8_isHand_X8_in : GoodIn wsX8_isHand wsX8_in := goodIn_r _ [5] (by decide +kernel) (by decide +kernel)
set_option maxRecDepth 20000 in
theorem gX8_isHand_X8_in : GoodIn wsX8_isHand (va_wsS RX8 51 yX8_in wsX8_in) := goodIn_app (goodIn_of _ (by decide +kernel)) ggX8_isHand_X8_in
theorem dX8_isHand_0 : decode cX8_isHand 0 = .ok (.iload_n 1, 1) := by decide +kernel
theorem dX8_isHand_1 : decode cX8_isHand 1 = .ok (.i2l, 1) := by decide +kernel
theorem dX8_isHand_2 : decode cX8_isHand 2 = .ok (.lconst 0, 1) := by decide +kernel
theorem dX8_isHand_3 : decode cX8_isHand 3 = .ok (.aload_n 0, 1) := by decide +kernel
theorem dX8_isHand_4 : decode cX8_isHand 4 = .ok (.getfield 19, 3) := by decide +kernel
theorem dX8_isHand_7 : decode cX8_isHand 7 = .ok (.iconst 1, 1) := by decide +kernel
theorem dX8_isHand_8 : decode cX8_isHand 8 = .ok (.iaload, 1) := by decide +kernel
theorem dX8_isHand_9 : decode cX8_isHand 9 = .ok (.iconst 1, 1) := by decide +kernel
theorem dX8_isHand_10 : decode cX8_isHand 10 = .ok (.isub, 1) := by decide +kernel
theorem dX8_isHand_11 : decode cX8_isHand 11 = .ok (.i2l, 1) := by decide +kernel
theorem dX8_isHand_12 : decode cX8_isHand 12 = .ok (.invokestatic 51, 3) := by decide +kernel
theorem dX8_isHand_15 : decode cX8_isHand 15 = .ok (.ireturn, 1) := by decide +kernel
set_option maxRecDepth 20000 in
theorem ggX8_areTwo_X8_isHand : GoodIn wsX8_areTwo wsX8_isHand := goodIn_r _ [5, 6, 7, 8, 4, 9, 10, 11, 12, 13, 14, 15, 16, 17, 18, 19, 20, 21, 22, 23, 24, 25, 26, 27, 28, 29, 30, 31, 32, 33, 34] (by decide +kernel) (by decide +kernel)
set_option maxRecDepth 20000 in
theorem gX8_areTwo_X8_isHand : GoodIn wsX8_areTwo (wsV RX8 162 RX8 yX8_isHand wsX8_isHand) := goodIn_app (goodIn_of _ (by decide +kernel)) ggX8_areTwo_X8_isHand
theorem dX8_areTwo_0 : decode cX8_areTwo 0 = .ok (.aload_n 0, 1) := by decide +kernel
theorem dX8_areTwo_1 : decode cX8_areTwo 1 = .ok (.iload_n 1, 1) := by decide +kernel
theorem dX8_areTwo_2 : decode cX8_areTwo 2 = .ok (.invokevirtual 162, 3) := by decide +kernel
theorem dX8_areTwo_5 : decode cX8_areTwo 5 = .ok (.ifCond .eq 20, 3) := by decide +kernel
theorem dX8_areTwo_8 : decode cX8_areTwo 8 = .ok (.aload_n 0, 1) := by decide +kernel
theorem dX8_areTwo_9 : decode cX8_areTwo 9 = .ok (.iload_n 2, 1) := by decide +kernel
theorem dX8_areTwo_10 : decode cX8_areTwo 10 = .ok (.invokevirtual 162, 3) := by decide +kernel
theorem dX8_areTwo_13 : decode cX8_areTwo 13 = .ok (.ifCond .eq 12, 3) := by decide +kernel
theorem dX8_areTwo_16 : decode cX8_areTwo 16 = .ok (.iload_n 1, 1) := by decide +kernel
theorem dX8_areTwo_17 : decode cX8_areTwo 17 = .ok (.iload_n 2, 1) := by decide +kernel
theorem dX8_areTwo_18 : decode cX8_areTwo 18 = .ok (.if_icmp .eq 7, 3) := by decide +kernel
theorem dX8_areTwo_21 : decode cX8_areTwo 21 = .ok (.iconst 1, 1) := by decide +kernel
theorem dX8_areTwo_22 : decode cX8_areTwo 22 = .ok (.goto 4, 3) := by decide +kernel
theorem dX8_areTwo_25 : decode cX8_areTwo 25 = .ok (.iconst 0, 1) := by decide +kernel
theorem dX8_areTwo_26 : decode cX8_areTwo 26 = .ok (.ireturn, 1) := by decide +kernel
set_option maxRecDepth 20000 in
theorem ggX8_isMoment_X8_in : GoodIn wsX8_isMoment wsX8_in := goodIn_r _ [5] (by decide +kernel) (by decide +kernel)
set_option maxRecDepth 20000 in
theorem gX8_isMoment_X8_in : GoodIn wsX8_isMoment (va_wsS RX8 51 yX8_in wsX8_in) := goodIn_app (goodIn_of _ (by decide +kernel)) ggX8_isMoment_X8_in
theorem dX8_isMoment_0 : decode cX8_isMoment 0 = .ok (.iload_n 1, 1) := by decide +kernel
theorem dX8_isMoment_1 : decode cX8_isMoment 1 = .ok (.i2l, 1) := by decide +kernel
theorem dX8_isMoment_2 : decode cX8_isMoment 2 = .ok (.lconst 1, 1) := by decide +kernel
theorem dX8_isMoment_3 : decode cX8_isMoment 3 = .ok (.ldc2_w 165, 3) := by decide +kernel
theorem dX8_isMoment_6 : decode cX8_isMoment 6 = .ok (.invokestatic 51, 3) := by decide +kernel
theorem dX8_isMoment_9 : decode cX8_isMoment 9 = .ok (.ifCond .eq 20, 3) := by decide +kernel
theorem dX8_isMoment_12 : decode cX8_isMoment 12 = .ok (.iload_n 0, 1) := by decide +kernel
theorem dX8_isMoment_13 : decode cX8_isMoment 13 = .ok (.i2l, 1) := by decide +kernel
theorem dX8_isMoment_14 : decode cX8_isMoment 14 = .ok (.lconst 0, 1) := by decide +kernel
theorem dX8_isMoment_15 : decode cX8_isMoment 15 = .ok (.iload_n 1, 1) := by decide +kernel
theorem dX8_isMoment_16 : decode cX8_isMoment 16 = .ok (.iconst 1, 1) := by decide +kernel
theorem dX8_isMoment_17 : decode cX8_isMoment 17 = .ok (.isub, 1) := by decide +kernel
theorem dX8_isMoment_18 : decode cX8_isMoment 18 = .ok (.i2l, 1) := by decide +kernel
theorem dX8_isMoment_19 : decode cX8_isMoment 19 = .ok (.invokestatic 51, 3) := by decide +kernel
theorem dX8_isMoment_22 : decode cX8_isMoment 22 = .ok (.ifCond .eq 7, 3) := by decide +kernel
theorem dX8_isMoment_25 : decode cX8_isMoment 25 = .ok (.iconst 1, 1) := by decide +kernel
theorem dX8_isMoment_26 : decode cX8_isMoment 26 = .ok (.goto 4, 3) := by decide +kernel
theorem dX8_isMoment_29 : decode cX8_isMoment 29 = .ok (.iconst 0, 1) := by decide +kernel
theorem dX8_isMoment_30 : decode cX8_isMoment 30 = .ok (.ireturn, 1) := by decide +kernel
theorem dX8_of_0 : decode cX8_of 0 = .ok (.aload_n 0, 1) := by decide +kernel
theorem dX8_of_1 : decode cX8_of 1 = .ok (.getfield 19, 3) := by decide +kernel
theorem dX8_of_4 : decode cX8_of 4 = .ok (.iconst 2, 1) := by decide +kernel
theorem dX8_of_5 : decode cX8_of 5 = .ok (.iconst 3, 1) := by decide +kernel
theorem dX8_of_6 : decode cX8_of 6 = .ok (.iload_n 1, 1) := by decide +kernel
theorem dX8_of_7 : decode cX8_of 7 = .ok (.imul, 1) := by decide +kernel
theorem dX8_of_8 : decode cX8_of 8 = .ok (.iadd, 1) := by decide +kernel
theorem dX8_of_9 : decode cX8_of 9 = .ok (.iload_n 2, 1) := by decide +kernel
theorem dX8_of_10 : decode cX8_of 10 = .ok (.iadd, 1) := by decide +kernel
theorem dX8_of_11 : decode cX8_of 11 = .ok (.iaload, 1) := by decide +kernel
theorem dX8_of_12 : decode cX8_of 12 = .ok (.ireturn, 1) := by decide +kernel
set_option maxRecDepth 20000 in
theorem ggX8_speed_X8_of : GoodIn wsX8_speed wsX8_of := goodIn_r _ [5, 6, 7, 8, 9, 10, 11, 12, 13, 14, 15, 16, 17, 18, 19, 20, 21, 22, 23, 24, 25, 26, 27, 28, 29, 30, 31] (by decide +kernel) (by decide +kernel)
set_option maxRecDepth 20000 in
theorem gX8_speed_X8_of : GoodIn wsX8_speed (wsV RX8 167 RX8 yX8_of wsX8_of) := goodIn_app (goodIn_of _ (by decide +kernel)) ggX8_speed_X8_of
theorem dX8_speed_0 : decode cX8_speed 0 = .ok (.aload_n 0, 1) := by decide +kernel
theorem dX8_speed_1 : decode cX8_speed 1 = .ok (.iload_n 1, 1) := by decide +kernel
theorem dX8_speed_2 : decode cX8_speed 2 = .ok (.iconst 0, 1) := by decide +kernel
theorem dX8_speed_3 : decode cX8_speed 3 = .ok (.invokevirtual 167, 3) := by decide +kernel
theorem dX8_speed_6 : decode cX8_speed 6 = .ok (.iconst 4, 1) := by decide +kernel
theorem dX8_speed_7 : decode cX8_speed 7 = .ok (.if_icmp .ne 13, 3) := by decide +kernel
theorem dX8_speed_10 : decode cX8_speed 10 = .ok (.aload_n 0, 1) := by decide +kernel
theorem dX8_speed_11 : decode cX8_speed 11 = .ok (.iload_n 1, 1) := by decide +kernel
theorem dX8_speed_12 : decode cX8_speed 12 = .ok (.iconst 1, 1) := by decide +kernel
theorem dX8_speed_13 : decode cX8_speed 13 = .ok (.invokevirtual 167, 3) := by decide +kernel
theorem dX8_speed_16 : decode cX8_speed 16 = .ok (.ineg, 1) := by decide +kernel
theorem dX8_speed_17 : decode cX8_speed 17 = .ok (.goto 30, 3) := by decide +kernel
theorem dX8_speed_20 : decode cX8_speed 20 = .ok (.aload_n 0, 1) := by decide +kernel
theorem dX8_speed_21 : decode cX8_speed 21 = .ok (.iload_n 1, 1) := by decide +kernel
theorem dX8_speed_22 : decode cX8_speed 22 = .ok (.iconst 0, 1) := by decide +kernel
theorem dX8_speed_23 : decode cX8_speed 23 = .ok (.invokevirtual 167, 3) := by decide +kernel
theorem dX8_speed_26 : decode cX8_speed 26 = .ok (.iconst 5, 1) := by decide +kernel
theorem dX8_speed_27 : decode cX8_speed 27 = .ok (.if_icmp .ne 14, 3) := by decide +kernel
theorem dX8_speed_30 : decode cX8_speed 30 = .ok (.iconst 2, 1) := by decide +kernel
theorem dX8_speed_31 : decode cX8_speed 31 = .ok (.aload_n 0, 1) := by decide +kernel
theorem dX8_speed_32 : decode cX8_speed 32 = .ok (.iload_n 1, 1) := by decide +kernel
theorem dX8_speed_33 : decode cX8_speed 33 = .ok (.iconst 1, 1) := by decide +kernel
theorem dX8_speed_34 : decode cX8_speed 34 = .ok (.invokevirtual 167, 3) := by decide +kernel
theorem dX8_speed_37 : decode cX8_speed 37 = .ok (.imul, 1) := by decide +kernel
theorem dX8_speed_38 : decode cX8_speed 38 = .ok (.goto 9, 3) := by decide +kernel
theorem dX8_speed_41 : decode cX8_speed 41 = .ok (.aload_n 0, 1) := by decide +kernel
theorem dX8_speed_42 : decode cX8_speed 42 = .ok (.iload_n 1, 1) := by decide +kernel
theorem dX8_speed_43 : decode cX8_speed 43 = .ok (.iconst 1, 1) := by decide +kernel
theorem dX8_speed_44 : decode cX8_speed 44 = .ok (.invokevirtual 167, 3) := by decide +kernel
theorem dX8_speed_47 : decode cX8_speed 47 = .ok (.ireturn, 1) := by decide +kernel
theorem dX8_size_0 : decode cX8_size 0 = .ok (.iload_n 0, 1) := by decide +kernel
theorem dX8_size_1 : decode cX8_size 1 = .ok (.ifCond .ge 8, 3) := by decide +kernel
theorem dX8_size_4 : decode cX8_size 4 = .ok (.iload_n 0, 1) := by decide +kernel
theorem dX8_size_5 : decode cX8_size 5 = .ok (.ineg, 1) := by decide +kernel
theorem dX8_size_6 : decode cX8_size 6 = .ok (.goto 4, 3) := by decide +kernel
theorem dX8_size_9 : decode cX8_size 9 = .ok (.iload_n 0, 1) := by decide +kernel
theorem dX8_size_10 : decode cX8_size 10 = .ok (.ireturn, 1) := by decide +kernel
theorem dX8_rest_0 : decode cX8_rest 0 = .ok (.iload_n 0, 1) := by decide +kernel
theorem dX8_rest_1 : decode cX8_rest 1 = .ok (.iload_n 1, 1) := by decide +kernel
theorem dX8_rest_2 : decode cX8_rest 2 = .ok (.irem, 1) := by decide +kernel
theorem dX8_rest_3 : decode cX8_rest 3 = .ok (.istore_n 2, 1) := by decide +kernel
theorem dX8_rest_4 : decode cX8_rest 4 = .ok (.iload_n 2, 1) := by decide +kernel
theorem dX8_rest_5 : decode cX8_rest 5 = .ok (.ifCond .ge 9, 3) := by decide +kernel
theorem dX8_rest_8 : decode cX8_rest 8 = .ok (.iload_n 2, 1) := by decide +kernel
theorem dX8_rest_9 : decode cX8_rest 9 = .ok (.iload_n 1, 1) := by decide +kernel
theorem dX8_rest_10 : decode cX8_rest 10 = .ok (.iadd, 1) := by decide +kernel
theorem dX8_rest_11 : decode cX8_rest 11 = .ok (.goto 4, 3) := by decide +kernel
theorem dX8_rest_14 : decode cX8_rest 14 = .ok (.iload_n 2, 1) := by decide +kernel
theorem dX8_rest_15 : decode cX8_rest 15 = .ok (.ireturn, 1) := by decide +kernel
theorem dX8_divisor_0 : decode cX8_divisor 0 = .ok (.iload_n 0, 1) := by decide +kernel
theorem dX8_divisor_1 : decode cX8_divisor 1 = .ok (.istore_n 2, 1) := by decide +kernel
theorem dX8_divisor_2 : decode cX8_divisor 2 = .ok (.iload_n 1, 1) := by decide +kernel
theorem dX8_divisor_3 : decode cX8_divisor 3 = .ok (.istore_n 3, 1) := by decide +kernel
theorem dX8_divisor_4 : decode cX8_divisor 4 = .ok (.iload_n 3, 1) := by decide +kernel
theorem dX8_divisor_5 : decode cX8_divisor 5 = .ok (.ifCond .eq 16, 3) := by decide +kernel
theorem dX8_divisor_8 : decode cX8_divisor 8 = .ok (.iload_n 2, 1) := by decide +kernel
theorem dX8_divisor_9 : decode cX8_divisor 9 = .ok (.iload_n 3, 1) := by decide +kernel
theorem dX8_divisor_10 : decode cX8_divisor 10 = .ok (.irem, 1) := by decide +kernel
theorem dX8_divisor_11 : decode cX8_divisor 11 = .ok (.istore 4, 2) := by decide +kernel
theorem dX8_divisor_13 : decode cX8_divisor 13 = .ok (.iload_n 3, 1) := by decide +kernel
theorem dX8_divisor_14 : decode cX8_divisor 14 = .ok (.istore_n 2, 1) := by decide +kernel
theorem dX8_divisor_15 : decode cX8_divisor 15 = .ok (.iload 4, 2) := by decide +kernel
theorem dX8_divisor_17 : decode cX8_divisor 17 = .ok (.istore_n 3, 1) := by decide +kernel
theorem dX8_divisor_18 : decode cX8_divisor 18 = .ok (.goto (-14), 3) := by decide +kernel
theorem dX8_divisor_21 : decode cX8_divisor 21 = .ok (.iload_n 2, 1) := by decide +kernel
theorem dX8_divisor_22 : decode cX8_divisor 22 = .ok (.ireturn, 1) := by decide +kernel
set_option maxRecDepth 20000 in
theorem ggX8_told_X8_divisor : GoodIn wsX8_told wsX8_divisor := goodIn_r _ [4] (by decide +kernel) (by decide +kernel)
set_option maxRecDepth 20000 in
theorem gX8_told_X8_divisor : GoodIn wsX8_told (va_wsS RX8 170 yX8_divisor wsX8_divisor) := goodIn_app (goodIn_of _ (by decide +kernel)) ggX8_told_X8_divisor
theorem dX8_told_0 : decode cX8_told 0 = .ok (.iload_n 2, 1) := by decide +kernel
theorem dX8_told_1 : decode cX8_told 1 = .ok (.ifCond .ne 7, 3) := by decide +kernel
theorem dX8_told_4 : decode cX8_told 4 = .ok (.iload_n 0, 1) := by decide +kernel
theorem dX8_told_5 : decode cX8_told 5 = .ok (.goto 4, 3) := by decide +kernel
theorem dX8_told_8 : decode cX8_told 8 = .ok (.iload_n 1, 1) := by decide +kernel
theorem dX8_told_9 : decode cX8_told 9 = .ok (.iload_n 0, 1) := by decide +kernel
theorem dX8_told_10 : decode cX8_told 10 = .ok (.iload_n 1, 1) := by decide +kernel
theorem dX8_told_11 : decode cX8_told 11 = .ok (.invokestatic 170, 3) := by decide +kernel
theorem dX8_told_14 : decode cX8_told 14 = .ok (.idiv, 1) := by decide +kernel
theorem dX8_told_15 : decode cX8_told 15 = .ok (.ireturn, 1) := by decide +kernel
set_option maxRecDepth 20000 in
theorem ggX8_slip_X8_isHand : GoodIn wsX8_slip wsX8_isHand := goodIn_r _ [12, 7, 13, 14, 11, 15, 23, 24, 25, 26, 27, 28, 29, 30, 31, 32, 33, 34, 35, 36, 37, 38, 39, 40, 41, 42, 43, 44, 45, 46, 47] (by decide +kernel) (by decide +kernel)
set_option maxRecDepth 20000 in
theorem gX8_slip_X8_isHand : GoodIn wsX8_slip (wsV RX8 162 RX8 yX8_isHand wsX8_isHand) := goodIn_app (goodIn_of _ (by decide +kernel)) ggX8_slip_X8_isHand
set_option maxRecDepth 20000 in
theorem ggX8_slip_X8_in : GoodIn wsX8_slip wsX8_in := goodIn_r _ [15] (by decide +kernel) (by decide +kernel)
set_option maxRecDepth 20000 in
theorem gX8_slip_X8_in : GoodIn wsX8_slip (va_wsS RX8 51 yX8_in wsX8_in) := goodIn_app (goodIn_of _ (by decide +kernel)) ggX8_slip_X8_in
set_option maxRecDepth 20000 in
theorem ggX8_slip_X8_of : GoodIn wsX8_slip wsX8_of := goodIn_r _ [19, 7, 23, 24, 25, 26, 27, 28, 29, 30, 31, 32, 33, 34, 35, 36, 37, 38, 39, 40, 41, 42, 43, 44, 45, 46, 47] (by decide +kernel) (by decide +kernel)
set_option maxRecDepth 20000 in
theorem gX8_slip_X8_of : GoodIn wsX8_slip (wsV RX8 167 RX8 yX8_of wsX8_of) := goodIn_app (goodIn_of _ (by decide +kernel)) ggX8_slip_X8_of
set_option maxRecDepth 20000 in
theorem ggX8_slip_X8_rest : GoodIn wsX8_slip wsX8_rest := goodIn_r _ [22] (by decide +kernel) (by decide +kernel)
set_option maxRecDepth 20000 in
theorem gX8_slip_X8_rest : GoodIn wsX8_slip (va_wsS RX8 177 yX8_rest wsX8_rest) := goodIn_app (goodIn_of _ (by decide +kernel)) ggX8_slip_X8_rest
theorem dX8_slip_0 : decode cX8_slip 0 = .ok (.aload_n 0, 1) := by decide +kernel
theorem dX8_slip_1 : decode cX8_slip 1 = .ok (.iconst 0, 1) := by decide +kernel
theorem dX8_slip_2 : decode cX8_slip 2 = .ok (.putfield 41, 3) := by decide +kernel
theorem dX8_slip_5 : decode cX8_slip 5 = .ok (.aload_n 0, 1) := by decide +kernel
theorem dX8_slip_6 : decode cX8_slip 6 = .ok (.iload_n 1, 1) := by decide +kernel
theorem dX8_slip_7 : decode cX8_slip 7 = .ok (.invokevirtual 162, 3) := by decide +kernel
theorem dX8_slip_10 : decode cX8_slip 10 = .ok (.ifCond .eq 17, 3) := by decide +kernel
theorem dX8_slip_13 : decode cX8_slip 13 = .ok (.iload_n 2, 1) := by decide +kernel
theorem dX8_slip_14 : decode cX8_slip 14 = .ok (.i2l, 1) := by decide +kernel
theorem dX8_slip_15 : decode cX8_slip 15 = .ok (.ldc2_w 173, 3) := by decide +kernel
theorem dX8_slip_18 : decode cX8_slip 18 = .ok (.ldc2_w 175, 3) := by decide +kernel
theorem dX8_slip_21 : decode cX8_slip 21 = .ok (.invokestatic 51, 3) := by decide +kernel
theorem dX8_slip_24 : decode cX8_slip 24 = .ok (.ifCond .ne 6, 3) := by decide +kernel
theorem dX8_slip_27 : decode cX8_slip 27 = .ok (.ldc 61, 2) := by decide +kernel
theorem dX8_slip_29 : decode cX8_slip 29 = .ok (.ireturn, 1) := by decide +kernel
theorem dX8_slip_30 : decode cX8_slip 30 = .ok (.aload_n 0, 1) := by decide +kernel
theorem dX8_slip_31 : decode cX8_slip 31 = .ok (.getfield 159, 3) := by decide +kernel
theorem dX8_slip_34 : decode cX8_slip 34 = .ok (.bipush 24, 2) := by decide +kernel
theorem dX8_slip_36 : decode cX8_slip 36 = .ok (.if_icmp .ne 43, 3) := by decide +kernel
theorem dX8_slip_39 : decode cX8_slip 39 = .ok (.iconst 0, 1) := by decide +kernel
theorem dX8_slip_40 : decode cX8_slip 40 = .ok (.istore_n 3, 1) := by decide +kernel
theorem dX8_slip_41 : decode cX8_slip 41 = .ok (.iload_n 3, 1) := by decide +kernel
theorem dX8_slip_42 : decode cX8_slip 42 = .ok (.sipush 322, 3) := by decide +kernel
theorem dX8_slip_45 : decode cX8_slip 45 = .ok (.if_icmp .ge 24, 3) := by decide +kernel
theorem dX8_slip_48 : decode cX8_slip 48 = .ok (.aload_n 0, 1) := by decide +kernel
theorem dX8_slip_49 : decode cX8_slip 49 = .ok (.getfield 25, 3) := by decide +kernel
theorem dX8_slip_52 : decode cX8_slip 52 = .ok (.iload_n 3, 1) := by decide +kernel
theorem dX8_slip_53 : decode cX8_slip 53 = .ok (.aload_n 0, 1) := by decide +kernel
theorem dX8_slip_54 : decode cX8_slip 54 = .ok (.getfield 25, 3) := by decide +kernel
theorem dX8_slip_57 : decode cX8_slip 57 = .ok (.iload_n 3, 1) := by decide +kernel
theorem dX8_slip_58 : decode cX8_slip 58 = .ok (.bipush 14, 2) := by decide +kernel
theorem dX8_slip_60 : decode cX8_slip 60 = .ok (.iadd, 1) := by decide +kernel
theorem dX8_slip_61 : decode cX8_slip 61 = .ok (.iaload, 1) := by decide +kernel
theorem dX8_slip_62 : decode cX8_slip 62 = .ok (.iastore, 1) := by decide +kernel
theorem dX8_slip_63 : decode cX8_slip 63 = .ok (.iinc 3 1, 3) := by decide +kernel
theorem dX8_slip_66 : decode cX8_slip 66 = .ok (.goto (-25), 3) := by decide +kernel
theorem dX8_slip_69 : decode cX8_slip 69 = .ok (.aload_n 0, 1) := by decide +kernel
theorem dX8_slip_70 : decode cX8_slip 70 = .ok (.dup, 1) := by decide +kernel
theorem dX8_slip_71 : decode cX8_slip 71 = .ok (.getfield 159, 3) := by decide +kernel
theorem dX8_slip_74 : decode cX8_slip 74 = .ok (.iconst 1, 1) := by decide +kernel
theorem dX8_slip_75 : decode cX8_slip 75 = .ok (.isub, 1) := by decide +kernel
theorem dX8_slip_76 : decode cX8_slip 76 = .ok (.putfield 159, 3) := by decide +kernel
theorem dX8_slip_79 : decode cX8_slip 79 = .ok (.iconst 0, 1) := by decide +kernel
theorem dX8_slip_80 : decode cX8_slip 80 = .ok (.istore_n 3, 1) := by decide +kernel
theorem dX8_slip_81 : decode cX8_slip 81 = .ok (.iload_n 3, 1) := by decide +kernel
theorem dX8_slip_82 : decode cX8_slip 82 = .ok (.bipush 14, 2) := by decide +kernel
theorem dX8_slip_84 : decode cX8_slip 84 = .ok (.if_icmp .ge 29, 3) := by decide +kernel
theorem dX8_slip_87 : decode cX8_slip 87 = .ok (.aload_n 0, 1) := by decide +kernel
theorem dX8_slip_88 : decode cX8_slip 88 = .ok (.getfield 25, 3) := by decide +kernel
theorem dX8_slip_91 : decode cX8_slip 91 = .ok (.bipush 14, 2) := by decide +kernel
theorem dX8_slip_93 : decode cX8_slip 93 = .ok (.aload_n 0, 1) := by decide +kernel
theorem dX8_slip_94 : decode cX8_slip 94 = .ok (.getfield 159, 3) := by decide +kernel
theorem dX8_slip_97 : decode cX8_slip 97 = .ok (.imul, 1) := by decide +kernel
theorem dX8_slip_98 : decode cX8_slip 98 = .ok (.iload_n 3, 1) := by decide +kernel
theorem dX8_slip_99 : decode cX8_slip 99 = .ok (.iadd, 1) := by decide +kernel
theorem dX8_slip_100 : decode cX8_slip 100 = .ok (.aload_n 0, 1) := by decide +kernel
theorem dX8_slip_101 : decode cX8_slip 101 = .ok (.getfield 19, 3) := by decide +kernel
theorem dX8_slip_104 : decode cX8_slip 104 = .ok (.iload_n 3, 1) := by decide +kernel
theorem dX8_slip_105 : decode cX8_slip 105 = .ok (.iaload, 1) := by decide +kernel
theorem dX8_slip_106 : decode cX8_slip 106 = .ok (.iastore, 1) := by decide +kernel
theorem dX8_slip_107 : decode cX8_slip 107 = .ok (.iinc 3 1, 3) := by decide +kernel
theorem dX8_slip_110 : decode cX8_slip 110 = .ok (.goto (-29), 3) := by decide +kernel
theorem dX8_slip_113 : decode cX8_slip 113 = .ok (.aload_n 0, 1) := by decide +kernel
theorem dX8_slip_114 : decode cX8_slip 114 = .ok (.dup, 1) := by decide +kernel
theorem dX8_slip_115 : decode cX8_slip 115 = .ok (.getfield 159, 3) := by decide +kernel
theorem dX8_slip_118 : decode cX8_slip 118 = .ok (.iconst 1, 1) := by decide +kernel
theorem dX8_slip_119 : decode cX8_slip 119 = .ok (.iadd, 1) := by decide +kernel
theorem dX8_slip_120 : decode cX8_slip 120 = .ok (.putfield 159, 3) := by decide +kernel
theorem dX8_slip_123 : decode cX8_slip 123 = .ok (.aload_n 0, 1) := by decide +kernel
theorem dX8_slip_124 : decode cX8_slip 124 = .ok (.getfield 19, 3) := by decide +kernel
theorem dX8_slip_127 : decode cX8_slip 127 = .ok (.iconst 2, 1) := by decide +kernel
theorem dX8_slip_128 : decode cX8_slip 128 = .ok (.iconst 3, 1) := by decide +kernel
theorem dX8_slip_129 : decode cX8_slip 129 = .ok (.iload_n 1, 1) := by decide +kernel
theorem dX8_slip_130 : decode cX8_slip 130 = .ok (.imul, 1) := by decide +kernel
theorem dX8_slip_131 : decode cX8_slip 131 = .ok (.iadd, 1) := by decide +kernel
theorem dX8_slip_132 : decode cX8_slip 132 = .ok (.iconst 2, 1) := by decide +kernel
theorem dX8_slip_133 : decode cX8_slip 133 = .ok (.iadd, 1) := by decide +kernel
theorem dX8_slip_134 : decode cX8_slip 134 = .ok (.aload_n 0, 1) := by decide +kernel
theorem dX8_slip_135 : decode cX8_slip 135 = .ok (.iload_n 1, 1) := by decide +kernel
theorem dX8_slip_136 : decode cX8_slip 136 = .ok (.iconst 2, 1) := by decide +kernel
theorem dX8_slip_137 : decode cX8_slip 137 = .ok (.invokevirtual 167, 3) := by decide +kernel
theorem dX8_slip_140 : decode cX8_slip 140 = .ok (.iload_n 2, 1) := by decide +kernel
theorem dX8_slip_141 : decode cX8_slip 141 = .ok (.iadd, 1) := by decide +kernel
theorem dX8_slip_142 : decode cX8_slip 142 = .ok (.aload_n 0, 1) := by decide +kernel
theorem dX8_slip_143 : decode cX8_slip 143 = .ok (.getfield 19, 3) := by decide +kernel
theorem dX8_slip_146 : decode cX8_slip 146 = .ok (.iconst 0, 1) := by decide +kernel
theorem dX8_slip_147 : decode cX8_slip 147 = .ok (.iaload, 1) := by decide +kernel
theorem dX8_slip_148 : decode cX8_slip 148 = .ok (.invokestatic 177, 3) := by decide +kernel
theorem dX8_slip_151 : decode cX8_slip 151 = .ok (.iastore, 1) := by decide +kernel
theorem dX8_slip_152 : decode cX8_slip 152 = .ok (.aload_n 0, 1) := by decide +kernel
theorem dX8_slip_153 : decode cX8_slip 153 = .ok (.iload_n 1, 1) := by decide +kernel
theorem dX8_slip_154 : decode cX8_slip 154 = .ok (.iconst 2, 1) := by decide +kernel
theorem dX8_slip_155 : decode cX8_slip 155 = .ok (.invokevirtual 167, 3) := by decide +kernel
theorem dX8_slip_158 : decode cX8_slip 158 = .ok (.ireturn, 1) := by decide +kernel
theorem dX8_undo_0 : decode cX8_undo 0 = .ok (.aload_n 0, 1) := by decide +kernel
theorem dX8_undo_1 : decode cX8_undo 1 = .ok (.iconst 0, 1) := by decide +kernel
theorem dX8_undo_2 : decode cX8_undo 2 = .ok (.putfield 41, 3) := by decide +kernel
theorem dX8_undo_5 : decode cX8_undo 5 = .ok (.aload_n 0, 1) := by decide +kernel
theorem dX8_undo_6 : decode cX8_undo 6 = .ok (.getfield 159, 3) := by decide +kernel
theorem dX8_undo_9 : decode cX8_undo 9 = .ok (.ifCond .ne 6, 3) := by decide +kernel
theorem dX8_undo_12 : decode cX8_undo 12 = .ok (.ldc 180, 2) := by decide +kernel
theorem dX8_undo_14 : decode cX8_undo 14 = .ok (.ireturn, 1) := by decide +kernel
theorem dX8_undo_15 : decode cX8_undo 15 = .ok (.aload_n 0, 1) := by decide +kernel
theorem dX8_undo_16 : decode cX8_undo 16 = .ok (.dup, 1) := by decide +kernel
theorem dX8_undo_17 : decode cX8_undo 17 = .ok (.getfield 159, 3) := by decide +kernel
theorem dX8_undo_20 : decode cX8_undo 20 = .ok (.iconst 1, 1) := by decide +kernel
theorem dX8_undo_21 : decode cX8_undo 21 = .ok (.isub, 1) := by decide +kernel
theorem dX8_undo_22 : decode cX8_undo 22 = .ok (.putfield 159, 3) := by decide +kernel
theorem dX8_undo_25 : decode cX8_undo 25 = .ok (.iconst 0, 1) := by decide +kernel
theorem dX8_undo_26 : decode cX8_undo 26 = .ok (.istore_n 1, 1) := by decide +kernel
theorem dX8_undo_27 : decode cX8_undo 27 = .ok (.iload_n 1, 1) := by decide +kernel
theorem dX8_undo_28 : decode cX8_undo 28 = .ok (.bipush 14, 2) := by decide +kernel
theorem dX8_undo_30 : decode cX8_undo 30 = .ok (.if_icmp .ge 29, 3) := by decide +kernel
theorem dX8_undo_33 : decode cX8_undo 33 = .ok (.aload_n 0, 1) := by decide +kernel
theorem dX8_undo_34 : decode cX8_undo 34 = .ok (.getfield 19, 3) := by decide +kernel
theorem dX8_undo_37 : decode cX8_undo 37 = .ok (.iload_n 1, 1) := by decide +kernel
theorem dX8_undo_38 : decode cX8_undo 38 = .ok (.aload_n 0, 1) := by decide +kernel
theorem dX8_undo_39 : decode cX8_undo 39 = .ok (.getfield 25, 3) := by decide +kernel
theorem dX8_undo_42 : decode cX8_undo 42 = .ok (.bipush 14, 2) := by decide +kernel
theorem dX8_undo_44 : decode cX8_undo 44 = .ok (.aload_n 0, 1) := by decide +kernel
theorem dX8_undo_45 : decode cX8_undo 45 = .ok (.getfield 159, 3) := by decide +kernel
theorem dX8_undo_48 : decode cX8_undo 48 = .ok (.imul, 1) := by decide +kernel
theorem dX8_undo_49 : decode cX8_undo 49 = .ok (.iload_n 1, 1) := by decide +kernel
theorem dX8_undo_50 : decode cX8_undo 50 = .ok (.iadd, 1) := by decide +kernel
theorem dX8_undo_51 : decode cX8_undo 51 = .ok (.iaload, 1) := by decide +kernel
theorem dX8_undo_52 : decode cX8_undo 52 = .ok (.iastore, 1) := by decide +kernel
theorem dX8_undo_53 : decode cX8_undo 53 = .ok (.iinc 1 1, 3) := by decide +kernel
theorem dX8_undo_56 : decode cX8_undo 56 = .ok (.goto (-29), 3) := by decide +kernel
theorem dX8_undo_59 : decode cX8_undo 59 = .ok (.aload_n 0, 1) := by decide +kernel
theorem dX8_undo_60 : decode cX8_undo 60 = .ok (.getfield 159, 3) := by decide +kernel
theorem dX8_undo_63 : decode cX8_undo 63 = .ok (.ireturn, 1) := by decide +kernel
set_option maxRecDepth 20000 in
theorem ggX8_hand_X8_isHand : GoodIn wsX8_hand wsX8_isHand := goodIn_r _ [8, 9, 10, 11, 7, 12, 21, 22, 23, 24, 25, 26, 27, 28, 29, 30, 31, 32, 33, 34, 35, 36, 37, 38, 39, 40, 41, 42, 43, 44, 45] (by decide +kernel) (by decide +kernel)
set_option maxRecDepth 20000 in
theorem gX8_hand_X8_isHand : GoodIn wsX8_hand (wsV RX8 162 RX8 yX8_isHand wsX8_isHand) := goodIn_app (goodIn_of _ (by decide +kernel)) ggX8_hand_X8_isHand
set_option maxRecDepth 20000 in
theorem ggX8_hand_X8_in : GoodIn wsX8_hand wsX8_in := goodIn_r _ [12] (by decide +kernel) (by decide +kernel)
set_option maxRecDepth 20000 in
theorem gX8_hand_X8_in : GoodIn wsX8_hand (va_wsS RX8 51 yX8_in wsX8_in) := goodIn_app (goodIn_of _ (by decide +kernel)) ggX8_hand_X8_in
set_option maxRecDepth 20000 in
theorem ggX8_hand_X8_of : GoodIn wsX8_hand wsX8_of := goodIn_r _ [16, 9, 21, 22, 23, 24, 25, 26, 27, 28, 29, 30, 31, 32, 33, 34, 35, 36, 37, 38, 39, 40, 41, 42, 43, 44, 45] (by decide +kernel) (by decide +kernel)
set_option maxRecDepth 20000 in
theorem gX8_hand_X8_of : GoodIn wsX8_hand (wsV RX8 167 RX8 yX8_of wsX8_of) := goodIn_app (goodIn_of _ (by decide +kernel)) ggX8_hand_X8_of
set_option maxRecDepth 20000 in
theorem ggX8_hand_X8_speed : GoodIn wsX8_hand wsX8_speed := goodIn_r _ [20, 13, 14, 15, 7, 16, 9, 21, 22, 23, 24, 25, 26, 27, 28, 29, 30, 31, 32, 33, 34, 35, 36, 37, 38, 39, 40, 41, 42, 43, 44, 45] (by decide +kernel) (by decide +kernel)
set_option maxRecDepth 20000 in
theorem gX8_hand_X8_speed : GoodIn wsX8_hand (wsV RX8 181 RX8 yX8_speed wsX8_speed) := goodIn_app (goodIn_of _ (by decide +kernel)) ggX8_hand_X8_speed
theorem dX8_hand_0 : decode cX8_hand 0 = .ok (.aload_n 0, 1) := by decide +kernel
theorem dX8_hand_1 : decode cX8_hand 1 = .ok (.iconst 0, 1) := by decide +kernel
theorem dX8_hand_2 : decode cX8_hand 2 = .ok (.putfield 41, 3) := by decide +kernel
theorem dX8_hand_5 : decode cX8_hand 5 = .ok (.aload_n 0, 1) := by decide +kernel
theorem dX8_hand_6 : decode cX8_hand 6 = .ok (.iload_n 1, 1) := by decide +kernel
theorem dX8_hand_7 : decode cX8_hand 7 = .ok (.invokevirtual 162, 3) := by decide +kernel
theorem dX8_hand_10 : decode cX8_hand 10 = .ok (.ifCond .eq 15, 3) := by decide +kernel
theorem dX8_hand_13 : decode cX8_hand 13 = .ok (.iload_n 2, 1) := by decide +kernel
theorem dX8_hand_14 : decode cX8_hand 14 = .ok (.i2l, 1) := by decide +kernel
theorem dX8_hand_15 : decode cX8_hand 15 = .ok (.lconst 0, 1) := by decide +kernel
theorem dX8_hand_16 : decode cX8_hand 16 = .ok (.ldc2_w 59, 3) := by decide +kernel
theorem dX8_hand_19 : decode cX8_hand 19 = .ok (.invokestatic 51, 3) := by decide +kernel
theorem dX8_hand_22 : decode cX8_hand 22 = .ok (.ifCond .ne 6, 3) := by decide +kernel
theorem dX8_hand_25 : decode cX8_hand 25 = .ok (.ldc 61, 2) := by decide +kernel
theorem dX8_hand_27 : decode cX8_hand 27 = .ok (.ireturn, 1) := by decide +kernel
theorem dX8_hand_28 : decode cX8_hand 28 = .ok (.iload_n 2, 1) := by decide +kernel
theorem dX8_hand_29 : decode cX8_hand 29 = .ok (.ifCond .ne 12, 3) := by decide +kernel
theorem dX8_hand_32 : decode cX8_hand 32 = .ok (.aload_n 0, 1) := by decide +kernel
theorem dX8_hand_33 : decode cX8_hand 33 = .ok (.iload_n 1, 1) := by decide +kernel
theorem dX8_hand_34 : decode cX8_hand 34 = .ok (.iconst 1, 1) := by decide +kernel
theorem dX8_hand_35 : decode cX8_hand 35 = .ok (.invokevirtual 167, 3) := by decide +kernel
theorem dX8_hand_38 : decode cX8_hand 38 = .ok (.goto 22, 3) := by decide +kernel
theorem dX8_hand_41 : decode cX8_hand 41 = .ok (.iload_n 2, 1) := by decide +kernel
theorem dX8_hand_42 : decode cX8_hand 42 = .ok (.iconst 1, 1) := by decide +kernel
theorem dX8_hand_43 : decode cX8_hand 43 = .ok (.if_icmp .ne 11, 3) := by decide +kernel
theorem dX8_hand_46 : decode cX8_hand 46 = .ok (.aload_n 0, 1) := by decide +kernel
theorem dX8_hand_47 : decode cX8_hand 47 = .ok (.iload_n 1, 1) := by decide +kernel
theorem dX8_hand_48 : decode cX8_hand 48 = .ok (.invokevirtual 181, 3) := by decide +kernel
theorem dX8_hand_51 : decode cX8_hand 51 = .ok (.goto 9, 3) := by decide +kernel
theorem dX8_hand_54 : decode cX8_hand 54 = .ok (.aload_n 0, 1) := by decide +kernel
theorem dX8_hand_55 : decode cX8_hand 55 = .ok (.iload_n 1, 1) := by decide +kernel
theorem dX8_hand_56 : decode cX8_hand 56 = .ok (.iconst 2, 1) := by decide +kernel
theorem dX8_hand_57 : decode cX8_hand 57 = .ok (.invokevirtual 167, 3) := by decide +kernel
theorem dX8_hand_60 : decode cX8_hand 60 = .ok (.ireturn, 1) := by decide +kernel
set_option maxRecDepth 20000 in
theorem ggX8_arc_X8_speed : GoodIn wsX8_arc wsX8_speed := goodIn_r _ [6, 7, 8, 9, 5, 10, 1, 14, 15, 16, 17, 18, 19, 20, 21, 22, 23, 24, 25, 26, 27, 28, 29, 30, 31, 32, 33, 34, 35, 36, 37, 38] (by decide +kernel) (by decide +kernel)
set_option maxRecDepth 20000 in
theorem gX8_arc_X8_speed : GoodIn wsX8_arc (wsV RX8 181 RX8 yX8_speed wsX8_speed) := goodIn_app (goodIn_of _ (by decide +kernel)) ggX8_arc_X8_speed
set_option maxRecDepth 20000 in
theorem ggX8_arc_X8_of : GoodIn wsX8_arc wsX8_of := goodIn_r _ [10, 1, 14, 15, 16, 17, 18, 19, 20, 21, 22, 23, 24, 25, 26, 27, 28, 29, 30, 31, 32, 33, 34, 35, 36, 37, 38] (by decide +kernel) (by decide +kernel)
set_option maxRecDepth 20000 in
theorem gX8_arc_X8_of : GoodIn wsX8_arc (wsV RX8 167 RX8 yX8_of wsX8_of) := goodIn_app (goodIn_of _ (by decide +kernel)) ggX8_arc_X8_of
set_option maxRecDepth 20000 in
theorem ggX8_arc_X8_rest : GoodIn wsX8_arc wsX8_rest := goodIn_r _ [13] (by decide +kernel) (by decide +kernel)
set_option maxRecDepth 20000 in
theorem gX8_arc_X8_rest : GoodIn wsX8_arc (va_wsS RX8 177 yX8_rest wsX8_rest) := goodIn_app (goodIn_of _ (by decide +kernel)) ggX8_arc_X8_rest
theorem dX8_arc_0 : decode cX8_arc 0 = .ok (.aload_n 0, 1) := by decide +kernel
theorem dX8_arc_1 : decode cX8_arc 1 = .ok (.iload_n 1, 1) := by decide +kernel
theorem dX8_arc_2 : decode cX8_arc 2 = .ok (.invokevirtual 181, 3) := by decide +kernel
theorem dX8_arc_5 : decode cX8_arc 5 = .ok (.iload_n 2, 1) := by decide +kernel
theorem dX8_arc_6 : decode cX8_arc 6 = .ok (.imul, 1) := by decide +kernel
theorem dX8_arc_7 : decode cX8_arc 7 = .ok (.aload_n 0, 1) := by decide +kernel
theorem dX8_arc_8 : decode cX8_arc 8 = .ok (.getfield 19, 3) := by decide +kernel
theorem dX8_arc_11 : decode cX8_arc 11 = .ok (.iconst 0, 1) := by decide +kernel
theorem dX8_arc_12 : decode cX8_arc 12 = .ok (.iaload, 1) := by decide +kernel
theorem dX8_arc_13 : decode cX8_arc 13 = .ok (.imul, 1) := by decide +kernel
theorem dX8_arc_14 : decode cX8_arc 14 = .ok (.aload_n 0, 1) := by decide +kernel
theorem dX8_arc_15 : decode cX8_arc 15 = .ok (.iload_n 1, 1) := by decide +kernel
theorem dX8_arc_16 : decode cX8_arc 16 = .ok (.iconst 2, 1) := by decide +kernel
theorem dX8_arc_17 : decode cX8_arc 17 = .ok (.invokevirtual 167, 3) := by decide +kernel
theorem dX8_arc_20 : decode cX8_arc 20 = .ok (.iload_n 3, 1) := by decide +kernel
theorem dX8_arc_21 : decode cX8_arc 21 = .ok (.imul, 1) := by decide +kernel
theorem dX8_arc_22 : decode cX8_arc 22 = .ok (.iadd, 1) := by decide +kernel
theorem dX8_arc_23 : decode cX8_arc 23 = .ok (.iload_n 3, 1) := by decide +kernel
theorem dX8_arc_24 : decode cX8_arc 24 = .ok (.aload_n 0, 1) := by decide +kernel
theorem dX8_arc_25 : decode cX8_arc 25 = .ok (.getfield 19, 3) := by decide +kernel
theorem dX8_arc_28 : decode cX8_arc 28 = .ok (.iconst 0, 1) := by decide +kernel
theorem dX8_arc_29 : decode cX8_arc 29 = .ok (.iaload, 1) := by decide +kernel
theorem dX8_arc_30 : decode cX8_arc 30 = .ok (.imul, 1) := by decide +kernel
theorem dX8_arc_31 : decode cX8_arc 31 = .ok (.invokestatic 177, 3) := by decide +kernel
theorem dX8_arc_34 : decode cX8_arc 34 = .ok (.ireturn, 1) := by decide +kernel
set_option maxRecDepth 20000 in
theorem ggX8_points_X8_isHand : GoodIn wsX8_points wsX8_isHand := goodIn_r _ [8, 3, 9, 10, 7, 11, 37, 38, 39, 40, 41, 42, 43, 44, 45, 46, 47, 48, 49, 50, 51, 52, 53, 54, 55, 56, 57, 58, 59, 60, 61] (by decide +kernel) (by decide +kernel)
set_option maxRecDepth 20000 in
theorem gX8_points_X8_isHand : GoodIn wsX8_points (wsV RX8 162 RX8 yX8_isHand wsX8_isHand) := goodIn_app (goodIn_of _ (by decide +kernel)) ggX8_points_X8_isHand
set_option maxRecDepth 20000 in
theorem ggX8_points_X8_isMoment : GoodIn wsX8_points wsX8_isMoment := goodIn_r _ [14, 15, 9, 10, 7, 11] (by decide +kernel) (by decide +kernel)
set_option maxRecDepth 20000 in
theorem gX8_points_X8_isMoment : GoodIn wsX8_points (va_wsS RX8 184 yX8_isMoment wsX8_isMoment) := goodIn_app (goodIn_of _ (by decide +kernel)) ggX8_points_X8_isMoment
set_option maxRecDepth 20000 in
theorem ggX8_points_X8_in : GoodIn wsX8_points wsX8_in := goodIn_r _ [11] (by decide +kernel) (by decide +kernel)
set_option maxRecDepth 20000 in
theorem gX8_points_X8_in : GoodIn wsX8_points (va_wsS RX8 51 yX8_in wsX8_in) := goodIn_app (goodIn_of _ (by decide +kernel)) ggX8_points_X8_in
set_option maxRecDepth 20000 in
theorem ggX8_points_X8_arc : GoodIn wsX8_points wsX8_arc := goodIn_r _ [19, 3, 20, 21, 22, 7, 23, 24, 25, 26, 27, 28, 29, 30, 37, 38, 39, 40, 41, 42, 43, 44, 45, 46, 47, 48, 49, 50, 51, 52, 53, 54, 55, 56, 57, 58, 59, 60, 61] (by decide +kernel) (by decide +kernel)
set_option maxRecDepth 20000 in
theorem gX8_points_X8_arc : GoodIn wsX8_points (wsV RX8 188 RX8 yX8_arc wsX8_arc) := goodIn_app (goodIn_of _ (by decide +kernel)) ggX8_points_X8_arc
set_option maxRecDepth 20000 in
theorem ggX8_points_X8_told : GoodIn wsX8_points wsX8_told := goodIn_r _ [33, 34, 35, 7, 36] (by decide +kernel) (by decide +kernel)
set_option maxRecDepth 20000 in
theorem gX8_points_X8_told : GoodIn wsX8_points (va_wsS RX8 192 yX8_told wsX8_told) := goodIn_app (goodIn_of _ (by decide +kernel)) ggX8_points_X8_told
theorem dX8_points_0 : decode cX8_points 0 = .ok (.aload_n 0, 1) := by decide +kernel
theorem dX8_points_1 : decode cX8_points 1 = .ok (.iconst 0, 1) := by decide +kernel
theorem dX8_points_2 : decode cX8_points 2 = .ok (.putfield 41, 3) := by decide +kernel
theorem dX8_points_5 : decode cX8_points 5 = .ok (.aload_n 0, 1) := by decide +kernel
theorem dX8_points_6 : decode cX8_points 6 = .ok (.iload_n 1, 1) := by decide +kernel
theorem dX8_points_7 : decode cX8_points 7 = .ok (.invokevirtual 162, 3) := by decide +kernel
theorem dX8_points_10 : decode cX8_points 10 = .ok (.ifCond .eq 22, 3) := by decide +kernel
theorem dX8_points_13 : decode cX8_points 13 = .ok (.iload_n 2, 1) := by decide +kernel
theorem dX8_points_14 : decode cX8_points 14 = .ok (.iload_n 3, 1) := by decide +kernel
theorem dX8_points_15 : decode cX8_points 15 = .ok (.invokestatic 184, 3) := by decide +kernel
theorem dX8_points_18 : decode cX8_points 18 = .ok (.ifCond .eq 14, 3) := by decide +kernel
theorem dX8_points_21 : decode cX8_points 21 = .ok (.iload 4, 2) := by decide +kernel
theorem dX8_points_23 : decode cX8_points 23 = .ok (.i2l, 1) := by decide +kernel
theorem dX8_points_24 : decode cX8_points 24 = .ok (.lconst 0, 1) := by decide +kernel
theorem dX8_points_25 : decode cX8_points 25 = .ok (.lconst 1, 1) := by decide +kernel
theorem dX8_points_26 : decode cX8_points 26 = .ok (.invokestatic 51, 3) := by decide +kernel
theorem dX8_points_29 : decode cX8_points 29 = .ok (.ifCond .ne 6, 3) := by decide +kernel
theorem dX8_points_32 : decode cX8_points 32 = .ok (.ldc 61, 2) := by decide +kernel
theorem dX8_points_34 : decode cX8_points 34 = .ok (.ireturn, 1) := by decide +kernel
theorem dX8_points_35 : decode cX8_points 35 = .ok (.aload_n 0, 1) := by decide +kernel
theorem dX8_points_36 : decode cX8_points 36 = .ok (.iload_n 1, 1) := by decide +kernel
theorem dX8_points_37 : decode cX8_points 37 = .ok (.iload_n 2, 1) := by decide +kernel
theorem dX8_points_38 : decode cX8_points 38 = .ok (.iload_n 3, 1) := by decide +kernel
theorem dX8_points_39 : decode cX8_points 39 = .ok (.invokevirtual 188, 3) := by decide +kernel
theorem dX8_points_42 : decode cX8_points 42 = .ok (.iload_n 3, 1) := by decide +kernel
theorem dX8_points_43 : decode cX8_points 43 = .ok (.aload_n 0, 1) := by decide +kernel
theorem dX8_points_44 : decode cX8_points 44 = .ok (.getfield 19, 3) := by decide +kernel
theorem dX8_points_47 : decode cX8_points 47 = .ok (.iconst 0, 1) := by decide +kernel
theorem dX8_points_48 : decode cX8_points 48 = .ok (.iaload, 1) := by decide +kernel
theorem dX8_points_49 : decode cX8_points 49 = .ok (.imul, 1) := by decide +kernel
theorem dX8_points_50 : decode cX8_points 50 = .ok (.iload 4, 2) := by decide +kernel
theorem dX8_points_52 : decode cX8_points 52 = .ok (.invokestatic 192, 3) := by decide +kernel
theorem dX8_points_55 : decode cX8_points 55 = .ok (.ireturn, 1) := by decide +kernel
set_option maxRecDepth 20000 in
theorem ggX8_partsOf_X8_speed : GoodIn wsX8_partsOf wsX8_speed := goodIn_r _ [5, 6, 7, 8, 4, 9, 10, 14, 15, 16, 17, 18, 19, 20, 21, 22, 23, 24, 25, 26, 27, 28, 29, 30, 31, 32, 33, 34, 35, 36, 37, 38] (by decide +kernel) (by decide +kernel)
set_option maxRecDepth 20000 in
theorem gX8_partsOf_X8_speed : GoodIn wsX8_partsOf (wsV RX8 181 RX8 yX8_speed wsX8_speed) := goodIn_app (goodIn_of _ (by decide +kernel)) ggX8_partsOf_X8_speed
set_option maxRecDepth 20000 in
theorem ggX8_partsOf_X8_size : GoodIn wsX8_partsOf wsX8_size := goodIn_r _ [13] (by decide +kernel) (by decide +kernel)
set_option maxRecDepth 20000 in
theorem gX8_partsOf_X8_size : GoodIn wsX8_partsOf (va_wsS RX8 195 yX8_size wsX8_size) := goodIn_app (goodIn_of _ (by decide +kernel)) ggX8_partsOf_X8_size
theorem dX8_partsOf_0 : decode cX8_partsOf 0 = .ok (.aload_n 0, 1) := by decide +kernel
theorem dX8_partsOf_1 : decode cX8_partsOf 1 = .ok (.iload_n 1, 1) := by decide +kernel
theorem dX8_partsOf_2 : decode cX8_partsOf 2 = .ok (.invokevirtual 181, 3) := by decide +kernel
theorem dX8_partsOf_5 : decode cX8_partsOf 5 = .ok (.aload_n 0, 1) := by decide +kernel
theorem dX8_partsOf_6 : decode cX8_partsOf 6 = .ok (.iload_n 1, 1) := by decide +kernel
theorem dX8_partsOf_7 : decode cX8_partsOf 7 = .ok (.invokevirtual 181, 3) := by decide +kernel
theorem dX8_partsOf_10 : decode cX8_partsOf 10 = .ok (.imul, 1) := by decide +kernel
theorem dX8_partsOf_11 : decode cX8_partsOf 11 = .ok (.aload_n 0, 1) := by decide +kernel
theorem dX8_partsOf_12 : decode cX8_partsOf 12 = .ok (.iload_n 2, 1) := by decide +kernel
theorem dX8_partsOf_13 : decode cX8_partsOf 13 = .ok (.invokevirtual 181, 3) := by decide +kernel
theorem dX8_partsOf_16 : decode cX8_partsOf 16 = .ok (.aload_n 0, 1) := by decide +kernel
theorem dX8_partsOf_17 : decode cX8_partsOf 17 = .ok (.iload_n 2, 1) := by decide +kernel
theorem dX8_partsOf_18 : decode cX8_partsOf 18 = .ok (.invokevirtual 181, 3) := by decide +kernel
theorem dX8_partsOf_21 : decode cX8_partsOf 21 = .ok (.imul, 1) := by decide +kernel
theorem dX8_partsOf_22 : decode cX8_partsOf 22 = .ok (.isub, 1) := by decide +kernel
theorem dX8_partsOf_23 : decode cX8_partsOf 23 = .ok (.invokestatic 195, 3) := by decide +kernel
theorem dX8_partsOf_26 : decode cX8_partsOf 26 = .ok (.ireturn, 1) := by decide +kernel
set_option maxRecDepth 20000 in
theorem ggX8_otherOf_X8_partsOf : GoodIn wsX8_otherOf wsX8_partsOf := goodIn_r _ [6, 7, 8, 9, 5, 10, 11, 12, 13, 14, 15, 16, 17, 18, 19, 20, 21, 22, 23, 24, 25, 26, 27, 28, 29, 30, 31, 32, 33, 34, 35, 36, 37, 38, 39, 40, 41, 42, 43] (by decide +kernel) (by decide +kernel)
set_option maxRecDepth 20000 in
theorem gX8_otherOf_X8_partsOf : GoodIn wsX8_otherOf (wsV RX8 198 RX8 yX8_partsOf wsX8_partsOf) := goodIn_app (goodIn_of _ (by decide +kernel)) ggX8_otherOf_X8_partsOf
set_option maxRecDepth 20000 in
theorem ggX8_otherOf_X8_speed : GoodIn wsX8_otherOf wsX8_speed := goodIn_r _ [10, 11, 12, 13, 5, 14, 15, 19, 20, 21, 22, 23, 24, 25, 26, 27, 28, 29, 30, 31, 32, 33, 34, 35, 36, 37, 38, 39, 40, 41, 42, 43] (by decide +kernel) (by decide +kernel)
set_option maxRecDepth 20000 in
theorem gX8_otherOf_X8_speed : GoodIn wsX8_otherOf (wsV RX8 181 RX8 yX8_speed wsX8_speed) := goodIn_app (goodIn_of _ (by decide +kernel)) ggX8_otherOf_X8_speed
theorem dX8_otherOf_0 : decode cX8_otherOf 0 = .ok (.aload_n 0, 1) := by decide +kernel
theorem dX8_otherOf_1 : decode cX8_otherOf 1 = .ok (.iload_n 1, 1) := by decide +kernel
theorem dX8_otherOf_2 : decode cX8_otherOf 2 = .ok (.iload_n 2, 1) := by decide +kernel
theorem dX8_otherOf_3 : decode cX8_otherOf 3 = .ok (.invokevirtual 198, 3) := by decide +kernel
theorem dX8_otherOf_6 : decode cX8_otherOf 6 = .ok (.istore 4, 2) := by decide +kernel
theorem dX8_otherOf_8 : decode cX8_otherOf 8 = .ok (.iconst 0, 1) := by decide +kernel
theorem dX8_otherOf_9 : decode cX8_otherOf 9 = .ok (.istore 5, 2) := by decide +kernel
theorem dX8_otherOf_11 : decode cX8_otherOf 11 = .ok (.iload 5, 2) := by decide +kernel
theorem dX8_otherOf_13 : decode cX8_otherOf 13 = .ok (.iload 4, 2) := by decide +kernel
theorem dX8_otherOf_15 : decode cX8_otherOf 15 = .ok (.if_icmp .ge 86, 3) := by decide +kernel
theorem dX8_otherOf_18 : decode cX8_otherOf 18 = .ok (.aload_n 0, 1) := by decide +kernel
theorem dX8_otherOf_19 : decode cX8_otherOf 19 = .ok (.iload_n 1, 1) := by decide +kernel
theorem dX8_otherOf_20 : decode cX8_otherOf 20 = .ok (.invokevirtual 181, 3) := by decide +kernel
theorem dX8_otherOf_23 : decode cX8_otherOf 23 = .ok (.iload_n 3, 1) := by decide +kernel
theorem dX8_otherOf_24 : decode cX8_otherOf 24 = .ok (.imul, 1) := by decide +kernel
theorem dX8_otherOf_25 : decode cX8_otherOf 25 = .ok (.aload_n 0, 1) := by decide +kernel
theorem dX8_otherOf_26 : decode cX8_otherOf 26 = .ok (.iload_n 2, 1) := by decide +kernel
theorem dX8_otherOf_27 : decode cX8_otherOf 27 = .ok (.invokevirtual 181, 3) := by decide +kernel
theorem dX8_otherOf_30 : decode cX8_otherOf 30 = .ok (.iload 5, 2) := by decide +kernel
theorem dX8_otherOf_32 : decode cX8_otherOf 32 = .ok (.imul, 1) := by decide +kernel
theorem dX8_otherOf_33 : decode cX8_otherOf 33 = .ok (.isub, 1) := by decide +kernel
theorem dX8_otherOf_34 : decode cX8_otherOf 34 = .ok (.iload 4, 2) := by decide +kernel
theorem dX8_otherOf_36 : decode cX8_otherOf 36 = .ok (.irem, 1) := by decide +kernel
theorem dX8_otherOf_37 : decode cX8_otherOf 37 = .ok (.ifCond .ne 7, 3) := by decide +kernel
theorem dX8_otherOf_40 : decode cX8_otherOf 40 = .ok (.iconst 1, 1) := by decide +kernel
theorem dX8_otherOf_41 : decode cX8_otherOf 41 = .ok (.goto 4, 3) := by decide +kernel
theorem dX8_otherOf_44 : decode cX8_otherOf 44 = .ok (.iconst 0, 1) := by decide +kernel
theorem dX8_otherOf_45 : decode cX8_otherOf 45 = .ok (.istore 6, 2) := by decide +kernel
theorem dX8_otherOf_47 : decode cX8_otherOf 47 = .ok (.aload_n 0, 1) := by decide +kernel
theorem dX8_otherOf_48 : decode cX8_otherOf 48 = .ok (.iload_n 2, 1) := by decide +kernel
theorem dX8_otherOf_49 : decode cX8_otherOf 49 = .ok (.invokevirtual 181, 3) := by decide +kernel
theorem dX8_otherOf_52 : decode cX8_otherOf 52 = .ok (.iload_n 3, 1) := by decide +kernel
theorem dX8_otherOf_53 : decode cX8_otherOf 53 = .ok (.imul, 1) := by decide +kernel
theorem dX8_otherOf_54 : decode cX8_otherOf 54 = .ok (.aload_n 0, 1) := by decide +kernel
theorem dX8_otherOf_55 : decode cX8_otherOf 55 = .ok (.iload_n 1, 1) := by decide +kernel
theorem dX8_otherOf_56 : decode cX8_otherOf 56 = .ok (.invokevirtual 181, 3) := by decide +kernel
theorem dX8_otherOf_59 : decode cX8_otherOf 59 = .ok (.iload 5, 2) := by decide +kernel
theorem dX8_otherOf_61 : decode cX8_otherOf 61 = .ok (.imul, 1) := by decide +kernel
theorem dX8_otherOf_62 : decode cX8_otherOf 62 = .ok (.isub, 1) := by decide +kernel
theorem dX8_otherOf_63 : decode cX8_otherOf 63 = .ok (.iload 4, 2) := by decide +kernel
theorem dX8_otherOf_65 : decode cX8_otherOf 65 = .ok (.irem, 1) := by decide +kernel
theorem dX8_otherOf_66 : decode cX8_otherOf 66 = .ok (.ifCond .ne 7, 3) := by decide +kernel
theorem dX8_otherOf_69 : decode cX8_otherOf 69 = .ok (.iconst 1, 1) := by decide +kernel
theorem dX8_otherOf_70 : decode cX8_otherOf 70 = .ok (.goto 4, 3) := by decide +kernel
theorem dX8_otherOf_73 : decode cX8_otherOf 73 = .ok (.iconst 0, 1) := by decide +kernel
theorem dX8_otherOf_74 : decode cX8_otherOf 74 = .ok (.istore 7, 2) := by decide +kernel
theorem dX8_otherOf_76 : decode cX8_otherOf 76 = .ok (.iload 5, 2) := by decide +kernel
theorem dX8_otherOf_78 : decode cX8_otherOf 78 = .ok (.iload_n 3, 1) := by decide +kernel
theorem dX8_otherOf_79 : decode cX8_otherOf 79 = .ok (.if_icmp .eq 16, 3) := by decide +kernel
theorem dX8_otherOf_82 : decode cX8_otherOf 82 = .ok (.iload 6, 2) := by decide +kernel
theorem dX8_otherOf_84 : decode cX8_otherOf 84 = .ok (.ifCond .eq 11, 3) := by decide +kernel
theorem dX8_otherOf_87 : decode cX8_otherOf 87 = .ok (.iload 7, 2) := by decide +kernel
theorem dX8_otherOf_89 : decode cX8_otherOf 89 = .ok (.ifCond .eq 6, 3) := by decide +kernel
theorem dX8_otherOf_92 : decode cX8_otherOf 92 = .ok (.iload 5, 2) := by decide +kernel
