theorem dX7_isCastBetween_30 : decode cX7_isCastBetween 30 = .ok (.aload 5, 2) := by decide +kernel
theorem dX7_isCastBetween_32 : decode cX7_isCastBetween 32 = .ok (.getfield 211, 3) := by decide +kernel
theorem dX7_isCastBetween_35 : decode cX7_isCastBetween 35 = .ok (.iload_n 3, 1) := by decide +kernel
theorem dX7_isCastBetween_36 : decode cX7_isCastBetween 36 = .ok (.if_icmp .gt 17, 3) := by decide +kernel
theorem dX7_isCastBetween_39 : decode cX7_isCastBetween 39 = .ok (.aload 5, 2) := by decide +kernel
theorem dX7_isCastBetween_41 : decode cX7_isCastBetween 41 = .ok (.getfield 454, 3) := by decide +kernel
theorem dX7_isCastBetween_44 : decode cX7_isCastBetween 44 = .ok (.iload_n 1, 1) := by decide +kernel
theorem dX7_isCastBetween_45 : decode cX7_isCastBetween 45 = .ok (.invokestatic 161, 3) := by decide +kernel
theorem dX7_isCastBetween_48 : decode cX7_isCastBetween 48 = .ok (.ifCond .eq 5, 3) := by decide +kernel
theorem dX7_isCastBetween_51 : decode cX7_isCastBetween 51 = .ok (.iconst 1, 1) := by decide +kernel
theorem dX7_isCastBetween_52 : decode cX7_isCastBetween 52 = .ok (.ireturn, 1) := by decide +kernel
theorem dX7_isCastBetween_53 : decode cX7_isCastBetween 53 = .ok (.iinc 4 1, 3) := by decide +kernel
theorem dX7_isCastBetween_56 : decode cX7_isCastBetween 56 = .ok (.goto (-53), 3) := by decide +kernel
theorem dX7_isCastBetween_59 : decode cX7_isCastBetween 59 = .ok (.iconst 0, 1) := by decide +kernel
theorem dX7_isCastBetween_60 : decode cX7_isCastBetween 60 = .ok (.ireturn, 1) := by decide +kernel
set_option maxRecDepth 20000 in
theorem ggX7_isFreeFor_X4_isOnLeave : GoodIn wsX7_isFreeFor wsX4_isOnLeave := goodIn_ca (goodIn_r _ [6, 7, 8, 9, 65, 66, 67, 68, 69, 70, 71] (by decide +kernel) (by decide +kernel)) (goodIn_sub (fun _ h => List.mem_cons_of_mem _ (List.mem_append_right _ h)) (by decide +kernel))
set_option maxRecDepth 20000 in
theorem gX7_isFreeFor_X4_isOnLeave_n457 : GoodIn wsX7_isFreeFor (wsX4_isOnLeave) := ggX7_isFreeFor_X4_isOnLeave
set_option maxRecDepth 20000 in
theorem ggX7_isFreeFor_X7_keepsAgreement : GoodIn wsX7_isFreeFor wsX7_keepsAgreement := goodIn_r _ [14, 15, 16, 17, 18, 13, 19, 2, 20, 21, 22, 23, 24, 25, 26, 27, 28, 29, 30, 31, 32, 33, 34, 35, 36, 37, 38, 39, 40, 41, 42, 43, 44, 45, 46, 47, 48, 49, 50, 51, 52, 53, 54, 55, 56, 57, 58, 59, 60, 61, 62, 63, 64] (by decide +kernel) (by decide +kernel)
set_option maxRecDepth 20000 in
theorem gX7_isFreeFor_X7_keepsAgreement : GoodIn wsX7_isFreeFor (wsV RX7 460 RX7 yX7_keepsAgreement wsX7_keepsAgreement) := goodIn_app (goodIn_of _ (by decide +kernel)) ggX7_isFreeFor_X7_keepsAgreement
theorem dX7_isFreeFor_0 : decode cX7_isFreeFor 0 = .ok (.aload_n 0, 1) := by decide +kernel
theorem dX7_isFreeFor_1 : decode cX7_isFreeFor 1 = .ok (.getfield 17, 3) := by decide +kernel
theorem dX7_isFreeFor_4 : decode cX7_isFreeFor 4 = .ok (.iload_n 1, 1) := by decide +kernel
theorem dX7_isFreeFor_5 : decode cX7_isFreeFor 5 = .ok (.aaload, 1) := by decide +kernel
theorem dX7_isFreeFor_6 : decode cX7_isFreeFor 6 = .ok (.aload_n 0, 1) := by decide +kernel
theorem dX7_isFreeFor_7 : decode cX7_isFreeFor 7 = .ok (.getfield 29, 3) := by decide +kernel
theorem dX7_isFreeFor_10 : decode cX7_isFreeFor 10 = .ok (.iload_n 2, 1) := by decide +kernel
theorem dX7_isFreeFor_11 : decode cX7_isFreeFor 11 = .ok (.aaload, 1) := by decide +kernel
theorem dX7_isFreeFor_12 : decode cX7_isFreeFor 12 = .ok (.getfield 211, 3) := by decide +kernel
theorem dX7_isFreeFor_15 : decode cX7_isFreeFor 15 = .ok (.invokevirtual 457, 3) := by decide +kernel
theorem dX7_isFreeFor_18 : decode cX7_isFreeFor 18 = .ok (.ifCond .ne 16, 3) := by decide +kernel
theorem dX7_isFreeFor_21 : decode cX7_isFreeFor 21 = .ok (.aload_n 0, 1) := by decide +kernel
theorem dX7_isFreeFor_22 : decode cX7_isFreeFor 22 = .ok (.iload_n 1, 1) := by decide +kernel
theorem dX7_isFreeFor_23 : decode cX7_isFreeFor 23 = .ok (.iload_n 2, 1) := by decide +kernel
theorem dX7_isFreeFor_24 : decode cX7_isFreeFor 24 = .ok (.invokevirtual 460, 3) := by decide +kernel
theorem dX7_isFreeFor_27 : decode cX7_isFreeFor 27 = .ok (.ifCond .eq 7, 3) := by decide +kernel
theorem dX7_isFreeFor_30 : decode cX7_isFreeFor 30 = .ok (.iconst 1, 1) := by decide +kernel
theorem dX7_isFreeFor_31 : decode cX7_isFreeFor 31 = .ok (.goto 4, 3) := by decide +kernel
theorem dX7_isFreeFor_34 : decode cX7_isFreeFor 34 = .ok (.iconst 0, 1) := by decide +kernel
theorem dX7_isFreeFor_35 : decode cX7_isFreeFor 35 = .ok (.ireturn, 1) := by decide +kernel
set_option maxRecDepth 20000 in
theorem ggX7_keepsAgreement_X7_isAmong : GoodIn wsX7_keepsAgreement wsX7_isAmong := goodIn_r _ [6, 7, 8, 9, 5, 10, 26, 27, 28, 29, 30, 31, 32, 33, 34, 35, 36, 37, 38, 39, 40, 41, 42, 43, 44, 45, 46, 47, 48, 49, 50, 51, 52] (by decide +kernel) (by decide +kernel)
set_option maxRecDepth 20000 in
theorem gX7_keepsAgreement_X7_isAmong : GoodIn wsX7_keepsAgreement (wsV RX7 463 RX7 yX7_isAmong wsX7_isAmong) := goodIn_app (goodIn_of _ (by decide +kernel)) ggX7_keepsAgreement_X7_isAmong
set_option maxRecDepth 20000 in
theorem ggX7_keepsAgreement_X7_fitsAmong : GoodIn wsX7_keepsAgreement wsX7_fitsAmong := goodIn_r _ [14, 7, 1, 2, 3, 4, 5, 6, 8, 9, 10, 15, 16, 17, 18, 19, 20, 21, 22, 23, 24, 25, 26, 27, 28, 29, 30, 31, 32, 33, 34, 35, 36, 37, 38, 39, 40, 41, 42, 43, 44, 45, 46, 47, 48, 49, 50, 51, 52] (by decide +kernel) (by decide +kernel)
set_option maxRecDepth 20000 in
theorem gX7_keepsAgreement_X7_fitsAmong : GoodIn wsX7_keepsAgreement (wsV RX7 466 RX7 yX7_fitsAmong wsX7_fitsAmong) := goodIn_app (goodIn_of _ (by decide +kernel)) ggX7_keepsAgreement_X7_fitsAmong
theorem dX7_keepsAgreement_0 : decode cX7_keepsAgreement 0 = .ok (.iconst 0, 1) := by decide +kernel
theorem dX7_keepsAgreement_1 : decode cX7_keepsAgreement 1 = .ok (.istore_n 3, 1) := by decide +kernel
theorem dX7_keepsAgreement_2 : decode cX7_keepsAgreement 2 = .ok (.iload_n 3, 1) := by decide +kernel
theorem dX7_keepsAgreement_3 : decode cX7_keepsAgreement 3 = .ok (.aload_n 0, 1) := by decide +kernel
theorem dX7_keepsAgreement_4 : decode cX7_keepsAgreement 4 = .ok (.getfield 202, 3) := by decide +kernel
theorem dX7_keepsAgreement_7 : decode cX7_keepsAgreement 7 = .ok (.if_icmp .ge 31, 3) := by decide +kernel
theorem dX7_keepsAgreement_10 : decode cX7_keepsAgreement 10 = .ok (.aload_n 0, 1) := by decide +kernel
theorem dX7_keepsAgreement_11 : decode cX7_keepsAgreement 11 = .ok (.iload_n 3, 1) := by decide +kernel
theorem dX7_keepsAgreement_12 : decode cX7_keepsAgreement 12 = .ok (.iload_n 1, 1) := by decide +kernel
theorem dX7_keepsAgreement_13 : decode cX7_keepsAgreement 13 = .ok (.iload_n 2, 1) := by decide +kernel
theorem dX7_keepsAgreement_14 : decode cX7_keepsAgreement 14 = .ok (.invokevirtual 463, 3) := by decide +kernel
theorem dX7_keepsAgreement_17 : decode cX7_keepsAgreement 17 = .ok (.ifCond .eq 15, 3) := by decide +kernel
theorem dX7_keepsAgreement_20 : decode cX7_keepsAgreement 20 = .ok (.aload_n 0, 1) := by decide +kernel
theorem dX7_keepsAgreement_21 : decode cX7_keepsAgreement 21 = .ok (.iload_n 3, 1) := by decide +kernel
theorem dX7_keepsAgreement_22 : decode cX7_keepsAgreement 22 = .ok (.iload_n 1, 1) := by decide +kernel
theorem dX7_keepsAgreement_23 : decode cX7_keepsAgreement 23 = .ok (.iload_n 2, 1) := by decide +kernel
theorem dX7_keepsAgreement_24 : decode cX7_keepsAgreement 24 = .ok (.invokevirtual 466, 3) := by decide +kernel
theorem dX7_keepsAgreement_27 : decode cX7_keepsAgreement 27 = .ok (.ifCond .ne 5, 3) := by decide +kernel
theorem dX7_keepsAgreement_30 : decode cX7_keepsAgreement 30 = .ok (.iconst 0, 1) := by decide +kernel
theorem dX7_keepsAgreement_31 : decode cX7_keepsAgreement 31 = .ok (.ireturn, 1) := by decide +kernel
theorem dX7_keepsAgreement_32 : decode cX7_keepsAgreement 32 = .ok (.iinc 3 1, 3) := by decide +kernel
theorem dX7_keepsAgreement_35 : decode cX7_keepsAgreement 35 = .ok (.goto (-33), 3) := by decide +kernel
theorem dX7_keepsAgreement_38 : decode cX7_keepsAgreement 38 = .ok (.iconst 1, 1) := by decide +kernel
theorem dX7_keepsAgreement_39 : decode cX7_keepsAgreement 39 = .ok (.ireturn, 1) := by decide +kernel
set_option maxRecDepth 20000 in
theorem ggX7_isAmong_X7_hasBit : GoodIn wsX7_isAmong wsX7_hasBit := goodIn_r _ [5] (by decide +kernel) (by decide +kernel)
set_option maxRecDepth 20000 in
theorem gX7_isAmong_X7_hasBit : GoodIn wsX7_isAmong (va_wsS RX7 161 yX7_hasBit wsX7_hasBit) := goodIn_app (goodIn_of _ (by decide +kernel)) ggX7_isAmong_X7_hasBit
theorem dX7_isAmong_0 : decode cX7_isAmong 0 = .ok (.iload_n 1, 1) := by decide +kernel
theorem dX7_isAmong_1 : decode cX7_isAmong 1 = .ok (.iload_n 3, 1) := by decide +kernel
theorem dX7_isAmong_2 : decode cX7_isAmong 2 = .ok (.if_icmp .eq 19, 3) := by decide +kernel
theorem dX7_isAmong_5 : decode cX7_isAmong 5 = .ok (.aload_n 0, 1) := by decide +kernel
theorem dX7_isAmong_6 : decode cX7_isAmong 6 = .ok (.getfield 29, 3) := by decide +kernel
theorem dX7_isAmong_9 : decode cX7_isAmong 9 = .ok (.iload_n 1, 1) := by decide +kernel
theorem dX7_isAmong_10 : decode cX7_isAmong 10 = .ok (.aaload, 1) := by decide +kernel
theorem dX7_isAmong_11 : decode cX7_isAmong 11 = .ok (.getfield 454, 3) := by decide +kernel
theorem dX7_isAmong_14 : decode cX7_isAmong 14 = .ok (.iload_n 2, 1) := by decide +kernel
theorem dX7_isAmong_15 : decode cX7_isAmong 15 = .ok (.invokestatic 161, 3) := by decide +kernel
theorem dX7_isAmong_18 : decode cX7_isAmong 18 = .ok (.ifCond .eq 7, 3) := by decide +kernel
theorem dX7_isAmong_21 : decode cX7_isAmong 21 = .ok (.iconst 1, 1) := by decide +kernel
theorem dX7_isAmong_22 : decode cX7_isAmong 22 = .ok (.goto 4, 3) := by decide +kernel
theorem dX7_isAmong_25 : decode cX7_isAmong 25 = .ok (.iconst 0, 1) := by decide +kernel
theorem dX7_isAmong_26 : decode cX7_isAmong 26 = .ok (.ireturn, 1) := by decide +kernel
set_option maxRecDepth 20000 in
theorem ggX7_fitsAmong_X7_isAmong : GoodIn wsX7_fitsAmong wsX7_isAmong := goodIn_r _ [7, 1, 8, 9, 6, 10, 22, 23, 24, 25, 26, 27, 28, 29, 30, 31, 32, 33, 34, 35, 36, 37, 38, 39, 40, 41, 42, 43, 44, 45, 46, 47, 48] (by decide +kernel) (by decide +kernel)
set_option maxRecDepth 20000 in
theorem gX7_fitsAmong_X7_isAmong : GoodIn wsX7_fitsAmong (wsV RX7 463 RX7 yX7_isAmong wsX7_isAmong) := goodIn_app (goodIn_of _ (by decide +kernel)) ggX7_fitsAmong_X7_isAmong
set_option maxRecDepth 20000 in
theorem ggX7_fitsAmong_X5_leavesRestTo : GoodIn wsX7_fitsAmong wsX5_leavesRestTo := goodIn_r _ [14, 15, 16, 17, 18, 19, 20, 12, 21, 34, 35, 36, 37, 38, 39, 40, 41, 42, 43, 44, 45, 46, 47, 48] (by decide +kernel) (by decide +kernel)
set_option maxRecDepth 20000 in
theorem gX7_fitsAmong_X5_leavesRestTo_n469 : GoodIn wsX7_fitsAmong (wsX5_leavesRestTo) := ggX7_fitsAmong_X5_leavesRestTo
theorem dX7_fitsAmong_0 : decode cX7_fitsAmong 0 = .ok (.aload_n 0, 1) := by decide +kernel
theorem dX7_fitsAmong_1 : decode cX7_fitsAmong 1 = .ok (.getfield 29, 3) := by decide +kernel
theorem dX7_fitsAmong_4 : decode cX7_fitsAmong 4 = .ok (.iload_n 1, 1) := by decide +kernel
theorem dX7_fitsAmong_5 : decode cX7_fitsAmong 5 = .ok (.aaload, 1) := by decide +kernel
theorem dX7_fitsAmong_6 : decode cX7_fitsAmong 6 = .ok (.astore 4, 2) := by decide +kernel
theorem dX7_fitsAmong_8 : decode cX7_fitsAmong 8 = .ok (.iconst 0, 1) := by decide +kernel
theorem dX7_fitsAmong_9 : decode cX7_fitsAmong 9 = .ok (.istore 5, 2) := by decide +kernel
theorem dX7_fitsAmong_11 : decode cX7_fitsAmong 11 = .ok (.iconst 0, 1) := by decide +kernel
theorem dX7_fitsAmong_12 : decode cX7_fitsAmong 12 = .ok (.istore 6, 2) := by decide +kernel
theorem dX7_fitsAmong_14 : decode cX7_fitsAmong 14 = .ok (.iconst 0, 1) := by decide +kernel
theorem dX7_fitsAmong_15 : decode cX7_fitsAmong 15 = .ok (.istore 7, 2) := by decide +kernel
theorem dX7_fitsAmong_17 : decode cX7_fitsAmong 17 = .ok (.iload 7, 2) := by decide +kernel
theorem dX7_fitsAmong_19 : decode cX7_fitsAmong 19 = .ok (.aload_n 0, 1) := by decide +kernel
theorem dX7_fitsAmong_20 : decode cX7_fitsAmong 20 = .ok (.getfield 202, 3) := by decide +kernel
theorem dX7_fitsAmong_23 : decode cX7_fitsAmong 23 = .ok (.if_icmp .ge 97, 3) := by decide +kernel
theorem dX7_fitsAmong_26 : decode cX7_fitsAmong 26 = .ok (.aload_n 0, 1) := by decide +kernel
theorem dX7_fitsAmong_27 : decode cX7_fitsAmong 27 = .ok (.iload 7, 2) := by decide +kernel
theorem dX7_fitsAmong_29 : decode cX7_fitsAmong 29 = .ok (.iload_n 2, 1) := by decide +kernel
theorem dX7_fitsAmong_30 : decode cX7_fitsAmong 30 = .ok (.iload_n 3, 1) := by decide +kernel
theorem dX7_fitsAmong_31 : decode cX7_fitsAmong 31 = .ok (.invokevirtual 463, 3) := by decide +kernel
theorem dX7_fitsAmong_34 : decode cX7_fitsAmong 34 = .ok (.ifCond .eq 80, 3) := by decide +kernel
theorem dX7_fitsAmong_37 : decode cX7_fitsAmong 37 = .ok (.aload_n 0, 1) := by decide +kernel
theorem dX7_fitsAmong_38 : decode cX7_fitsAmong 38 = .ok (.getfield 29, 3) := by decide +kernel
theorem dX7_fitsAmong_41 : decode cX7_fitsAmong 41 = .ok (.iload 7, 2) := by decide +kernel
theorem dX7_fitsAmong_43 : decode cX7_fitsAmong 43 = .ok (.aaload, 1) := by decide +kernel
theorem dX7_fitsAmong_44 : decode cX7_fitsAmong 44 = .ok (.astore 8, 2) := by decide +kernel
theorem dX7_fitsAmong_46 : decode cX7_fitsAmong 46 = .ok (.aload 8, 2) := by decide +kernel
theorem dX7_fitsAmong_48 : decode cX7_fitsAmong 48 = .ok (.getfield 211, 3) := by decide +kernel
theorem dX7_fitsAmong_51 : decode cX7_fitsAmong 51 = .ok (.aload 4, 2) := by decide +kernel
theorem dX7_fitsAmong_53 : decode cX7_fitsAmong 53 = .ok (.getfield 211, 3) := by decide +kernel
theorem dX7_fitsAmong_56 : decode cX7_fitsAmong 56 = .ok (.isub, 1) := by decide +kernel
theorem dX7_fitsAmong_57 : decode cX7_fitsAmong 57 = .ok (.istore 9, 2) := by decide +kernel
theorem dX7_fitsAmong_59 : decode cX7_fitsAmong 59 = .ok (.iload 5, 2) := by decide +kernel
theorem dX7_fitsAmong_61 : decode cX7_fitsAmong 61 = .ok (.iload 9, 2) := by decide +kernel
theorem dX7_fitsAmong_63 : decode cX7_fitsAmong 63 = .ok (.ifCond .ne 7, 3) := by decide +kernel
theorem dX7_fitsAmong_66 : decode cX7_fitsAmong 66 = .ok (.iconst 1, 1) := by decide +kernel
theorem dX7_fitsAmong_67 : decode cX7_fitsAmong 67 = .ok (.goto 4, 3) := by decide +kernel
theorem dX7_fitsAmong_70 : decode cX7_fitsAmong 70 = .ok (.iconst 0, 1) := by decide +kernel
theorem dX7_fitsAmong_71 : decode cX7_fitsAmong 71 = .ok (.iadd, 1) := by decide +kernel
theorem dX7_fitsAmong_72 : decode cX7_fitsAmong 72 = .ok (.istore 5, 2) := by decide +kernel
theorem dX7_fitsAmong_74 : decode cX7_fitsAmong 74 = .ok (.iload 6, 2) := by decide +kernel
theorem dX7_fitsAmong_76 : decode cX7_fitsAmong 76 = .ok (.iload 9, 2) := by decide +kernel
theorem dX7_fitsAmong_78 : decode cX7_fitsAmong 78 = .ok (.ifCond .lt 14, 3) := by decide +kernel
theorem dX7_fitsAmong_81 : decode cX7_fitsAmong 81 = .ok (.iload 9, 2) := by decide +kernel
theorem dX7_fitsAmong_83 : decode cX7_fitsAmong 83 = .ok (.bipush 7, 2) := by decide +kernel
theorem dX7_fitsAmong_85 : decode cX7_fitsAmong 85 = .ok (.if_icmp .ge 7, 3) := by decide +kernel
theorem dX7_fitsAmong_88 : decode cX7_fitsAmong 88 = .ok (.iconst 1, 1) := by decide +kernel
theorem dX7_fitsAmong_89 : decode cX7_fitsAmong 89 = .ok (.goto 4, 3) := by decide +kernel
theorem dX7_fitsAmong_92 : decode cX7_fitsAmong 92 = .ok (.iconst 0, 1) := by decide +kernel
theorem dX7_fitsAmong_93 : decode cX7_fitsAmong 93 = .ok (.iadd, 1) := by decide +kernel
theorem dX7_fitsAmong_94 : decode cX7_fitsAmong 94 = .ok (.istore 6, 2) := by decide +kernel
theorem dX7_fitsAmong_96 : decode cX7_fitsAmong 96 = .ok (.iload 7, 2) := by decide +kernel
theorem dX7_fitsAmong_98 : decode cX7_fitsAmong 98 = .ok (.iload_n 1, 1) := by decide +kernel
theorem dX7_fitsAmong_99 : decode cX7_fitsAmong 99 = .ok (.if_icmp .eq 15, 3) := by decide +kernel
theorem dX7_fitsAmong_102 : decode cX7_fitsAmong 102 = .ok (.aload 4, 2) := by decide +kernel
theorem dX7_fitsAmong_104 : decode cX7_fitsAmong 104 = .ok (.aload 8, 2) := by decide +kernel
theorem dX7_fitsAmong_106 : decode cX7_fitsAmong 106 = .ok (.invokevirtual 469, 3) := by decide +kernel
theorem dX7_fitsAmong_109 : decode cX7_fitsAmong 109 = .ok (.ifCond .ne 5, 3) := by decide +kernel
theorem dX7_fitsAmong_112 : decode cX7_fitsAmong 112 = .ok (.iconst 0, 1) := by decide +kernel
theorem dX7_fitsAmong_113 : decode cX7_fitsAmong 113 = .ok (.ireturn, 1) := by decide +kernel
theorem dX7_fitsAmong_114 : decode cX7_fitsAmong 114 = .ok (.iinc 7 1, 3) := by decide +kernel
theorem dX7_fitsAmong_117 : decode cX7_fitsAmong 117 = .ok (.goto (-100), 3) := by decide +kernel
theorem dX7_fitsAmong_120 : decode cX7_fitsAmong 120 = .ok (.iload 5, 2) := by decide +kernel
theorem dX7_fitsAmong_122 : decode cX7_fitsAmong 122 = .ok (.iconst 2, 1) := by decide +kernel
theorem dX7_fitsAmong_123 : decode cX7_fitsAmong 123 = .ok (.if_icmp .gt 14, 3) := by decide +kernel
theorem dX7_fitsAmong_126 : decode cX7_fitsAmong 126 = .ok (.iload 6, 2) := by decide +kernel
theorem dX7_fitsAmong_128 : decode cX7_fitsAmong 128 = .ok (.bipush 8, 2) := by decide +kernel
theorem dX7_fitsAmong_130 : decode cX7_fitsAmong 130 = .ok (.if_icmp .gt 7, 3) := by decide +kernel
theorem dX7_fitsAmong_133 : decode cX7_fitsAmong 133 = .ok (.iconst 1, 1) := by decide +kernel
theorem dX7_fitsAmong_134 : decode cX7_fitsAmong 134 = .ok (.goto 4, 3) := by decide +kernel
theorem dX7_fitsAmong_137 : decode cX7_fitsAmong 137 = .ok (.iconst 0, 1) := by decide +kernel
theorem dX7_fitsAmong_138 : decode cX7_fitsAmong 138 = .ok (.ireturn, 1) := by decide +kernel
set_option maxRecDepth 20000 in
theorem ggX7_castAnew_X5_dropCasts : GoodIn wsX7_castAnew wsX5_dropCasts := goodIn_r _ [10, 11, 12, 146, 147, 148, 149, 150, 151, 152, 153, 154, 155, 156, 157, 158, 159, 160] (by decide +kernel) (by decide +kernel)
set_option maxRecDepth 20000 in
theorem gX7_castAnew_X5_dropCasts_n340 : GoodIn wsX7_castAnew (wsX5_dropCasts) := ggX7_castAnew_X5_dropCasts
set_option maxRecDepth 20000 in
theorem ggX7_castAnew_X7_countServices : GoodIn wsX7_castAnew wsX7_countServices := goodIn_r _ [17, 18, 1, 19, 20, 16, 21, 127, 128, 129, 130, 131, 132, 133, 134, 135, 136, 137, 138, 146, 147, 148, 149, 150, 151, 152, 153, 154, 155, 156, 157, 158, 159, 160] (by decide +kernel) (by decide +kernel)
set_option maxRecDepth 20000 in
theorem gX7_castAnew_X7_countServices : GoodIn wsX7_castAnew (wsV RX7 364 RX7 yX7_countServices wsX7_countServices) := goodIn_app (goodIn_of _ (by decide +kernel)) ggX7_castAnew_X7_countServices
set_option maxRecDepth 20000 in
theorem ggX7_castAnew_X7_hasBit : GoodIn wsX7_castAnew wsX7_hasBit := goodIn_r _ [21] (by decide +kernel) (by decide +kernel)
set_option maxRecDepth 20000 in
theorem gX7_castAnew_X7_hasBit : GoodIn wsX7_castAnew (va_wsS RX7 161 yX7_hasBit wsX7_hasBit) := goodIn_app (goodIn_of _ (by decide +kernel)) ggX7_castAnew_X7_hasBit
set_option maxRecDepth 20000 in
theorem ggX7_castAnew_X7_isFreeFor : GoodIn wsX7_castAnew wsX7_isFreeFor := goodIn_ca (goodIn_r _ [25, 5, 1, 26, 27, 28, 29, 30, 31, 32, 33, 34, 35, 16, 36, 18, 37, 38, 39, 40, 19, 20, 21, 41, 42, 43, 44, 45, 8, 46, 47, 48, 49, 50, 51, 52, 53, 54, 127, 128, 129, 130, 131, 132, 133, 134, 135, 136, 137, 138, 146, 147, 148, 149, 150, 151, 152, 153, 154, 155, 156, 157, 158, 159, 160, 170, 171, 172, 173, 174, 175, 176] (by decide +kernel) (by decide +kernel)) (goodIn_sub (fun _ h => List.mem_cons_of_mem _ (List.mem_append_right _ h)) (by decide +kernel))
set_option maxRecDepth 20000 in
theorem gX7_castAnew_X7_isFreeFor : GoodIn wsX7_castAnew (wsV RX7 361 RX7 yX7_isFreeFor wsX7_isFreeFor) := goodIn_app (goodIn_of _ (by decide +kernel)) ggX7_castAnew_X7_isFreeFor
set_option maxRecDepth 20000 in
theorem ggX7_castAnew_X6_hasScoreOn : GoodIn wsX7_castAnew wsX6_hasScoreOn := goodIn_ca (goodIn_r _ [58, 59, 60, 61, 62, 161, 162, 163, 164, 165, 166, 167, 168, 169] (by decide +kernel) (by decide +kernel)) (goodIn_sub (fun _ h => List.mem_cons_of_mem _ (List.mem_append_right _ h)) (by decide +kernel))
set_option maxRecDepth 20000 in
theorem gX7_castAnew_X6_hasScoreOn_n119 : GoodIn wsX7_castAnew (wsX6_hasScoreOn) := ggX7_castAnew_X6_hasScoreOn
set_option maxRecDepth 20000 in
theorem ggX7_castAnew_X7_hasSoloistFor : GoodIn wsX7_castAnew wsX7_hasSoloistFor := goodIn_r _ [66, 4, 67, 19, 20, 16, 21, 127, 128, 129, 130, 131, 132, 133, 134, 135, 136, 137, 138, 161, 162, 163, 164, 165, 166, 167, 168, 169, 146, 147, 148, 149, 150, 151, 152, 153, 154, 155, 156, 157, 158, 159, 160, 177, 178, 179, 180] (by decide +kernel) (by decide +kernel)
set_option maxRecDepth 20000 in
theorem gX7_castAnew_X7_hasSoloistFor : GoodIn wsX7_castAnew (wsV RX7 476 RX7 yX7_hasSoloistFor wsX7_hasSoloistFor) := goodIn_app (goodIn_of _ (by decide +kernel)) ggX7_castAnew_X7_hasSoloistFor
set_option maxRecDepth 20000 in
theorem ggX7_castAnew_X7_refusers : GoodIn wsX7_castAnew wsX7_refusers := goodIn_r _ [71, 2, 5, 19, 20, 16, 21, 127, 128, 129, 130, 131, 132, 133, 134, 135, 136, 137, 138, 170, 171, 172, 173, 174, 175, 176] (by decide +kernel) (by decide +kernel)
set_option maxRecDepth 20000 in
theorem gX7_castAnew_X7_refusers : GoodIn wsX7_castAnew (wsV RX7 480 RX7 yX7_refusers wsX7_refusers) := goodIn_app (goodIn_of _ (by decide +kernel)) ggX7_castAnew_X7_refusers
set_option maxRecDepth 20000 in
theorem ggX7_castAnew_X1_find : GoodIn wsX7_castAnew wsX1_find := goodIn_ca (goodIn_r _ [75, 76, 77, 78, 79, 80, 81, 82, 73, 83, 84, 85, 86, 87, 88, 89, 90, 20, 16, 21, 91, 92, 93, 94, 95, 96, 97, 98, 99, 100, 101, 27, 102, 103, 104, 105, 106, 107, 108, 109, 110, 111, 112, 113, 114, 115, 116, 170, 171, 172, 173, 174, 175, 176, 139, 140, 141, 142, 143, 144, 145, 161, 162, 163, 164, 165, 166, 167, 168, 169] (by decide +kernel) (by decide +kernel)) (goodIn_sub (fun _ h => List.mem_cons_of_mem _ (List.mem_append_right _ h)) (by decide +kernel))
set_option maxRecDepth 20000 in
theorem gX7_castAnew_X1_find_n483 : GoodIn wsX7_castAnew (wsX1_find) := ggX7_castAnew_X1_find
set_option maxRecDepth 20000 in
theorem ggX7_castAnew_X5_putCast : GoodIn wsX7_castAnew wsX5_putCast := goodIn_ca (goodIn_r _ [119, 120, 11, 121, 12, 122, 73, 123, 124, 125, 126, 106, 107, 108, 146, 147, 148, 149, 150, 151, 152, 153, 154, 155, 156, 157, 158, 159, 160] (by decide +kernel) (by decide +kernel)) (goodIn_sub (fun _ h => List.mem_cons_of_mem _ (List.mem_append_right _ h)) (by decide +kernel))
set_option maxRecDepth 20000 in
theorem gX7_castAnew_X5_putCast_n489 : GoodIn wsX7_castAnew (wsX5_putCast) := ggX7_castAnew_X5_putCast
theorem dX7_castAnew_0 : decode cX7_castAnew 0 = .ok (.aload_n 0, 1) := by decide +kernel
theorem dX7_castAnew_1 : decode cX7_castAnew 1 = .ok (.getfield 29, 3) := by decide +kernel
theorem dX7_castAnew_4 : decode cX7_castAnew 4 = .ok (.iload_n 1, 1) := by decide +kernel
theorem dX7_castAnew_5 : decode cX7_castAnew 5 = .ok (.aaload, 1) := by decide +kernel
theorem dX7_castAnew_6 : decode cX7_castAnew 6 = .ok (.astore_n 2, 1) := by decide +kernel
theorem dX7_castAnew_7 : decode cX7_castAnew 7 = .ok (.aload_n 2, 1) := by decide +kernel
theorem dX7_castAnew_8 : decode cX7_castAnew 8 = .ok (.invokevirtual 340, 3) := by decide +kernel
theorem dX7_castAnew_11 : decode cX7_castAnew 11 = .ok (.iconst 0, 1) := by decide +kernel
theorem dX7_castAnew_12 : decode cX7_castAnew 12 = .ok (.istore_n 3, 1) := by decide +kernel
theorem dX7_castAnew_13 : decode cX7_castAnew 13 = .ok (.iconst 0, 1) := by decide +kernel
theorem dX7_castAnew_14 : decode cX7_castAnew 14 = .ok (.istore 4, 2) := by decide +kernel
theorem dX7_castAnew_16 : decode cX7_castAnew 16 = .ok (.iload 4, 2) := by decide +kernel
theorem dX7_castAnew_18 : decode cX7_castAnew 18 = .ok (.aload_n 0, 1) := by decide +kernel
theorem dX7_castAnew_19 : decode cX7_castAnew 19 = .ok (.getfield 122, 3) := by decide +kernel
theorem dX7_castAnew_22 : decode cX7_castAnew 22 = .ok (.if_icmp .ge 54, 3) := by decide +kernel
theorem dX7_castAnew_25 : decode cX7_castAnew 25 = .ok (.aload_n 0, 1) := by decide +kernel
theorem dX7_castAnew_26 : decode cX7_castAnew 26 = .ok (.getfield 42, 3) := by decide +kernel
theorem dX7_castAnew_29 : decode cX7_castAnew 29 = .ok (.getfield 473, 3) := by decide +kernel
theorem dX7_castAnew_32 : decode cX7_castAnew 32 = .ok (.iload 4, 2) := by decide +kernel
theorem dX7_castAnew_34 : decode cX7_castAnew 34 = .ok (.aload_n 0, 1) := by decide +kernel
theorem dX7_castAnew_35 : decode cX7_castAnew 35 = .ok (.iload 4, 2) := by decide +kernel
theorem dX7_castAnew_37 : decode cX7_castAnew 37 = .ok (.invokevirtual 364, 3) := by decide +kernel
theorem dX7_castAnew_40 : decode cX7_castAnew 40 = .ok (.iastore, 1) := by decide +kernel
theorem dX7_castAnew_41 : decode cX7_castAnew 41 = .ok (.aload_n 2, 1) := by decide +kernel
theorem dX7_castAnew_42 : decode cX7_castAnew 42 = .ok (.getfield 337, 3) := by decide +kernel
theorem dX7_castAnew_45 : decode cX7_castAnew 45 = .ok (.iload 4, 2) := by decide +kernel
theorem dX7_castAnew_47 : decode cX7_castAnew 47 = .ok (.invokestatic 161, 3) := by decide +kernel
theorem dX7_castAnew_50 : decode cX7_castAnew 50 = .ok (.ifCond .ne 20, 3) := by decide +kernel
theorem dX7_castAnew_53 : decode cX7_castAnew 53 = .ok (.aload_n 0, 1) := by decide +kernel
theorem dX7_castAnew_54 : decode cX7_castAnew 54 = .ok (.iload 4, 2) := by decide +kernel
theorem dX7_castAnew_56 : decode cX7_castAnew 56 = .ok (.iload_n 1, 1) := by decide +kernel
theorem dX7_castAnew_57 : decode cX7_castAnew 57 = .ok (.invokevirtual 361, 3) := by decide +kernel
theorem dX7_castAnew_60 : decode cX7_castAnew 60 = .ok (.ifCond .eq 10, 3) := by decide +kernel
theorem dX7_castAnew_63 : decode cX7_castAnew 63 = .ok (.iload_n 3, 1) := by decide +kernel
theorem dX7_castAnew_64 : decode cX7_castAnew 64 = .ok (.iconst 1, 1) := by decide +kernel
theorem dX7_castAnew_65 : decode cX7_castAnew 65 = .ok (.iload 4, 2) := by decide +kernel
theorem dX7_castAnew_67 : decode cX7_castAnew 67 = .ok (.ishl, 1) := by decide +kernel
theorem dX7_castAnew_68 : decode cX7_castAnew 68 = .ok (.ior, 1) := by decide +kernel
theorem dX7_castAnew_69 : decode cX7_castAnew 69 = .ok (.istore_n 3, 1) := by decide +kernel
theorem dX7_castAnew_70 : decode cX7_castAnew 70 = .ok (.iinc 4 1, 3) := by decide +kernel
theorem dX7_castAnew_73 : decode cX7_castAnew 73 = .ok (.goto (-57), 3) := by decide +kernel
theorem dX7_castAnew_76 : decode cX7_castAnew 76 = .ok (.iconst 0, 1) := by decide +kernel
theorem dX7_castAnew_77 : decode cX7_castAnew 77 = .ok (.istore 4, 2) := by decide +kernel
theorem dX7_castAnew_79 : decode cX7_castAnew 79 = .ok (.iload 4, 2) := by decide +kernel
theorem dX7_castAnew_81 : decode cX7_castAnew 81 = .ok (.aload_n 2, 1) := by decide +kernel
theorem dX7_castAnew_82 : decode cX7_castAnew 82 = .ok (.getfield 234, 3) := by decide +kernel
theorem dX7_castAnew_85 : decode cX7_castAnew 85 = .ok (.if_icmp .ge 106, 3) := by decide +kernel
theorem dX7_castAnew_88 : decode cX7_castAnew 88 = .ok (.aload_n 2, 1) := by decide +kernel
theorem dX7_castAnew_89 : decode cX7_castAnew 89 = .ok (.getfield 446, 3) := by decide +kernel
theorem dX7_castAnew_92 : decode cX7_castAnew 92 = .ok (.iload 4, 2) := by decide +kernel
theorem dX7_castAnew_94 : decode cX7_castAnew 94 = .ok (.iaload, 1) := by decide +kernel
theorem dX7_castAnew_95 : decode cX7_castAnew 95 = .ok (.istore 5, 2) := by decide +kernel
theorem dX7_castAnew_97 : decode cX7_castAnew 97 = .ok (.aload_n 0, 1) := by decide +kernel
theorem dX7_castAnew_98 : decode cX7_castAnew 98 = .ok (.getfield 11, 3) := by decide +kernel
theorem dX7_castAnew_101 : decode cX7_castAnew 101 = .ok (.iload 5, 2) := by decide +kernel
theorem dX7_castAnew_103 : decode cX7_castAnew 103 = .ok (.aaload, 1) := by decide +kernel
theorem dX7_castAnew_104 : decode cX7_castAnew 104 = .ok (.aload_n 2, 1) := by decide +kernel
theorem dX7_castAnew_105 : decode cX7_castAnew 105 = .ok (.getfield 211, 3) := by decide +kernel
theorem dX7_castAnew_108 : decode cX7_castAnew 108 = .ok (.invokevirtual 119, 3) := by decide +kernel
theorem dX7_castAnew_111 : decode cX7_castAnew 111 = .ok (.ifCond .eq 74, 3) := by decide +kernel
theorem dX7_castAnew_114 : decode cX7_castAnew 114 = .ok (.aload_n 0, 1) := by decide +kernel
theorem dX7_castAnew_115 : decode cX7_castAnew 115 = .ok (.aload_n 2, 1) := by decide +kernel
theorem dX7_castAnew_116 : decode cX7_castAnew 116 = .ok (.iload 5, 2) := by decide +kernel
theorem dX7_castAnew_118 : decode cX7_castAnew 118 = .ok (.invokevirtual 476, 3) := by decide +kernel
theorem dX7_castAnew_121 : decode cX7_castAnew 121 = .ok (.ifCond .eq 64, 3) := by decide +kernel
theorem dX7_castAnew_124 : decode cX7_castAnew 124 = .ok (.aload_n 0, 1) := by decide +kernel
theorem dX7_castAnew_125 : decode cX7_castAnew 125 = .ok (.getfield 42, 3) := by decide +kernel
theorem dX7_castAnew_128 : decode cX7_castAnew 128 = .ok (.aload_n 0, 1) := by decide +kernel
theorem dX7_castAnew_129 : decode cX7_castAnew 129 = .ok (.getfield 11, 3) := by decide +kernel
theorem dX7_castAnew_132 : decode cX7_castAnew 132 = .ok (.iload 5, 2) := by decide +kernel
theorem dX7_castAnew_134 : decode cX7_castAnew 134 = .ok (.aaload, 1) := by decide +kernel
theorem dX7_castAnew_135 : decode cX7_castAnew 135 = .ok (.aload_n 0, 1) := by decide +kernel
theorem dX7_castAnew_136 : decode cX7_castAnew 136 = .ok (.getfield 17, 3) := by decide +kernel
theorem dX7_castAnew_139 : decode cX7_castAnew 139 = .ok (.iload_n 3, 1) := by decide +kernel
theorem dX7_castAnew_140 : decode cX7_castAnew 140 = .ok (.aload_n 0, 1) := by decide +kernel
theorem dX7_castAnew_141 : decode cX7_castAnew 141 = .ok (.iload 5, 2) := by decide +kernel
theorem dX7_castAnew_143 : decode cX7_castAnew 143 = .ok (.invokevirtual 480, 3) := by decide +kernel
theorem dX7_castAnew_146 : decode cX7_castAnew 146 = .ok (.iconst (-1), 1) := by decide +kernel
theorem dX7_castAnew_147 : decode cX7_castAnew 147 = .ok (.ixor, 1) := by decide +kernel
theorem dX7_castAnew_148 : decode cX7_castAnew 148 = .ok (.iand, 1) := by decide +kernel
theorem dX7_castAnew_149 : decode cX7_castAnew 149 = .ok (.aload_n 2, 1) := by decide +kernel
theorem dX7_castAnew_150 : decode cX7_castAnew 150 = .ok (.getfield 454, 3) := by decide +kernel
theorem dX7_castAnew_153 : decode cX7_castAnew 153 = .ok (.invokevirtual 483, 3) := by decide +kernel
theorem dX7_castAnew_156 : decode cX7_castAnew 156 = .ok (.lstore 6, 2) := by decide +kernel
theorem dX7_castAnew_158 : decode cX7_castAnew 158 = .ok (.lload 6, 2) := by decide +kernel
theorem dX7_castAnew_160 : decode cX7_castAnew 160 = .ok (.ldc2_w 487, 3) := by decide +kernel
theorem dX7_castAnew_163 : decode cX7_castAnew 163 = .ok (.lcmp, 1) := by decide +kernel
theorem dX7_castAnew_164 : decode cX7_castAnew 164 = .ok (.ifCond .eq 21, 3) := by decide +kernel
theorem dX7_castAnew_167 : decode cX7_castAnew 167 = .ok (.aload_n 2, 1) := by decide +kernel
theorem dX7_castAnew_168 : decode cX7_castAnew 168 = .ok (.iload 4, 2) := by decide +kernel
theorem dX7_castAnew_170 : decode cX7_castAnew 170 = .ok (.lload 6, 2) := by decide +kernel
theorem dX7_castAnew_172 : decode cX7_castAnew 172 = .ok (.aload_n 0, 1) := by decide +kernel
theorem dX7_castAnew_173 : decode cX7_castAnew 173 = .ok (.getfield 11, 3) := by decide +kernel
theorem dX7_castAnew_176 : decode cX7_castAnew 176 = .ok (.iload 5, 2) := by decide +kernel
theorem dX7_castAnew_178 : decode cX7_castAnew 178 = .ok (.aaload, 1) := by decide +kernel
theorem dX7_castAnew_179 : decode cX7_castAnew 179 = .ok (.getfield 84, 3) := by decide +kernel
theorem dX7_castAnew_182 : decode cX7_castAnew 182 = .ok (.invokevirtual 489, 3) := by decide +kernel
theorem dX7_castAnew_185 : decode cX7_castAnew 185 = .ok (.iinc 4 1, 3) := by decide +kernel
theorem dX7_castAnew_188 : decode cX7_castAnew 188 = .ok (.goto (-109), 3) := by decide +kernel
theorem dX7_castAnew_191 : decode cX7_castAnew 191 = .ok (.return_, 1) := by decide +kernel
set_option maxRecDepth 20000 in
theorem ggX7_refusers_X7_hasBit : GoodIn wsX7_refusers wsX7_hasBit := goodIn_r _ [6] (by decide +kernel) (by decide +kernel)
set_option maxRecDepth 20000 in
theorem gX7_refusers_X7_hasBit : GoodIn wsX7_refusers (va_wsS RX7 161 yX7_hasBit wsX7_hasBit) := goodIn_app (goodIn_of _ (by decide +kernel)) ggX7_refusers_X7_hasBit
theorem dX7_refusers_0 : decode cX7_refusers 0 = .ok (.iconst 0, 1) := by decide +kernel
theorem dX7_refusers_1 : decode cX7_refusers 1 = .ok (.istore_n 2, 1) := by decide +kernel
theorem dX7_refusers_2 : decode cX7_refusers 2 = .ok (.iconst 0, 1) := by decide +kernel
theorem dX7_refusers_3 : decode cX7_refusers 3 = .ok (.istore_n 3, 1) := by decide +kernel
theorem dX7_refusers_4 : decode cX7_refusers 4 = .ok (.iload_n 3, 1) := by decide +kernel
theorem dX7_refusers_5 : decode cX7_refusers 5 = .ok (.aload_n 0, 1) := by decide +kernel
theorem dX7_refusers_6 : decode cX7_refusers 6 = .ok (.getfield 122, 3) := by decide +kernel
theorem dX7_refusers_9 : decode cX7_refusers 9 = .ok (.if_icmp .ge 31, 3) := by decide +kernel
theorem dX7_refusers_12 : decode cX7_refusers 12 = .ok (.aload_n 0, 1) := by decide +kernel
theorem dX7_refusers_13 : decode cX7_refusers 13 = .ok (.getfield 17, 3) := by decide +kernel
theorem dX7_refusers_16 : decode cX7_refusers 16 = .ok (.iload_n 3, 1) := by decide +kernel
theorem dX7_refusers_17 : decode cX7_refusers 17 = .ok (.aaload, 1) := by decide +kernel
theorem dX7_refusers_18 : decode cX7_refusers 18 = .ok (.getfield 158, 3) := by decide +kernel
theorem dX7_refusers_21 : decode cX7_refusers 21 = .ok (.iload_n 1, 1) := by decide +kernel
theorem dX7_refusers_22 : decode cX7_refusers 22 = .ok (.invokestatic 161, 3) := by decide +kernel
theorem dX7_refusers_25 : decode cX7_refusers 25 = .ok (.ifCond .eq 9, 3) := by decide +kernel
theorem dX7_refusers_28 : decode cX7_refusers 28 = .ok (.iload_n 2, 1) := by decide +kernel
theorem dX7_refusers_29 : decode cX7_refusers 29 = .ok (.iconst 1, 1) := by decide +kernel
theorem dX7_refusers_30 : decode cX7_refusers 30 = .ok (.iload_n 3, 1) := by decide +kernel
theorem dX7_refusers_31 : decode cX7_refusers 31 = .ok (.ishl, 1) := by decide +kernel
theorem dX7_refusers_32 : decode cX7_refusers 32 = .ok (.ior, 1) := by decide +kernel
theorem dX7_refusers_33 : decode cX7_refusers 33 = .ok (.istore_n 2, 1) := by decide +kernel
theorem dX7_refusers_34 : decode cX7_refusers 34 = .ok (.iinc 3 1, 3) := by decide +kernel
theorem dX7_refusers_37 : decode cX7_refusers 37 = .ok (.goto (-33), 3) := by decide +kernel
theorem dX7_refusers_40 : decode cX7_refusers 40 = .ok (.iload_n 2, 1) := by decide +kernel
theorem dX7_refusers_41 : decode cX7_refusers 41 = .ok (.ireturn, 1) := by decide +kernel
set_option maxRecDepth 20000 in
theorem ggX7_leaveOut_X7_playersIn : GoodIn wsX7_leaveOut wsX7_playersIn := goodIn_ca (goodIn_r _ [5, 6, 7, 8, 9, 10, 11, 12, 13, 14, 4, 15, 16, 17, 18, 19, 20, 21, 22, 23, 24, 25, 26, 27, 28, 29, 30, 31, 32, 33, 34, 35, 36, 37, 38, 39, 40, 41, 42, 43, 44, 45, 46, 47, 48, 49, 50, 51, 52, 53, 54, 55, 56, 57, 58, 59, 60] (by decide +kernel) (by decide +kernel)) (goodIn_sub (fun _ h => List.mem_cons_of_mem _ (List.mem_append_right _ h)) (by decide +kernel))
set_option maxRecDepth 20000 in
theorem gX7_leaveOut_X7_playersIn : GoodIn wsX7_leaveOut (wsV RX7 395 RX7 yX7_playersIn wsX7_playersIn) := goodIn_app (goodIn_of _ (by decide +kernel)) ggX7_leaveOut_X7_playersIn
theorem dX7_leaveOut_0 : decode cX7_leaveOut 0 = .ok (.aload_n 1, 1) := by decide +kernel
theorem dX7_leaveOut_1 : decode cX7_leaveOut 1 = .ok (.dup, 1) := by decide +kernel
theorem dX7_leaveOut_2 : decode cX7_leaveOut 2 = .ok (.getfield 324, 3) := by decide +kernel
theorem dX7_leaveOut_5 : decode cX7_leaveOut 5 = .ok (.iload_n 2, 1) := by decide +kernel
theorem dX7_leaveOut_6 : decode cX7_leaveOut 6 = .ok (.iconst (-1), 1) := by decide +kernel
theorem dX7_leaveOut_7 : decode cX7_leaveOut 7 = .ok (.ixor, 1) := by decide +kernel
theorem dX7_leaveOut_8 : decode cX7_leaveOut 8 = .ok (.iand, 1) := by decide +kernel
theorem dX7_leaveOut_9 : decode cX7_leaveOut 9 = .ok (.putfield 324, 3) := by decide +kernel
theorem dX7_leaveOut_12 : decode cX7_leaveOut 12 = .ok (.aload_n 1, 1) := by decide +kernel
theorem dX7_leaveOut_13 : decode cX7_leaveOut 13 = .ok (.iconst 0, 1) := by decide +kernel
theorem dX7_leaveOut_14 : decode cX7_leaveOut 14 = .ok (.putfield 454, 3) := by decide +kernel
theorem dX7_leaveOut_17 : decode cX7_leaveOut 17 = .ok (.iconst 0, 1) := by decide +kernel
theorem dX7_leaveOut_18 : decode cX7_leaveOut 18 = .ok (.istore_n 3, 1) := by decide +kernel
theorem dX7_leaveOut_19 : decode cX7_leaveOut 19 = .ok (.iload_n 3, 1) := by decide +kernel
theorem dX7_leaveOut_20 : decode cX7_leaveOut 20 = .ok (.aload_n 1, 1) := by decide +kernel
theorem dX7_leaveOut_21 : decode cX7_leaveOut 21 = .ok (.getfield 234, 3) := by decide +kernel
theorem dX7_leaveOut_24 : decode cX7_leaveOut 24 = .ok (.if_icmp .ge 29, 3) := by decide +kernel
theorem dX7_leaveOut_27 : decode cX7_leaveOut 27 = .ok (.aload_n 1, 1) := by decide +kernel
theorem dX7_leaveOut_28 : decode cX7_leaveOut 28 = .ok (.dup, 1) := by decide +kernel
theorem dX7_leaveOut_29 : decode cX7_leaveOut 29 = .ok (.getfield 454, 3) := by decide +kernel
theorem dX7_leaveOut_32 : decode cX7_leaveOut 32 = .ok (.aload_n 0, 1) := by decide +kernel
theorem dX7_leaveOut_33 : decode cX7_leaveOut 33 = .ok (.aload_n 1, 1) := by decide +kernel
theorem dX7_leaveOut_34 : decode cX7_leaveOut 34 = .ok (.aload_n 1, 1) := by decide +kernel
theorem dX7_leaveOut_35 : decode cX7_leaveOut 35 = .ok (.getfield 446, 3) := by decide +kernel
theorem dX7_leaveOut_38 : decode cX7_leaveOut 38 = .ok (.iload_n 3, 1) := by decide +kernel
theorem dX7_leaveOut_39 : decode cX7_leaveOut 39 = .ok (.iaload, 1) := by decide +kernel
theorem dX7_leaveOut_40 : decode cX7_leaveOut 40 = .ok (.invokevirtual 395, 3) := by decide +kernel
theorem dX7_leaveOut_43 : decode cX7_leaveOut 43 = .ok (.ior, 1) := by decide +kernel
theorem dX7_leaveOut_44 : decode cX7_leaveOut 44 = .ok (.putfield 454, 3) := by decide +kernel
theorem dX7_leaveOut_47 : decode cX7_leaveOut 47 = .ok (.iinc 3 1, 3) := by decide +kernel
theorem dX7_leaveOut_50 : decode cX7_leaveOut 50 = .ok (.goto (-31), 3) := by decide +kernel
theorem dX7_leaveOut_53 : decode cX7_leaveOut 53 = .ok (.return_, 1) := by decide +kernel
set_option maxRecDepth 20000 in
theorem ggX7_playersIn_X5_placeOf : GoodIn wsX7_playersIn wsX5_placeOf := goodIn_ca (goodIn_r _ [5, 6, 7, 21, 22, 23, 24, 25, 26, 27, 28, 29, 30, 31, 32, 33, 34, 35] (by decide +kernel) (by decide +kernel)) (goodIn_sub (fun _ h => List.mem_cons_of_mem _ (List.mem_append_right _ h)) (by decide +kernel))
set_option maxRecDepth 20000 in
theorem gX7_playersIn_X5_placeOf_n230 : GoodIn wsX7_playersIn (wsX5_placeOf) := ggX7_playersIn_X5_placeOf
set_option maxRecDepth 20000 in
theorem ggX7_playersIn_X7_hasBit : GoodIn wsX7_playersIn wsX7_hasBit := goodIn_r _ [11] (by decide +kernel) (by decide +kernel)
set_option maxRecDepth 20000 in
theorem gX7_playersIn_X7_hasBit : GoodIn wsX7_playersIn (va_wsS RX7 161 yX7_hasBit wsX7_hasBit) := goodIn_app (goodIn_of _ (by decide +kernel)) ggX7_playersIn_X7_hasBit
set_option maxRecDepth 20000 in
theorem ggX7_playersIn_X1_playersOf : GoodIn wsX7_playersIn wsX1_playersOf := goodIn_r _ [14, 15, 16, 13, 17, 18, 19, 20] (by decide +kernel) (by decide +kernel)
set_option maxRecDepth 20000 in
theorem gX7_playersIn_X1_playersOf_n493 : GoodIn wsX7_playersIn (wsX1_playersOf) := ggX7_playersIn_X1_playersOf
theorem dX7_playersIn_0 : decode cX7_playersIn 0 = .ok (.aload_n 1, 1) := by decide +kernel
theorem dX7_playersIn_1 : decode cX7_playersIn 1 = .ok (.iload_n 2, 1) := by decide +kernel
theorem dX7_playersIn_2 : decode cX7_playersIn 2 = .ok (.invokevirtual 230, 3) := by decide +kernel
theorem dX7_playersIn_5 : decode cX7_playersIn 5 = .ok (.istore_n 3, 1) := by decide +kernel
theorem dX7_playersIn_6 : decode cX7_playersIn 6 = .ok (.iload_n 3, 1) := by decide +kernel
theorem dX7_playersIn_7 : decode cX7_playersIn 7 = .ok (.iconst (-1), 1) := by decide +kernel
theorem dX7_playersIn_8 : decode cX7_playersIn 8 = .ok (.if_icmp .eq 14, 3) := by decide +kernel
theorem dX7_playersIn_11 : decode cX7_playersIn 11 = .ok (.aload_n 1, 1) := by decide +kernel
theorem dX7_playersIn_12 : decode cX7_playersIn 12 = .ok (.getfield 324, 3) := by decide +kernel
theorem dX7_playersIn_15 : decode cX7_playersIn 15 = .ok (.iload_n 2, 1) := by decide +kernel
theorem dX7_playersIn_16 : decode cX7_playersIn 16 = .ok (.invokestatic 161, 3) := by decide +kernel
theorem dX7_playersIn_19 : decode cX7_playersIn 19 = .ok (.ifCond .ne 5, 3) := by decide +kernel
theorem dX7_playersIn_22 : decode cX7_playersIn 22 = .ok (.iconst 0, 1) := by decide +kernel
theorem dX7_playersIn_23 : decode cX7_playersIn 23 = .ok (.ireturn, 1) := by decide +kernel
theorem dX7_playersIn_24 : decode cX7_playersIn 24 = .ok (.aload_n 1, 1) := by decide +kernel
theorem dX7_playersIn_25 : decode cX7_playersIn 25 = .ok (.getfield 350, 3) := by decide +kernel
theorem dX7_playersIn_28 : decode cX7_playersIn 28 = .ok (.iload_n 3, 1) := by decide +kernel
theorem dX7_playersIn_29 : decode cX7_playersIn 29 = .ok (.laload, 1) := by decide +kernel
theorem dX7_playersIn_30 : decode cX7_playersIn 30 = .ok (.aload_n 0, 1) := by decide +kernel
theorem dX7_playersIn_31 : decode cX7_playersIn 31 = .ok (.getfield 11, 3) := by decide +kernel
theorem dX7_playersIn_34 : decode cX7_playersIn 34 = .ok (.iload_n 2, 1) := by decide +kernel
theorem dX7_playersIn_35 : decode cX7_playersIn 35 = .ok (.aaload, 1) := by decide +kernel
theorem dX7_playersIn_36 : decode cX7_playersIn 36 = .ok (.getfield 84, 3) := by decide +kernel
theorem dX7_playersIn_39 : decode cX7_playersIn 39 = .ok (.invokestatic 493, 3) := by decide +kernel
theorem dX7_playersIn_42 : decode cX7_playersIn 42 = .ok (.ireturn, 1) := by decide +kernel
set_option maxRecDepth 20000 in
theorem ggX7_orderCalls_X0_clear : GoodIn wsX7_orderCalls wsX0_clear := goodIn_r _ [7, 8, 94, 95, 96, 97, 98] (by decide +kernel) (by decide +kernel)
set_option maxRecDepth 20000 in
theorem gX7_orderCalls_X0_clear_n496 : GoodIn wsX7_orderCalls (wsX0_clear) := ggX7_orderCalls_X0_clear
set_option maxRecDepth 20000 in
theorem ggX7_orderCalls_X7_hasBit : GoodIn wsX7_orderCalls wsX7_hasBit := goodIn_r _ [12] (by decide +kernel) (by decide +kernel)
set_option maxRecDepth 20000 in
theorem gX7_orderCalls_X7_hasBit : GoodIn wsX7_orderCalls (va_wsS RX7 161 yX7_hasBit wsX7_hasBit) := goodIn_app (goodIn_of _ (by decide +kernel)) ggX7_orderCalls_X7_hasBit
set_option maxRecDepth 20000 in
theorem ggX7_orderCalls_X7_playersIn : GoodIn wsX7_orderCalls wsX7_playersIn := goodIn_ca (goodIn_r _ [16, 3, 17, 18, 19, 20, 21, 22, 9, 10, 11, 12, 23, 24, 25, 26, 27, 28, 29, 30, 31, 70, 71, 72, 73, 74, 75, 76, 77, 78, 79, 80, 81, 82, 83, 84, 58, 59, 60, 61, 62, 63, 64, 65, 66, 67, 68, 69, 85, 86, 87, 88, 89, 90, 91, 92, 93] (by decide +kernel) (by decide +kernel)) (goodIn_sub (fun _ h => List.mem_cons_of_mem _ (List.mem_append_right _ h)) (by decide +kernel))
set_option maxRecDepth 20000 in
theorem gX7_orderCalls_X7_playersIn : GoodIn wsX7_orderCalls (wsV RX7 395 RX7 yX7_playersIn wsX7_playersIn) := goodIn_app (goodIn_of _ (by decide +kernel)) ggX7_orderCalls_X7_playersIn
set_option maxRecDepth 20000 in
theorem ggX7_orderCalls_X0_include : GoodIn wsX7_orderCalls wsX0_include := goodIn_ca (goodIn_r _ [34, 8, 35, 36, 37, 94, 95, 96, 97, 98] (by decide +kernel) (by decide +kernel)) (goodIn_sub (fun _ h => List.mem_cons_of_mem _ (List.mem_append_right _ h)) (by decide +kernel))
set_option maxRecDepth 20000 in
theorem gX7_orderCalls_X0_include_n499 : GoodIn wsX7_orderCalls (wsX0_include) := ggX7_orderCalls_X0_include
set_option maxRecDepth 20000 in
theorem ggX7_orderCalls_X0_weigh : GoodIn wsX7_orderCalls wsX0_weigh := goodIn_ca (goodIn_r _ [40, 8, 41, 42, 43, 44, 45, 46, 10, 11, 12, 47, 48, 49, 5, 50, 37, 36, 51, 52, 53, 54, 55, 56, 57, 94, 95, 96, 97, 98] (by decide +kernel) (by decide +kernel)) (goodIn_sub (fun _ h => List.mem_cons_of_mem _ (List.mem_append_right _ h)) (by decide +kernel))
set_option maxRecDepth 20000 in
theorem gX7_orderCalls_X0_weigh_n502 : GoodIn wsX7_orderCalls (wsX0_weigh) := ggX7_orderCalls_X0_weigh
theorem dX7_orderCalls_0 : decode cX7_orderCalls 0 = .ok (.aload_n 0, 1) := by decide +kernel
theorem dX7_orderCalls_1 : decode cX7_orderCalls 1 = .ok (.getfield 49, 3) := by decide +kernel
theorem dX7_orderCalls_4 : decode cX7_orderCalls 4 = .ok (.invokevirtual 496, 3) := by decide +kernel
theorem dX7_orderCalls_7 : decode cX7_orderCalls 7 = .ok (.iconst 0, 1) := by decide +kernel
theorem dX7_orderCalls_8 : decode cX7_orderCalls 8 = .ok (.istore_n 2, 1) := by decide +kernel
theorem dX7_orderCalls_9 : decode cX7_orderCalls 9 = .ok (.iload_n 2, 1) := by decide +kernel
theorem dX7_orderCalls_10 : decode cX7_orderCalls 10 = .ok (.aload_n 0, 1) := by decide +kernel
theorem dX7_orderCalls_11 : decode cX7_orderCalls 11 = .ok (.getfield 62, 3) := by decide +kernel
theorem dX7_orderCalls_14 : decode cX7_orderCalls 14 = .ok (.if_icmp .ge 43, 3) := by decide +kernel
theorem dX7_orderCalls_17 : decode cX7_orderCalls 17 = .ok (.aload_n 1, 1) := by decide +kernel
theorem dX7_orderCalls_18 : decode cX7_orderCalls 18 = .ok (.getfield 324, 3) := by decide +kernel
theorem dX7_orderCalls_21 : decode cX7_orderCalls 21 = .ok (.iload_n 2, 1) := by decide +kernel
theorem dX7_orderCalls_22 : decode cX7_orderCalls 22 = .ok (.invokestatic 161, 3) := by decide +kernel
theorem dX7_orderCalls_25 : decode cX7_orderCalls 25 = .ok (.ifCond .eq 26, 3) := by decide +kernel
theorem dX7_orderCalls_28 : decode cX7_orderCalls 28 = .ok (.aload_n 0, 1) := by decide +kernel
theorem dX7_orderCalls_29 : decode cX7_orderCalls 29 = .ok (.getfield 49, 3) := by decide +kernel
theorem dX7_orderCalls_32 : decode cX7_orderCalls 32 = .ok (.iload_n 2, 1) := by decide +kernel
theorem dX7_orderCalls_33 : decode cX7_orderCalls 33 = .ok (.aload_n 0, 1) := by decide +kernel
theorem dX7_orderCalls_34 : decode cX7_orderCalls 34 = .ok (.getfield 11, 3) := by decide +kernel
theorem dX7_orderCalls_37 : decode cX7_orderCalls 37 = .ok (.iload_n 2, 1) := by decide +kernel
theorem dX7_orderCalls_38 : decode cX7_orderCalls 38 = .ok (.aaload, 1) := by decide +kernel
theorem dX7_orderCalls_39 : decode cX7_orderCalls 39 = .ok (.getfield 73, 3) := by decide +kernel
theorem dX7_orderCalls_42 : decode cX7_orderCalls 42 = .ok (.aload_n 0, 1) := by decide +kernel
theorem dX7_orderCalls_43 : decode cX7_orderCalls 43 = .ok (.aload_n 1, 1) := by decide +kernel
theorem dX7_orderCalls_44 : decode cX7_orderCalls 44 = .ok (.iload_n 2, 1) := by decide +kernel
theorem dX7_orderCalls_45 : decode cX7_orderCalls 45 = .ok (.invokevirtual 395, 3) := by decide +kernel
theorem dX7_orderCalls_48 : decode cX7_orderCalls 48 = .ok (.invokevirtual 499, 3) := by decide +kernel
theorem dX7_orderCalls_51 : decode cX7_orderCalls 51 = .ok (.iinc 2 1, 3) := by decide +kernel
theorem dX7_orderCalls_54 : decode cX7_orderCalls 54 = .ok (.goto (-45), 3) := by decide +kernel
theorem dX7_orderCalls_57 : decode cX7_orderCalls 57 = .ok (.aload_n 0, 1) := by decide +kernel
theorem dX7_orderCalls_58 : decode cX7_orderCalls 58 = .ok (.getfield 49, 3) := by decide +kernel
theorem dX7_orderCalls_61 : decode cX7_orderCalls 61 = .ok (.invokevirtual 502, 3) := by decide +kernel
theorem dX7_orderCalls_64 : decode cX7_orderCalls 64 = .ok (.return_, 1) := by decide +kernel
set_option maxRecDepth 20000 in
theorem ggX7_costOf_X7_hasBit : GoodIn wsX7_costOf wsX7_hasBit := goodIn_r _ [8] (by decide +kernel) (by decide +kernel)
set_option maxRecDepth 20000 in
theorem gX7_costOf_X7_hasBit : GoodIn wsX7_costOf (va_wsS RX7 161 yX7_hasBit wsX7_hasBit) := goodIn_app (goodIn_of _ (by decide +kernel)) ggX7_costOf_X7_hasBit
set_option maxRecDepth 20000 in
theorem ggX7_costOf_X7_countDoubled : GoodIn wsX7_costOf wsX7_countDoubled := goodIn_ca (goodIn_r _ [12, 2, 3, 13, 14, 15, 16, 17, 18, 19, 20, 21, 22, 23, 62, 63, 64, 65, 66, 67, 68, 69, 70, 39, 40, 41, 42, 43, 44, 45, 46, 47, 48, 49, 50, 55, 56, 57, 58, 59, 60, 61] (by decide +kernel) (by decide +kernel)) (goodIn_sub (fun _ h => List.mem_cons_of_mem _ (List.mem_append_right _ h)) (by decide +kernel))
set_option maxRecDepth 20000 in
theorem gX7_costOf_X7_countDoubled : GoodIn wsX7_costOf (wsV RX7 505 RX7 yX7_countDoubled wsX7_countDoubled) := goodIn_app (goodIn_of _ (by decide +kernel)) ggX7_costOf_X7_countDoubled
theorem dX7_costOf_0 : decode cX7_costOf 0 = .ok (.aload_n 1, 1) := by decide +kernel
theorem dX7_costOf_1 : decode cX7_costOf 1 = .ok (.getfield 227, 3) := by decide +kernel
theorem dX7_costOf_4 : decode cX7_costOf 4 = .ok (.ifCond .ne 5, 3) := by decide +kernel
theorem dX7_costOf_7 : decode cX7_costOf 7 = .ok (.iconst 0, 1) := by decide +kernel
theorem dX7_costOf_8 : decode cX7_costOf 8 = .ok (.ireturn, 1) := by decide +kernel
theorem dX7_costOf_9 : decode cX7_costOf 9 = .ok (.aload_n 1, 1) := by decide +kernel
theorem dX7_costOf_10 : decode cX7_costOf 10 = .ok (.getfield 300, 3) := by decide +kernel
theorem dX7_costOf_13 : decode cX7_costOf 13 = .ok (.iconst (-1), 1) := by decide +kernel
theorem dX7_costOf_14 : decode cX7_costOf 14 = .ok (.if_icmp .ne 7, 3) := by decide +kernel
theorem dX7_costOf_17 : decode cX7_costOf 17 = .ok (.iconst 0, 1) := by decide +kernel
theorem dX7_costOf_18 : decode cX7_costOf 18 = .ok (.goto 15, 3) := by decide +kernel
theorem dX7_costOf_21 : decode cX7_costOf 21 = .ok (.aload_n 0, 1) := by decide +kernel
theorem dX7_costOf_22 : decode cX7_costOf 22 = .ok (.getfield 35, 3) := by decide +kernel
theorem dX7_costOf_25 : decode cX7_costOf 25 = .ok (.aload_n 1, 1) := by decide +kernel
theorem dX7_costOf_26 : decode cX7_costOf 26 = .ok (.getfield 300, 3) := by decide +kernel
theorem dX7_costOf_29 : decode cX7_costOf 29 = .ok (.aaload, 1) := by decide +kernel
theorem dX7_costOf_30 : decode cX7_costOf 30 = .ok (.getfield 271, 3) := by decide +kernel
theorem dX7_costOf_33 : decode cX7_costOf 33 = .ok (.istore_n 2, 1) := by decide +kernel
theorem dX7_costOf_34 : decode cX7_costOf 34 = .ok (.iconst 0, 1) := by decide +kernel
theorem dX7_costOf_35 : decode cX7_costOf 35 = .ok (.istore_n 3, 1) := by decide +kernel
theorem dX7_costOf_36 : decode cX7_costOf 36 = .ok (.iload_n 3, 1) := by decide +kernel
theorem dX7_costOf_37 : decode cX7_costOf 37 = .ok (.aload_n 0, 1) := by decide +kernel
theorem dX7_costOf_38 : decode cX7_costOf 38 = .ok (.getfield 122, 3) := by decide +kernel
theorem dX7_costOf_41 : decode cX7_costOf 41 = .ok (.if_icmp .ge 32, 3) := by decide +kernel
theorem dX7_costOf_44 : decode cX7_costOf 44 = .ok (.aload_n 1, 1) := by decide +kernel
theorem dX7_costOf_45 : decode cX7_costOf 45 = .ok (.getfield 454, 3) := by decide +kernel
theorem dX7_costOf_48 : decode cX7_costOf 48 = .ok (.iload_n 3, 1) := by decide +kernel
theorem dX7_costOf_49 : decode cX7_costOf 49 = .ok (.invokestatic 161, 3) := by decide +kernel
theorem dX7_costOf_52 : decode cX7_costOf 52 = .ok (.ifCond .eq 15, 3) := by decide +kernel
theorem dX7_costOf_55 : decode cX7_costOf 55 = .ok (.iload_n 2, 1) := by decide +kernel
theorem dX7_costOf_56 : decode cX7_costOf 56 = .ok (.aload_n 0, 1) := by decide +kernel
theorem dX7_costOf_57 : decode cX7_costOf 57 = .ok (.getfield 17, 3) := by decide +kernel
theorem dX7_costOf_60 : decode cX7_costOf 60 = .ok (.iload_n 3, 1) := by decide +kernel
theorem dX7_costOf_61 : decode cX7_costOf 61 = .ok (.aaload, 1) := by decide +kernel
theorem dX7_costOf_62 : decode cX7_costOf 62 = .ok (.getfield 133, 3) := by decide +kernel
theorem dX7_costOf_65 : decode cX7_costOf 65 = .ok (.iadd, 1) := by decide +kernel
theorem dX7_costOf_66 : decode cX7_costOf 66 = .ok (.istore_n 2, 1) := by decide +kernel
theorem dX7_costOf_67 : decode cX7_costOf 67 = .ok (.iinc 3 1, 3) := by decide +kernel
theorem dX7_costOf_70 : decode cX7_costOf 70 = .ok (.goto (-34), 3) := by decide +kernel
theorem dX7_costOf_73 : decode cX7_costOf 73 = .ok (.iconst 0, 1) := by decide +kernel
theorem dX7_costOf_74 : decode cX7_costOf 74 = .ok (.istore_n 3, 1) := by decide +kernel
theorem dX7_costOf_75 : decode cX7_costOf 75 = .ok (.iload_n 3, 1) := by decide +kernel
theorem dX7_costOf_76 : decode cX7_costOf 76 = .ok (.aload_n 1, 1) := by decide +kernel
theorem dX7_costOf_77 : decode cX7_costOf 77 = .ok (.getfield 234, 3) := by decide +kernel
theorem dX7_costOf_80 : decode cX7_costOf 80 = .ok (.if_icmp .ge 52, 3) := by decide +kernel
theorem dX7_costOf_83 : decode cX7_costOf 83 = .ok (.aload_n 1, 1) := by decide +kernel
theorem dX7_costOf_84 : decode cX7_costOf 84 = .ok (.getfield 324, 3) := by decide +kernel
theorem dX7_costOf_87 : decode cX7_costOf 87 = .ok (.aload_n 1, 1) := by decide +kernel
theorem dX7_costOf_88 : decode cX7_costOf 88 = .ok (.getfield 446, 3) := by decide +kernel
theorem dX7_costOf_91 : decode cX7_costOf 91 = .ok (.iload_n 3, 1) := by decide +kernel
theorem dX7_costOf_92 : decode cX7_costOf 92 = .ok (.iaload, 1) := by decide +kernel
theorem dX7_costOf_93 : decode cX7_costOf 93 = .ok (.invokestatic 161, 3) := by decide +kernel
theorem dX7_costOf_96 : decode cX7_costOf 96 = .ok (.ifCond .eq 30, 3) := by decide +kernel
theorem dX7_costOf_99 : decode cX7_costOf 99 = .ok (.iload_n 2, 1) := by decide +kernel
theorem dX7_costOf_100 : decode cX7_costOf 100 = .ok (.bipush 10, 2) := by decide +kernel
theorem dX7_costOf_102 : decode cX7_costOf 102 = .ok (.aload_n 0, 1) := by decide +kernel
theorem dX7_costOf_103 : decode cX7_costOf 103 = .ok (.aload_n 0, 1) := by decide +kernel
theorem dX7_costOf_104 : decode cX7_costOf 104 = .ok (.getfield 11, 3) := by decide +kernel
theorem dX7_costOf_107 : decode cX7_costOf 107 = .ok (.aload_n 1, 1) := by decide +kernel
theorem dX7_costOf_108 : decode cX7_costOf 108 = .ok (.getfield 446, 3) := by decide +kernel
theorem dX7_costOf_111 : decode cX7_costOf 111 = .ok (.iload_n 3, 1) := by decide +kernel
theorem dX7_costOf_112 : decode cX7_costOf 112 = .ok (.iaload, 1) := by decide +kernel
theorem dX7_costOf_113 : decode cX7_costOf 113 = .ok (.aaload, 1) := by decide +kernel
theorem dX7_costOf_114 : decode cX7_costOf 114 = .ok (.aload_n 1, 1) := by decide +kernel
theorem dX7_costOf_115 : decode cX7_costOf 115 = .ok (.getfield 350, 3) := by decide +kernel
theorem dX7_costOf_118 : decode cX7_costOf 118 = .ok (.iload_n 3, 1) := by decide +kernel
theorem dX7_costOf_119 : decode cX7_costOf 119 = .ok (.laload, 1) := by decide +kernel
theorem dX7_costOf_120 : decode cX7_costOf 120 = .ok (.invokevirtual 505, 3) := by decide +kernel
theorem dX7_costOf_123 : decode cX7_costOf 123 = .ok (.imul, 1) := by decide +kernel
theorem dX7_costOf_124 : decode cX7_costOf 124 = .ok (.iadd, 1) := by decide +kernel
theorem dX7_costOf_125 : decode cX7_costOf 125 = .ok (.istore_n 2, 1) := by decide +kernel
theorem dX7_costOf_126 : decode cX7_costOf 126 = .ok (.iinc 3 1, 3) := by decide +kernel
theorem dX7_costOf_129 : decode cX7_costOf 129 = .ok (.goto (-54), 3) := by decide +kernel
theorem dX7_costOf_132 : decode cX7_costOf 132 = .ok (.iload_n 2, 1) := by decide +kernel
theorem dX7_costOf_133 : decode cX7_costOf 133 = .ok (.ireturn, 1) := by decide +kernel
set_option maxRecDepth 20000 in
theorem ggX7_countDoubled_X1_playerOf : GoodIn wsX7_countDoubled wsX1_playerOf := goodIn_r _ [5, 6, 7, 4, 8] (by decide +kernel) (by decide +kernel)
set_option maxRecDepth 20000 in
theorem gX7_countDoubled_X1_playerOf_n354 : GoodIn wsX7_countDoubled (wsX1_playerOf) := ggX7_countDoubled_X1_playerOf
set_option maxRecDepth 20000 in
theorem ggX7_countDoubled_X6_instrumentOf : GoodIn wsX7_countDoubled wsX6_instrumentOf := goodIn_ca (goodIn_r _ [12, 13, 14, 15, 16, 17, 18, 19, 20, 21, 22] (by decide +kernel) (by decide +kernel)) (goodIn_sub (fun _ h => List.mem_cons_of_mem _ (List.mem_append_right _ h)) (by decide +kernel))
set_option maxRecDepth 20000 in
theorem gX7_countDoubled_X6_instrumentOf_n509 : GoodIn wsX7_countDoubled (wsX6_instrumentOf) := ggX7_countDoubled_X6_instrumentOf
theorem dX7_countDoubled_0 : decode cX7_countDoubled 0 = .ok (.iconst 0, 1) := by decide +kernel
theorem dX7_countDoubled_1 : decode cX7_countDoubled 1 = .ok (.istore 4, 2) := by decide +kernel
theorem dX7_countDoubled_3 : decode cX7_countDoubled 3 = .ok (.iconst 0, 1) := by decide +kernel
theorem dX7_countDoubled_4 : decode cX7_countDoubled 4 = .ok (.istore 5, 2) := by decide +kernel
theorem dX7_countDoubled_6 : decode cX7_countDoubled 6 = .ok (.iload 5, 2) := by decide +kernel
theorem dX7_countDoubled_8 : decode cX7_countDoubled 8 = .ok (.aload_n 1, 1) := by decide +kernel
theorem dX7_countDoubled_9 : decode cX7_countDoubled 9 = .ok (.getfield 84, 3) := by decide +kernel
theorem dX7_countDoubled_12 : decode cX7_countDoubled 12 = .ok (.if_icmp .ge 48, 3) := by decide +kernel
theorem dX7_countDoubled_15 : decode cX7_countDoubled 15 = .ok (.lload_n 2, 1) := by decide +kernel
theorem dX7_countDoubled_16 : decode cX7_countDoubled 16 = .ok (.iload 5, 2) := by decide +kernel
theorem dX7_countDoubled_18 : decode cX7_countDoubled 18 = .ok (.invokestatic 354, 3) := by decide +kernel
theorem dX7_countDoubled_21 : decode cX7_countDoubled 21 = .ok (.istore 6, 2) := by decide +kernel
theorem dX7_countDoubled_23 : decode cX7_countDoubled 23 = .ok (.iload 6, 2) := by decide +kernel
theorem dX7_countDoubled_25 : decode cX7_countDoubled 25 = .ok (.aload_n 0, 1) := by decide +kernel
theorem dX7_countDoubled_26 : decode cX7_countDoubled 26 = .ok (.getfield 122, 3) := by decide +kernel
theorem dX7_countDoubled_29 : decode cX7_countDoubled 29 = .ok (.if_icmp .ge 25, 3) := by decide +kernel
theorem dX7_countDoubled_32 : decode cX7_countDoubled 32 = .ok (.aload_n 0, 1) := by decide +kernel
theorem dX7_countDoubled_33 : decode cX7_countDoubled 33 = .ok (.getfield 17, 3) := by decide +kernel
theorem dX7_countDoubled_36 : decode cX7_countDoubled 36 = .ok (.iload 6, 2) := by decide +kernel
theorem dX7_countDoubled_38 : decode cX7_countDoubled 38 = .ok (.aaload, 1) := by decide +kernel
theorem dX7_countDoubled_39 : decode cX7_countDoubled 39 = .ok (.getfield 127, 3) := by decide +kernel
theorem dX7_countDoubled_42 : decode cX7_countDoubled 42 = .ok (.aload_n 1, 1) := by decide +kernel
theorem dX7_countDoubled_43 : decode cX7_countDoubled 43 = .ok (.iload 5, 2) := by decide +kernel
theorem dX7_countDoubled_45 : decode cX7_countDoubled 45 = .ok (.invokevirtual 509, 3) := by decide +kernel
theorem dX7_countDoubled_48 : decode cX7_countDoubled 48 = .ok (.if_icmp .eq 6, 3) := by decide +kernel
theorem dX7_countDoubled_51 : decode cX7_countDoubled 51 = .ok (.iinc 4 1, 3) := by decide +kernel
theorem dX7_countDoubled_54 : decode cX7_countDoubled 54 = .ok (.iinc 5 1, 3) := by decide +kernel
theorem dX7_countDoubled_57 : decode cX7_countDoubled 57 = .ok (.goto (-51), 3) := by decide +kernel
theorem dX7_countDoubled_60 : decode cX7_countDoubled 60 = .ok (.iload 4, 2) := by decide +kernel
theorem dX7_countDoubled_62 : decode cX7_countDoubled 62 = .ok (.ireturn, 1) := by decide +kernel
set_option maxRecDepth 20000 in
theorem ggX7_overtimeOf_X7_hasBit : GoodIn wsX7_overtimeOf wsX7_hasBit := goodIn_r _ [6] (by decide +kernel) (by decide +kernel)
set_option maxRecDepth 20000 in
theorem gX7_overtimeOf_X7_hasBit : GoodIn wsX7_overtimeOf (va_wsS RX7 161 yX7_hasBit wsX7_hasBit) := goodIn_app (goodIn_of _ (by decide +kernel)) ggX7_overtimeOf_X7_hasBit
theorem dX7_overtimeOf_0 : decode cX7_overtimeOf 0 = .ok (.aload_n 1, 1) := by decide +kernel
theorem dX7_overtimeOf_1 : decode cX7_overtimeOf 1 = .ok (.getfield 227, 3) := by decide +kernel
theorem dX7_overtimeOf_4 : decode cX7_overtimeOf 4 = .ok (.ifCond .eq 12, 3) := by decide +kernel
theorem dX7_overtimeOf_7 : decode cX7_overtimeOf 7 = .ok (.aload_n 1, 1) := by decide +kernel
theorem dX7_overtimeOf_8 : decode cX7_overtimeOf 8 = .ok (.getfield 329, 3) := by decide +kernel
theorem dX7_overtimeOf_11 : decode cX7_overtimeOf 11 = .ok (.bipush 10, 2) := by decide +kernel
theorem dX7_overtimeOf_13 : decode cX7_overtimeOf 13 = .ok (.if_icmp .gt 5, 3) := by decide +kernel
theorem dX7_overtimeOf_16 : decode cX7_overtimeOf 16 = .ok (.iconst 0, 1) := by decide +kernel
theorem dX7_overtimeOf_17 : decode cX7_overtimeOf 17 = .ok (.ireturn, 1) := by decide +kernel
theorem dX7_overtimeOf_18 : decode cX7_overtimeOf 18 = .ok (.iconst 0, 1) := by decide +kernel
theorem dX7_overtimeOf_19 : decode cX7_overtimeOf 19 = .ok (.istore_n 2, 1) := by decide +kernel
theorem dX7_overtimeOf_20 : decode cX7_overtimeOf 20 = .ok (.iconst 0, 1) := by decide +kernel
theorem dX7_overtimeOf_21 : decode cX7_overtimeOf 21 = .ok (.istore_n 3, 1) := by decide +kernel
theorem dX7_overtimeOf_22 : decode cX7_overtimeOf 22 = .ok (.iload_n 3, 1) := by decide +kernel
theorem dX7_overtimeOf_23 : decode cX7_overtimeOf 23 = .ok (.aload_n 0, 1) := by decide +kernel
theorem dX7_overtimeOf_24 : decode cX7_overtimeOf 24 = .ok (.getfield 122, 3) := by decide +kernel
theorem dX7_overtimeOf_27 : decode cX7_overtimeOf 27 = .ok (.if_icmp .ge 35, 3) := by decide +kernel
theorem dX7_overtimeOf_30 : decode cX7_overtimeOf 30 = .ok (.aload_n 1, 1) := by decide +kernel
theorem dX7_overtimeOf_31 : decode cX7_overtimeOf 31 = .ok (.getfield 454, 3) := by decide +kernel
theorem dX7_overtimeOf_34 : decode cX7_overtimeOf 34 = .ok (.iload_n 3, 1) := by decide +kernel
theorem dX7_overtimeOf_35 : decode cX7_overtimeOf 35 = .ok (.invokestatic 161, 3) := by decide +kernel
theorem dX7_overtimeOf_38 : decode cX7_overtimeOf 38 = .ok (.ifCond .eq 18, 3) := by decide +kernel
theorem dX7_overtimeOf_41 : decode cX7_overtimeOf 41 = .ok (.iload_n 2, 1) := by decide +kernel
theorem dX7_overtimeOf_42 : decode cX7_overtimeOf 42 = .ok (.aload_n 0, 1) := by decide +kernel
theorem dX7_overtimeOf_43 : decode cX7_overtimeOf 43 = .ok (.getfield 17, 3) := by decide +kernel
theorem dX7_overtimeOf_46 : decode cX7_overtimeOf 46 = .ok (.iload_n 3, 1) := by decide +kernel
theorem dX7_overtimeOf_47 : decode cX7_overtimeOf 47 = .ok (.aaload, 1) := by decide +kernel
theorem dX7_overtimeOf_48 : decode cX7_overtimeOf 48 = .ok (.getfield 133, 3) := by decide +kernel
theorem dX7_overtimeOf_51 : decode cX7_overtimeOf 51 = .ok (.bipush 10, 2) := by decide +kernel
theorem dX7_overtimeOf_53 : decode cX7_overtimeOf 53 = .ok (.idiv, 1) := by decide +kernel
theorem dX7_overtimeOf_54 : decode cX7_overtimeOf 54 = .ok (.iadd, 1) := by decide +kernel
theorem dX7_overtimeOf_55 : decode cX7_overtimeOf 55 = .ok (.istore_n 2, 1) := by decide +kernel
theorem dX7_overtimeOf_56 : decode cX7_overtimeOf 56 = .ok (.iinc 3 1, 3) := by decide +kernel
theorem dX7_overtimeOf_59 : decode cX7_overtimeOf 59 = .ok (.goto (-37), 3) := by decide +kernel
theorem dX7_overtimeOf_62 : decode cX7_overtimeOf 62 = .ok (.iload_n 2, 1) := by decide +kernel
theorem dX7_overtimeOf_63 : decode cX7_overtimeOf 63 = .ok (.aload_n 1, 1) := by decide +kernel
theorem dX7_overtimeOf_64 : decode cX7_overtimeOf 64 = .ok (.getfield 329, 3) := by decide +kernel
theorem dX7_overtimeOf_67 : decode cX7_overtimeOf 67 = .ok (.bipush 10, 2) := by decide +kernel
theorem dX7_overtimeOf_69 : decode cX7_overtimeOf 69 = .ok (.isub, 1) := by decide +kernel
theorem dX7_overtimeOf_70 : decode cX7_overtimeOf 70 = .ok (.imul, 1) := by decide +kernel
theorem dX7_overtimeOf_71 : decode cX7_overtimeOf 71 = .ok (.ireturn, 1) := by decide +kernel
set_option maxRecDepth 20000 in
theorem ggX7_areCastsSound_X7_hasBit : GoodIn wsX7_areCastsSound wsX7_hasBit := goodIn_r _ [7] (by decide +kernel) (by decide +kernel)
set_option maxRecDepth 20000 in
theorem gX7_areCastsSound_X7_hasBit : GoodIn wsX7_areCastsSound (va_wsS RX7 161 yX7_hasBit wsX7_hasBit) := goodIn_app (goodIn_of _ (by decide +kernel)) ggX7_areCastsSound_X7_hasBit
set_option maxRecDepth 20000 in
theorem ggX7_areCastsSound_X7_isCastSound : GoodIn wsX7_areCastsSound wsX7_isCastSound := goodIn_ca (goodIn_r _ [11, 12, 13, 14, 15, 16, 17, 18, 19, 20, 21, 22, 23, 24, 25, 26, 27, 28, 29, 30, 5, 6, 7, 4, 58, 59, 60, 61, 62, 63, 64, 65, 66, 31, 32, 33, 34, 35, 36, 37, 38, 39, 40, 41, 42, 67, 68, 69, 70, 71, 72, 73] (by decide +kernel) (by decide +kernel)) (goodIn_sub (fun _ h => List.mem_cons_of_mem _ (List.mem_append_right _ h)) (by decide +kernel))
set_option maxRecDepth 20000 in
theorem gX7_areCastsSound_X7_isCastSound : GoodIn wsX7_areCastsSound (wsV RX7 512 RX7 yX7_isCastSound wsX7_isCastSound) := goodIn_app (goodIn_of _ (by decide +kernel)) ggX7_areCastsSound_X7_isCastSound
theorem dX7_areCastsSound_0 : decode cX7_areCastsSound 0 = .ok (.iconst 0, 1) := by decide +kernel
theorem dX7_areCastsSound_1 : decode cX7_areCastsSound 1 = .ok (.istore_n 1, 1) := by decide +kernel
theorem dX7_areCastsSound_2 : decode cX7_areCastsSound 2 = .ok (.iload_n 1, 1) := by decide +kernel
theorem dX7_areCastsSound_3 : decode cX7_areCastsSound 3 = .ok (.aload_n 0, 1) := by decide +kernel
theorem dX7_areCastsSound_4 : decode cX7_areCastsSound 4 = .ok (.getfield 202, 3) := by decide +kernel
theorem dX7_areCastsSound_7 : decode cX7_areCastsSound 7 = .ok (.if_icmp .ge 74, 3) := by decide +kernel
theorem dX7_areCastsSound_10 : decode cX7_areCastsSound 10 = .ok (.aload_n 0, 1) := by decide +kernel
theorem dX7_areCastsSound_11 : decode cX7_areCastsSound 11 = .ok (.getfield 29, 3) := by decide +kernel
theorem dX7_areCastsSound_14 : decode cX7_areCastsSound 14 = .ok (.iload_n 1, 1) := by decide +kernel
theorem dX7_areCastsSound_15 : decode cX7_areCastsSound 15 = .ok (.aaload, 1) := by decide +kernel
theorem dX7_areCastsSound_16 : decode cX7_areCastsSound 16 = .ok (.astore_n 2, 1) := by decide +kernel
theorem dX7_areCastsSound_17 : decode cX7_areCastsSound 17 = .ok (.iconst 0, 1) := by decide +kernel
theorem dX7_areCastsSound_18 : decode cX7_areCastsSound 18 = .ok (.istore_n 3, 1) := by decide +kernel
theorem dX7_areCastsSound_19 : decode cX7_areCastsSound 19 = .ok (.iload_n 3, 1) := by decide +kernel
theorem dX7_areCastsSound_20 : decode cX7_areCastsSound 20 = .ok (.aload_n 2, 1) := by decide +kernel
theorem dX7_areCastsSound_21 : decode cX7_areCastsSound 21 = .ok (.getfield 234, 3) := by decide +kernel
theorem dX7_areCastsSound_24 : decode cX7_areCastsSound 24 = .ok (.if_icmp .ge 51, 3) := by decide +kernel
theorem dX7_areCastsSound_27 : decode cX7_areCastsSound 27 = .ok (.aload_n 2, 1) := by decide +kernel
theorem dX7_areCastsSound_28 : decode cX7_areCastsSound 28 = .ok (.getfield 446, 3) := by decide +kernel
theorem dX7_areCastsSound_31 : decode cX7_areCastsSound 31 = .ok (.iload_n 3, 1) := by decide +kernel
theorem dX7_areCastsSound_32 : decode cX7_areCastsSound 32 = .ok (.iaload, 1) := by decide +kernel
theorem dX7_areCastsSound_33 : decode cX7_areCastsSound 33 = .ok (.istore 4, 2) := by decide +kernel
theorem dX7_areCastsSound_35 : decode cX7_areCastsSound 35 = .ok (.aload_n 2, 1) := by decide +kernel
theorem dX7_areCastsSound_36 : decode cX7_areCastsSound 36 = .ok (.getfield 324, 3) := by decide +kernel
theorem dX7_areCastsSound_39 : decode cX7_areCastsSound 39 = .ok (.iload 4, 2) := by decide +kernel
theorem dX7_areCastsSound_41 : decode cX7_areCastsSound 41 = .ok (.invokestatic 161, 3) := by decide +kernel
theorem dX7_areCastsSound_44 : decode cX7_areCastsSound 44 = .ok (.ifCond .eq 25, 3) := by decide +kernel
theorem dX7_areCastsSound_47 : decode cX7_areCastsSound 47 = .ok (.aload_n 0, 1) := by decide +kernel
theorem dX7_areCastsSound_48 : decode cX7_areCastsSound 48 = .ok (.aload_n 0, 1) := by decide +kernel
theorem dX7_areCastsSound_49 : decode cX7_areCastsSound 49 = .ok (.getfield 11, 3) := by decide +kernel
theorem dX7_areCastsSound_52 : decode cX7_areCastsSound 52 = .ok (.iload 4, 2) := by decide +kernel
theorem dX7_areCastsSound_54 : decode cX7_areCastsSound 54 = .ok (.aaload, 1) := by decide +kernel
theorem dX7_areCastsSound_55 : decode cX7_areCastsSound 55 = .ok (.aload_n 2, 1) := by decide +kernel
theorem dX7_areCastsSound_56 : decode cX7_areCastsSound 56 = .ok (.getfield 350, 3) := by decide +kernel
theorem dX7_areCastsSound_59 : decode cX7_areCastsSound 59 = .ok (.iload_n 3, 1) := by decide +kernel
theorem dX7_areCastsSound_60 : decode cX7_areCastsSound 60 = .ok (.laload, 1) := by decide +kernel
theorem dX7_areCastsSound_61 : decode cX7_areCastsSound 61 = .ok (.invokevirtual 512, 3) := by decide +kernel
theorem dX7_areCastsSound_64 : decode cX7_areCastsSound 64 = .ok (.ifCond .ne 5, 3) := by decide +kernel
theorem dX7_areCastsSound_67 : decode cX7_areCastsSound 67 = .ok (.iconst 0, 1) := by decide +kernel
theorem dX7_areCastsSound_68 : decode cX7_areCastsSound 68 = .ok (.ireturn, 1) := by decide +kernel
theorem dX7_areCastsSound_69 : decode cX7_areCastsSound 69 = .ok (.iinc 3 1, 3) := by decide +kernel
theorem dX7_areCastsSound_72 : decode cX7_areCastsSound 72 = .ok (.goto (-53), 3) := by decide +kernel
theorem dX7_areCastsSound_75 : decode cX7_areCastsSound 75 = .ok (.iinc 1 1, 3) := by decide +kernel
theorem dX7_areCastsSound_78 : decode cX7_areCastsSound 78 = .ok (.goto (-76), 3) := by decide +kernel
theorem dX7_areCastsSound_81 : decode cX7_areCastsSound 81 = .ok (.iconst 1, 1) := by decide +kernel
theorem dX7_areCastsSound_82 : decode cX7_areCastsSound 82 = .ok (.ireturn, 1) := by decide +kernel
set_option maxRecDepth 20000 in
theorem ggX7_isCastSound_X1_playerOf : GoodIn wsX7_isCastSound wsX1_playerOf := goodIn_r _ [5, 6, 7, 4, 8] (by decide +kernel) (by decide +kernel)
set_option maxRecDepth 20000 in
theorem gX7_isCastSound_X1_playerOf_n354 : GoodIn wsX7_isCastSound (wsX1_playerOf) := ggX7_isCastSound_X1_playerOf
set_option maxRecDepth 20000 in
theorem ggX7_isCastSound_X6_instrumentOf : GoodIn wsX7_isCastSound wsX6_instrumentOf := goodIn_ca (goodIn_r _ [12, 13, 24, 25, 26, 27, 28, 29, 30, 31, 32] (by decide +kernel) (by decide +kernel)) (goodIn_sub (fun _ h => List.mem_cons_of_mem _ (List.mem_append_right _ h)) (by decide +kernel))
set_option maxRecDepth 20000 in
theorem gX7_isCastSound_X6_instrumentOf_n509 : GoodIn wsX7_isCastSound (wsX6_instrumentOf) := ggX7_isCastSound_X6_instrumentOf
set_option maxRecDepth 20000 in
theorem ggX7_isCastSound_X4_canPlay : GoodIn wsX7_isCastSound wsX4_canPlay := goodIn_r _ [17, 18, 19, 20, 21, 22, 45, 46, 47, 48, 49, 50, 51] (by decide +kernel) (by decide +kernel)
set_option maxRecDepth 20000 in
theorem gX7_isCastSound_X4_canPlay_n516 : GoodIn wsX7_isCastSound (wsX4_canPlay) := ggX7_isCastSound_X4_canPlay
set_option maxRecDepth 20000 in
theorem ggX7_isCastSound_X7_hasBit : GoodIn wsX7_isCastSound wsX7_hasBit := goodIn_r _ [22] (by decide +kernel) (by decide +kernel)
set_option maxRecDepth 20000 in
theorem gX7_isCastSound_X7_hasBit : GoodIn wsX7_isCastSound (va_wsS RX7 161 yX7_hasBit wsX7_hasBit) := goodIn_app (goodIn_of _ (by decide +kernel)) ggX7_isCastSound_X7_hasBit
theorem dX7_isCastSound_0 : decode cX7_isCastSound 0 = .ok (.iconst 0, 1) := by decide +kernel
theorem dX7_isCastSound_1 : decode cX7_isCastSound 1 = .ok (.istore 4, 2) := by decide +kernel
theorem dX7_isCastSound_3 : decode cX7_isCastSound 3 = .ok (.iconst 0, 1) := by decide +kernel
theorem dX7_isCastSound_4 : decode cX7_isCastSound 4 = .ok (.istore 5, 2) := by decide +kernel
theorem dX7_isCastSound_6 : decode cX7_isCastSound 6 = .ok (.iload 5, 2) := by decide +kernel
theorem dX7_isCastSound_8 : decode cX7_isCastSound 8 = .ok (.aload_n 1, 1) := by decide +kernel
theorem dX7_isCastSound_9 : decode cX7_isCastSound 9 = .ok (.getfield 84, 3) := by decide +kernel
theorem dX7_isCastSound_12 : decode cX7_isCastSound 12 = .ok (.if_icmp .ge 66, 3) := by decide +kernel
theorem dX7_isCastSound_15 : decode cX7_isCastSound 15 = .ok (.lload_n 2, 1) := by decide +kernel
theorem dX7_isCastSound_16 : decode cX7_isCastSound 16 = .ok (.iload 5, 2) := by decide +kernel
theorem dX7_isCastSound_18 : decode cX7_isCastSound 18 = .ok (.invokestatic 354, 3) := by decide +kernel
theorem dX7_isCastSound_21 : decode cX7_isCastSound 21 = .ok (.istore 6, 2) := by decide +kernel
theorem dX7_isCastSound_23 : decode cX7_isCastSound 23 = .ok (.iload 6, 2) := by decide +kernel
theorem dX7_isCastSound_25 : decode cX7_isCastSound 25 = .ok (.aload_n 0, 1) := by decide +kernel
theorem dX7_isCastSound_26 : decode cX7_isCastSound 26 = .ok (.getfield 122, 3) := by decide +kernel
theorem dX7_isCastSound_29 : decode cX7_isCastSound 29 = .ok (.if_icmp .ge 32, 3) := by decide +kernel
theorem dX7_isCastSound_32 : decode cX7_isCastSound 32 = .ok (.aload_n 0, 1) := by decide +kernel
theorem dX7_isCastSound_33 : decode cX7_isCastSound 33 = .ok (.getfield 17, 3) := by decide +kernel
theorem dX7_isCastSound_36 : decode cX7_isCastSound 36 = .ok (.iload 6, 2) := by decide +kernel
theorem dX7_isCastSound_38 : decode cX7_isCastSound 38 = .ok (.aaload, 1) := by decide +kernel
theorem dX7_isCastSound_39 : decode cX7_isCastSound 39 = .ok (.aload_n 1, 1) := by decide +kernel
theorem dX7_isCastSound_40 : decode cX7_isCastSound 40 = .ok (.iload 5, 2) := by decide +kernel
theorem dX7_isCastSound_42 : decode cX7_isCastSound 42 = .ok (.invokevirtual 509, 3) := by decide +kernel
theorem dX7_isCastSound_45 : decode cX7_isCastSound 45 = .ok (.invokevirtual 516, 3) := by decide +kernel
theorem dX7_isCastSound_48 : decode cX7_isCastSound 48 = .ok (.ifCond .eq 13, 3) := by decide +kernel
theorem dX7_isCastSound_51 : decode cX7_isCastSound 51 = .ok (.iload 4, 2) := by decide +kernel
theorem dX7_isCastSound_53 : decode cX7_isCastSound 53 = .ok (.iload 6, 2) := by decide +kernel
theorem dX7_isCastSound_55 : decode cX7_isCastSound 55 = .ok (.invokestatic 161, 3) := by decide +kernel
theorem dX7_isCastSound_58 : decode cX7_isCastSound 58 = .ok (.ifCond .eq 5, 3) := by decide +kernel
theorem dX7_isCastSound_61 : decode cX7_isCastSound 61 = .ok (.iconst 0, 1) := by decide +kernel
theorem dX7_isCastSound_62 : decode cX7_isCastSound 62 = .ok (.ireturn, 1) := by decide +kernel
theorem dX7_isCastSound_63 : decode cX7_isCastSound 63 = .ok (.iload 4, 2) := by decide +kernel
theorem dX7_isCastSound_65 : decode cX7_isCastSound 65 = .ok (.iconst 1, 1) := by decide +kernel
theorem dX7_isCastSound_66 : decode cX7_isCastSound 66 = .ok (.iload 6, 2) := by decide +kernel
theorem dX7_isCastSound_68 : decode cX7_isCastSound 68 = .ok (.ishl, 1) := by decide +kernel
theorem dX7_isCastSound_69 : decode cX7_isCastSound 69 = .ok (.ior, 1) := by decide +kernel
theorem dX7_isCastSound_70 : decode cX7_isCastSound 70 = .ok (.istore 4, 2) := by decide +kernel
theorem dX7_isCastSound_72 : decode cX7_isCastSound 72 = .ok (.iinc 5 1, 3) := by decide +kernel
theorem dX7_isCastSound_75 : decode cX7_isCastSound 75 = .ok (.goto (-69), 3) := by decide +kernel
theorem dX7_isCastSound_78 : decode cX7_isCastSound 78 = .ok (.iconst 1, 1) := by decide +kernel
theorem dX7_isCastSound_79 : decode cX7_isCastSound 79 = .ok (.ireturn, 1) := by decide +kernel
set_option maxRecDepth 20000 in
theorem ggX7_isAgreementKept_X7_keepsAgreement : GoodIn wsX7_isAgreementKept wsX7_keepsAgreement := goodIn_r _ [6, 7, 8, 9, 10, 5, 11, 12, 13, 14, 15, 16, 17, 18, 19, 20, 21, 22, 23, 24, 25, 26, 27, 28, 29, 30, 31, 32, 33, 34, 35, 36, 37, 38, 39, 40, 41, 42, 43, 44, 45, 46, 47, 48, 49, 50, 51, 52, 53, 54, 55, 56, 57] (by decide +kernel) (by decide +kernel)
set_option maxRecDepth 20000 in
theorem gX7_isAgreementKept_X7_keepsAgreement : GoodIn wsX7_isAgreementKept (wsV RX7 460 RX7 yX7_keepsAgreement wsX7_keepsAgreement) := goodIn_app (goodIn_of _ (by decide +kernel)) ggX7_isAgreementKept_X7_keepsAgreement
theorem dX7_isAgreementKept_0 : decode cX7_isAgreementKept 0 = .ok (.iconst 0, 1) := by decide +kernel
theorem dX7_isAgreementKept_1 : decode cX7_isAgreementKept 1 = .ok (.istore_n 1, 1) := by decide +kernel
theorem dX7_isAgreementKept_2 : decode cX7_isAgreementKept 2 = .ok (.iload_n 1, 1) := by decide +kernel
theorem dX7_isAgreementKept_3 : decode cX7_isAgreementKept 3 = .ok (.aload_n 0, 1) := by decide +kernel
theorem dX7_isAgreementKept_4 : decode cX7_isAgreementKept 4 = .ok (.getfield 122, 3) := by decide +kernel
theorem dX7_isAgreementKept_7 : decode cX7_isAgreementKept 7 = .ok (.if_icmp .ge 20, 3) := by decide +kernel
theorem dX7_isAgreementKept_10 : decode cX7_isAgreementKept 10 = .ok (.aload_n 0, 1) := by decide +kernel
theorem dX7_isAgreementKept_11 : decode cX7_isAgreementKept 11 = .ok (.iload_n 1, 1) := by decide +kernel
theorem dX7_isAgreementKept_12 : decode cX7_isAgreementKept 12 = .ok (.iconst (-1), 1) := by decide +kernel
theorem dX7_isAgreementKept_13 : decode cX7_isAgreementKept 13 = .ok (.invokevirtual 460, 3) := by decide +kernel
theorem dX7_isAgreementKept_16 : decode cX7_isAgreementKept 16 = .ok (.ifCond .ne 5, 3) := by decide +kernel
theorem dX7_isAgreementKept_19 : decode cX7_isAgreementKept 19 = .ok (.iconst 0, 1) := by decide +kernel
theorem dX7_isAgreementKept_20 : decode cX7_isAgreementKept 20 = .ok (.ireturn, 1) := by decide +kernel
theorem dX7_isAgreementKept_21 : decode cX7_isAgreementKept 21 = .ok (.iinc 1 1, 3) := by decide +kernel
theorem dX7_isAgreementKept_24 : decode cX7_isAgreementKept 24 = .ok (.goto (-22), 3) := by decide +kernel
theorem dX7_isAgreementKept_27 : decode cX7_isAgreementKept 27 = .ok (.iconst 1, 1) := by decide +kernel
theorem dX7_isAgreementKept_28 : decode cX7_isAgreementKept 28 = .ok (.ireturn, 1) := by decide +kernel
set_option maxRecDepth 20000 in
theorem ggX7_areHallsSound_X5_isNear : GoodIn wsX7_areHallsSound wsX5_isNear := goodIn_r _ [6, 7, 8, 9, 22, 23, 24, 25, 26, 27, 28, 29, 30, 31, 32, 33, 34, 35, 36] (by decide +kernel) (by decide +kernel)
set_option maxRecDepth 20000 in
theorem gX7_areHallsSound_X5_isNear_n443 : GoodIn wsX7_areHallsSound (wsX5_isNear) := ggX7_areHallsSound_X5_isNear
theorem dX7_areHallsSound_0 : decode cX7_areHallsSound 0 = .ok (.iconst 0, 1) := by decide +kernel
theorem dX7_areHallsSound_1 : decode cX7_areHallsSound 1 = .ok (.istore_n 1, 1) := by decide +kernel
theorem dX7_areHallsSound_2 : decode cX7_areHallsSound 2 = .ok (.iload_n 1, 1) := by decide +kernel
theorem dX7_areHallsSound_3 : decode cX7_areHallsSound 3 = .ok (.aload_n 0, 1) := by decide +kernel
theorem dX7_areHallsSound_4 : decode cX7_areHallsSound 4 = .ok (.getfield 202, 3) := by decide +kernel
theorem dX7_areHallsSound_7 : decode cX7_areHallsSound 7 = .ok (.if_icmp .ge 72, 3) := by decide +kernel
theorem dX7_areHallsSound_10 : decode cX7_areHallsSound 10 = .ok (.aload_n 0, 1) := by decide +kernel
theorem dX7_areHallsSound_11 : decode cX7_areHallsSound 11 = .ok (.getfield 29, 3) := by decide +kernel
theorem dX7_areHallsSound_14 : decode cX7_areHallsSound 14 = .ok (.iload_n 1, 1) := by decide +kernel
theorem dX7_areHallsSound_15 : decode cX7_areHallsSound 15 = .ok (.aaload, 1) := by decide +kernel
theorem dX7_areHallsSound_16 : decode cX7_areHallsSound 16 = .ok (.astore_n 2, 1) := by decide +kernel
theorem dX7_areHallsSound_17 : decode cX7_areHallsSound 17 = .ok (.iconst 0, 1) := by decide +kernel
theorem dX7_areHallsSound_18 : decode cX7_areHallsSound 18 = .ok (.istore_n 3, 1) := by decide +kernel
theorem dX7_areHallsSound_19 : decode cX7_areHallsSound 19 = .ok (.iload_n 3, 1) := by decide +kernel
theorem dX7_areHallsSound_20 : decode cX7_areHallsSound 20 = .ok (.iload_n 1, 1) := by decide +kernel
theorem dX7_areHallsSound_21 : decode cX7_areHallsSound 21 = .ok (.if_icmp .ge 52, 3) := by decide +kernel
theorem dX7_areHallsSound_24 : decode cX7_areHallsSound 24 = .ok (.aload_n 0, 1) := by decide +kernel
theorem dX7_areHallsSound_25 : decode cX7_areHallsSound 25 = .ok (.getfield 29, 3) := by decide +kernel
theorem dX7_areHallsSound_28 : decode cX7_areHallsSound 28 = .ok (.iload_n 3, 1) := by decide +kernel
theorem dX7_areHallsSound_29 : decode cX7_areHallsSound 29 = .ok (.aaload, 1) := by decide +kernel
theorem dX7_areHallsSound_30 : decode cX7_areHallsSound 30 = .ok (.getfield 220, 3) := by decide +kernel
theorem dX7_areHallsSound_33 : decode cX7_areHallsSound 33 = .ok (.aload_n 2, 1) := by decide +kernel
theorem dX7_areHallsSound_34 : decode cX7_areHallsSound 34 = .ok (.getfield 220, 3) := by decide +kernel
theorem dX7_areHallsSound_37 : decode cX7_areHallsSound 37 = .ok (.if_icmp .ne 30, 3) := by decide +kernel
theorem dX7_areHallsSound_40 : decode cX7_areHallsSound 40 = .ok (.aload_n 0, 1) := by decide +kernel
theorem dX7_areHallsSound_41 : decode cX7_areHallsSound 41 = .ok (.getfield 29, 3) := by decide +kernel
theorem dX7_areHallsSound_44 : decode cX7_areHallsSound 44 = .ok (.iload_n 3, 1) := by decide +kernel
theorem dX7_areHallsSound_45 : decode cX7_areHallsSound 45 = .ok (.aaload, 1) := by decide +kernel
theorem dX7_areHallsSound_46 : decode cX7_areHallsSound 46 = .ok (.aload_n 2, 1) := by decide +kernel
theorem dX7_areHallsSound_47 : decode cX7_areHallsSound 47 = .ok (.getfield 211, 3) := by decide +kernel
theorem dX7_areHallsSound_50 : decode cX7_areHallsSound 50 = .ok (.aload_n 2, 1) := by decide +kernel
theorem dX7_areHallsSound_51 : decode cX7_areHallsSound 51 = .ok (.getfield 214, 3) := by decide +kernel
theorem dX7_areHallsSound_54 : decode cX7_areHallsSound 54 = .ok (.aload_n 2, 1) := by decide +kernel
theorem dX7_areHallsSound_55 : decode cX7_areHallsSound 55 = .ok (.getfield 217, 3) := by decide +kernel
theorem dX7_areHallsSound_58 : decode cX7_areHallsSound 58 = .ok (.iconst 4, 1) := by decide +kernel
theorem dX7_areHallsSound_59 : decode cX7_areHallsSound 59 = .ok (.invokevirtual 443, 3) := by decide +kernel
theorem dX7_areHallsSound_62 : decode cX7_areHallsSound 62 = .ok (.ifCond .eq 5, 3) := by decide +kernel
theorem dX7_areHallsSound_65 : decode cX7_areHallsSound 65 = .ok (.iconst 0, 1) := by decide +kernel
theorem dX7_areHallsSound_66 : decode cX7_areHallsSound 66 = .ok (.ireturn, 1) := by decide +kernel
theorem dX7_areHallsSound_67 : decode cX7_areHallsSound 67 = .ok (.iinc 3 1, 3) := by decide +kernel
theorem dX7_areHallsSound_70 : decode cX7_areHallsSound 70 = .ok (.goto (-51), 3) := by decide +kernel
theorem dX7_areHallsSound_73 : decode cX7_areHallsSound 73 = .ok (.iinc 1 1, 3) := by decide +kernel
theorem dX7_areHallsSound_76 : decode cX7_areHallsSound 76 = .ok (.goto (-74), 3) := by decide +kernel
theorem dX7_areHallsSound_79 : decode cX7_areHallsSound 79 = .ok (.iconst 1, 1) := by decide +kernel
theorem dX7_areHallsSound_80 : decode cX7_areHallsSound 80 = .ok (.ireturn, 1) := by decide +kernel
set_option maxRecDepth 20000 in
theorem ggX7_areGuestsSound_X7_isEngagedBeside : GoodIn wsX7_areGuestsSound wsX7_isEngagedBeside := goodIn_r _ [7, 1, 2, 8, 9, 10, 11, 12, 13, 14, 15, 16, 17, 18, 19, 20, 21, 22, 23, 24, 25, 26, 27, 28, 29, 30, 31, 32, 33, 34] (by decide +kernel) (by decide +kernel)
set_option maxRecDepth 20000 in
theorem gX7_areGuestsSound_X7_isEngagedBeside : GoodIn wsX7_areGuestsSound (wsV RX7 451 RX7 yX7_isEngagedBeside wsX7_isEngagedBeside) := goodIn_app (goodIn_of _ (by decide +kernel)) ggX7_areGuestsSound_X7_isEngagedBeside
theorem dX7_areGuestsSound_0 : decode cX7_areGuestsSound 0 = .ok (.iconst 0, 1) := by decide +kernel
theorem dX7_areGuestsSound_1 : decode cX7_areGuestsSound 1 = .ok (.istore_n 1, 1) := by decide +kernel
theorem dX7_areGuestsSound_2 : decode cX7_areGuestsSound 2 = .ok (.iload_n 1, 1) := by decide +kernel
theorem dX7_areGuestsSound_3 : decode cX7_areGuestsSound 3 = .ok (.aload_n 0, 1) := by decide +kernel
theorem dX7_areGuestsSound_4 : decode cX7_areGuestsSound 4 = .ok (.getfield 202, 3) := by decide +kernel
theorem dX7_areGuestsSound_7 : decode cX7_areGuestsSound 7 = .ok (.if_icmp .ge 35, 3) := by decide +kernel
theorem dX7_areGuestsSound_10 : decode cX7_areGuestsSound 10 = .ok (.aload_n 0, 1) := by decide +kernel
theorem dX7_areGuestsSound_11 : decode cX7_areGuestsSound 11 = .ok (.getfield 29, 3) := by decide +kernel
theorem dX7_areGuestsSound_14 : decode cX7_areGuestsSound 14 = .ok (.iload_n 1, 1) := by decide +kernel
theorem dX7_areGuestsSound_15 : decode cX7_areGuestsSound 15 = .ok (.aaload, 1) := by decide +kernel
theorem dX7_areGuestsSound_16 : decode cX7_areGuestsSound 16 = .ok (.getfield 300, 3) := by decide +kernel
theorem dX7_areGuestsSound_19 : decode cX7_areGuestsSound 19 = .ok (.istore_n 2, 1) := by decide +kernel
theorem dX7_areGuestsSound_20 : decode cX7_areGuestsSound 20 = .ok (.iload_n 2, 1) := by decide +kernel
theorem dX7_areGuestsSound_21 : decode cX7_areGuestsSound 21 = .ok (.iconst (-1), 1) := by decide +kernel
theorem dX7_areGuestsSound_22 : decode cX7_areGuestsSound 22 = .ok (.if_icmp .eq 14, 3) := by decide +kernel
theorem dX7_areGuestsSound_25 : decode cX7_areGuestsSound 25 = .ok (.aload_n 0, 1) := by decide +kernel
theorem dX7_areGuestsSound_26 : decode cX7_areGuestsSound 26 = .ok (.iload_n 1, 1) := by decide +kernel
theorem dX7_areGuestsSound_27 : decode cX7_areGuestsSound 27 = .ok (.iload_n 2, 1) := by decide +kernel
theorem dX7_areGuestsSound_28 : decode cX7_areGuestsSound 28 = .ok (.invokevirtual 451, 3) := by decide +kernel
theorem dX7_areGuestsSound_31 : decode cX7_areGuestsSound 31 = .ok (.ifCond .eq 5, 3) := by decide +kernel
theorem dX7_areGuestsSound_34 : decode cX7_areGuestsSound 34 = .ok (.iconst 0, 1) := by decide +kernel
theorem dX7_areGuestsSound_35 : decode cX7_areGuestsSound 35 = .ok (.ireturn, 1) := by decide +kernel
theorem dX7_areGuestsSound_36 : decode cX7_areGuestsSound 36 = .ok (.iinc 1 1, 3) := by decide +kernel
theorem dX7_areGuestsSound_39 : decode cX7_areGuestsSound 39 = .ok (.goto (-37), 3) := by decide +kernel
theorem dX7_areGuestsSound_42 : decode cX7_areGuestsSound 42 = .ok (.iconst 1, 1) := by decide +kernel
theorem dX7_areGuestsSound_43 : decode cX7_areGuestsSound 43 = .ok (.ireturn, 1) := by decide +kernel
set_option maxRecDepth 20000 in
theorem ggX8_init_X18_init : GoodIn wsX8_init wsX18_init := goodIn_r _ [15, 16, 17, 18, 19, 20, 21, 22, 3, 4, 29, 30, 31, 32, 33, 34, 35, 36] (by decide +kernel) (by decide +kernel)
set_option maxRecDepth 20000 in
theorem gX8_init_X18_init : GoodIn wsX8_init (wsX18_init) := ggX8_init_X18_init
theorem dX8_init_0 : decode cX8_init 0 = .ok (.aload_n 0, 1) := by decide +kernel
theorem dX8_init_1 : decode cX8_init 1 = .ok (.aload_n 1, 1) := by decide +kernel
theorem dX8_init_2 : decode cX8_init 2 = .ok (.putfield 3, 3) := by decide +kernel
theorem dX8_init_5 : decode cX8_init 5 = .ok (.aload_n 0, 1) := by decide +kernel
theorem dX8_init_6 : decode cX8_init 6 = .ok (.invokespecial 9, 3) := by decide +kernel
theorem dX8_init_9 : decode cX8_init 9 = .ok (.aload_n 0, 1) := by decide +kernel
theorem dX8_init_10 : decode cX8_init 10 = .ok (.new 15, 3) := by decide +kernel
theorem dX8_init_13 : decode cX8_init 13 = .ok (.dup, 1) := by decide +kernel
theorem dX8_init_14 : decode cX8_init 14 = .ok (.invokespecial 17, 3) := by decide +kernel
theorem dX8_init_17 : decode cX8_init 17 = .ok (.putfield 18, 3) := by decide +kernel
theorem dX8_init_20 : decode cX8_init 20 = .ok (.aload_n 0, 1) := by decide +kernel
theorem dX8_init_21 : decode cX8_init 21 = .ok (.aload_n 2, 1) := by decide +kernel
theorem dX8_init_22 : decode cX8_init 22 = .ok (.putfield 22, 3) := by decide +kernel
theorem dX8_init_25 : decode cX8_init 25 = .ok (.aload_n 0, 1) := by decide +kernel
theorem dX8_init_26 : decode cX8_init 26 = .ok (.aload_n 3, 1) := by decide +kernel
theorem dX8_init_27 : decode cX8_init 27 = .ok (.putfield 26, 3) := by decide +kernel
theorem dX8_init_30 : decode cX8_init 30 = .ok (.aload_n 0, 1) := by decide +kernel
theorem dX8_init_31 : decode cX8_init 31 = .ok (.aload 4, 2) := by decide +kernel
theorem dX8_init_33 : decode cX8_init 33 = .ok (.putfield 30, 3) := by decide +kernel
theorem dX8_init_36 : decode cX8_init 36 = .ok (.aload_n 0, 1) := by decide +kernel
theorem dX8_init_37 : decode cX8_init 37 = .ok (.aload 5, 2) := by decide +kernel
theorem dX8_init_39 : decode cX8_init 39 = .ok (.putfield 34, 3) := by decide +kernel
theorem dX8_init_42 : decode cX8_init 42 = .ok (.return_, 1) := by decide +kernel
set_option maxRecDepth 20000 in
theorem ggX8_add_Jx4a65c_get_915e3 : GoodIn wsX8_add wsJx4a65c_get_915e3 := goodIn_r _ [13, 14, 15, 16, 17, 18, 19, 20, 21, 22, 23, 24, 25, 12, 26, 27, 59, 60, 61] (by decide +kernel) (by decide +kernel)
set_option maxRecDepth 20000 in
theorem gX8_add_Jx4a65c_get_915e3 : GoodIn wsX8_add (wsV RX8 41 RJx4a65c yJx4a65c_get_915e3 wsJx4a65c_get_915e3) := goodIn_app (goodIn_of _ (by decide +kernel)) ggX8_add_Jx4a65c_get_915e3
set_option maxRecDepth 20000 in
theorem gX8_add_Jx4a65c_get_915e3_f53Jx4a65c : GoodIn wsX8_add (va_wsF RX8 53 RJx4a65c ⟨"java/util/List", "get", "(I)Ljava/lang/Object;"⟩ yJx4a65c_get_915e3 wsJx4a65c_get_915e3) := goodIn_app (goodIn_of _ (by decide +kernel)) ggX8_add_Jx4a65c_get_915e3
set_option maxRecDepth 20000 in
theorem ggX8_add_Jx6a02c_get_915e3 : GoodIn wsX8_add wsJx6a02c_get_915e3 := goodIn_r _ [33, 34, 35, 62, 63] (by decide +kernel) (by decide +kernel)
set_option maxRecDepth 20000 in
theorem gX8_add_Jx6a02c_get_915e3_f53Jx6a02c : GoodIn wsX8_add (va_wsF RX8 53 RJx6a02c ⟨"java/util/List", "get", "(I)Ljava/lang/Object;"⟩ yJx6a02c_get_915e3 wsJx6a02c_get_915e3) := goodIn_app (goodIn_of _ (by decide +kernel)) ggX8_add_Jx6a02c_get_915e3
set_option maxRecDepth 20000 in
theorem ggX8_add_J6_intValue_8abf5 : GoodIn wsX8_add wsJ6_intValue_8abf5 := goodIn_r _ [40, 41, 64] (by decide +kernel) (by decide +kernel)
set_option maxRecDepth 20000 in
theorem gX8_add_J6_intValue_8abf5 : GoodIn wsX8_add (wsV RX8 58 RJ6 yJ6_intValue_8abf5 wsJ6_intValue_8abf5) := goodIn_app (goodIn_of _ (by decide +kernel)) ggX8_add_J6_intValue_8abf5
theorem dX8_add_0 : decode cX8_add 0 = .ok (.aload_n 0, 1) := by decide +kernel
theorem dX8_add_1 : decode cX8_add 1 = .ok (.getfield 3, 3) := by decide +kernel
theorem dX8_add_4 : decode cX8_add 4 = .ok (.getfield 37, 3) := by decide +kernel
theorem dX8_add_7 : decode cX8_add 7 = .ok (.iload_n 1, 1) := by decide +kernel
theorem dX8_add_8 : decode cX8_add 8 = .ok (.invokevirtual 41, 3) := by decide +kernel
theorem dX8_add_11 : decode cX8_add 11 = .ok (.checkcast 47, 3) := by decide +kernel
theorem dX8_add_14 : decode cX8_add 14 = .ok (.getfield 49, 3) := by decide +kernel
theorem dX8_add_17 : decode cX8_add 17 = .ok (.aload_n 0, 1) := by decide +kernel
theorem dX8_add_18 : decode cX8_add 18 = .ok (.getfield 22, 3) := by decide +kernel
theorem dX8_add_21 : decode cX8_add 21 = .ok (.iload_n 2, 1) := by decide +kernel
theorem dX8_add_22 : decode cX8_add 22 = .ok (.invokeinterface 53 2, 5) := by decide +kernel
theorem dX8_add_27 : decode cX8_add 27 = .ok (.checkcast 56, 3) := by decide +kernel
theorem dX8_add_30 : decode cX8_add 30 = .ok (.invokevirtual 58, 3) := by decide +kernel
theorem dX8_add_33 : decode cX8_add 33 = .ok (.if_icmp .eq 7, 3) := by decide +kernel
theorem dX8_add_36 : decode cX8_add 36 = .ok (.iconst 1, 1) := by decide +kernel
theorem dX8_add_37 : decode cX8_add 37 = .ok (.goto 4, 3) := by decide +kernel
theorem dX8_add_40 : decode cX8_add 40 = .ok (.iconst 0, 1) := by decide +kernel
theorem dX8_add_41 : decode cX8_add 41 = .ok (.istore 4, 2) := by decide +kernel
theorem dX8_add_43 : decode cX8_add 43 = .ok (.iconst 2, 1) := by decide +kernel
theorem dX8_add_44 : decode cX8_add 44 = .ok (.newarray .int, 2) := by decide +kernel
theorem dX8_add_46 : decode cX8_add 46 = .ok (.dup, 1) := by decide +kernel
theorem dX8_add_47 : decode cX8_add 47 = .ok (.iconst 0, 1) := by decide +kernel
theorem dX8_add_48 : decode cX8_add 48 = .ok (.aload_n 0, 1) := by decide +kernel
theorem dX8_add_49 : decode cX8_add 49 = .ok (.getfield 30, 3) := by decide +kernel
theorem dX8_add_52 : decode cX8_add 52 = .ok (.iload_n 1, 1) := by decide +kernel
theorem dX8_add_53 : decode cX8_add 53 = .ok (.iaload, 1) := by decide +kernel
theorem dX8_add_54 : decode cX8_add 54 = .ok (.iload 4, 2) := by decide +kernel
theorem dX8_add_56 : decode cX8_add 56 = .ok (.ifCond .eq 8, 3) := by decide +kernel
theorem dX8_add_59 : decode cX8_add 59 = .ok (.bipush 10, 2) := by decide +kernel
theorem dX8_add_61 : decode cX8_add 61 = .ok (.goto 4, 3) := by decide +kernel
theorem dX8_add_64 : decode cX8_add 64 = .ok (.iconst 0, 1) := by decide +kernel
theorem dX8_add_65 : decode cX8_add 65 = .ok (.iadd, 1) := by decide +kernel
theorem dX8_add_66 : decode cX8_add 66 = .ok (.aload_n 3, 1) := by decide +kernel
theorem dX8_add_67 : decode cX8_add 67 = .ok (.iconst 0, 1) := by decide +kernel
theorem dX8_add_68 : decode cX8_add 68 = .ok (.iaload, 1) := by decide +kernel
theorem dX8_add_69 : decode cX8_add 69 = .ok (.iadd, 1) := by decide +kernel
theorem dX8_add_70 : decode cX8_add 70 = .ok (.iastore, 1) := by decide +kernel
theorem dX8_add_71 : decode cX8_add 71 = .ok (.dup, 1) := by decide +kernel
theorem dX8_add_72 : decode cX8_add 72 = .ok (.iconst 1, 1) := by decide +kernel
theorem dX8_add_73 : decode cX8_add 73 = .ok (.aload_n 0, 1) := by decide +kernel
theorem dX8_add_74 : decode cX8_add 74 = .ok (.getfield 34, 3) := by decide +kernel
theorem dX8_add_77 : decode cX8_add 77 = .ok (.iload_n 1, 1) := by decide +kernel
theorem dX8_add_78 : decode cX8_add 78 = .ok (.iaload, 1) := by decide +kernel
theorem dX8_add_79 : decode cX8_add 79 = .ok (.aload_n 3, 1) := by decide +kernel
theorem dX8_add_80 : decode cX8_add 80 = .ok (.iconst 1, 1) := by decide +kernel
theorem dX8_add_81 : decode cX8_add 81 = .ok (.iaload, 1) := by decide +kernel
theorem dX8_add_82 : decode cX8_add 82 = .ok (.iadd, 1) := by decide +kernel
theorem dX8_add_83 : decode cX8_add 83 = .ok (.iastore, 1) := by decide +kernel
theorem dX8_add_84 : decode cX8_add 84 = .ok (.areturn, 1) := by decide +kernel
set_option maxRecDepth 20000 in
theorem ggX8_fits_Jx4a65c_get_915e3 : GoodIn wsX8_fits wsJx4a65c_get_915e3 := goodIn_r _ [10, 11, 12, 13, 14, 15, 16, 17, 18, 19, 20, 21, 22, 9, 23, 24, 58, 59, 60] (by decide +kernel) (by decide +kernel)
set_option maxRecDepth 20000 in
theorem gX8_fits_Jx4a65c_get_915e3 : GoodIn wsX8_fits (wsV RX8 41 RJx4a65c yJx4a65c_get_915e3 wsJx4a65c_get_915e3) := goodIn_app (goodIn_of _ (by decide +kernel)) ggX8_fits_Jx4a65c_get_915e3
set_option maxRecDepth 20000 in
theorem gX8_fits_Jx4a65c_get_915e3_f53Jx4a65c : GoodIn wsX8_fits (va_wsF RX8 53 RJx4a65c ⟨"java/util/List", "get", "(I)Ljava/lang/Object;"⟩ yJx4a65c_get_915e3 wsJx4a65c_get_915e3) := goodIn_app (goodIn_of _ (by decide +kernel)) ggX8_fits_Jx4a65c_get_915e3
set_option maxRecDepth 20000 in
theorem ggX8_fits_Jx6a02c_get_915e3 : GoodIn wsX8_fits wsJx6a02c_get_915e3 := goodIn_r _ [30, 31, 32, 61, 62] (by decide +kernel) (by decide +kernel)
set_option maxRecDepth 20000 in
theorem gX8_fits_Jx6a02c_get_915e3_f53Jx6a02c : GoodIn wsX8_fits (va_wsF RX8 53 RJx6a02c ⟨"java/util/List", "get", "(I)Ljava/lang/Object;"⟩ yJx6a02c_get_915e3 wsJx6a02c_get_915e3) := goodIn_app (goodIn_of _ (by decide +kernel)) ggX8_fits_Jx6a02c_get_915e3
set_option maxRecDepth 20000 in
theorem ggX8_fits_J6_intValue_8abf5 : GoodIn wsX8_fits wsJ6_intValue_8abf5 := goodIn_r _ [37, 38, 63] (by decide +kernel) (by decide +kernel)
set_option maxRecDepth 20000 in
theorem gX8_fits_J6_intValue_8abf5 : GoodIn wsX8_fits (wsV RX8 58 RJ6 yJ6_intValue_8abf5 wsJ6_intValue_8abf5) := goodIn_app (goodIn_of _ (by decide +kernel)) ggX8_fits_J6_intValue_8abf5
set_option maxRecDepth 20000 in
theorem ggX8_fits_X11_plays : GoodIn wsX8_fits wsX11_plays := goodIn_r _ [43, 44, 45, 64, 65, 66, 67, 68] (by decide +kernel) (by decide +kernel)
set_option maxRecDepth 20000 in
theorem gX8_fits_X11_plays : GoodIn wsX8_fits (wsV RX8 62 RX11 yX11_plays wsX11_plays) := goodIn_app (goodIn_of _ (by decide +kernel)) ggX8_fits_X11_plays
theorem dX8_fits_0 : decode cX8_fits 0 = .ok (.aload_n 0, 1) := by decide +kernel
theorem dX8_fits_1 : decode cX8_fits 1 = .ok (.getfield 26, 3) := by decide +kernel
theorem dX8_fits_4 : decode cX8_fits 4 = .ok (.iload_n 1, 1) := by decide +kernel
theorem dX8_fits_5 : decode cX8_fits 5 = .ok (.baload, 1) := by decide +kernel
theorem dX8_fits_6 : decode cX8_fits 6 = .ok (.ifCond .eq 51, 3) := by decide +kernel
theorem dX8_fits_9 : decode cX8_fits 9 = .ok (.iload_n 3, 1) := by decide +kernel
theorem dX8_fits_10 : decode cX8_fits 10 = .ok (.iload_n 1, 1) := by decide +kernel
theorem dX8_fits_11 : decode cX8_fits 11 = .ok (.ishr, 1) := by decide +kernel
theorem dX8_fits_12 : decode cX8_fits 12 = .ok (.iconst 1, 1) := by decide +kernel
theorem dX8_fits_13 : decode cX8_fits 13 = .ok (.iand, 1) := by decide +kernel
theorem dX8_fits_14 : decode cX8_fits 14 = .ok (.ifCond .ne 43, 3) := by decide +kernel
theorem dX8_fits_17 : decode cX8_fits 17 = .ok (.aload_n 0, 1) := by decide +kernel
theorem dX8_fits_18 : decode cX8_fits 18 = .ok (.getfield 3, 3) := by decide +kernel
theorem dX8_fits_21 : decode cX8_fits 21 = .ok (.getfield 37, 3) := by decide +kernel
theorem dX8_fits_24 : decode cX8_fits 24 = .ok (.iload_n 1, 1) := by decide +kernel
theorem dX8_fits_25 : decode cX8_fits 25 = .ok (.invokevirtual 41, 3) := by decide +kernel
theorem dX8_fits_28 : decode cX8_fits 28 = .ok (.checkcast 47, 3) := by decide +kernel
theorem dX8_fits_31 : decode cX8_fits 31 = .ok (.aload_n 0, 1) := by decide +kernel
theorem dX8_fits_32 : decode cX8_fits 32 = .ok (.getfield 22, 3) := by decide +kernel
theorem dX8_fits_35 : decode cX8_fits 35 = .ok (.iload_n 2, 1) := by decide +kernel
theorem dX8_fits_36 : decode cX8_fits 36 = .ok (.invokeinterface 53 2, 5) := by decide +kernel
theorem dX8_fits_41 : decode cX8_fits 41 = .ok (.checkcast 56, 3) := by decide +kernel
theorem dX8_fits_44 : decode cX8_fits 44 = .ok (.invokevirtual 58, 3) := by decide +kernel
theorem dX8_fits_47 : decode cX8_fits 47 = .ok (.invokevirtual 62, 3) := by decide +kernel
theorem dX8_fits_50 : decode cX8_fits 50 = .ok (.ifCond .eq 7, 3) := by decide +kernel
theorem dX8_fits_53 : decode cX8_fits 53 = .ok (.iconst 1, 1) := by decide +kernel
theorem dX8_fits_54 : decode cX8_fits 54 = .ok (.goto 4, 3) := by decide +kernel
theorem dX8_fits_57 : decode cX8_fits 57 = .ok (.iconst 0, 1) := by decide +kernel
theorem dX8_fits_58 : decode cX8_fits 58 = .ok (.ireturn, 1) := by decide +kernel
set_option maxRecDepth 20000 in
theorem ggX8_best_Jx4a65c_size_8abf5 : GoodIn wsX8_best wsJx4a65c_size_8abf5 := goodIn_r _ [10, 11, 330, 331, 332] (by decide +kernel) (by decide +kernel)
set_option maxRecDepth 20000 in
theorem gX8_best_Jx4a65c_size_8abf5_f66Jx4a65c : GoodIn wsX8_best (va_wsF RX8 66 RJx4a65c ⟨"java/util/List", "size", "()I"⟩ yJx4a65c_size_8abf5 wsJx4a65c_size_8abf5) := goodIn_app (goodIn_of _ (by decide +kernel)) ggX8_best_Jx4a65c_size_8abf5
set_option maxRecDepth 20000 in
theorem ggX8_best_Jx6a02c_size_8abf5 : GoodIn wsX8_best wsJx6a02c_size_8abf5 := goodIn_r _ [15, 16, 333, 334] (by decide +kernel) (by decide +kernel)
set_option maxRecDepth 20000 in
theorem gX8_best_Jx6a02c_size_8abf5_f66Jx6a02c : GoodIn wsX8_best (va_wsF RX8 66 RJx6a02c ⟨"java/util/List", "size", "()I"⟩ yJx6a02c_size_8abf5 wsJx6a02c_size_8abf5) := goodIn_app (goodIn_of _ (by decide +kernel)) ggX8_best_Jx6a02c_size_8abf5
set_option maxRecDepth 20000 in
theorem ggX8_best_J6_valueOf_2dffe : GoodIn wsX8_best wsJ6_valueOf_2dffe := goodIn_r _ [20, 21, 22, 23, 24, 19, 25, 26, 27, 28, 29, 30, 31, 32, 33, 34, 35, 335] (by decide +kernel) (by decide +kernel)
set_option maxRecDepth 20000 in
theorem gX8_best_J6_valueOf_2dffe : GoodIn wsX8_best (va_wsS RX8 69 yJ6_valueOf_2dffe wsJ6_valueOf_2dffe) := goodIn_app (goodIn_of _ (by decide +kernel)) ggX8_best_J6_valueOf_2dffe
set_option maxRecDepth 20000 in
theorem ggX8_best_X18_containsKey : GoodIn wsX8_best wsX18_containsKey := goodIn_r _ [40, 41, 42, 43, 39, 44, 45, 46, 47, 48, 49, 50, 51, 52, 53, 54, 55, 56, 19, 57, 28, 58, 59, 60, 61, 62, 63, 64, 65, 66, 67, 68, 69, 70, 71, 72, 73, 74, 75, 76, 77, 78, 79, 80, 81, 82, 83, 84, 85, 86, 87, 88, 89, 90, 91, 92, 93, 94, 95, 96, 97, 98, 99, 100, 101, 102, 103, 104, 105, 106, 107, 108, 109, 110, 111, 112, 113, 114, 115, 116, 117, 118, 119, 120, 121, 122, 123, 124, 125, 126, 127, 128, 129, 130, 131, 132, 133, 134, 135, 136, 137, 138, 139, 140, 141, 142, 143, 144, 145, 146, 147, 148, 149, 150, 151, 152, 153, 154, 155, 336, 337, 338, 339, 340, 341, 342, 343, 344, 345, 346, 347, 348, 349, 350, 351, 352, 353, 354, 355, 356, 357, 358, 335, 359, 360, 361, 362, 363, 364, 365, 366] (by decide +kernel) (by decide +kernel)
set_option maxRecDepth 20000 in
theorem gX8_best_X18_containsKey : GoodIn wsX8_best (wsV RX8 73 RX18 yX18_containsKey wsX18_containsKey) := goodIn_app (goodIn_of _ (by decide +kernel)) ggX8_best_X18_containsKey
set_option maxRecDepth 20000 in
theorem ggX8_best_X18_get : GoodIn wsX8_best wsX18_get := goodIn_r _ [159, 160, 41, 42, 43, 39, 44, 45, 46, 47, 48, 49, 50, 51, 52, 53, 54, 55, 56, 19, 57, 28, 58, 59, 60, 61, 62, 63, 64, 65, 66, 67, 68, 69, 70, 71, 72, 73, 74, 75, 76, 77, 78, 79, 80, 81, 82, 83, 84, 85, 86, 87, 88, 89, 90, 91, 92, 93, 94, 95, 96, 97, 98, 99, 100, 101, 102, 103, 104, 105, 106, 107, 108, 109, 110, 111, 112, 113, 114, 115, 116, 117, 118, 119, 120, 121, 122, 123, 124, 125, 126, 127, 128, 129, 130, 131, 132, 133, 134, 135, 136, 137, 138, 139, 140, 141, 142, 143, 144, 145, 146, 147, 148, 149, 150, 151, 152, 153, 154, 155, 344, 345, 346, 347, 348, 349, 350, 351, 352, 353, 354, 355, 356, 357, 358, 336, 337, 338, 339, 340, 341, 342, 343, 335, 359, 360, 361, 362, 363, 364, 365, 366] (by decide +kernel) (by decide +kernel)
set_option maxRecDepth 20000 in
theorem gX8_best_X18_get : GoodIn wsX8_best (wsV RX8 77 RX18 yX18_get wsX18_get) := goodIn_app (goodIn_of _ (by decide +kernel)) ggX8_best_X18_get
set_option maxRecDepth 20000 in
theorem gX8_best_Jx4a65c_size_8abf5 : GoodIn wsX8_best (wsV RX8 81 RJx4a65c yJx4a65c_size_8abf5 wsJx4a65c_size_8abf5) := goodIn_app (goodIn_of _ (by decide +kernel)) ggX8_best_Jx4a65c_size_8abf5
set_option maxRecDepth 20000 in
theorem ggX8_best_X8_fits : GoodIn wsX8_best wsX8_fits := goodIn_ca (goodIn_r _ [167, 168, 5, 169, 1, 170, 171, 172, 173, 9, 174, 11, 175, 176, 177, 178, 179, 180, 181, 182, 183, 184, 185, 186, 187, 188, 189, 190, 191, 14, 192, 193, 16, 194, 125, 126, 19, 127, 28, 195, 196, 197, 198, 199, 200, 201, 318, 319, 320, 321, 322, 323, 324, 325, 326, 327, 328, 329, 330, 331, 332, 333, 334, 335, 367, 368, 369, 370, 371] (by decide +kernel) (by decide +kernel)) (goodIn_sub (fun _ h => List.mem_cons_of_mem _ (List.mem_append_right _ h)) (by decide +kernel))
set_option maxRecDepth 20000 in
theorem gX8_best_X8_fits : GoodIn wsX8_best (wsV RX8 82 RX8 yX8_fits wsX8_fits) := goodIn_app (goodIn_of _ (by decide +kernel)) ggX8_best_X8_fits
set_option maxRecDepth 20000 in
theorem ggX8_best_X8_best : GoodIn wsX8_best wsX8_best := goodIn_ca (goodIn_r _ [0, 1, 2, 3, 4, 5, 6, 7, 8, 9, 10, 11, 12, 13, 14, 15, 16, 17, 18, 19, 20, 21, 22, 23, 24, 25, 26, 27, 28, 29, 30, 31, 32, 33, 34, 35, 36, 37, 38, 39, 40, 41, 42, 43, 44, 45, 46, 47, 48, 49, 50, 51, 52, 53, 54, 55, 56, 57, 58, 59, 60, 61, 62, 63, 64, 65, 66, 67, 68, 69, 70, 71, 72, 73, 74, 75, 76, 77, 78, 79, 80, 81, 82, 83, 84, 85, 86, 87, 88, 89, 90, 91, 92, 93, 94, 95, 96, 97, 98, 99, 100, 101, 102, 103, 104, 105, 106, 107, 108, 109, 110, 111, 112, 113, 114, 115, 116, 117, 118, 119, 120, 121, 122, 123, 124, 125, 126, 127, 128, 129, 130, 131, 132, 133, 134, 135, 136, 137, 138, 139, 140, 141, 142, 143, 144, 145, 146, 147, 148, 149, 150, 151, 152, 153, 154, 155, 156, 157, 158, 159, 160, 161, 162, 163, 164, 165, 166, 167, 168, 169, 170, 171, 172, 173, 174, 175, 176, 177, 178, 179, 180, 181, 182, 183, 184, 185, 186, 187, 188, 189, 190, 191, 192, 193, 194, 195, 196, 197, 198, 199, 200, 201, 202, 203, 204, 205, 206, 207, 208, 209, 210, 211, 212, 213, 214, 215, 216, 217, 218, 219, 220, 221, 222, 223, 224, 225, 226, 227, 228, 229, 230, 231, 232, 233, 234, 235, 236, 237, 238, 239, 240, 241, 242, 243, 244, 245, 246, 247, 248, 249, 250, 251, 252, 253, 254, 255, 256, 257, 258, 259, 260, 261, 262, 263, 264, 265, 266, 267, 268, 269, 270, 271, 272, 273, 274, 275, 276, 277, 278, 279, 280, 281, 282, 283, 284, 285, 286, 287, 288, 289, 290, 291, 292, 293, 294, 295, 296, 297, 298, 299, 300, 301, 302, 303, 304, 305, 306, 307, 308, 309, 310, 311, 312, 313, 314, 315, 316, 317, 318, 319, 320, 321, 322, 323, 324, 325, 326, 327, 328, 329, 330, 331, 332, 333, 334, 335, 336, 337, 338, 339, 340, 341, 342, 343, 344, 345, 346, 347, 348, 349, 350, 351, 352, 353, 354, 355, 356, 357, 358, 359, 360, 361, 362, 363, 364, 365, 366, 367, 368, 369, 370, 371] (by decide +kernel) (by decide +kernel)) (goodIn_sub (fun _ h => List.mem_cons_of_mem _ (List.mem_append_right _ h)) (by decide +kernel))
set_option maxRecDepth 20000 in
theorem gX8_best_X8_best : GoodIn wsX8_best (wsV RX8 86 RX8 yX8_best wsX8_best) := goodIn_app (goodIn_of _ (by decide +kernel)) ggX8_best_X8_best
set_option maxRecDepth 20000 in
theorem ggX8_best_X8_add : GoodIn wsX8_best wsX8_add := goodIn_ca (goodIn_r _ [208, 5, 169, 209, 1, 170, 2, 210, 211, 171, 172, 173, 9, 174, 11, 175, 176, 177, 178, 179, 180, 181, 182, 183, 184, 185, 186, 187, 188, 189, 190, 191, 14, 192, 193, 16, 194, 125, 126, 19, 127, 28, 318, 319, 320, 321, 322, 323, 324, 325, 326, 327, 328, 329, 367, 368, 369, 370, 371, 330, 331, 332, 333, 334, 335] (by decide +kernel) (by decide +kernel)) (goodIn_sub (fun _ h => List.mem_cons_of_mem _ (List.mem_append_right _ h)) (by decide +kernel))
set_option maxRecDepth 20000 in
theorem gX8_best_X8_add : GoodIn wsX8_best (wsV RX8 90 RX8 yX8_add wsX8_add) := goodIn_app (goodIn_of _ (by decide +kernel)) ggX8_best_X8_add
set_option maxRecDepth 20000 in
theorem ggX8_best_X18_put : GoodIn wsX8_best wsX18_put := goodIn_r _ [215, 50, 51, 39, 52, 53, 54, 55, 56, 19, 57, 28, 58, 59, 60, 61, 62, 63, 64, 65, 66, 67, 68, 69, 70, 71, 72, 73, 74, 75, 76, 77, 78, 79, 80, 81, 82, 83, 84, 85, 86, 87, 88, 89, 90, 91, 92, 93, 94, 95, 96, 97, 98, 99, 100, 101, 102, 103, 104, 105, 106, 107, 108, 109, 110, 111, 112, 113, 114, 115, 116, 117, 216, 217, 218, 219, 45, 46, 47, 49, 48, 160, 220, 221, 222, 223, 224, 225, 226, 227, 228, 229, 230, 231, 232, 233, 234, 138, 235, 236, 237, 238, 151, 152, 239, 240, 241, 242, 243, 244, 245, 246, 247, 248, 249, 250, 251, 252, 253, 254, 34, 35, 255, 256, 257, 258, 259, 260, 261, 262, 150, 149, 140, 263, 153, 154, 264, 265, 266, 267, 268, 269, 270, 271, 272, 273, 274, 275, 276, 277, 278, 279, 280, 118, 119, 120, 121, 122, 123, 124, 125, 126, 127, 128, 129, 130, 131, 132, 133, 134, 281, 282, 283, 284, 141, 142, 143, 144, 155, 285, 286, 287, 288, 289, 290, 291, 292, 293, 294, 295, 296, 297, 298, 299, 300, 301, 302, 303, 304, 305, 306, 307, 308, 309, 310, 311, 312, 313, 314, 315, 316, 317, 335, 359, 360, 361, 362, 363, 364, 365, 366, 336, 337, 338, 339, 340, 341, 342, 343, 344, 345, 346, 347, 348, 349, 350, 351, 352, 353, 354, 355, 356, 357, 358] (by decide +kernel) (by decide +kernel)
set_option maxRecDepth 20000 in
theorem gX8_best_X18_put : GoodIn wsX8_best (wsV RX8 94 RX18 yX18_put wsX18_put) := goodIn_app (goodIn_of _ (by decide +kernel)) ggX8_best_X18_put
theorem dX8_best_0 : decode cX8_best 0 = .ok (.iload_n 1, 1) := by decide +kernel
theorem dX8_best_1 : decode cX8_best 1 = .ok (.aload_n 0, 1) := by decide +kernel
theorem dX8_best_2 : decode cX8_best 2 = .ok (.getfield 22, 3) := by decide +kernel
theorem dX8_best_5 : decode cX8_best 5 = .ok (.invokeinterface 66 1, 5) := by decide +kernel
theorem dX8_best_10 : decode cX8_best 10 = .ok (.if_icmp .ne 15, 3) := by decide +kernel
theorem dX8_best_13 : decode cX8_best 13 = .ok (.iconst 2, 1) := by decide +kernel
theorem dX8_best_14 : decode cX8_best 14 = .ok (.newarray .int, 2) := by decide +kernel
theorem dX8_best_16 : decode cX8_best 16 = .ok (.dup, 1) := by decide +kernel
theorem dX8_best_17 : decode cX8_best 17 = .ok (.iconst 0, 1) := by decide +kernel
theorem dX8_best_18 : decode cX8_best 18 = .ok (.iconst 0, 1) := by decide +kernel
theorem dX8_best_19 : decode cX8_best 19 = .ok (.iastore, 1) := by decide +kernel
theorem dX8_best_20 : decode cX8_best 20 = .ok (.dup, 1) := by decide +kernel
theorem dX8_best_21 : decode cX8_best 21 = .ok (.iconst 1, 1) := by decide +kernel
theorem dX8_best_22 : decode cX8_best 22 = .ok (.iconst 0, 1) := by decide +kernel
theorem dX8_best_23 : decode cX8_best 23 = .ok (.iastore, 1) := by decide +kernel
theorem dX8_best_24 : decode cX8_best 24 = .ok (.areturn, 1) := by decide +kernel
theorem dX8_best_25 : decode cX8_best 25 = .ok (.aload_n 0, 1) := by decide +kernel
theorem dX8_best_26 : decode cX8_best 26 = .ok (.getfield 18, 3) := by decide +kernel
theorem dX8_best_29 : decode cX8_best 29 = .ok (.iload_n 2, 1) := by decide +kernel
theorem dX8_best_30 : decode cX8_best 30 = .ok (.invokestatic 69, 3) := by decide +kernel
theorem dX8_best_33 : decode cX8_best 33 = .ok (.invokevirtual 73, 3) := by decide +kernel
theorem dX8_best_36 : decode cX8_best 36 = .ok (.ifCond .eq 18, 3) := by decide +kernel
theorem dX8_best_39 : decode cX8_best 39 = .ok (.aload_n 0, 1) := by decide +kernel
theorem dX8_best_40 : decode cX8_best 40 = .ok (.getfield 18, 3) := by decide +kernel
theorem dX8_best_43 : decode cX8_best 43 = .ok (.iload_n 2, 1) := by decide +kernel
theorem dX8_best_44 : decode cX8_best 44 = .ok (.invokestatic 69, 3) := by decide +kernel
theorem dX8_best_47 : decode cX8_best 47 = .ok (.invokevirtual 77, 3) := by decide +kernel
theorem dX8_best_50 : decode cX8_best 50 = .ok (.checkcast 80, 3) := by decide +kernel
theorem dX8_best_53 : decode cX8_best 53 = .ok (.areturn, 1) := by decide +kernel
theorem dX8_best_54 : decode cX8_best 54 = .ok (.aconst_null, 1) := by decide +kernel
theorem dX8_best_55 : decode cX8_best 55 = .ok (.astore_n 3, 1) := by decide +kernel
theorem dX8_best_56 : decode cX8_best 56 = .ok (.iconst 0, 1) := by decide +kernel
theorem dX8_best_57 : decode cX8_best 57 = .ok (.istore 4, 2) := by decide +kernel
theorem dX8_best_59 : decode cX8_best 59 = .ok (.iload 4, 2) := by decide +kernel
theorem dX8_best_61 : decode cX8_best 61 = .ok (.aload_n 0, 1) := by decide +kernel
theorem dX8_best_62 : decode cX8_best 62 = .ok (.getfield 3, 3) := by decide +kernel
theorem dX8_best_65 : decode cX8_best 65 = .ok (.getfield 37, 3) := by decide +kernel
theorem dX8_best_68 : decode cX8_best 68 = .ok (.invokevirtual 81, 3) := by decide +kernel
theorem dX8_best_71 : decode cX8_best 71 = .ok (.if_icmp .ge 95, 3) := by decide +kernel
theorem dX8_best_74 : decode cX8_best 74 = .ok (.aload_n 0, 1) := by decide +kernel
theorem dX8_best_75 : decode cX8_best 75 = .ok (.iload 4, 2) := by decide +kernel
theorem dX8_best_77 : decode cX8_best 77 = .ok (.iload_n 1, 1) := by decide +kernel
theorem dX8_best_78 : decode cX8_best 78 = .ok (.iload_n 2, 1) := by decide +kernel
theorem dX8_best_79 : decode cX8_best 79 = .ok (.invokevirtual 82, 3) := by decide +kernel
theorem dX8_best_82 : decode cX8_best 82 = .ok (.ifCond .eq 19, 3) := by decide +kernel
theorem dX8_best_85 : decode cX8_best 85 = .ok (.aload_n 0, 1) := by decide +kernel
theorem dX8_best_86 : decode cX8_best 86 = .ok (.iload_n 1, 1) := by decide +kernel
theorem dX8_best_87 : decode cX8_best 87 = .ok (.iconst 1, 1) := by decide +kernel
theorem dX8_best_88 : decode cX8_best 88 = .ok (.iadd, 1) := by decide +kernel
theorem dX8_best_89 : decode cX8_best 89 = .ok (.iload_n 2, 1) := by decide +kernel
theorem dX8_best_90 : decode cX8_best 90 = .ok (.iconst 1, 1) := by decide +kernel
theorem dX8_best_91 : decode cX8_best 91 = .ok (.iload 4, 2) := by decide +kernel
theorem dX8_best_93 : decode cX8_best 93 = .ok (.ishl, 1) := by decide +kernel
theorem dX8_best_94 : decode cX8_best 94 = .ok (.ior, 1) := by decide +kernel
theorem dX8_best_95 : decode cX8_best 95 = .ok (.invokevirtual 86, 3) := by decide +kernel
theorem dX8_best_98 : decode cX8_best 98 = .ok (.goto 4, 3) := by decide +kernel
theorem dX8_best_101 : decode cX8_best 101 = .ok (.aconst_null, 1) := by decide +kernel
theorem dX8_best_102 : decode cX8_best 102 = .ok (.astore 5, 2) := by decide +kernel
theorem dX8_best_104 : decode cX8_best 104 = .ok (.aload 5, 2) := by decide +kernel
theorem dX8_best_106 : decode cX8_best 106 = .ok (.ifnonnull 6, 3) := by decide +kernel
theorem dX8_best_109 : decode cX8_best 109 = .ok (.goto 51, 3) := by decide +kernel
theorem dX8_best_112 : decode cX8_best 112 = .ok (.aload_n 0, 1) := by decide +kernel
theorem dX8_best_113 : decode cX8_best 113 = .ok (.iload 4, 2) := by decide +kernel
theorem dX8_best_115 : decode cX8_best 115 = .ok (.iload_n 1, 1) := by decide +kernel
theorem dX8_best_116 : decode cX8_best 116 = .ok (.aload 5, 2) := by decide +kernel
theorem dX8_best_118 : decode cX8_best 118 = .ok (.invokevirtual 90, 3) := by decide +kernel
theorem dX8_best_121 : decode cX8_best 121 = .ok (.astore 6, 2) := by decide +kernel
theorem dX8_best_123 : decode cX8_best 123 = .ok (.aload_n 3, 1) := by decide +kernel
theorem dX8_best_124 : decode cX8_best 124 = .ok (.ifnull 33, 3) := by decide +kernel
theorem dX8_best_127 : decode cX8_best 127 = .ok (.aload 6, 2) := by decide +kernel
theorem dX8_best_129 : decode cX8_best 129 = .ok (.iconst 0, 1) := by decide +kernel
theorem dX8_best_130 : decode cX8_best 130 = .ok (.iaload, 1) := by decide +kernel
theorem dX8_best_131 : decode cX8_best 131 = .ok (.aload_n 3, 1) := by decide +kernel
theorem dX8_best_132 : decode cX8_best 132 = .ok (.iconst 0, 1) := by decide +kernel
theorem dX8_best_133 : decode cX8_best 133 = .ok (.iaload, 1) := by decide +kernel
theorem dX8_best_134 : decode cX8_best 134 = .ok (.if_icmp .lt 23, 3) := by decide +kernel
theorem dX8_best_137 : decode cX8_best 137 = .ok (.aload 6, 2) := by decide +kernel
theorem dX8_best_139 : decode cX8_best 139 = .ok (.iconst 0, 1) := by decide +kernel
theorem dX8_best_140 : decode cX8_best 140 = .ok (.iaload, 1) := by decide +kernel
theorem dX8_best_141 : decode cX8_best 141 = .ok (.aload_n 3, 1) := by decide +kernel
theorem dX8_best_142 : decode cX8_best 142 = .ok (.iconst 0, 1) := by decide +kernel
theorem dX8_best_143 : decode cX8_best 143 = .ok (.iaload, 1) := by decide +kernel
theorem dX8_best_144 : decode cX8_best 144 = .ok (.if_icmp .ne 16, 3) := by decide +kernel
theorem dX8_best_147 : decode cX8_best 147 = .ok (.aload 6, 2) := by decide +kernel
theorem dX8_best_149 : decode cX8_best 149 = .ok (.iconst 1, 1) := by decide +kernel
theorem dX8_best_150 : decode cX8_best 150 = .ok (.iaload, 1) := by decide +kernel
theorem dX8_best_151 : decode cX8_best 151 = .ok (.aload_n 3, 1) := by decide +kernel
theorem dX8_best_152 : decode cX8_best 152 = .ok (.iconst 1, 1) := by decide +kernel
theorem dX8_best_153 : decode cX8_best 153 = .ok (.iaload, 1) := by decide +kernel
theorem dX8_best_154 : decode cX8_best 154 = .ok (.if_icmp .ge 6, 3) := by decide +kernel
theorem dX8_best_157 : decode cX8_best 157 = .ok (.aload 6, 2) := by decide +kernel
theorem dX8_best_159 : decode cX8_best 159 = .ok (.astore_n 3, 1) := by decide +kernel
theorem dX8_best_160 : decode cX8_best 160 = .ok (.iinc 4 1, 3) := by decide +kernel
theorem dX8_best_163 : decode cX8_best 163 = .ok (.goto (-104), 3) := by decide +kernel
theorem dX8_best_166 : decode cX8_best 166 = .ok (.aload_n 0, 1) := by decide +kernel
theorem dX8_best_167 : decode cX8_best 167 = .ok (.getfield 18, 3) := by decide +kernel
theorem dX8_best_170 : decode cX8_best 170 = .ok (.iload_n 2, 1) := by decide +kernel
theorem dX8_best_171 : decode cX8_best 171 = .ok (.invokestatic 69, 3) := by decide +kernel
theorem dX8_best_174 : decode cX8_best 174 = .ok (.aload_n 3, 1) := by decide +kernel
theorem dX8_best_175 : decode cX8_best 175 = .ok (.invokevirtual 94, 3) := by decide +kernel
theorem dX8_best_178 : decode cX8_best 178 = .ok (.pop, 1) := by decide +kernel
theorem dX8_best_179 : decode cX8_best 179 = .ok (.aload_n 3, 1) := by decide +kernel
theorem dX8_best_180 : decode cX8_best 180 = .ok (.areturn, 1) := by decide +kernel
set_option maxRecDepth 20000 in
theorem ggX8_row_X8_best : GoodIn wsX8_row wsX8_best := goodIn_ca (goodIn_r _ [8, 1, 2, 9, 10, 3, 11, 12, 13, 14, 15, 16, 17, 18, 19, 20, 21, 22, 23, 24, 25, 26, 27, 28, 29, 30, 31, 32, 33, 34, 35, 36, 37, 38, 39, 40, 41, 42, 43, 44, 45, 46, 47, 48, 49, 50, 51, 52, 53, 54, 55, 56, 57, 58, 59, 60, 61, 62, 63, 64, 65, 66, 67, 68, 69, 70, 71, 72, 73, 74, 75, 76, 77, 78, 79, 80, 81, 82, 83, 84, 85, 86, 87, 88, 89, 90, 91, 92, 93, 94, 95, 96, 97, 98, 99, 100, 101, 102, 103, 104, 105, 106, 107, 108, 109, 110, 111, 112, 113, 114, 115, 116, 117, 118, 119, 120, 121, 122, 123, 124, 125, 126, 127, 128, 129, 130, 131, 132, 133, 134, 135, 136, 137, 138, 139, 140, 141, 142, 143, 144, 145, 146, 147, 148, 149, 150, 151, 152, 153, 154, 155, 156, 157, 158, 159, 160, 161, 162, 163, 164, 165, 166, 167, 168, 169, 170, 7, 171, 172, 173, 174, 175, 176, 177, 178, 179, 180, 181, 182, 183, 184, 185, 186, 187, 188, 189, 190, 191, 192, 193, 194, 195, 196, 197, 198, 199, 200, 201, 202, 203, 204, 205, 4, 5, 6, 206, 207, 208, 209, 210, 211, 212, 213, 214, 215, 216, 217, 218, 219, 220, 221, 222, 223, 224, 225, 226, 227, 228, 229, 230, 231, 232, 233, 234, 235, 236, 237, 238, 239, 240, 241, 242, 243, 244, 245, 246, 247, 248, 249, 250, 251, 252, 253, 254, 255, 256, 257, 258, 259, 260, 261, 262, 263, 264, 265, 266, 267, 268, 269, 270, 271, 272, 273, 274, 275, 276, 277, 278, 279, 280, 281, 282, 283, 284, 285, 286, 287, 288, 289, 290, 291, 292, 293, 294, 295, 296, 297, 298, 299, 300, 301, 302, 303, 304, 305, 306, 307, 308, 309, 310, 311, 312, 313, 314, 315, 316, 317, 318, 322, 323, 324, 325, 326, 327, 328, 329, 330, 331, 332, 333, 334, 335, 336, 337, 338, 339, 340, 341, 342, 343, 344, 345, 346, 347, 348, 349, 350, 351, 352, 353, 354, 355, 356, 357, 358, 359, 360, 361, 362, 363, 364, 365, 366, 367, 368, 369, 370, 371, 372, 373, 374, 375] (by decide +kernel) (by decide +kernel)) (goodIn_sub (fun _ h => List.mem_cons_of_mem _ (List.mem_append_right _ h)) (by decide +kernel))
set_option maxRecDepth 20000 in
theorem gX8_row_X8_best : GoodIn wsX8_row (wsV RX8 86 RX8 yX8_best wsX8_best) := goodIn_app (goodIn_of _ (by decide +kernel)) ggX8_row_X8_best
set_option maxRecDepth 20000 in
theorem ggX8_row_Jx4a65c_size_8abf5 : GoodIn wsX8_row wsJx4a65c_size_8abf5 := goodIn_r _ [15, 16, 334, 335, 336] (by decide +kernel) (by decide +kernel)
set_option maxRecDepth 20000 in
theorem gX8_row_Jx4a65c_size_8abf5_f66Jx4a65c : GoodIn wsX8_row (va_wsF RX8 66 RJx4a65c ⟨"java/util/List", "size", "()I"⟩ yJx4a65c_size_8abf5 wsJx4a65c_size_8abf5) := goodIn_app (goodIn_of _ (by decide +kernel)) ggX8_row_Jx4a65c_size_8abf5
set_option maxRecDepth 20000 in
theorem ggX8_row_Jx6a02c_size_8abf5 : GoodIn wsX8_row wsJx6a02c_size_8abf5 := goodIn_r _ [20, 21, 337, 338] (by decide +kernel) (by decide +kernel)
set_option maxRecDepth 20000 in
theorem gX8_row_Jx6a02c_size_8abf5_f66Jx6a02c : GoodIn wsX8_row (va_wsF RX8 66 RJx6a02c ⟨"java/util/List", "size", "()I"⟩ yJx6a02c_size_8abf5 wsJx6a02c_size_8abf5) := goodIn_app (goodIn_of _ (by decide +kernel)) ggX8_row_Jx6a02c_size_8abf5
set_option maxRecDepth 20000 in
theorem gX8_row_Jx4a65c_size_8abf5 : GoodIn wsX8_row (wsV RX8 81 RJx4a65c yJx4a65c_size_8abf5 wsJx4a65c_size_8abf5) := goodIn_app (goodIn_of _ (by decide +kernel)) ggX8_row_Jx4a65c_size_8abf5
set_option maxRecDepth 20000 in
theorem ggX8_row_X8_fits : GoodIn wsX8_row wsX8_fits := goodIn_ca (goodIn_r _ [171, 172, 3, 173, 1, 174, 175, 176, 177, 14, 178, 16, 179, 180, 181, 182, 183, 184, 185, 186, 187, 188, 189, 190, 191, 192, 193, 194, 195, 19, 196, 197, 21, 198, 130, 131, 24, 132, 33, 199, 200, 201, 202, 203, 204, 205, 322, 323, 324, 325, 326, 327, 328, 329, 330, 331, 332, 333, 334, 335, 336, 337, 338, 339, 371, 372, 373, 374, 375] (by decide +kernel) (by decide +kernel)) (goodIn_sub (fun _ h => List.mem_cons_of_mem _ (List.mem_append_right _ h)) (by decide +kernel))
set_option maxRecDepth 20000 in
theorem gX8_row_X8_fits : GoodIn wsX8_row (wsV RX8 82 RX8 yX8_fits wsX8_fits) := goodIn_app (goodIn_of _ (by decide +kernel)) ggX8_row_X8_fits
set_option maxRecDepth 20000 in
theorem ggX8_row_X8_add : GoodIn wsX8_row wsX8_add := goodIn_ca (goodIn_r _ [209, 3, 173, 210, 1, 174, 2, 211, 212, 175, 176, 177, 14, 178, 16, 179, 180, 181, 182, 183, 184, 185, 186, 187, 188, 189, 190, 191, 192, 193, 194, 195, 19, 196, 197, 21, 198, 130, 131, 24, 132, 33, 322, 323, 324, 325, 326, 327, 328, 329, 330, 331, 332, 333, 371, 372, 373, 374, 375, 334, 335, 336, 337, 338, 339] (by decide +kernel) (by decide +kernel)) (goodIn_sub (fun _ h => List.mem_cons_of_mem _ (List.mem_append_right _ h)) (by decide +kernel))
set_option maxRecDepth 20000 in
theorem gX8_row_X8_add : GoodIn wsX8_row (wsV RX8 90 RX8 yX8_add wsX8_add) := goodIn_app (goodIn_of _ (by decide +kernel)) ggX8_row_X8_add
set_option maxRecDepth 20000 in
theorem ggX8_row_X14_isSameRow : GoodIn wsX8_row wsX14_isSameRow := goodIn_ca (goodIn_r _ [321] (by decide +kernel) (by decide +kernel)) (goodIn_sub (fun _ h => List.mem_cons_of_mem _ (List.mem_append_right _ h)) (by decide +kernel))
set_option maxRecDepth 20000 in
theorem gX8_row_X14_isSameRow_n98 : GoodIn wsX8_row (wsX14_isSameRow) := ggX8_row_X14_isSameRow
theorem dX8_row_0 : decode cX8_row 0 = .ok (.aload_n 0, 1) := by decide +kernel
theorem dX8_row_1 : decode cX8_row 1 = .ok (.iconst 0, 1) := by decide +kernel
theorem dX8_row_2 : decode cX8_row 2 = .ok (.iconst 0, 1) := by decide +kernel
theorem dX8_row_3 : decode cX8_row 3 = .ok (.invokevirtual 86, 3) := by decide +kernel
theorem dX8_row_6 : decode cX8_row 6 = .ok (.ifnonnull 5, 3) := by decide +kernel
theorem dX8_row_9 : decode cX8_row 9 = .ok (.aconst_null, 1) := by decide +kernel
theorem dX8_row_10 : decode cX8_row 10 = .ok (.areturn, 1) := by decide +kernel
theorem dX8_row_11 : decode cX8_row 11 = .ok (.aload_n 0, 1) := by decide +kernel
theorem dX8_row_12 : decode cX8_row 12 = .ok (.getfield 22, 3) := by decide +kernel
theorem dX8_row_15 : decode cX8_row 15 = .ok (.invokeinterface 66 1, 5) := by decide +kernel
theorem dX8_row_20 : decode cX8_row 20 = .ok (.newarray .int, 2) := by decide +kernel
theorem dX8_row_22 : decode cX8_row 22 = .ok (.astore_n 1, 1) := by decide +kernel
theorem dX8_row_23 : decode cX8_row 23 = .ok (.iconst 0, 1) := by decide +kernel
theorem dX8_row_24 : decode cX8_row 24 = .ok (.istore_n 2, 1) := by decide +kernel
theorem dX8_row_25 : decode cX8_row 25 = .ok (.iconst 0, 1) := by decide +kernel
theorem dX8_row_26 : decode cX8_row 26 = .ok (.istore_n 3, 1) := by decide +kernel
theorem dX8_row_27 : decode cX8_row 27 = .ok (.iload_n 3, 1) := by decide +kernel
theorem dX8_row_28 : decode cX8_row 28 = .ok (.aload_n 1, 1) := by decide +kernel
theorem dX8_row_29 : decode cX8_row 29 = .ok (.arraylength, 1) := by decide +kernel
theorem dX8_row_30 : decode cX8_row 30 = .ok (.if_icmp .ge 117, 3) := by decide +kernel
theorem dX8_row_33 : decode cX8_row 33 = .ok (.aload_n 0, 1) := by decide +kernel
theorem dX8_row_34 : decode cX8_row 34 = .ok (.iload_n 3, 1) := by decide +kernel
theorem dX8_row_35 : decode cX8_row 35 = .ok (.iload_n 2, 1) := by decide +kernel
theorem dX8_row_36 : decode cX8_row 36 = .ok (.invokevirtual 86, 3) := by decide +kernel
theorem dX8_row_39 : decode cX8_row 39 = .ok (.astore 4, 2) := by decide +kernel
theorem dX8_row_41 : decode cX8_row 41 = .ok (.aload_n 1, 1) := by decide +kernel
theorem dX8_row_42 : decode cX8_row 42 = .ok (.iload_n 3, 1) := by decide +kernel
theorem dX8_row_43 : decode cX8_row 43 = .ok (.iconst (-1), 1) := by decide +kernel
theorem dX8_row_44 : decode cX8_row 44 = .ok (.iastore, 1) := by decide +kernel
theorem dX8_row_45 : decode cX8_row 45 = .ok (.iconst 0, 1) := by decide +kernel
theorem dX8_row_46 : decode cX8_row 46 = .ok (.istore 5, 2) := by decide +kernel
theorem dX8_row_48 : decode cX8_row 48 = .ok (.iload 5, 2) := by decide +kernel
theorem dX8_row_50 : decode cX8_row 50 = .ok (.aload_n 0, 1) := by decide +kernel
theorem dX8_row_51 : decode cX8_row 51 = .ok (.getfield 3, 3) := by decide +kernel
theorem dX8_row_54 : decode cX8_row 54 = .ok (.getfield 37, 3) := by decide +kernel
theorem dX8_row_57 : decode cX8_row 57 = .ok (.invokevirtual 81, 3) := by decide +kernel
theorem dX8_row_60 : decode cX8_row 60 = .ok (.if_icmp .ge 73, 3) := by decide +kernel
theorem dX8_row_63 : decode cX8_row 63 = .ok (.aload_n 1, 1) := by decide +kernel
theorem dX8_row_64 : decode cX8_row 64 = .ok (.iload_n 3, 1) := by decide +kernel
theorem dX8_row_65 : decode cX8_row 65 = .ok (.iaload, 1) := by decide +kernel
theorem dX8_row_66 : decode cX8_row 66 = .ok (.iconst (-1), 1) := by decide +kernel
theorem dX8_row_67 : decode cX8_row 67 = .ok (.if_icmp .ne 66, 3) := by decide +kernel
theorem dX8_row_70 : decode cX8_row 70 = .ok (.aload_n 0, 1) := by decide +kernel
theorem dX8_row_71 : decode cX8_row 71 = .ok (.iload 5, 2) := by decide +kernel
theorem dX8_row_73 : decode cX8_row 73 = .ok (.iload_n 3, 1) := by decide +kernel
theorem dX8_row_74 : decode cX8_row 74 = .ok (.iload_n 2, 1) := by decide +kernel
theorem dX8_row_75 : decode cX8_row 75 = .ok (.invokevirtual 82, 3) := by decide +kernel
theorem dX8_row_78 : decode cX8_row 78 = .ok (.ifCond .eq 19, 3) := by decide +kernel
theorem dX8_row_81 : decode cX8_row 81 = .ok (.aload_n 0, 1) := by decide +kernel
theorem dX8_row_82 : decode cX8_row 82 = .ok (.iload_n 3, 1) := by decide +kernel
theorem dX8_row_83 : decode cX8_row 83 = .ok (.iconst 1, 1) := by decide +kernel
theorem dX8_row_84 : decode cX8_row 84 = .ok (.iadd, 1) := by decide +kernel
theorem dX8_row_85 : decode cX8_row 85 = .ok (.iload_n 2, 1) := by decide +kernel
theorem dX8_row_86 : decode cX8_row 86 = .ok (.iconst 1, 1) := by decide +kernel
theorem dX8_row_87 : decode cX8_row 87 = .ok (.iload 5, 2) := by decide +kernel
theorem dX8_row_89 : decode cX8_row 89 = .ok (.ishl, 1) := by decide +kernel
theorem dX8_row_90 : decode cX8_row 90 = .ok (.ior, 1) := by decide +kernel
theorem dX8_row_91 : decode cX8_row 91 = .ok (.invokevirtual 86, 3) := by decide +kernel
theorem dX8_row_94 : decode cX8_row 94 = .ok (.goto 4, 3) := by decide +kernel
theorem dX8_row_97 : decode cX8_row 97 = .ok (.aconst_null, 1) := by decide +kernel
theorem dX8_row_98 : decode cX8_row 98 = .ok (.astore 6, 2) := by decide +kernel
theorem dX8_row_100 : decode cX8_row 100 = .ok (.aload 6, 2) := by decide +kernel
theorem dX8_row_102 : decode cX8_row 102 = .ok (.ifnull 25, 3) := by decide +kernel
theorem dX8_row_105 : decode cX8_row 105 = .ok (.aload_n 0, 1) := by decide +kernel
theorem dX8_row_106 : decode cX8_row 106 = .ok (.iload 5, 2) := by decide +kernel
theorem dX8_row_108 : decode cX8_row 108 = .ok (.iload_n 3, 1) := by decide +kernel
theorem dX8_row_109 : decode cX8_row 109 = .ok (.aload 6, 2) := by decide +kernel
theorem dX8_row_111 : decode cX8_row 111 = .ok (.invokevirtual 90, 3) := by decide +kernel
theorem dX8_row_114 : decode cX8_row 114 = .ok (.aload 4, 2) := by decide +kernel
theorem dX8_row_116 : decode cX8_row 116 = .ok (.invokestatic 98, 3) := by decide +kernel
theorem dX8_row_119 : decode cX8_row 119 = .ok (.ifCond .eq 8, 3) := by decide +kernel
theorem dX8_row_122 : decode cX8_row 122 = .ok (.aload_n 1, 1) := by decide +kernel
theorem dX8_row_123 : decode cX8_row 123 = .ok (.iload_n 3, 1) := by decide +kernel
theorem dX8_row_124 : decode cX8_row 124 = .ok (.iload 5, 2) := by decide +kernel
theorem dX8_row_126 : decode cX8_row 126 = .ok (.iastore, 1) := by decide +kernel
theorem dX8_row_127 : decode cX8_row 127 = .ok (.iinc 5 1, 3) := by decide +kernel
theorem dX8_row_130 : decode cX8_row 130 = .ok (.goto (-82), 3) := by decide +kernel
theorem dX8_row_133 : decode cX8_row 133 = .ok (.iload_n 2, 1) := by decide +kernel
theorem dX8_row_134 : decode cX8_row 134 = .ok (.iconst 1, 1) := by decide +kernel
theorem dX8_row_135 : decode cX8_row 135 = .ok (.aload_n 1, 1) := by decide +kernel
theorem dX8_row_136 : decode cX8_row 136 = .ok (.iload_n 3, 1) := by decide +kernel
theorem dX8_row_137 : decode cX8_row 137 = .ok (.iaload, 1) := by decide +kernel
theorem dX8_row_138 : decode cX8_row 138 = .ok (.ishl, 1) := by decide +kernel
theorem dX8_row_139 : decode cX8_row 139 = .ok (.ior, 1) := by decide +kernel
theorem dX8_row_140 : decode cX8_row 140 = .ok (.istore_n 2, 1) := by decide +kernel
theorem dX8_row_141 : decode cX8_row 141 = .ok (.iinc 3 1, 3) := by decide +kernel
theorem dX8_row_144 : decode cX8_row 144 = .ok (.goto (-117), 3) := by decide +kernel
theorem dX8_row_147 : decode cX8_row 147 = .ok (.aload_n 1, 1) := by decide +kernel
theorem dX8_row_148 : decode cX8_row 148 = .ok (.areturn, 1) := by decide +kernel
set_option maxRecDepth 20000 in
theorem ggX9_init_Jx4a65c_init_da8c8 : GoodIn wsX9_init wsJx4a65c_init_da8c8 := goodIn_r _ [12, 13, 14, 15, 16, 17, 18, 19, 20, 21, 22, 23, 24, 2, 3, 25, 26, 27] (by decide +kernel) (by decide +kernel)
set_option maxRecDepth 20000 in
theorem gX9_init_Jx4a65c_init_da8c8 : GoodIn wsX9_init (wsJx4a65c_init_da8c8) := ggX9_init_Jx4a65c_init_da8c8
theorem dX9_init_0 : decode cX9_init 0 = .ok (.aload_n 0, 1) := by decide +kernel
theorem dX9_init_1 : decode cX9_init 1 = .ok (.invokespecial 1, 3) := by decide +kernel
theorem dX9_init_4 : decode cX9_init 4 = .ok (.aload_n 0, 1) := by decide +kernel
theorem dX9_init_5 : decode cX9_init 5 = .ok (.new 7, 3) := by decide +kernel
theorem dX9_init_8 : decode cX9_init 8 = .ok (.dup, 1) := by decide +kernel
theorem dX9_init_9 : decode cX9_init 9 = .ok (.invokespecial 9, 3) := by decide +kernel
theorem dX9_init_12 : decode cX9_init 12 = .ok (.putfield 10, 3) := by decide +kernel
theorem dX9_init_15 : decode cX9_init 15 = .ok (.aload_n 0, 1) := by decide +kernel
theorem dX9_init_16 : decode cX9_init 16 = .ok (.iload_n 1, 1) := by decide +kernel
theorem dX9_init_17 : decode cX9_init 17 = .ok (.putfield 16, 3) := by decide +kernel
theorem dX9_init_20 : decode cX9_init 20 = .ok (.aload_n 0, 1) := by decide +kernel
theorem dX9_init_21 : decode cX9_init 21 = .ok (.iload_n 2, 1) := by decide +kernel
theorem dX9_init_22 : decode cX9_init 22 = .ok (.putfield 20, 3) := by decide +kernel
theorem dX9_init_25 : decode cX9_init 25 = .ok (.return_, 1) := by decide +kernel
set_option maxRecDepth 20000 in
theorem ggX9_isNear_Jx4a65c_iterator_32c93 : GoodIn wsX9_isNear wsJx4a65c_iterator_32c93 := goodIn_r _ [11, 12, 13, 14, 15, 16, 17, 18, 19, 20, 21, 22, 23, 24, 25, 83, 84, 85, 86, 87, 88, 89] (by decide +kernel) (by decide +kernel)
set_option maxRecDepth 20000 in
theorem gX9_isNear_Jx4a65c_iterator_32c93 : GoodIn wsX9_isNear (wsV RX9 23 RJx4a65c yJx4a65c_iterator_32c93 wsJx4a65c_iterator_32c93) := goodIn_app (goodIn_of _ (by decide +kernel)) ggX9_isNear_Jx4a65c_iterator_32c93
set_option maxRecDepth 20000 in
theorem ggX9_isNear_Jx35411_hasNext_aae02 : GoodIn wsX9_isNear wsJx35411_hasNext_aae02 := goodIn_r _ [29, 30, 18, 83, 84, 85, 86, 87, 88, 89] (by decide +kernel) (by decide +kernel)
set_option maxRecDepth 20000 in
theorem gX9_isNear_Jx35411_hasNext_aae02_f27Jx35411 : GoodIn wsX9_isNear (va_wsF RX9 27 RJx35411 ⟨"java/util/Iterator", "hasNext", "()Z"⟩ yJx35411_hasNext_aae02 wsJx35411_hasNext_aae02) := goodIn_app (goodIn_of _ (by decide +kernel)) ggX9_isNear_Jx35411_hasNext_aae02
set_option maxRecDepth 20000 in
theorem ggX9_isNear_Jx95556_hasNext_aae02 : GoodIn wsX9_isNear wsJx95556_hasNext_aae02 := goodIn_r _ [34, 35, 36, 90, 91, 92, 93] (by decide +kernel) (by decide +kernel)
set_option maxRecDepth 20000 in
theorem gX9_isNear_Jx95556_hasNext_aae02_f27Jx95556 : GoodIn wsX9_isNear (va_wsF RX9 27 RJx95556 ⟨"java/util/Iterator", "hasNext", "()Z"⟩ yJx95556_hasNext_aae02 wsJx95556_hasNext_aae02) := goodIn_app (goodIn_of _ (by decide +kernel)) ggX9_isNear_Jx95556_hasNext_aae02
set_option maxRecDepth 20000 in
theorem ggX9_isNear_Jx35411_next_0502b : GoodIn wsX9_isNear wsJx35411_next_0502b := goodIn_r _ [40, 30, 18, 41, 22, 42, 43, 44, 14, 45, 23, 24, 25, 83, 84, 85, 86, 87, 88, 89] (by decide +kernel) (by decide +kernel)
set_option maxRecDepth 20000 in
theorem gX9_isNear_Jx35411_next_0502b_f33Jx35411 : GoodIn wsX9_isNear (va_wsF RX9 33 RJx35411 ⟨"java/util/Iterator", "next", "()Ljava/lang/Object;"⟩ yJx35411_next_0502b wsJx35411_next_0502b) := goodIn_app (goodIn_of _ (by decide +kernel)) ggX9_isNear_Jx35411_next_0502b
set_option maxRecDepth 20000 in
theorem ggX9_isNear_Jx95556_next_0502b : GoodIn wsX9_isNear wsJx95556_next_0502b := goodIn_r _ [48, 35, 49, 50, 51, 52, 10, 53, 54, 55, 56, 57, 58, 59, 60, 61, 62, 63, 64, 65, 66, 67, 68, 69, 70, 71, 72, 73, 90, 91, 92, 93, 87, 88, 89, 94, 95] (by decide +kernel) (by decide +kernel)
set_option maxRecDepth 20000 in
theorem gX9_isNear_Jx95556_next_0502b_f33Jx95556 : GoodIn wsX9_isNear (va_wsF RX9 33 RJx95556 ⟨"java/util/Iterator", "next", "()Ljava/lang/Object;"⟩ yJx95556_next_0502b wsJx95556_next_0502b) := goodIn_app (goodIn_of _ (by decide +kernel)) ggX9_isNear_Jx95556_next_0502b
set_option maxRecDepth 20000 in
theorem ggX9_isNear_J6_intValue_8abf5 : GoodIn wsX9_isNear wsJ6_intValue_8abf5 := goodIn_r _ [78, 79, 96] (by decide +kernel) (by decide +kernel)
set_option maxRecDepth 20000 in
theorem gX9_isNear_J6_intValue_8abf5 : GoodIn wsX9_isNear (wsV RX9 39 RJ6 yJ6_intValue_8abf5 wsJ6_intValue_8abf5) := goodIn_app (goodIn_of _ (by decide +kernel)) ggX9_isNear_J6_intValue_8abf5
theorem dX9_isNear_0 : decode cX9_isNear 0 = .ok (.iconst 0, 1) := by decide +kernel
theorem dX9_isNear_1 : decode cX9_isNear 1 = .ok (.istore_n 2, 1) := by decide +kernel
theorem dX9_isNear_2 : decode cX9_isNear 2 = .ok (.aload_n 0, 1) := by decide +kernel
theorem dX9_isNear_3 : decode cX9_isNear 3 = .ok (.getfield 10, 3) := by decide +kernel
theorem dX9_isNear_6 : decode cX9_isNear 6 = .ok (.invokevirtual 23, 3) := by decide +kernel
theorem dX9_isNear_9 : decode cX9_isNear 9 = .ok (.astore_n 3, 1) := by decide +kernel
theorem dX9_isNear_10 : decode cX9_isNear 10 = .ok (.aload_n 3, 1) := by decide +kernel
theorem dX9_isNear_11 : decode cX9_isNear 11 = .ok (.invokeinterface 27 1, 5) := by decide +kernel
theorem dX9_isNear_16 : decode cX9_isNear 16 = .ok (.ifCond .eq 42, 3) := by decide +kernel
theorem dX9_isNear_19 : decode cX9_isNear 19 = .ok (.aload_n 3, 1) := by decide +kernel
theorem dX9_isNear_20 : decode cX9_isNear 20 = .ok (.invokeinterface 33 1, 5) := by decide +kernel
theorem dX9_isNear_25 : decode cX9_isNear 25 = .ok (.checkcast 37, 3) := by decide +kernel
theorem dX9_isNear_28 : decode cX9_isNear 28 = .ok (.invokevirtual 39, 3) := by decide +kernel
theorem dX9_isNear_31 : decode cX9_isNear 31 = .ok (.istore 4, 2) := by decide +kernel
theorem dX9_isNear_33 : decode cX9_isNear 33 = .ok (.iload_n 2, 1) := by decide +kernel
theorem dX9_isNear_34 : decode cX9_isNear 34 = .ok (.ifCond .ne 15, 3) := by decide +kernel
theorem dX9_isNear_37 : decode cX9_isNear 37 = .ok (.iload 4, 2) := by decide +kernel
theorem dX9_isNear_39 : decode cX9_isNear 39 = .ok (.iload_n 1, 1) := by decide +kernel
theorem dX9_isNear_40 : decode cX9_isNear 40 = .ok (.isub, 1) := by decide +kernel
theorem dX9_isNear_41 : decode cX9_isNear 41 = .ok (.invokestatic 43, 3) := by decide +kernel
theorem dX9_isNear_44 : decode cX9_isNear 44 = .ok (.bipush 7, 2) := by decide +kernel
theorem dX9_isNear_46 : decode cX9_isNear 46 = .ok (.if_icmp .ge 7, 3) := by decide +kernel
theorem dX9_isNear_49 : decode cX9_isNear 49 = .ok (.iconst 1, 1) := by decide +kernel
theorem dX9_isNear_50 : decode cX9_isNear 50 = .ok (.goto 4, 3) := by decide +kernel
theorem dX9_isNear_53 : decode cX9_isNear 53 = .ok (.iconst 0, 1) := by decide +kernel
theorem dX9_isNear_54 : decode cX9_isNear 54 = .ok (.istore_n 2, 1) := by decide +kernel
theorem dX9_isNear_55 : decode cX9_isNear 55 = .ok (.goto (-45), 3) := by decide +kernel
theorem dX9_isNear_58 : decode cX9_isNear 58 = .ok (.iload_n 2, 1) := by decide +kernel
theorem dX9_isNear_59 : decode cX9_isNear 59 = .ok (.ireturn, 1) := by decide +kernel
theorem dX10_init_0 : decode cX10_init 0 = .ok (.aload_n 0, 1) := by decide +kernel
theorem dX10_init_1 : decode cX10_init 1 = .ok (.invokespecial 3, 3) := by decide +kernel
theorem dX10_init_4 : decode cX10_init 4 = .ok (.aload_n 0, 1) := by decide +kernel
theorem dX10_init_5 : decode cX10_init 5 = .ok (.sipush 400, 3) := by decide +kernel
theorem dX10_init_8 : decode cX10_init 8 = .ok (.newarray .boolean, 2) := by decide +kernel
theorem dX10_init_10 : decode cX10_init 10 = .ok (.putfield 9, 3) := by decide +kernel
theorem dX10_init_13 : decode cX10_init 13 = .ok (.aload_n 0, 1) := by decide +kernel
theorem dX10_init_14 : decode cX10_init 14 = .ok (.iload_n 1, 1) := by decide +kernel
theorem dX10_init_15 : decode cX10_init 15 = .ok (.putfield 15, 3) := by decide +kernel
theorem dX10_init_18 : decode cX10_init 18 = .ok (.aload_n 0, 1) := by decide +kernel
theorem dX10_init_19 : decode cX10_init 19 = .ok (.iload_n 2, 1) := by decide +kernel
theorem dX10_init_20 : decode cX10_init 20 = .ok (.putfield 19, 3) := by decide +kernel
theorem dX10_init_23 : decode cX10_init 23 = .ok (.return_, 1) := by decide +kernel
set_option maxRecDepth 20000 in
theorem ggX11_init_Jx4a65c_init_da8c8 : GoodIn wsX11_init wsJx4a65c_init_da8c8 := goodIn_r _ [15, 16, 17, 18, 19, 20, 21, 22, 23, 24, 25, 26, 27, 2, 3, 28, 29, 30] (by decide +kernel) (by decide +kernel)
set_option maxRecDepth 20000 in
theorem gX11_init_Jx4a65c_init_da8c8 : GoodIn wsX11_init (wsJx4a65c_init_da8c8) := ggX11_init_Jx4a65c_init_da8c8
theorem dX11_init_0 : decode cX11_init 0 = .ok (.aload_n 0, 1) := by decide +kernel
theorem dX11_init_1 : decode cX11_init 1 = .ok (.invokespecial 3, 3) := by decide +kernel
theorem dX11_init_4 : decode cX11_init 4 = .ok (.aload_n 0, 1) := by decide +kernel
theorem dX11_init_5 : decode cX11_init 5 = .ok (.new 9, 3) := by decide +kernel
theorem dX11_init_8 : decode cX11_init 8 = .ok (.dup, 1) := by decide +kernel
theorem dX11_init_9 : decode cX11_init 9 = .ok (.invokespecial 11, 3) := by decide +kernel
theorem dX11_init_12 : decode cX11_init 12 = .ok (.putfield 12, 3) := by decide +kernel
theorem dX11_init_15 : decode cX11_init 15 = .ok (.aload_n 0, 1) := by decide +kernel
theorem dX11_init_16 : decode cX11_init 16 = .ok (.bipush 12, 2) := by decide +kernel
theorem dX11_init_18 : decode cX11_init 18 = .ok (.newarray .boolean, 2) := by decide +kernel
theorem dX11_init_20 : decode cX11_init 20 = .ok (.putfield 18, 3) := by decide +kernel
theorem dX11_init_23 : decode cX11_init 23 = .ok (.aload_n 0, 1) := by decide +kernel
theorem dX11_init_24 : decode cX11_init 24 = .ok (.iload_n 1, 1) := by decide +kernel
theorem dX11_init_25 : decode cX11_init 25 = .ok (.putfield 22, 3) := by decide +kernel
theorem dX11_init_28 : decode cX11_init 28 = .ok (.aload_n 0, 1) := by decide +kernel
theorem dX11_init_29 : decode cX11_init 29 = .ok (.iload_n 2, 1) := by decide +kernel
theorem dX11_init_30 : decode cX11_init 30 = .ok (.putfield 26, 3) := by decide +kernel
theorem dX11_init_33 : decode cX11_init 33 = .ok (.aload_n 0, 1) := by decide +kernel
theorem dX11_init_34 : decode cX11_init 34 = .ok (.iload_n 3, 1) := by decide +kernel
theorem dX11_init_35 : decode cX11_init 35 = .ok (.putfield 29, 3) := by decide +kernel
theorem dX11_init_38 : decode cX11_init 38 = .ok (.return_, 1) := by decide +kernel
set_option maxRecDepth 20000 in
theorem ggX11_isAway_Jx4a65c_iterator_32c93 : GoodIn wsX11_isAway wsJx4a65c_iterator_32c93 := goodIn_r _ [7, 8, 9, 10, 11, 12, 13, 14, 15, 16, 17, 18, 19, 20, 21, 75, 76, 77, 78, 79, 80, 81] (by decide +kernel) (by decide +kernel)
set_option maxRecDepth 20000 in
theorem gX11_isAway_Jx4a65c_iterator_32c93 : GoodIn wsX11_isAway (wsV RX11 32 RJx4a65c yJx4a65c_iterator_32c93 wsJx4a65c_iterator_32c93) := goodIn_app (goodIn_of _ (by decide +kernel)) ggX11_isAway_Jx4a65c_iterator_32c93
set_option maxRecDepth 20000 in
theorem ggX11_isAway_Jx35411_hasNext_aae02 : GoodIn wsX11_isAway wsJx35411_hasNext_aae02 := goodIn_r _ [25, 26, 14, 75, 76, 77, 78, 79, 80, 81] (by decide +kernel) (by decide +kernel)
set_option maxRecDepth 20000 in
theorem gX11_isAway_Jx35411_hasNext_aae02_f36Jx35411 : GoodIn wsX11_isAway (va_wsF RX11 36 RJx35411 ⟨"java/util/Iterator", "hasNext", "()Z"⟩ yJx35411_hasNext_aae02 wsJx35411_hasNext_aae02) := goodIn_app (goodIn_of _ (by decide +kernel)) ggX11_isAway_Jx35411_hasNext_aae02
set_option maxRecDepth 20000 in
theorem ggX11_isAway_Jx95556_hasNext_aae02 : GoodIn wsX11_isAway wsJx95556_hasNext_aae02 := goodIn_r _ [30, 31, 32, 82, 83, 84, 85] (by decide +kernel) (by decide +kernel)
set_option maxRecDepth 20000 in
theorem gX11_isAway_Jx95556_hasNext_aae02_f36Jx95556 : GoodIn wsX11_isAway (va_wsF RX11 36 RJx95556 ⟨"java/util/Iterator", "hasNext", "()Z"⟩ yJx95556_hasNext_aae02 wsJx95556_hasNext_aae02) := goodIn_app (goodIn_of _ (by decide +kernel)) ggX11_isAway_Jx95556_hasNext_aae02
set_option maxRecDepth 20000 in
theorem ggX11_isAway_Jx35411_next_0502b : GoodIn wsX11_isAway wsJx35411_next_0502b := goodIn_r _ [36, 26, 14, 37, 18, 38, 39, 40, 10, 41, 19, 20, 21, 75, 76, 77, 78, 79, 80, 81] (by decide +kernel) (by decide +kernel)
set_option maxRecDepth 20000 in
theorem gX11_isAway_Jx35411_next_0502b_f42Jx35411 : GoodIn wsX11_isAway (va_wsF RX11 42 RJx35411 ⟨"java/util/Iterator", "next", "()Ljava/lang/Object;"⟩ yJx35411_next_0502b wsJx35411_next_0502b) := goodIn_app (goodIn_of _ (by decide +kernel)) ggX11_isAway_Jx35411_next_0502b
set_option maxRecDepth 20000 in
theorem ggX11_isAway_Jx95556_next_0502b : GoodIn wsX11_isAway wsJx95556_next_0502b := goodIn_r _ [44, 31, 45, 46, 47, 48, 6, 49, 50, 51, 52, 53, 54, 55, 56, 57, 58, 59, 60, 61, 62, 63, 64, 65, 66, 67, 68, 69, 82, 83, 84, 85, 79, 80, 81, 86, 87] (by decide +kernel) (by decide +kernel)
set_option maxRecDepth 20000 in
theorem gX11_isAway_Jx95556_next_0502b_f42Jx95556 : GoodIn wsX11_isAway (va_wsF RX11 42 RJx95556 ⟨"java/util/Iterator", "next", "()Ljava/lang/Object;"⟩ yJx95556_next_0502b wsJx95556_next_0502b) := goodIn_app (goodIn_of _ (by decide +kernel)) ggX11_isAway_Jx95556_next_0502b
theorem dX11_isAway_0 : decode cX11_isAway 0 = .ok (.iconst 0, 1) := by decide +kernel
theorem dX11_isAway_1 : decode cX11_isAway 1 = .ok (.istore_n 2, 1) := by decide +kernel
theorem dX11_isAway_2 : decode cX11_isAway 2 = .ok (.aload_n 0, 1) := by decide +kernel
theorem dX11_isAway_3 : decode cX11_isAway 3 = .ok (.getfield 12, 3) := by decide +kernel
theorem dX11_isAway_6 : decode cX11_isAway 6 = .ok (.invokevirtual 32, 3) := by decide +kernel
theorem dX11_isAway_9 : decode cX11_isAway 9 = .ok (.astore_n 3, 1) := by decide +kernel
theorem dX11_isAway_10 : decode cX11_isAway 10 = .ok (.aload_n 3, 1) := by decide +kernel
theorem dX11_isAway_11 : decode cX11_isAway 11 = .ok (.invokeinterface 36 1, 5) := by decide +kernel
theorem dX11_isAway_16 : decode cX11_isAway 16 = .ok (.ifCond .eq 43, 3) := by decide +kernel
theorem dX11_isAway_19 : decode cX11_isAway 19 = .ok (.aload_n 3, 1) := by decide +kernel
theorem dX11_isAway_20 : decode cX11_isAway 20 = .ok (.invokeinterface 42 1, 5) := by decide +kernel
theorem dX11_isAway_25 : decode cX11_isAway 25 = .ok (.checkcast 46, 3) := by decide +kernel
theorem dX11_isAway_28 : decode cX11_isAway 28 = .ok (.astore 4, 2) := by decide +kernel
theorem dX11_isAway_30 : decode cX11_isAway 30 = .ok (.iload_n 2, 1) := by decide +kernel
theorem dX11_isAway_31 : decode cX11_isAway 31 = .ok (.ifCond .ne 19, 3) := by decide +kernel
theorem dX11_isAway_34 : decode cX11_isAway 34 = .ok (.iload_n 1, 1) := by decide +kernel
theorem dX11_isAway_35 : decode cX11_isAway 35 = .ok (.aload 4, 2) := by decide +kernel
theorem dX11_isAway_37 : decode cX11_isAway 37 = .ok (.iconst 0, 1) := by decide +kernel
theorem dX11_isAway_38 : decode cX11_isAway 38 = .ok (.iaload, 1) := by decide +kernel
theorem dX11_isAway_39 : decode cX11_isAway 39 = .ok (.if_icmp .lt 15, 3) := by decide +kernel
theorem dX11_isAway_42 : decode cX11_isAway 42 = .ok (.iload_n 1, 1) := by decide +kernel
theorem dX11_isAway_43 : decode cX11_isAway 43 = .ok (.aload 4, 2) := by decide +kernel
theorem dX11_isAway_45 : decode cX11_isAway 45 = .ok (.iconst 1, 1) := by decide +kernel
theorem dX11_isAway_46 : decode cX11_isAway 46 = .ok (.iaload, 1) := by decide +kernel
theorem dX11_isAway_47 : decode cX11_isAway 47 = .ok (.if_icmp .gt 7, 3) := by decide +kernel
theorem dX11_isAway_50 : decode cX11_isAway 50 = .ok (.iconst 1, 1) := by decide +kernel
theorem dX11_isAway_51 : decode cX11_isAway 51 = .ok (.goto 4, 3) := by decide +kernel
theorem dX11_isAway_54 : decode cX11_isAway 54 = .ok (.iconst 0, 1) := by decide +kernel
theorem dX11_isAway_55 : decode cX11_isAway 55 = .ok (.istore_n 2, 1) := by decide +kernel
theorem dX11_isAway_56 : decode cX11_isAway 56 = .ok (.goto (-46), 3) := by decide +kernel
theorem dX11_isAway_59 : decode cX11_isAway 59 = .ok (.iload_n 2, 1) := by decide +kernel
theorem dX11_isAway_60 : decode cX11_isAway 60 = .ok (.ireturn, 1) := by decide +kernel
theorem dX11_plays_0 : decode cX11_plays 0 = .ok (.aload_n 0, 1) := by decide +kernel
theorem dX11_plays_1 : decode cX11_plays 1 = .ok (.getfield 22, 3) := by decide +kernel
theorem dX11_plays_4 : decode cX11_plays 4 = .ok (.iload_n 1, 1) := by decide +kernel
theorem dX11_plays_5 : decode cX11_plays 5 = .ok (.if_icmp .eq 15, 3) := by decide +kernel
theorem dX11_plays_8 : decode cX11_plays 8 = .ok (.aload_n 0, 1) := by decide +kernel
theorem dX11_plays_9 : decode cX11_plays 9 = .ok (.getfield 26, 3) := by decide +kernel
theorem dX11_plays_12 : decode cX11_plays 12 = .ok (.iload_n 1, 1) := by decide +kernel
theorem dX11_plays_13 : decode cX11_plays 13 = .ok (.ishr, 1) := by decide +kernel
theorem dX11_plays_14 : decode cX11_plays 14 = .ok (.iconst 1, 1) := by decide +kernel
theorem dX11_plays_15 : decode cX11_plays 15 = .ok (.iand, 1) := by decide +kernel
theorem dX11_plays_16 : decode cX11_plays 16 = .ok (.iconst 1, 1) := by decide +kernel
theorem dX11_plays_17 : decode cX11_plays 17 = .ok (.if_icmp .ne 7, 3) := by decide +kernel
theorem dX11_plays_20 : decode cX11_plays 20 = .ok (.iconst 1, 1) := by decide +kernel
theorem dX11_plays_21 : decode cX11_plays 21 = .ok (.goto 4, 3) := by decide +kernel
theorem dX11_plays_24 : decode cX11_plays 24 = .ok (.iconst 0, 1) := by decide +kernel
theorem dX11_plays_25 : decode cX11_plays 25 = .ok (.ireturn, 1) := by decide +kernel
set_option maxRecDepth 20000 in
theorem ggX12_init_Jx4a65c_init_da8c8 : GoodIn wsX12_init wsJx4a65c_init_da8c8 := goodIn_r _ [23, 24, 25, 26, 27, 28, 29, 30, 31, 32, 33, 34, 35, 2, 3, 36, 37, 38] (by decide +kernel) (by decide +kernel)
set_option maxRecDepth 20000 in
theorem gX12_init_Jx4a65c_init_da8c8 : GoodIn wsX12_init (wsJx4a65c_init_da8c8) := ggX12_init_Jx4a65c_init_da8c8
theorem dX12_init_0 : decode cX12_init 0 = .ok (.aload_n 0, 1) := by decide +kernel
theorem dX12_init_1 : decode cX12_init 1 = .ok (.invokespecial 3, 3) := by decide +kernel
theorem dX12_init_4 : decode cX12_init 4 = .ok (.aload_n 0, 1) := by decide +kernel
theorem dX12_init_5 : decode cX12_init 5 = .ok (.new 9, 3) := by decide +kernel
theorem dX12_init_8 : decode cX12_init 8 = .ok (.dup, 1) := by decide +kernel
theorem dX12_init_9 : decode cX12_init 9 = .ok (.invokespecial 11, 3) := by decide +kernel
theorem dX12_init_12 : decode cX12_init 12 = .ok (.putfield 12, 3) := by decide +kernel
theorem dX12_init_15 : decode cX12_init 15 = .ok (.aload_n 0, 1) := by decide +kernel
theorem dX12_init_16 : decode cX12_init 16 = .ok (.bipush 14, 2) := by decide +kernel
theorem dX12_init_18 : decode cX12_init 18 = .ok (.newarray .boolean, 2) := by decide +kernel
theorem dX12_init_20 : decode cX12_init 20 = .ok (.putfield 18, 3) := by decide +kernel
theorem dX12_init_23 : decode cX12_init 23 = .ok (.aload_n 0, 1) := by decide +kernel
theorem dX12_init_24 : decode cX12_init 24 = .ok (.bipush 12, 2) := by decide +kernel
theorem dX12_init_26 : decode cX12_init 26 = .ok (.anewarray 22, 3) := by decide +kernel
theorem dX12_init_29 : decode cX12_init 29 = .ok (.putfield 24, 3) := by decide +kernel
theorem dX12_init_32 : decode cX12_init 32 = .ok (.aload_n 0, 1) := by decide +kernel
theorem dX12_init_33 : decode cX12_init 33 = .ok (.iconst 0, 1) := by decide +kernel
theorem dX12_init_34 : decode cX12_init 34 = .ok (.putfield 28, 3) := by decide +kernel
theorem dX12_init_37 : decode cX12_init 37 = .ok (.aload_n 0, 1) := by decide +kernel
theorem dX12_init_38 : decode cX12_init 38 = .ok (.iconst (-1), 1) := by decide +kernel
theorem dX12_init_39 : decode cX12_init 39 = .ok (.putfield 32, 3) := by decide +kernel
theorem dX12_init_42 : decode cX12_init 42 = .ok (.aload_n 0, 1) := by decide +kernel
theorem dX12_init_43 : decode cX12_init 43 = .ok (.iconst (-1), 1) := by decide +kernel
theorem dX12_init_44 : decode cX12_init 44 = .ok (.putfield 36, 3) := by decide +kernel
theorem dX12_init_47 : decode cX12_init 47 = .ok (.aload_n 0, 1) := by decide +kernel
theorem dX12_init_48 : decode cX12_init 48 = .ok (.iconst (-1), 1) := by decide +kernel
theorem dX12_init_49 : decode cX12_init 49 = .ok (.putfield 39, 3) := by decide +kernel
theorem dX12_init_52 : decode cX12_init 52 = .ok (.aload_n 0, 1) := by decide +kernel
theorem dX12_init_53 : decode cX12_init 53 = .ok (.iload_n 1, 1) := by decide +kernel
theorem dX12_init_54 : decode cX12_init 54 = .ok (.putfield 42, 3) := by decide +kernel
theorem dX12_init_57 : decode cX12_init 57 = .ok (.aload_n 0, 1) := by decide +kernel
theorem dX12_init_58 : decode cX12_init 58 = .ok (.iload_n 2, 1) := by decide +kernel
theorem dX12_init_59 : decode cX12_init 59 = .ok (.putfield 46, 3) := by decide +kernel
theorem dX12_init_62 : decode cX12_init 62 = .ok (.aload_n 0, 1) := by decide +kernel
theorem dX12_init_63 : decode cX12_init 63 = .ok (.iload_n 3, 1) := by decide +kernel
theorem dX12_init_64 : decode cX12_init 64 = .ok (.putfield 49, 3) := by decide +kernel
theorem dX12_init_67 : decode cX12_init 67 = .ok (.aload_n 0, 1) := by decide +kernel
theorem dX12_init_68 : decode cX12_init 68 = .ok (.iload 4, 2) := by decide +kernel
theorem dX12_init_70 : decode cX12_init 70 = .ok (.putfield 52, 3) := by decide +kernel
theorem dX12_init_73 : decode cX12_init 73 = .ok (.aload_n 0, 1) := by decide +kernel
theorem dX12_init_74 : decode cX12_init 74 = .ok (.iload 5, 2) := by decide +kernel
theorem dX12_init_76 : decode cX12_init 76 = .ok (.putfield 55, 3) := by decide +kernel
theorem dX12_init_79 : decode cX12_init 79 = .ok (.return_, 1) := by decide +kernel
theorem dX12_end_0 : decode cX12_end 0 = .ok (.aload_n 0, 1) := by decide +kernel
theorem dX12_end_1 : decode cX12_end 1 = .ok (.getfield 49, 3) := by decide +kernel
theorem dX12_end_4 : decode cX12_end 4 = .ok (.aload_n 0, 1) := by decide +kernel
theorem dX12_end_5 : decode cX12_end 5 = .ok (.getfield 52, 3) := by decide +kernel
theorem dX12_end_8 : decode cX12_end 8 = .ok (.iadd, 1) := by decide +kernel
theorem dX12_end_9 : decode cX12_end 9 = .ok (.ireturn, 1) := by decide +kernel
theorem dX12_has_0 : decode cX12_has 0 = .ok (.iconst 0, 1) := by decide +kernel
theorem dX12_has_1 : decode cX12_has 1 = .ok (.istore_n 2, 1) := by decide +kernel
theorem dX12_has_2 : decode cX12_has 2 = .ok (.aload_n 0, 1) := by decide +kernel
theorem dX12_has_3 : decode cX12_has 3 = .ok (.getfield 24, 3) := by decide +kernel
theorem dX12_has_6 : decode cX12_has 6 = .ok (.astore_n 3, 1) := by decide +kernel
theorem dX12_has_7 : decode cX12_has 7 = .ok (.aload_n 3, 1) := by decide +kernel
theorem dX12_has_8 : decode cX12_has 8 = .ok (.arraylength, 1) := by decide +kernel
theorem dX12_has_9 : decode cX12_has 9 = .ok (.istore 4, 2) := by decide +kernel
theorem dX12_has_11 : decode cX12_has 11 = .ok (.iconst 0, 1) := by decide +kernel
theorem dX12_has_12 : decode cX12_has 12 = .ok (.istore 5, 2) := by decide +kernel
theorem dX12_has_14 : decode cX12_has 14 = .ok (.iload 5, 2) := by decide +kernel
theorem dX12_has_16 : decode cX12_has 16 = .ok (.iload 4, 2) := by decide +kernel
theorem dX12_has_18 : decode cX12_has 18 = .ok (.if_icmp .ge 63, 3) := by decide +kernel
theorem dX12_has_21 : decode cX12_has 21 = .ok (.aload_n 3, 1) := by decide +kernel
theorem dX12_has_22 : decode cX12_has 22 = .ok (.iload 5, 2) := by decide +kernel
theorem dX12_has_24 : decode cX12_has 24 = .ok (.aaload, 1) := by decide +kernel
theorem dX12_has_25 : decode cX12_has 25 = .ok (.astore 6, 2) := by decide +kernel
theorem dX12_has_27 : decode cX12_has 27 = .ok (.iconst 0, 1) := by decide +kernel
theorem dX12_has_28 : decode cX12_has 28 = .ok (.istore 7, 2) := by decide +kernel
theorem dX12_has_30 : decode cX12_has 30 = .ok (.aload_n 0, 1) := by decide +kernel
theorem dX12_has_31 : decode cX12_has 31 = .ok (.getfield 28, 3) := by decide +kernel
theorem dX12_has_34 : decode cX12_has 34 = .ok (.ifCond .eq 41, 3) := by decide +kernel
theorem dX12_has_37 : decode cX12_has 37 = .ok (.aload 6, 2) := by decide +kernel
theorem dX12_has_39 : decode cX12_has 39 = .ok (.ifnull 36, 3) := by decide +kernel
theorem dX12_has_42 : decode cX12_has 42 = .ok (.iload 7, 2) := by decide +kernel
theorem dX12_has_44 : decode cX12_has 44 = .ok (.aload 6, 2) := by decide +kernel
theorem dX12_has_46 : decode cX12_has 46 = .ok (.arraylength, 1) := by decide +kernel
theorem dX12_has_47 : decode cX12_has 47 = .ok (.if_icmp .ge 28, 3) := by decide +kernel
theorem dX12_has_50 : decode cX12_has 50 = .ok (.iload_n 2, 1) := by decide +kernel
theorem dX12_has_51 : decode cX12_has 51 = .ok (.ifCond .ne 12, 3) := by decide +kernel
theorem dX12_has_54 : decode cX12_has 54 = .ok (.aload 6, 2) := by decide +kernel
theorem dX12_has_56 : decode cX12_has 56 = .ok (.iload 7, 2) := by decide +kernel
theorem dX12_has_58 : decode cX12_has 58 = .ok (.iaload, 1) := by decide +kernel
theorem dX12_has_59 : decode cX12_has 59 = .ok (.iload_n 1, 1) := by decide +kernel
theorem dX12_has_60 : decode cX12_has 60 = .ok (.if_icmp .ne 7, 3) := by decide +kernel
theorem dX12_has_63 : decode cX12_has 63 = .ok (.iconst 1, 1) := by decide +kernel
theorem dX12_has_64 : decode cX12_has 64 = .ok (.goto 4, 3) := by decide +kernel
theorem dX12_has_67 : decode cX12_has 67 = .ok (.iconst 0, 1) := by decide +kernel
theorem dX12_has_68 : decode cX12_has 68 = .ok (.istore_n 2, 1) := by decide +kernel
theorem dX12_has_69 : decode cX12_has 69 = .ok (.iinc 7 1, 3) := by decide +kernel
theorem dX12_has_72 : decode cX12_has 72 = .ok (.goto (-42), 3) := by decide +kernel
theorem dX12_has_75 : decode cX12_has 75 = .ok (.iinc 5 1, 3) := by decide +kernel
theorem dX12_has_78 : decode cX12_has 78 = .ok (.goto (-64), 3) := by decide +kernel
theorem dX12_has_81 : decode cX12_has 81 = .ok (.iload_n 2, 1) := by decide +kernel
theorem dX12_has_82 : decode cX12_has 82 = .ok (.ireturn, 1) := by decide +kernel
set_option maxRecDepth 20000 in
theorem ggX12_clear_J7_fill_dc63a : GoodIn wsX12_clear wsJ7_fill_dc63a := goodIn_r _ [5] (by decide +kernel) (by decide +kernel)
set_option maxRecDepth 20000 in
theorem gX12_clear_J7_fill_dc63a : GoodIn wsX12_clear (va_wsS RX12 58 yJ7_fill_dc63a wsJ7_fill_dc63a) := goodIn_app (goodIn_of _ (by decide +kernel)) ggX12_clear_J7_fill_dc63a
theorem dX12_clear_0 : decode cX12_clear 0 = .ok (.aload_n 0, 1) := by decide +kernel
theorem dX12_clear_1 : decode cX12_clear 1 = .ok (.getfield 24, 3) := by decide +kernel
theorem dX12_clear_4 : decode cX12_clear 4 = .ok (.aconst_null, 1) := by decide +kernel
theorem dX12_clear_5 : decode cX12_clear 5 = .ok (.invokestatic 58, 3) := by decide +kernel
theorem dX12_clear_8 : decode cX12_clear 8 = .ok (.return_, 1) := by decide +kernel
set_option maxRecDepth 20000 in
theorem ggX13_init_Jx4a65c_init_da8c8 : GoodIn wsX13_init wsJx4a65c_init_da8c8 := goodIn_r _ [15, 16, 17, 18, 19, 20, 21, 22, 23, 24, 25, 26, 27, 2, 3, 33, 34, 35] (by decide +kernel) (by decide +kernel)
set_option maxRecDepth 20000 in
theorem gX13_init_Jx4a65c_init_da8c8 : GoodIn wsX13_init (wsJx4a65c_init_da8c8) := ggX13_init_Jx4a65c_init_da8c8
theorem dX13_init_0 : decode cX13_init 0 = .ok (.aload_n 0, 1) := by decide +kernel
theorem dX13_init_1 : decode cX13_init 1 = .ok (.invokespecial 3, 3) := by decide +kernel
theorem dX13_init_4 : decode cX13_init 4 = .ok (.aload_n 0, 1) := by decide +kernel
theorem dX13_init_5 : decode cX13_init 5 = .ok (.bipush 6, 2) := by decide +kernel
theorem dX13_init_7 : decode cX13_init 7 = .ok (.newarray .int, 2) := by decide +kernel
theorem dX13_init_9 : decode cX13_init 9 = .ok (.putfield 9, 3) := by decide +kernel
theorem dX13_init_12 : decode cX13_init 12 = .ok (.aload_n 0, 1) := by decide +kernel
theorem dX13_init_13 : decode cX13_init 13 = .ok (.new 15, 3) := by decide +kernel
theorem dX13_init_16 : decode cX13_init 16 = .ok (.dup, 1) := by decide +kernel
theorem dX13_init_17 : decode cX13_init 17 = .ok (.invokespecial 17, 3) := by decide +kernel
theorem dX13_init_20 : decode cX13_init 20 = .ok (.putfield 18, 3) := by decide +kernel
theorem dX13_init_23 : decode cX13_init 23 = .ok (.aload_n 0, 1) := by decide +kernel
theorem dX13_init_24 : decode cX13_init 24 = .ok (.iconst 0, 1) := by decide +kernel
theorem dX13_init_25 : decode cX13_init 25 = .ok (.putfield 22, 3) := by decide +kernel
theorem dX13_init_28 : decode cX13_init 28 = .ok (.aload_n 0, 1) := by decide +kernel
theorem dX13_init_29 : decode cX13_init 29 = .ok (.iload_n 1, 1) := by decide +kernel
theorem dX13_init_30 : decode cX13_init 30 = .ok (.putfield 26, 3) := by decide +kernel
theorem dX13_init_33 : decode cX13_init 33 = .ok (.aload_n 0, 1) := by decide +kernel
theorem dX13_init_34 : decode cX13_init 34 = .ok (.iload_n 2, 1) := by decide +kernel
theorem dX13_init_35 : decode cX13_init 35 = .ok (.putfield 30, 3) := by decide +kernel
theorem dX13_init_38 : decode cX13_init 38 = .ok (.return_, 1) := by decide +kernel
set_option maxRecDepth 20000 in
theorem ggX13_all_Jx4a65c_init_da8c8 : GoodIn wsX13_all wsJx4a65c_init_da8c8 := goodIn_r _ [7, 8, 9, 10, 11, 12, 13, 14, 15, 16, 17, 18, 19, 20, 21, 95, 96, 97] (by decide +kernel) (by decide +kernel)
set_option maxRecDepth 20000 in
theorem gX13_all_Jx4a65c_init_da8c8 : GoodIn wsX13_all (wsJx4a65c_init_da8c8) := ggX13_all_Jx4a65c_init_da8c8
set_option maxRecDepth 20000 in
theorem ggX13_all_J6_valueOf_2dffe : GoodIn wsX13_all wsJ6_valueOf_2dffe := goodIn_r _ [25, 26, 27, 28, 29, 24, 30, 31, 32, 33, 34, 35, 36, 37, 38, 20, 21, 103] (by decide +kernel) (by decide +kernel)
set_option maxRecDepth 20000 in
theorem gX13_all_J6_valueOf_2dffe : GoodIn wsX13_all (va_wsS RX13 33 yJ6_valueOf_2dffe wsJ6_valueOf_2dffe) := goodIn_app (goodIn_of _ (by decide +kernel)) ggX13_all_J6_valueOf_2dffe
set_option maxRecDepth 20000 in
theorem ggX13_all_Jx4a65c_add_9ea2d : GoodIn wsX13_all wsJx4a65c_add_9ea2d := goodIn_r _ [42, 43, 44, 9, 45, 46, 47, 48, 3, 49, 50, 51, 52, 53, 54, 55, 56, 57, 8, 58, 59, 60, 61, 62, 63, 64, 65, 66, 67, 68, 69, 70, 71, 72, 73, 74, 75, 76, 77, 78, 79, 80, 81, 82, 83, 84, 85, 86, 87, 88, 89, 90, 91, 92, 93, 94, 95, 96, 97, 104, 105, 106, 107] (by decide +kernel) (by decide +kernel)
set_option maxRecDepth 20000 in
theorem gX13_all_Jx4a65c_add_9ea2d : GoodIn wsX13_all (wsV RX13 39 RJx4a65c yJx4a65c_add_9ea2d wsJx4a65c_add_9ea2d) := goodIn_app (goodIn_of _ (by decide +kernel)) ggX13_all_Jx4a65c_add_9ea2d
theorem dX13_all_0 : decode cX13_all 0 = .ok (.new 15, 3) := by decide +kernel
theorem dX13_all_3 : decode cX13_all 3 = .ok (.dup, 1) := by decide +kernel
theorem dX13_all_4 : decode cX13_all 4 = .ok (.invokespecial 17, 3) := by decide +kernel
theorem dX13_all_7 : decode cX13_all 7 = .ok (.astore_n 1, 1) := by decide +kernel
theorem dX13_all_8 : decode cX13_all 8 = .ok (.iconst 0, 1) := by decide +kernel
theorem dX13_all_9 : decode cX13_all 9 = .ok (.istore_n 2, 1) := by decide +kernel
theorem dX13_all_10 : decode cX13_all 10 = .ok (.iload_n 2, 1) := by decide +kernel
theorem dX13_all_11 : decode cX13_all 11 = .ok (.bipush 6, 2) := by decide +kernel
theorem dX13_all_13 : decode cX13_all 13 = .ok (.if_icmp .ge 36, 3) := by decide +kernel
theorem dX13_all_16 : decode cX13_all 16 = .ok (.iconst 0, 1) := by decide +kernel
theorem dX13_all_17 : decode cX13_all 17 = .ok (.istore_n 3, 1) := by decide +kernel
theorem dX13_all_18 : decode cX13_all 18 = .ok (.iload_n 3, 1) := by decide +kernel
theorem dX13_all_19 : decode cX13_all 19 = .ok (.aload_n 0, 1) := by decide +kernel
theorem dX13_all_20 : decode cX13_all 20 = .ok (.getfield 9, 3) := by decide +kernel
theorem dX13_all_23 : decode cX13_all 23 = .ok (.iload_n 2, 1) := by decide +kernel
theorem dX13_all_24 : decode cX13_all 24 = .ok (.iaload, 1) := by decide +kernel
theorem dX13_all_25 : decode cX13_all 25 = .ok (.if_icmp .ge 18, 3) := by decide +kernel
theorem dX13_all_28 : decode cX13_all 28 = .ok (.aload_n 1, 1) := by decide +kernel
theorem dX13_all_29 : decode cX13_all 29 = .ok (.iload_n 2, 1) := by decide +kernel
theorem dX13_all_30 : decode cX13_all 30 = .ok (.invokestatic 33, 3) := by decide +kernel
theorem dX13_all_33 : decode cX13_all 33 = .ok (.invokevirtual 39, 3) := by decide +kernel
theorem dX13_all_36 : decode cX13_all 36 = .ok (.pop, 1) := by decide +kernel
theorem dX13_all_37 : decode cX13_all 37 = .ok (.iinc 3 1, 3) := by decide +kernel
theorem dX13_all_40 : decode cX13_all 40 = .ok (.goto (-22), 3) := by decide +kernel
theorem dX13_all_43 : decode cX13_all 43 = .ok (.iinc 2 1, 3) := by decide +kernel
theorem dX13_all_46 : decode cX13_all 46 = .ok (.goto (-36), 3) := by decide +kernel
theorem dX13_all_49 : decode cX13_all 49 = .ok (.aload_n 1, 1) := by decide +kernel
theorem dX13_all_50 : decode cX13_all 50 = .ok (.areturn, 1) := by decide +kernel
set_option maxRecDepth 20000 in
theorem ggX13_isThere_Jx4a65c_iterator_32c93 : GoodIn wsX13_isThere wsJx4a65c_iterator_32c93 := goodIn_r _ [8, 9, 10, 11, 12, 13, 14, 15, 16, 17, 18, 19, 20, 21, 22, 76, 77, 78, 79, 80, 81, 82] (by decide +kernel) (by decide +kernel)
set_option maxRecDepth 20000 in
theorem gX13_isThere_Jx4a65c_iterator_32c93 : GoodIn wsX13_isThere (wsV RX13 43 RJx4a65c yJx4a65c_iterator_32c93 wsJx4a65c_iterator_32c93) := goodIn_app (goodIn_of _ (by decide +kernel)) ggX13_isThere_Jx4a65c_iterator_32c93
set_option maxRecDepth 20000 in
theorem ggX13_isThere_Jx35411_hasNext_aae02 : GoodIn wsX13_isThere wsJx35411_hasNext_aae02 := goodIn_r _ [26, 27, 15, 76, 77, 78, 79, 80, 81, 82] (by decide +kernel) (by decide +kernel)
set_option maxRecDepth 20000 in
theorem gX13_isThere_Jx35411_hasNext_aae02_f47Jx35411 : GoodIn wsX13_isThere (va_wsF RX13 47 RJx35411 ⟨"java/util/Iterator", "hasNext", "()Z"⟩ yJx35411_hasNext_aae02 wsJx35411_hasNext_aae02) := goodIn_app (goodIn_of _ (by decide +kernel)) ggX13_isThere_Jx35411_hasNext_aae02
set_option maxRecDepth 20000 in
theorem ggX13_isThere_Jx95556_hasNext_aae02 : GoodIn wsX13_isThere wsJx95556_hasNext_aae02 := goodIn_r _ [31, 32, 33, 83, 84, 85, 86] (by decide +kernel) (by decide +kernel)
set_option maxRecDepth 20000 in
theorem gX13_isThere_Jx95556_hasNext_aae02_f47Jx95556 : GoodIn wsX13_isThere (va_wsF RX13 47 RJx95556 ⟨"java/util/Iterator", "hasNext", "()Z"⟩ yJx95556_hasNext_aae02 wsJx95556_hasNext_aae02) := goodIn_app (goodIn_of _ (by decide +kernel)) ggX13_isThere_Jx95556_hasNext_aae02
set_option maxRecDepth 20000 in
theorem ggX13_isThere_Jx35411_next_0502b : GoodIn wsX13_isThere wsJx35411_next_0502b := goodIn_r _ [37, 27, 15, 38, 19, 39, 40, 41, 11, 42, 20, 21, 22, 76, 77, 78, 79, 80, 81, 82] (by decide +kernel) (by decide +kernel)
set_option maxRecDepth 20000 in
theorem gX13_isThere_Jx35411_next_0502b_f53Jx35411 : GoodIn wsX13_isThere (va_wsF RX13 53 RJx35411 ⟨"java/util/Iterator", "next", "()Ljava/lang/Object;"⟩ yJx35411_next_0502b wsJx35411_next_0502b) := goodIn_app (goodIn_of _ (by decide +kernel)) ggX13_isThere_Jx35411_next_0502b
set_option maxRecDepth 20000 in
theorem ggX13_isThere_Jx95556_next_0502b : GoodIn wsX13_isThere wsJx95556_next_0502b := goodIn_r _ [45, 32, 46, 47, 48, 49, 7, 50, 51, 52, 53, 54, 55, 56, 57, 58, 59, 60, 61, 62, 63, 64, 65, 66, 67, 68, 69, 70, 83, 84, 85, 86, 80, 81, 82, 87, 88] (by decide +kernel) (by decide +kernel)
set_option maxRecDepth 20000 in
theorem gX13_isThere_Jx95556_next_0502b_f53Jx95556 : GoodIn wsX13_isThere (va_wsF RX13 53 RJx95556 ⟨"java/util/Iterator", "next", "()Ljava/lang/Object;"⟩ yJx95556_next_0502b wsJx95556_next_0502b) := goodIn_app (goodIn_of _ (by decide +kernel)) ggX13_isThere_Jx95556_next_0502b
theorem dX13_isThere_0 : decode cX13_isThere 0 = .ok (.aload_n 0, 1) := by decide +kernel
theorem dX13_isThere_1 : decode cX13_isThere 1 = .ok (.getfield 30, 3) := by decide +kernel
theorem dX13_isThere_4 : decode cX13_isThere 4 = .ok (.istore_n 2, 1) := by decide +kernel
theorem dX13_isThere_5 : decode cX13_isThere 5 = .ok (.aload_n 0, 1) := by decide +kernel
theorem dX13_isThere_6 : decode cX13_isThere 6 = .ok (.getfield 18, 3) := by decide +kernel
theorem dX13_isThere_9 : decode cX13_isThere 9 = .ok (.invokevirtual 43, 3) := by decide +kernel
theorem dX13_isThere_12 : decode cX13_isThere 12 = .ok (.astore_n 3, 1) := by decide +kernel
theorem dX13_isThere_13 : decode cX13_isThere 13 = .ok (.aload_n 3, 1) := by decide +kernel
theorem dX13_isThere_14 : decode cX13_isThere 14 = .ok (.invokeinterface 47 1, 5) := by decide +kernel
theorem dX13_isThere_19 : decode cX13_isThere 19 = .ok (.ifCond .eq 51, 3) := by decide +kernel
theorem dX13_isThere_22 : decode cX13_isThere 22 = .ok (.aload_n 3, 1) := by decide +kernel
theorem dX13_isThere_23 : decode cX13_isThere 23 = .ok (.invokeinterface 53 1, 5) := by decide +kernel
theorem dX13_isThere_28 : decode cX13_isThere 28 = .ok (.checkcast 57, 3) := by decide +kernel
theorem dX13_isThere_31 : decode cX13_isThere 31 = .ok (.astore 4, 2) := by decide +kernel
theorem dX13_isThere_33 : decode cX13_isThere 33 = .ok (.iload_n 2, 1) := by decide +kernel
theorem dX13_isThere_34 : decode cX13_isThere 34 = .ok (.ifCond .ne 27, 3) := by decide +kernel
theorem dX13_isThere_37 : decode cX13_isThere 37 = .ok (.iload_n 1, 1) := by decide +kernel
theorem dX13_isThere_38 : decode cX13_isThere 38 = .ok (.aload 4, 2) := by decide +kernel
theorem dX13_isThere_40 : decode cX13_isThere 40 = .ok (.iconst 0, 1) := by decide +kernel
theorem dX13_isThere_41 : decode cX13_isThere 41 = .ok (.iaload, 1) := by decide +kernel
theorem dX13_isThere_42 : decode cX13_isThere 42 = .ok (.if_icmp .lt 23, 3) := by decide +kernel
theorem dX13_isThere_45 : decode cX13_isThere 45 = .ok (.iload_n 1, 1) := by decide +kernel
theorem dX13_isThere_46 : decode cX13_isThere 46 = .ok (.aload 4, 2) := by decide +kernel
theorem dX13_isThere_48 : decode cX13_isThere 48 = .ok (.iconst 0, 1) := by decide +kernel
theorem dX13_isThere_49 : decode cX13_isThere 49 = .ok (.iaload, 1) := by decide +kernel
theorem dX13_isThere_50 : decode cX13_isThere 50 = .ok (.bipush 7, 2) := by decide +kernel
theorem dX13_isThere_52 : decode cX13_isThere 52 = .ok (.aload 4, 2) := by decide +kernel
theorem dX13_isThere_54 : decode cX13_isThere 54 = .ok (.iconst 1, 1) := by decide +kernel
theorem dX13_isThere_55 : decode cX13_isThere 55 = .ok (.iaload, 1) := by decide +kernel
theorem dX13_isThere_56 : decode cX13_isThere 56 = .ok (.imul, 1) := by decide +kernel
theorem dX13_isThere_57 : decode cX13_isThere 57 = .ok (.iadd, 1) := by decide +kernel
theorem dX13_isThere_58 : decode cX13_isThere 58 = .ok (.if_icmp .ge 7, 3) := by decide +kernel
theorem dX13_isThere_61 : decode cX13_isThere 61 = .ok (.iconst 1, 1) := by decide +kernel
theorem dX13_isThere_62 : decode cX13_isThere 62 = .ok (.goto 4, 3) := by decide +kernel
theorem dX13_isThere_65 : decode cX13_isThere 65 = .ok (.iconst 0, 1) := by decide +kernel
theorem dX13_isThere_66 : decode cX13_isThere 66 = .ok (.istore_n 2, 1) := by decide +kernel
theorem dX13_isThere_67 : decode cX13_isThere 67 = .ok (.goto (-54), 3) := by decide +kernel
theorem dX13_isThere_70 : decode cX13_isThere 70 = .ok (.iload_n 2, 1) := by decide +kernel
theorem dX13_isThere_71 : decode cX13_isThere 71 = .ok (.ireturn, 1) := by decide +kernel
set_option maxRecDepth 20000 in
theorem ggX14_init_Jx4a65c_init_da8c8 : GoodIn wsX14_init wsJx4a65c_init_da8c8 := goodIn_r _ [15, 16, 17, 18, 19, 20, 21, 22, 23, 24, 25, 26, 27, 2, 3, 28, 29, 30] (by decide +kernel) (by decide +kernel)
set_option maxRecDepth 20000 in
theorem gX14_init_Jx4a65c_init_da8c8 : GoodIn wsX14_init (wsJx4a65c_init_da8c8) := ggX14_init_Jx4a65c_init_da8c8
theorem dX14_init_0 : decode cX14_init 0 = .ok (.aload_n 0, 1) := by decide +kernel
theorem dX14_init_1 : decode cX14_init 1 = .ok (.invokespecial 1, 3) := by decide +kernel
theorem dX14_init_4 : decode cX14_init 4 = .ok (.aload_n 0, 1) := by decide +kernel
theorem dX14_init_5 : decode cX14_init 5 = .ok (.new 7, 3) := by decide +kernel
theorem dX14_init_8 : decode cX14_init 8 = .ok (.dup, 1) := by decide +kernel
theorem dX14_init_9 : decode cX14_init 9 = .ok (.invokespecial 9, 3) := by decide +kernel
theorem dX14_init_12 : decode cX14_init 12 = .ok (.putfield 10, 3) := by decide +kernel
theorem dX14_init_15 : decode cX14_init 15 = .ok (.aload_n 0, 1) := by decide +kernel
theorem dX14_init_16 : decode cX14_init 16 = .ok (.new 7, 3) := by decide +kernel
theorem dX14_init_19 : decode cX14_init 19 = .ok (.dup, 1) := by decide +kernel
theorem dX14_init_20 : decode cX14_init 20 = .ok (.invokespecial 9, 3) := by decide +kernel
theorem dX14_init_23 : decode cX14_init 23 = .ok (.putfield 16, 3) := by decide +kernel
theorem dX14_init_26 : decode cX14_init 26 = .ok (.aload_n 0, 1) := by decide +kernel
theorem dX14_init_27 : decode cX14_init 27 = .ok (.new 7, 3) := by decide +kernel
theorem dX14_init_30 : decode cX14_init 30 = .ok (.dup, 1) := by decide +kernel
theorem dX14_init_31 : decode cX14_init 31 = .ok (.invokespecial 9, 3) := by decide +kernel
theorem dX14_init_34 : decode cX14_init 34 = .ok (.putfield 19, 3) := by decide +kernel
theorem dX14_init_37 : decode cX14_init 37 = .ok (.aload_n 0, 1) := by decide +kernel
theorem dX14_init_38 : decode cX14_init 38 = .ok (.new 7, 3) := by decide +kernel
theorem dX14_init_41 : decode cX14_init 41 = .ok (.dup, 1) := by decide +kernel
theorem dX14_init_42 : decode cX14_init 42 = .ok (.invokespecial 9, 3) := by decide +kernel
theorem dX14_init_45 : decode cX14_init 45 = .ok (.putfield 22, 3) := by decide +kernel
theorem dX14_init_48 : decode cX14_init 48 = .ok (.aload_n 0, 1) := by decide +kernel
theorem dX14_init_49 : decode cX14_init 49 = .ok (.new 7, 3) := by decide +kernel
theorem dX14_init_52 : decode cX14_init 52 = .ok (.dup, 1) := by decide +kernel
theorem dX14_init_53 : decode cX14_init 53 = .ok (.invokespecial 9, 3) := by decide +kernel
theorem dX14_init_56 : decode cX14_init 56 = .ok (.putfield 25, 3) := by decide +kernel
theorem dX14_init_59 : decode cX14_init 59 = .ok (.aload_n 0, 1) := by decide +kernel
theorem dX14_init_60 : decode cX14_init 60 = .ok (.iconst 0, 1) := by decide +kernel
theorem dX14_init_61 : decode cX14_init 61 = .ok (.putfield 28, 3) := by decide +kernel
theorem dX14_init_64 : decode cX14_init 64 = .ok (.return_, 1) := by decide +kernel
theorem dX14_thrown_0 : decode cX14_thrown 0 = .ok (.aload_n 0, 1) := by decide +kernel
theorem dX14_thrown_1 : decode cX14_thrown 1 = .ok (.getfield 28, 3) := by decide +kernel
theorem dX14_thrown_4 : decode cX14_thrown 4 = .ok (.ireturn, 1) := by decide +kernel
theorem dX14_in_0 : decode cX14_in 0 = .ok (.iload_n 0, 1) := by decide +kernel
theorem dX14_in_1 : decode cX14_in 1 = .ok (.iload_n 1, 1) := by decide +kernel
theorem dX14_in_2 : decode cX14_in 2 = .ok (.if_icmp .lt 12, 3) := by decide +kernel
theorem dX14_in_5 : decode cX14_in 5 = .ok (.iload_n 0, 1) := by decide +kernel
theorem dX14_in_6 : decode cX14_in 6 = .ok (.iload_n 2, 1) := by decide +kernel
theorem dX14_in_7 : decode cX14_in 7 = .ok (.if_icmp .gt 7, 3) := by decide +kernel
theorem dX14_in_10 : decode cX14_in 10 = .ok (.iconst 1, 1) := by decide +kernel
theorem dX14_in_11 : decode cX14_in 11 = .ok (.goto 4, 3) := by decide +kernel
theorem dX14_in_14 : decode cX14_in 14 = .ok (.iconst 0, 1) := by decide +kernel
theorem dX14_in_15 : decode cX14_in 15 = .ok (.ireturn, 1) := by decide +kernel
theorem dX14_fails_0 : decode cX14_fails 0 = .ok (.aload_n 0, 1) := by decide +kernel
theorem dX14_fails_1 : decode cX14_fails 1 = .ok (.iload_n 1, 1) := by decide +kernel
theorem dX14_fails_2 : decode cX14_fails 2 = .ok (.putfield 28, 3) := by decide +kernel
theorem dX14_fails_5 : decode cX14_fails 5 = .ok (.iconst 0, 1) := by decide +kernel
theorem dX14_fails_6 : decode cX14_fails 6 = .ok (.ireturn, 1) := by decide +kernel
theorem dX14_tells_0 : decode cX14_tells 0 = .ok (.aload_n 0, 1) := by decide +kernel
theorem dX14_tells_1 : decode cX14_tells 1 = .ok (.iconst 0, 1) := by decide +kernel
theorem dX14_tells_2 : decode cX14_tells 2 = .ok (.putfield 28, 3) := by decide +kernel
theorem dX14_tells_5 : decode cX14_tells 5 = .ok (.iload_n 1, 1) := by decide +kernel
theorem dX14_tells_6 : decode cX14_tells 6 = .ok (.ireturn, 1) := by decide +kernel
theorem dX14_failsIf_0 : decode cX14_failsIf 0 = .ok (.aload_n 0, 1) := by decide +kernel
theorem dX14_failsIf_1 : decode cX14_failsIf 1 = .ok (.iload_n 1, 1) := by decide +kernel
theorem dX14_failsIf_2 : decode cX14_failsIf 2 = .ok (.putfield 28, 3) := by decide +kernel
theorem dX14_failsIf_5 : decode cX14_failsIf 5 = .ok (.iload_n 1, 1) := by decide +kernel
theorem dX14_failsIf_6 : decode cX14_failsIf 6 = .ok (.ifCond .le 7, 3) := by decide +kernel
theorem dX14_failsIf_9 : decode cX14_failsIf 9 = .ok (.iconst 1, 1) := by decide +kernel
theorem dX14_failsIf_10 : decode cX14_failsIf 10 = .ok (.goto 4, 3) := by decide +kernel
theorem dX14_failsIf_13 : decode cX14_failsIf 13 = .ok (.iconst 0, 1) := by decide +kernel
theorem dX14_failsIf_14 : decode cX14_failsIf 14 = .ok (.ireturn, 1) := by decide +kernel
set_option maxRecDepth 20000 in
theorem ggX14_isOf_Jx4a65c_size_8abf5 : GoodIn wsX14_isOf wsJx4a65c_size_8abf5 := goodIn_r _ [5, 6, 16, 17, 18] (by decide +kernel) (by decide +kernel)
set_option maxRecDepth 20000 in
theorem gX14_isOf_Jx4a65c_size_8abf5_f32Jx4a65c : GoodIn wsX14_isOf (va_wsF RX14 32 RJx4a65c ⟨"java/util/List", "size", "()I"⟩ yJx4a65c_size_8abf5 wsJx4a65c_size_8abf5) := goodIn_app (goodIn_of _ (by decide +kernel)) ggX14_isOf_Jx4a65c_size_8abf5
set_option maxRecDepth 20000 in
theorem ggX14_isOf_Jx6a02c_size_8abf5 : GoodIn wsX14_isOf wsJx6a02c_size_8abf5 := goodIn_r _ [10, 11, 19, 20] (by decide +kernel) (by decide +kernel)
set_option maxRecDepth 20000 in
theorem gX14_isOf_Jx6a02c_size_8abf5_f32Jx6a02c : GoodIn wsX14_isOf (va_wsF RX14 32 RJx6a02c ⟨"java/util/List", "size", "()I"⟩ yJx6a02c_size_8abf5 wsJx6a02c_size_8abf5) := goodIn_app (goodIn_of _ (by decide +kernel)) ggX14_isOf_Jx6a02c_size_8abf5
set_option maxRecDepth 20000 in
theorem ggX14_isOf_X14_in : GoodIn wsX14_isOf wsX14_in := goodIn_r _ [15] (by decide +kernel) (by decide +kernel)
set_option maxRecDepth 20000 in
theorem gX14_isOf_X14_in : GoodIn wsX14_isOf (va_wsS RX14 38 yX14_in wsX14_in) := goodIn_app (goodIn_of _ (by decide +kernel)) ggX14_isOf_X14_in
theorem dX14_isOf_0 : decode cX14_isOf 0 = .ok (.iload_n 1, 1) := by decide +kernel
theorem dX14_isOf_1 : decode cX14_isOf 1 = .ok (.iconst 0, 1) := by decide +kernel
theorem dX14_isOf_2 : decode cX14_isOf 2 = .ok (.aload_n 0, 1) := by decide +kernel
theorem dX14_isOf_3 : decode cX14_isOf 3 = .ok (.invokeinterface 32 1, 5) := by decide +kernel
theorem dX14_isOf_8 : decode cX14_isOf 8 = .ok (.iconst 1, 1) := by decide +kernel
theorem dX14_isOf_9 : decode cX14_isOf 9 = .ok (.isub, 1) := by decide +kernel
theorem dX14_isOf_10 : decode cX14_isOf 10 = .ok (.invokestatic 38, 3) := by decide +kernel
theorem dX14_isOf_13 : decode cX14_isOf 13 = .ok (.ireturn, 1) := by decide +kernel
set_option maxRecDepth 20000 in
theorem ggX14_addWork_X14_in : GoodIn wsX14_addWork wsX14_in := goodIn_r _ [8] (by decide +kernel) (by decide +kernel)
set_option maxRecDepth 20000 in
theorem gX14_addWork_X14_in : GoodIn wsX14_addWork (va_wsS RX14 38 yX14_in wsX14_in) := goodIn_app (goodIn_of _ (by decide +kernel)) ggX14_addWork_X14_in
set_option maxRecDepth 20000 in
theorem ggX14_addWork_X14_fails : GoodIn wsX14_addWork wsX14_fails := goodIn_r _ [12, 13, 108, 109, 110, 111, 112, 113] (by decide +kernel) (by decide +kernel)
set_option maxRecDepth 20000 in
theorem gX14_addWork_X14_fails : GoodIn wsX14_addWork (wsV RX14 42 RX14 yX14_fails wsX14_fails) := goodIn_app (goodIn_of _ (by decide +kernel)) ggX14_addWork_X14_fails
set_option maxRecDepth 20000 in
theorem ggX14_addWork_Jx4a65c_size_8abf5 : GoodIn wsX14_addWork wsJx4a65c_size_8abf5 := goodIn_r _ [18, 19, 119, 120, 121] (by decide +kernel) (by decide +kernel)
set_option maxRecDepth 20000 in
theorem gX14_addWork_Jx4a65c_size_8abf5 : GoodIn wsX14_addWork (wsV RX14 46 RJx4a65c yJx4a65c_size_8abf5 wsJx4a65c_size_8abf5) := goodIn_app (goodIn_of _ (by decide +kernel)) ggX14_addWork_Jx4a65c_size_8abf5
set_option maxRecDepth 20000 in
theorem ggX14_addWork_X13_init : GoodIn wsX14_addWork wsX13_init := goodIn_r _ [22, 23, 24, 25, 26, 27, 28, 29, 17, 30, 31, 32, 33, 34, 35, 36, 37, 38, 39, 40, 41, 42, 43, 44, 45, 46, 47, 48, 114, 115, 116, 117, 118, 119, 120, 121] (by decide +kernel) (by decide +kernel)
set_option maxRecDepth 20000 in
theorem gX14_addWork_X13_init : GoodIn wsX14_addWork (wsX13_init) := ggX14_addWork_X13_init
set_option maxRecDepth 20000 in
theorem ggX14_addWork_Jx4a65c_add_9ea2d : GoodIn wsX14_addWork wsJx4a65c_add_9ea2d := goodIn_r _ [52, 53, 54, 38, 19, 55, 56, 57, 17, 58, 59, 60, 61, 62, 63, 64, 65, 66, 37, 67, 68, 69, 70, 71, 72, 73, 74, 75, 76, 77, 78, 79, 80, 81, 82, 83, 84, 85, 86, 87, 88, 89, 90, 91, 92, 93, 94, 95, 96, 97, 98, 99, 100, 101, 102, 103, 119, 120, 121, 122, 123, 124, 125] (by decide +kernel) (by decide +kernel)
set_option maxRecDepth 20000 in
theorem gX14_addWork_Jx4a65c_add_9ea2d : GoodIn wsX14_addWork (wsV RX14 52 RJx4a65c yJx4a65c_add_9ea2d wsJx4a65c_add_9ea2d) := goodIn_app (goodIn_of _ (by decide +kernel)) ggX14_addWork_Jx4a65c_add_9ea2d
set_option maxRecDepth 20000 in
theorem ggX14_addWork_X14_tells : GoodIn wsX14_addWork wsX14_tells := goodIn_r _ [107, 13, 108, 109, 110, 111, 112, 113] (by decide +kernel) (by decide +kernel)
set_option maxRecDepth 20000 in
theorem gX14_addWork_X14_tells : GoodIn wsX14_addWork (wsV RX14 56 RX14 yX14_tells wsX14_tells) := goodIn_app (goodIn_of _ (by decide +kernel)) ggX14_addWork_X14_tells
theorem dX14_addWork_0 : decode cX14_addWork 0 = .ok (.iload_n 1, 1) := by decide +kernel
theorem dX14_addWork_1 : decode cX14_addWork 1 = .ok (.iconst 1, 1) := by decide +kernel
theorem dX14_addWork_2 : decode cX14_addWork 2 = .ok (.bipush 90, 2) := by decide +kernel
theorem dX14_addWork_4 : decode cX14_addWork 4 = .ok (.invokestatic 38, 3) := by decide +kernel
theorem dX14_addWork_7 : decode cX14_addWork 7 = .ok (.ifCond .ne 9, 3) := by decide +kernel
theorem dX14_addWork_10 : decode cX14_addWork 10 = .ok (.aload_n 0, 1) := by decide +kernel
theorem dX14_addWork_11 : decode cX14_addWork 11 = .ok (.iconst 1, 1) := by decide +kernel
theorem dX14_addWork_12 : decode cX14_addWork 12 = .ok (.invokevirtual 42, 3) := by decide +kernel
theorem dX14_addWork_15 : decode cX14_addWork 15 = .ok (.ireturn, 1) := by decide +kernel
theorem dX14_addWork_16 : decode cX14_addWork 16 = .ok (.aload_n 0, 1) := by decide +kernel
theorem dX14_addWork_17 : decode cX14_addWork 17 = .ok (.getfield 10, 3) := by decide +kernel
theorem dX14_addWork_20 : decode cX14_addWork 20 = .ok (.invokevirtual 46, 3) := by decide +kernel
theorem dX14_addWork_23 : decode cX14_addWork 23 = .ok (.bipush 12, 2) := by decide +kernel
theorem dX14_addWork_25 : decode cX14_addWork 25 = .ok (.if_icmp .ne 9, 3) := by decide +kernel
theorem dX14_addWork_28 : decode cX14_addWork 28 = .ok (.aload_n 0, 1) := by decide +kernel
theorem dX14_addWork_29 : decode cX14_addWork 29 = .ok (.iconst 2, 1) := by decide +kernel
theorem dX14_addWork_30 : decode cX14_addWork 30 = .ok (.invokevirtual 42, 3) := by decide +kernel
theorem dX14_addWork_33 : decode cX14_addWork 33 = .ok (.ireturn, 1) := by decide +kernel
theorem dX14_addWork_34 : decode cX14_addWork 34 = .ok (.aload_n 0, 1) := by decide +kernel
theorem dX14_addWork_35 : decode cX14_addWork 35 = .ok (.getfield 10, 3) := by decide +kernel
theorem dX14_addWork_38 : decode cX14_addWork 38 = .ok (.new 47, 3) := by decide +kernel
theorem dX14_addWork_41 : decode cX14_addWork 41 = .ok (.dup, 1) := by decide +kernel
theorem dX14_addWork_42 : decode cX14_addWork 42 = .ok (.iload_n 1, 1) := by decide +kernel
theorem dX14_addWork_43 : decode cX14_addWork 43 = .ok (.iload_n 2, 1) := by decide +kernel
theorem dX14_addWork_44 : decode cX14_addWork 44 = .ok (.invokespecial 49, 3) := by decide +kernel
theorem dX14_addWork_47 : decode cX14_addWork 47 = .ok (.invokevirtual 52, 3) := by decide +kernel
theorem dX14_addWork_50 : decode cX14_addWork 50 = .ok (.pop, 1) := by decide +kernel
theorem dX14_addWork_51 : decode cX14_addWork 51 = .ok (.aload_n 0, 1) := by decide +kernel
theorem dX14_addWork_52 : decode cX14_addWork 52 = .ok (.aload_n 0, 1) := by decide +kernel
theorem dX14_addWork_53 : decode cX14_addWork 53 = .ok (.getfield 10, 3) := by decide +kernel
theorem dX14_addWork_56 : decode cX14_addWork 56 = .ok (.invokevirtual 46, 3) := by decide +kernel
theorem dX14_addWork_59 : decode cX14_addWork 59 = .ok (.iconst 1, 1) := by decide +kernel
theorem dX14_addWork_60 : decode cX14_addWork 60 = .ok (.isub, 1) := by decide +kernel
theorem dX14_addWork_61 : decode cX14_addWork 61 = .ok (.invokevirtual 56, 3) := by decide +kernel
theorem dX14_addWork_64 : decode cX14_addWork 64 = .ok (.ireturn, 1) := by decide +kernel
set_option maxRecDepth 20000 in
theorem ggX14_isInService_Jx4a65c_iterator_32c93 : GoodIn wsX14_isInService wsJx4a65c_iterator_32c93 := goodIn_r _ [8, 9, 10, 11, 12, 13, 14, 15, 16, 17, 18, 19, 20, 21, 22, 140, 141, 142, 143, 144, 145, 146] (by decide +kernel) (by decide +kernel)
set_option maxRecDepth 20000 in
theorem gX14_isInService_Jx4a65c_iterator_32c93 : GoodIn wsX14_isInService (wsV RX14 59 RJx4a65c yJx4a65c_iterator_32c93 wsJx4a65c_iterator_32c93) := goodIn_app (goodIn_of _ (by decide +kernel)) ggX14_isInService_Jx4a65c_iterator_32c93
set_option maxRecDepth 20000 in
theorem ggX14_isInService_Jx35411_hasNext_aae02 : GoodIn wsX14_isInService wsJx35411_hasNext_aae02 := goodIn_r _ [26, 27, 15, 140, 141, 142, 143, 144, 145, 146] (by decide +kernel) (by decide +kernel)
set_option maxRecDepth 20000 in
theorem gX14_isInService_Jx35411_hasNext_aae02_f63Jx35411 : GoodIn wsX14_isInService (va_wsF RX14 63 RJx35411 ⟨"java/util/Iterator", "hasNext", "()Z"⟩ yJx35411_hasNext_aae02 wsJx35411_hasNext_aae02) := goodIn_app (goodIn_of _ (by decide +kernel)) ggX14_isInService_Jx35411_hasNext_aae02
set_option maxRecDepth 20000 in
theorem ggX14_isInService_Jx95556_hasNext_aae02 : GoodIn wsX14_isInService wsJx95556_hasNext_aae02 := goodIn_r _ [31, 32, 33, 147, 148, 149, 150] (by decide +kernel) (by decide +kernel)
set_option maxRecDepth 20000 in
theorem gX14_isInService_Jx95556_hasNext_aae02_f63Jx95556 : GoodIn wsX14_isInService (va_wsF RX14 63 RJx95556 ⟨"java/util/Iterator", "hasNext", "()Z"⟩ yJx95556_hasNext_aae02 wsJx95556_hasNext_aae02) := goodIn_app (goodIn_of _ (by decide +kernel)) ggX14_isInService_Jx95556_hasNext_aae02
set_option maxRecDepth 20000 in
theorem ggX14_isInService_Jx35411_next_0502b : GoodIn wsX14_isInService wsJx35411_next_0502b := goodIn_r _ [37, 27, 15, 38, 19, 39, 40, 41, 11, 42, 20, 21, 22, 140, 141, 142, 143, 144, 145, 146] (by decide +kernel) (by decide +kernel)
set_option maxRecDepth 20000 in
theorem gX14_isInService_Jx35411_next_0502b_f69Jx35411 : GoodIn wsX14_isInService (va_wsF RX14 69 RJx35411 ⟨"java/util/Iterator", "next", "()Ljava/lang/Object;"⟩ yJx35411_next_0502b wsJx35411_next_0502b) := goodIn_app (goodIn_of _ (by decide +kernel)) ggX14_isInService_Jx35411_next_0502b
set_option maxRecDepth 20000 in
theorem ggX14_isInService_Jx95556_next_0502b : GoodIn wsX14_isInService wsJx95556_next_0502b := goodIn_r _ [45, 32, 46, 47, 48, 49, 7, 50, 51, 52, 53, 54, 55, 56, 57, 58, 59, 60, 61, 62, 63, 64, 65, 66, 67, 68, 69, 70, 147, 148, 149, 150, 144, 145, 146, 151, 152] (by decide +kernel) (by decide +kernel)
set_option maxRecDepth 20000 in
theorem gX14_isInService_Jx95556_next_0502b_f69Jx95556 : GoodIn wsX14_isInService (va_wsF RX14 69 RJx95556 ⟨"java/util/Iterator", "next", "()Ljava/lang/Object;"⟩ yJx95556_next_0502b wsJx95556_next_0502b) := goodIn_app (goodIn_of _ (by decide +kernel)) ggX14_isInService_Jx95556_next_0502b
set_option maxRecDepth 20000 in
theorem ggX14_isInService_J6_valueOf_2dffe : GoodIn wsX14_isInService wsJ6_valueOf_2dffe := goodIn_r _ [74, 75, 76, 77, 78, 73, 79, 80, 81, 82, 83, 84, 85, 86, 87, 17, 18, 153] (by decide +kernel) (by decide +kernel)
set_option maxRecDepth 20000 in
theorem gX14_isInService_J6_valueOf_2dffe : GoodIn wsX14_isInService (va_wsS RX14 76 yJ6_valueOf_2dffe wsJ6_valueOf_2dffe) := goodIn_app (goodIn_of _ (by decide +kernel)) ggX14_isInService_J6_valueOf_2dffe
set_option maxRecDepth 20000 in
theorem ggX14_isInService_Jx4a65c_contains_9ea2d : GoodIn wsX14_isInService wsJx4a65c_contains_9ea2d := goodIn_r _ [91, 92, 93, 94, 7, 95, 51, 96, 97, 98, 99, 64, 100, 101, 102, 103, 73, 104, 105, 82, 106, 107, 108, 109, 110, 111, 112, 113, 114, 115, 116, 117, 118, 119, 120, 121, 144, 145, 146, 153, 154, 155, 156, 157] (by decide +kernel) (by decide +kernel)
set_option maxRecDepth 20000 in
theorem gX14_isInService_Jx4a65c_contains_9ea2d : GoodIn wsX14_isInService (wsV RX14 82 RJx4a65c yJx4a65c_contains_9ea2d wsJx4a65c_contains_9ea2d) := goodIn_app (goodIn_of _ (by decide +kernel)) ggX14_isInService_Jx4a65c_contains_9ea2d
theorem dX14_isInService_0 : decode cX14_isInService 0 = .ok (.iconst 0, 1) := by decide +kernel
theorem dX14_isInService_1 : decode cX14_isInService 1 = .ok (.istore_n 2, 1) := by decide +kernel
theorem dX14_isInService_2 : decode cX14_isInService 2 = .ok (.aload_n 0, 1) := by decide +kernel
theorem dX14_isInService_3 : decode cX14_isInService 3 = .ok (.getfield 25, 3) := by decide +kernel
theorem dX14_isInService_6 : decode cX14_isInService 6 = .ok (.invokevirtual 59, 3) := by decide +kernel
theorem dX14_isInService_9 : decode cX14_isInService 9 = .ok (.astore_n 3, 1) := by decide +kernel
theorem dX14_isInService_10 : decode cX14_isInService 10 = .ok (.aload_n 3, 1) := by decide +kernel
theorem dX14_isInService_11 : decode cX14_isInService 11 = .ok (.invokeinterface 63 1, 5) := by decide +kernel
theorem dX14_isInService_16 : decode cX14_isInService 16 = .ok (.ifCond .eq 42, 3) := by decide +kernel
theorem dX14_isInService_19 : decode cX14_isInService 19 = .ok (.aload_n 3, 1) := by decide +kernel
theorem dX14_isInService_20 : decode cX14_isInService 20 = .ok (.invokeinterface 69 1, 5) := by decide +kernel
theorem dX14_isInService_25 : decode cX14_isInService 25 = .ok (.checkcast 73, 3) := by decide +kernel
theorem dX14_isInService_28 : decode cX14_isInService 28 = .ok (.astore 4, 2) := by decide +kernel
theorem dX14_isInService_30 : decode cX14_isInService 30 = .ok (.iload_n 2, 1) := by decide +kernel
theorem dX14_isInService_31 : decode cX14_isInService 31 = .ok (.ifCond .ne 18, 3) := by decide +kernel
theorem dX14_isInService_34 : decode cX14_isInService 34 = .ok (.aload 4, 2) := by decide +kernel
theorem dX14_isInService_36 : decode cX14_isInService 36 = .ok (.getfield 75, 3) := by decide +kernel
theorem dX14_isInService_39 : decode cX14_isInService 39 = .ok (.iload_n 1, 1) := by decide +kernel
theorem dX14_isInService_40 : decode cX14_isInService 40 = .ok (.invokestatic 76, 3) := by decide +kernel
theorem dX14_isInService_43 : decode cX14_isInService 43 = .ok (.invokevirtual 82, 3) := by decide +kernel
theorem dX14_isInService_46 : decode cX14_isInService 46 = .ok (.ifCond .eq 7, 3) := by decide +kernel
theorem dX14_isInService_49 : decode cX14_isInService 49 = .ok (.iconst 1, 1) := by decide +kernel
theorem dX14_isInService_50 : decode cX14_isInService 50 = .ok (.goto 4, 3) := by decide +kernel
theorem dX14_isInService_53 : decode cX14_isInService 53 = .ok (.iconst 0, 1) := by decide +kernel
theorem dX14_isInService_54 : decode cX14_isInService 54 = .ok (.istore_n 2, 1) := by decide +kernel
theorem dX14_isInService_55 : decode cX14_isInService 55 = .ok (.goto (-45), 3) := by decide +kernel
theorem dX14_isInService_58 : decode cX14_isInService 58 = .ok (.iload_n 2, 1) := by decide +kernel
theorem dX14_isInService_59 : decode cX14_isInService 59 = .ok (.ireturn, 1) := by decide +kernel
set_option maxRecDepth 20000 in
theorem ggX14_setParts_X14_isOf : GoodIn wsX14_setParts wsX14_isOf := goodIn_r _ [7, 8, 9, 10, 11, 12, 13, 14, 15, 16, 17, 18, 19, 20, 6, 21, 242, 243, 244, 245, 246] (by decide +kernel) (by decide +kernel)
set_option maxRecDepth 20000 in
theorem gX14_setParts_X14_isOf : GoodIn wsX14_setParts (va_wsS RX14 85 yX14_isOf wsX14_isOf) := goodIn_app (goodIn_of _ (by decide +kernel)) ggX14_setParts_X14_isOf
set_option maxRecDepth 20000 in
theorem ggX14_setParts_X14_fails : GoodIn wsX14_setParts wsX14_fails := goodIn_r _ [25, 26, 231, 232, 233, 234, 235, 236] (by decide +kernel) (by decide +kernel)
set_option maxRecDepth 20000 in
theorem gX14_setParts_X14_fails : GoodIn wsX14_setParts (wsV RX14 42 RX14 yX14_fails wsX14_fails) := goodIn_app (goodIn_of _ (by decide +kernel)) ggX14_setParts_X14_fails
set_option maxRecDepth 20000 in
theorem ggX14_setParts_X14_in : GoodIn wsX14_setParts wsX14_in := goodIn_r _ [21] (by decide +kernel) (by decide +kernel)
set_option maxRecDepth 20000 in
theorem gX14_setParts_X14_in : GoodIn wsX14_setParts (va_wsS RX14 38 yX14_in wsX14_in) := goodIn_app (goodIn_of _ (by decide +kernel)) ggX14_setParts_X14_in
set_option maxRecDepth 20000 in
theorem ggX14_setParts_Jx4a65c_get_915e3 : GoodIn wsX14_setParts wsJx4a65c_get_915e3 := goodIn_r _ [30, 13, 31, 32, 33, 34, 35, 36, 37, 38, 39, 40, 41, 11, 42, 43, 242, 243, 244] (by decide +kernel) (by decide +kernel)
set_option maxRecDepth 20000 in
theorem gX14_setParts_Jx4a65c_get_915e3 : GoodIn wsX14_setParts (wsV RX14 89 RJx4a65c yJx4a65c_get_915e3 wsJx4a65c_get_915e3) := goodIn_app (goodIn_of _ (by decide +kernel)) ggX14_setParts_Jx4a65c_get_915e3
set_option maxRecDepth 20000 in
theorem ggX14_setParts_X13_all : GoodIn wsX14_setParts wsX13_all := goodIn_ca (goodIn_r _ [48, 49, 50, 11, 51, 52, 53, 54, 55, 43, 56, 57, 58, 59, 60, 61, 62, 63, 64, 65, 66, 67, 68, 69, 70, 71, 72, 73, 74, 75, 76, 77, 78, 79, 80, 81, 82, 83, 84, 85, 86, 87, 88, 89, 90, 13, 91, 92, 93, 94, 95, 96, 97, 98, 99, 100, 101, 102, 103, 104, 105, 106, 107, 108, 109, 110, 111, 112, 113, 114, 115, 116, 117, 118, 119, 120, 121, 122, 123, 124, 125, 126, 127, 128, 129, 130, 131, 132, 133, 134, 135, 136, 137, 138, 139, 242, 243, 244, 237, 238, 239, 240, 241, 247, 248, 249, 250, 251] (by decide +kernel) (by decide +kernel)) (goodIn_sub (fun _ h => List.mem_cons_of_mem _ (List.mem_append_right _ h)) (by decide +kernel))
set_option maxRecDepth 20000 in
theorem gX14_setParts_X13_all : GoodIn wsX14_setParts (wsV RX14 93 RX13 yX13_all wsX13_all) := goodIn_app (goodIn_of _ (by decide +kernel)) ggX14_setParts_X13_all
set_option maxRecDepth 20000 in
theorem ggX14_setParts_Jx4a65c_size_8abf5 : GoodIn wsX14_setParts wsJx4a65c_size_8abf5 := goodIn_r _ [12, 13, 242, 243, 244] (by decide +kernel) (by decide +kernel)
set_option maxRecDepth 20000 in
theorem gX14_setParts_Jx4a65c_size_8abf5_f32Jx4a65c : GoodIn wsX14_setParts (va_wsF RX14 32 RJx4a65c ⟨"java/util/List", "size", "()I"⟩ yJx4a65c_size_8abf5 wsJx4a65c_size_8abf5) := goodIn_app (goodIn_of _ (by decide +kernel)) ggX14_setParts_Jx4a65c_size_8abf5
set_option maxRecDepth 20000 in
theorem ggX14_setParts_Jx6a02c_size_8abf5 : GoodIn wsX14_setParts wsJx6a02c_size_8abf5 := goodIn_r _ [17, 18, 245, 246] (by decide +kernel) (by decide +kernel)
set_option maxRecDepth 20000 in
theorem gX14_setParts_Jx6a02c_size_8abf5_f32Jx6a02c : GoodIn wsX14_setParts (va_wsF RX14 32 RJx6a02c ⟨"java/util/List", "size", "()I"⟩ yJx6a02c_size_8abf5 wsJx6a02c_size_8abf5) := goodIn_app (goodIn_of _ (by decide +kernel)) ggX14_setParts_Jx6a02c_size_8abf5
set_option maxRecDepth 20000 in
theorem ggX14_setParts_X14_isInService : GoodIn wsX14_setParts wsX14_isInService := goodIn_r _ [143, 144, 145, 146, 147, 148, 149, 11, 150, 151, 152, 153, 154, 155, 156, 157, 158, 66, 67, 159, 160, 90, 161, 162, 163, 164, 165, 166, 167, 168, 169, 170, 171, 172, 173, 174, 175, 176, 177, 178, 179, 180, 181, 182, 183, 184, 185, 186, 187, 28, 30, 13, 31, 32, 33, 34, 35, 36, 37, 38, 39, 40, 41, 42, 43, 188, 189, 16, 190, 191, 18, 192, 69, 70, 71, 72, 73, 74, 75, 76, 77, 78, 79, 80, 81, 82, 83, 84, 193, 194, 195, 196, 197, 198, 199, 200, 201, 202, 203, 204, 205, 206, 207, 208, 209, 210, 211, 212, 213, 214, 215, 216, 217, 218, 219, 220, 221, 222, 223, 224, 225, 226, 231, 232, 233, 234, 235, 236, 252, 253, 254, 255, 256, 257, 258, 259, 260, 261, 262, 263, 264, 265, 266, 267, 242, 243, 244, 268, 269, 270, 271, 245, 246, 247, 272, 273, 274, 275] (by decide +kernel) (by decide +kernel)
set_option maxRecDepth 20000 in
theorem gX14_setParts_X14_isInService : GoodIn wsX14_setParts (wsV RX14 101 RX14 yX14_isInService wsX14_isInService) := goodIn_app (goodIn_of _ (by decide +kernel)) ggX14_setParts_X14_isInService
set_option maxRecDepth 20000 in
theorem ggX14_setParts_X14_tells : GoodIn wsX14_setParts wsX14_tells := goodIn_r _ [230, 26, 231, 232, 233, 234, 235, 236] (by decide +kernel) (by decide +kernel)
set_option maxRecDepth 20000 in
theorem gX14_setParts_X14_tells : GoodIn wsX14_setParts (wsV RX14 56 RX14 yX14_tells wsX14_tells) := goodIn_app (goodIn_of _ (by decide +kernel)) ggX14_setParts_X14_tells
theorem dX14_setParts_0 : decode cX14_setParts 0 = .ok (.aload_n 0, 1) := by decide +kernel
theorem dX14_setParts_1 : decode cX14_setParts 1 = .ok (.getfield 10, 3) := by decide +kernel
theorem dX14_setParts_4 : decode cX14_setParts 4 = .ok (.iload_n 1, 1) := by decide +kernel
theorem dX14_setParts_5 : decode cX14_setParts 5 = .ok (.invokestatic 85, 3) := by decide +kernel
theorem dX14_setParts_8 : decode cX14_setParts 8 = .ok (.ifCond .ne 9, 3) := by decide +kernel
theorem dX14_setParts_11 : decode cX14_setParts 11 = .ok (.aload_n 0, 1) := by decide +kernel
theorem dX14_setParts_12 : decode cX14_setParts 12 = .ok (.iconst 1, 1) := by decide +kernel
theorem dX14_setParts_13 : decode cX14_setParts 13 = .ok (.invokevirtual 42, 3) := by decide +kernel
theorem dX14_setParts_16 : decode cX14_setParts 16 = .ok (.ireturn, 1) := by decide +kernel
theorem dX14_setParts_17 : decode cX14_setParts 17 = .ok (.iload_n 2, 1) := by decide +kernel
theorem dX14_setParts_18 : decode cX14_setParts 18 = .ok (.iconst 0, 1) := by decide +kernel
theorem dX14_setParts_19 : decode cX14_setParts 19 = .ok (.iconst 5, 1) := by decide +kernel
theorem dX14_setParts_20 : decode cX14_setParts 20 = .ok (.invokestatic 38, 3) := by decide +kernel
theorem dX14_setParts_23 : decode cX14_setParts 23 = .ok (.ifCond .eq 12, 3) := by decide +kernel
theorem dX14_setParts_26 : decode cX14_setParts 26 = .ok (.iload_n 3, 1) := by decide +kernel
theorem dX14_setParts_27 : decode cX14_setParts 27 = .ok (.iconst 0, 1) := by decide +kernel
theorem dX14_setParts_28 : decode cX14_setParts 28 = .ok (.iconst 4, 1) := by decide +kernel
theorem dX14_setParts_29 : decode cX14_setParts 29 = .ok (.invokestatic 38, 3) := by decide +kernel
theorem dX14_setParts_32 : decode cX14_setParts 32 = .ok (.ifCond .ne 9, 3) := by decide +kernel
theorem dX14_setParts_35 : decode cX14_setParts 35 = .ok (.aload_n 0, 1) := by decide +kernel
theorem dX14_setParts_36 : decode cX14_setParts 36 = .ok (.iconst 2, 1) := by decide +kernel
theorem dX14_setParts_37 : decode cX14_setParts 37 = .ok (.invokevirtual 42, 3) := by decide +kernel
theorem dX14_setParts_40 : decode cX14_setParts 40 = .ok (.ireturn, 1) := by decide +kernel
theorem dX14_setParts_41 : decode cX14_setParts 41 = .ok (.aload_n 0, 1) := by decide +kernel
theorem dX14_setParts_42 : decode cX14_setParts 42 = .ok (.getfield 10, 3) := by decide +kernel
theorem dX14_setParts_45 : decode cX14_setParts 45 = .ok (.iload_n 1, 1) := by decide +kernel
theorem dX14_setParts_46 : decode cX14_setParts 46 = .ok (.invokevirtual 89, 3) := by decide +kernel
theorem dX14_setParts_49 : decode cX14_setParts 49 = .ok (.checkcast 47, 3) := by decide +kernel
theorem dX14_setParts_52 : decode cX14_setParts 52 = .ok (.astore 4, 2) := by decide +kernel
theorem dX14_setParts_54 : decode cX14_setParts 54 = .ok (.aload 4, 2) := by decide +kernel
theorem dX14_setParts_56 : decode cX14_setParts 56 = .ok (.invokevirtual 93, 3) := by decide +kernel
theorem dX14_setParts_59 : decode cX14_setParts 59 = .ok (.invokeinterface 32 1, 5) := by decide +kernel
theorem dX14_setParts_64 : decode cX14_setParts 64 = .ok (.aload 4, 2) := by decide +kernel
theorem dX14_setParts_66 : decode cX14_setParts 66 = .ok (.getfield 97, 3) := by decide +kernel
theorem dX14_setParts_69 : decode cX14_setParts 69 = .ok (.iload_n 2, 1) := by decide +kernel
theorem dX14_setParts_70 : decode cX14_setParts 70 = .ok (.iaload, 1) := by decide +kernel
theorem dX14_setParts_71 : decode cX14_setParts 71 = .ok (.isub, 1) := by decide +kernel
theorem dX14_setParts_72 : decode cX14_setParts 72 = .ok (.iload_n 3, 1) := by decide +kernel
theorem dX14_setParts_73 : decode cX14_setParts 73 = .ok (.iadd, 1) := by decide +kernel
theorem dX14_setParts_74 : decode cX14_setParts 74 = .ok (.istore 5, 2) := by decide +kernel
theorem dX14_setParts_76 : decode cX14_setParts 76 = .ok (.aload_n 0, 1) := by decide +kernel
theorem dX14_setParts_77 : decode cX14_setParts 77 = .ok (.iload_n 1, 1) := by decide +kernel
theorem dX14_setParts_78 : decode cX14_setParts 78 = .ok (.invokevirtual 101, 3) := by decide +kernel
theorem dX14_setParts_81 : decode cX14_setParts 81 = .ok (.ifCond .ne 10, 3) := by decide +kernel
theorem dX14_setParts_84 : decode cX14_setParts 84 = .ok (.iload 5, 2) := by decide +kernel
theorem dX14_setParts_86 : decode cX14_setParts 86 = .ok (.bipush 10, 2) := by decide +kernel
theorem dX14_setParts_88 : decode cX14_setParts 88 = .ok (.if_icmp .le 9, 3) := by decide +kernel
theorem dX14_setParts_91 : decode cX14_setParts 91 = .ok (.aload_n 0, 1) := by decide +kernel
theorem dX14_setParts_92 : decode cX14_setParts 92 = .ok (.iconst 3, 1) := by decide +kernel
theorem dX14_setParts_93 : decode cX14_setParts 93 = .ok (.invokevirtual 42, 3) := by decide +kernel
theorem dX14_setParts_96 : decode cX14_setParts 96 = .ok (.ireturn, 1) := by decide +kernel
theorem dX14_setParts_97 : decode cX14_setParts 97 = .ok (.aload 4, 2) := by decide +kernel
theorem dX14_setParts_99 : decode cX14_setParts 99 = .ok (.getfield 97, 3) := by decide +kernel
theorem dX14_setParts_102 : decode cX14_setParts 102 = .ok (.iload_n 2, 1) := by decide +kernel
theorem dX14_setParts_103 : decode cX14_setParts 103 = .ok (.iload_n 3, 1) := by decide +kernel
theorem dX14_setParts_104 : decode cX14_setParts 104 = .ok (.iastore, 1) := by decide +kernel
theorem dX14_setParts_105 : decode cX14_setParts 105 = .ok (.aload_n 0, 1) := by decide +kernel
theorem dX14_setParts_106 : decode cX14_setParts 106 = .ok (.iload 5, 2) := by decide +kernel
theorem dX14_setParts_108 : decode cX14_setParts 108 = .ok (.invokevirtual 56, 3) := by decide +kernel
theorem dX14_setParts_111 : decode cX14_setParts 111 = .ok (.ireturn, 1) := by decide +kernel
set_option maxRecDepth 20000 in
theorem ggX14_setSolo_X14_isOf : GoodIn wsX14_setSolo wsX14_isOf := goodIn_r _ [7, 8, 9, 10, 11, 12, 13, 14, 15, 16, 17, 18, 19, 20, 6, 21, 161, 162, 163, 164, 165] (by decide +kernel) (by decide +kernel)
set_option maxRecDepth 20000 in
theorem gX14_setSolo_X14_isOf : GoodIn wsX14_setSolo (va_wsS RX14 85 yX14_isOf wsX14_isOf) := goodIn_app (goodIn_of _ (by decide +kernel)) ggX14_setSolo_X14_isOf
set_option maxRecDepth 20000 in
theorem ggX14_setSolo_X14_isInService : GoodIn wsX14_setSolo wsX14_isInService := goodIn_r _ [25, 26, 27, 28, 29, 30, 31, 11, 32, 33, 34, 35, 36, 37, 38, 39, 40, 41, 42, 43, 44, 45, 46, 47, 48, 49, 50, 51, 52, 53, 54, 55, 56, 57, 58, 59, 60, 61, 62, 63, 64, 65, 66, 67, 68, 69, 70, 71, 72, 73, 74, 13, 75, 76, 77, 78, 79, 80, 81, 82, 83, 84, 85, 86, 87, 88, 89, 16, 90, 91, 18, 92, 93, 94, 95, 96, 97, 98, 99, 100, 101, 102, 103, 104, 105, 106, 107, 108, 109, 110, 111, 112, 113, 114, 115, 116, 117, 118, 119, 120, 121, 122, 123, 124, 125, 126, 127, 128, 129, 130, 131, 132, 133, 134, 135, 136, 137, 138, 139, 140, 141, 142, 150, 151, 152, 153, 154, 155, 166, 167, 168, 169, 170, 171, 172, 173, 174, 175, 176, 177, 178, 179, 180, 181, 161, 162, 163, 182, 183, 184, 185, 164, 165, 186, 187, 188, 189, 190] (by decide +kernel) (by decide +kernel)
set_option maxRecDepth 20000 in
theorem gX14_setSolo_X14_isInService : GoodIn wsX14_setSolo (wsV RX14 101 RX14 yX14_isInService wsX14_isInService) := goodIn_app (goodIn_of _ (by decide +kernel)) ggX14_setSolo_X14_isInService
set_option maxRecDepth 20000 in
theorem ggX14_setSolo_X14_failsIf : GoodIn wsX14_setSolo wsX14_failsIf := goodIn_r _ [146, 147, 150, 151, 152, 153, 154, 155] (by decide +kernel) (by decide +kernel)
set_option maxRecDepth 20000 in
theorem gX14_setSolo_X14_failsIf : GoodIn wsX14_setSolo (wsV RX14 105 RX14 yX14_failsIf wsX14_failsIf) := goodIn_app (goodIn_of _ (by decide +kernel)) ggX14_setSolo_X14_failsIf
set_option maxRecDepth 20000 in
theorem ggX14_setSolo_Jx4a65c_get_915e3 : GoodIn wsX14_setSolo wsJx4a65c_get_915e3 := goodIn_r _ [74, 13, 75, 76, 77, 78, 79, 80, 81, 82, 83, 84, 85, 11, 86, 87, 161, 162, 163] (by decide +kernel) (by decide +kernel)
set_option maxRecDepth 20000 in
theorem gX14_setSolo_Jx4a65c_get_915e3 : GoodIn wsX14_setSolo (wsV RX14 89 RJx4a65c yJx4a65c_get_915e3 wsJx4a65c_get_915e3) := goodIn_app (goodIn_of _ (by decide +kernel)) ggX14_setSolo_Jx4a65c_get_915e3
theorem dX14_setSolo_0 : decode cX14_setSolo 0 = .ok (.aload_n 0, 1) := by decide +kernel
theorem dX14_setSolo_1 : decode cX14_setSolo 1 = .ok (.aload_n 0, 1) := by decide +kernel
theorem dX14_setSolo_2 : decode cX14_setSolo 2 = .ok (.getfield 10, 3) := by decide +kernel
theorem dX14_setSolo_5 : decode cX14_setSolo 5 = .ok (.iload_n 1, 1) := by decide +kernel
theorem dX14_setSolo_6 : decode cX14_setSolo 6 = .ok (.invokestatic 85, 3) := by decide +kernel
theorem dX14_setSolo_9 : decode cX14_setSolo 9 = .ok (.ifCond .ne 7, 3) := by decide +kernel
theorem dX14_setSolo_12 : decode cX14_setSolo 12 = .ok (.iconst 1, 1) := by decide +kernel
theorem dX14_setSolo_13 : decode cX14_setSolo 13 = .ok (.goto 16, 3) := by decide +kernel
theorem dX14_setSolo_16 : decode cX14_setSolo 16 = .ok (.aload_n 0, 1) := by decide +kernel
theorem dX14_setSolo_17 : decode cX14_setSolo 17 = .ok (.iload_n 1, 1) := by decide +kernel
theorem dX14_setSolo_18 : decode cX14_setSolo 18 = .ok (.invokevirtual 101, 3) := by decide +kernel
theorem dX14_setSolo_21 : decode cX14_setSolo 21 = .ok (.ifCond .eq 7, 3) := by decide +kernel
theorem dX14_setSolo_24 : decode cX14_setSolo 24 = .ok (.iconst 2, 1) := by decide +kernel
theorem dX14_setSolo_25 : decode cX14_setSolo 25 = .ok (.goto 4, 3) := by decide +kernel
theorem dX14_setSolo_28 : decode cX14_setSolo 28 = .ok (.iconst 0, 1) := by decide +kernel
theorem dX14_setSolo_29 : decode cX14_setSolo 29 = .ok (.invokevirtual 105, 3) := by decide +kernel
theorem dX14_setSolo_32 : decode cX14_setSolo 32 = .ok (.ifCond .eq 5, 3) := by decide +kernel
theorem dX14_setSolo_35 : decode cX14_setSolo 35 = .ok (.iconst 0, 1) := by decide +kernel
theorem dX14_setSolo_36 : decode cX14_setSolo 36 = .ok (.ireturn, 1) := by decide +kernel
theorem dX14_setSolo_37 : decode cX14_setSolo 37 = .ok (.aload_n 0, 1) := by decide +kernel
theorem dX14_setSolo_38 : decode cX14_setSolo 38 = .ok (.getfield 10, 3) := by decide +kernel
theorem dX14_setSolo_41 : decode cX14_setSolo 41 = .ok (.iload_n 1, 1) := by decide +kernel
theorem dX14_setSolo_42 : decode cX14_setSolo 42 = .ok (.invokevirtual 89, 3) := by decide +kernel
theorem dX14_setSolo_45 : decode cX14_setSolo 45 = .ok (.checkcast 47, 3) := by decide +kernel
theorem dX14_setSolo_48 : decode cX14_setSolo 48 = .ok (.getfield 108, 3) := by decide +kernel
theorem dX14_setSolo_51 : decode cX14_setSolo 51 = .ok (.istore_n 3, 1) := by decide +kernel
theorem dX14_setSolo_52 : decode cX14_setSolo 52 = .ok (.aload_n 0, 1) := by decide +kernel
theorem dX14_setSolo_53 : decode cX14_setSolo 53 = .ok (.getfield 10, 3) := by decide +kernel
theorem dX14_setSolo_56 : decode cX14_setSolo 56 = .ok (.iload_n 1, 1) := by decide +kernel
theorem dX14_setSolo_57 : decode cX14_setSolo 57 = .ok (.invokevirtual 89, 3) := by decide +kernel
theorem dX14_setSolo_60 : decode cX14_setSolo 60 = .ok (.checkcast 47, 3) := by decide +kernel
theorem dX14_setSolo_63 : decode cX14_setSolo 63 = .ok (.iload_n 2, 1) := by decide +kernel
theorem dX14_setSolo_64 : decode cX14_setSolo 64 = .ok (.putfield 108, 3) := by decide +kernel
theorem dX14_setSolo_67 : decode cX14_setSolo 67 = .ok (.iload_n 3, 1) := by decide +kernel
theorem dX14_setSolo_68 : decode cX14_setSolo 68 = .ok (.ireturn, 1) := by decide +kernel
set_option maxRecDepth 20000 in
theorem ggX14_hire_X14_isOf : GoodIn wsX14_hire wsX14_isOf := goodIn_r _ [9, 10, 11, 12, 13, 14, 15, 16, 17, 18, 19, 20, 21, 22, 8, 23, 119, 120, 121, 122, 123] (by decide +kernel) (by decide +kernel)
set_option maxRecDepth 20000 in
theorem gX14_hire_X14_isOf : GoodIn wsX14_hire (va_wsS RX14 85 yX14_isOf wsX14_isOf) := goodIn_app (goodIn_of _ (by decide +kernel)) ggX14_hire_X14_isOf
set_option maxRecDepth 20000 in
theorem ggX14_hire_X14_fails : GoodIn wsX14_hire wsX14_fails := goodIn_r _ [27, 28, 108, 109, 110, 111, 112, 113] (by decide +kernel) (by decide +kernel)
set_option maxRecDepth 20000 in
theorem gX14_hire_X14_fails : GoodIn wsX14_hire (wsV RX14 42 RX14 yX14_fails wsX14_fails) := goodIn_app (goodIn_of _ (by decide +kernel)) ggX14_hire_X14_fails
set_option maxRecDepth 20000 in
theorem ggX14_hire_X14_in : GoodIn wsX14_hire wsX14_in := goodIn_r _ [23] (by decide +kernel) (by decide +kernel)
set_option maxRecDepth 20000 in
theorem gX14_hire_X14_in : GoodIn wsX14_hire (va_wsS RX14 38 yX14_in wsX14_in) := goodIn_app (goodIn_of _ (by decide +kernel)) ggX14_hire_X14_in
set_option maxRecDepth 20000 in
theorem ggX14_hire_Jx4a65c_get_915e3 : GoodIn wsX14_hire wsJx4a65c_get_915e3 := goodIn_r _ [32, 15, 33, 34, 35, 36, 37, 38, 39, 40, 41, 42, 43, 13, 44, 45, 119, 120, 121] (by decide +kernel) (by decide +kernel)
set_option maxRecDepth 20000 in
theorem gX14_hire_Jx4a65c_get_915e3 : GoodIn wsX14_hire (wsV RX14 89 RJx4a65c yJx4a65c_get_915e3 wsJx4a65c_get_915e3) := goodIn_app (goodIn_of _ (by decide +kernel)) ggX14_hire_Jx4a65c_get_915e3
set_option maxRecDepth 20000 in
theorem ggX14_hire_Jx4a65c_size_8abf5 : GoodIn wsX14_hire wsJx4a65c_size_8abf5 := goodIn_r _ [14, 15, 119, 120, 121] (by decide +kernel) (by decide +kernel)
set_option maxRecDepth 20000 in
theorem gX14_hire_Jx4a65c_size_8abf5 : GoodIn wsX14_hire (wsV RX14 46 RJx4a65c yJx4a65c_size_8abf5 wsJx4a65c_size_8abf5) := goodIn_app (goodIn_of _ (by decide +kernel)) ggX14_hire_Jx4a65c_size_8abf5
set_option maxRecDepth 20000 in
theorem ggX14_hire_Jx4a65c_add_9ea2d : GoodIn wsX14_hire wsJx4a65c_add_9ea2d := goodIn_r _ [51, 52, 53, 45, 15, 54, 55, 56, 13, 57, 58, 59, 60, 61, 62, 63, 64, 65, 66, 67, 68, 69, 70, 71, 72, 73, 74, 75, 76, 77, 78, 79, 80, 81, 82, 83, 84, 85, 86, 87, 88, 89, 90, 91, 92, 93, 94, 95, 96, 97, 98, 99, 100, 101, 102, 103, 119, 120, 121, 124, 125, 126, 127] (by decide +kernel) (by decide +kernel)
set_option maxRecDepth 20000 in
theorem gX14_hire_Jx4a65c_add_9ea2d : GoodIn wsX14_hire (wsV RX14 52 RJx4a65c yJx4a65c_add_9ea2d wsJx4a65c_add_9ea2d) := goodIn_app (goodIn_of _ (by decide +kernel)) ggX14_hire_Jx4a65c_add_9ea2d
set_option maxRecDepth 20000 in
theorem ggX14_hire_X14_tells : GoodIn wsX14_hire wsX14_tells := goodIn_r _ [107, 28, 108, 109, 110, 111, 112, 113] (by decide +kernel) (by decide +kernel)
set_option maxRecDepth 20000 in
theorem gX14_hire_X14_tells : GoodIn wsX14_hire (wsV RX14 56 RX14 yX14_tells wsX14_tells) := goodIn_app (goodIn_of _ (by decide +kernel)) ggX14_hire_X14_tells
theorem dX14_hire_0 : decode cX14_hire 0 = .ok (.aload_n 0, 1) := by decide +kernel
theorem dX14_hire_1 : decode cX14_hire 1 = .ok (.getfield 10, 3) := by decide +kernel
theorem dX14_hire_4 : decode cX14_hire 4 = .ok (.iload_n 1, 1) := by decide +kernel
theorem dX14_hire_5 : decode cX14_hire 5 = .ok (.invokestatic 85, 3) := by decide +kernel
theorem dX14_hire_8 : decode cX14_hire 8 = .ok (.ifCond .ne 9, 3) := by decide +kernel
theorem dX14_hire_11 : decode cX14_hire 11 = .ok (.aload_n 0, 1) := by decide +kernel
theorem dX14_hire_12 : decode cX14_hire 12 = .ok (.iconst 1, 1) := by decide +kernel
theorem dX14_hire_13 : decode cX14_hire 13 = .ok (.invokevirtual 42, 3) := by decide +kernel
theorem dX14_hire_16 : decode cX14_hire 16 = .ok (.ireturn, 1) := by decide +kernel
theorem dX14_hire_17 : decode cX14_hire 17 = .ok (.iload_n 2, 1) := by decide +kernel
theorem dX14_hire_18 : decode cX14_hire 18 = .ok (.iconst 0, 1) := by decide +kernel
theorem dX14_hire_19 : decode cX14_hire 19 = .ok (.sipush 399, 3) := by decide +kernel
theorem dX14_hire_22 : decode cX14_hire 22 = .ok (.invokestatic 38, 3) := by decide +kernel
theorem dX14_hire_25 : decode cX14_hire 25 = .ok (.ifCond .eq 25, 3) := by decide +kernel
theorem dX14_hire_28 : decode cX14_hire 28 = .ok (.iload_n 3, 1) := by decide +kernel
theorem dX14_hire_29 : decode cX14_hire 29 = .ok (.iconst 1, 1) := by decide +kernel
theorem dX14_hire_30 : decode cX14_hire 30 = .ok (.bipush 20, 2) := by decide +kernel
theorem dX14_hire_32 : decode cX14_hire 32 = .ok (.invokestatic 38, 3) := by decide +kernel
theorem dX14_hire_35 : decode cX14_hire 35 = .ok (.ifCond .eq 15, 3) := by decide +kernel
theorem dX14_hire_38 : decode cX14_hire 38 = .ok (.iload 4, 2) := by decide +kernel
theorem dX14_hire_40 : decode cX14_hire 40 = .ok (.iconst 1, 1) := by decide +kernel
theorem dX14_hire_41 : decode cX14_hire 41 = .ok (.sipush 999, 3) := by decide +kernel
theorem dX14_hire_44 : decode cX14_hire 44 = .ok (.invokestatic 38, 3) := by decide +kernel
theorem dX14_hire_47 : decode cX14_hire 47 = .ok (.ifCond .ne 9, 3) := by decide +kernel
theorem dX14_hire_50 : decode cX14_hire 50 = .ok (.aload_n 0, 1) := by decide +kernel
theorem dX14_hire_51 : decode cX14_hire 51 = .ok (.iconst 2, 1) := by decide +kernel
theorem dX14_hire_52 : decode cX14_hire 52 = .ok (.invokevirtual 42, 3) := by decide +kernel
theorem dX14_hire_55 : decode cX14_hire 55 = .ok (.ireturn, 1) := by decide +kernel
theorem dX14_hire_56 : decode cX14_hire 56 = .ok (.aload_n 0, 1) := by decide +kernel
theorem dX14_hire_57 : decode cX14_hire 57 = .ok (.getfield 10, 3) := by decide +kernel
theorem dX14_hire_60 : decode cX14_hire 60 = .ok (.iload_n 1, 1) := by decide +kernel
theorem dX14_hire_61 : decode cX14_hire 61 = .ok (.invokevirtual 89, 3) := by decide +kernel
theorem dX14_hire_64 : decode cX14_hire 64 = .ok (.checkcast 47, 3) := by decide +kernel
theorem dX14_hire_67 : decode cX14_hire 67 = .ok (.getfield 112, 3) := by decide +kernel
theorem dX14_hire_70 : decode cX14_hire 70 = .ok (.ifCond .eq 9, 3) := by decide +kernel
theorem dX14_hire_73 : decode cX14_hire 73 = .ok (.aload_n 0, 1) := by decide +kernel
theorem dX14_hire_74 : decode cX14_hire 74 = .ok (.iconst 3, 1) := by decide +kernel
theorem dX14_hire_75 : decode cX14_hire 75 = .ok (.invokevirtual 42, 3) := by decide +kernel
theorem dX14_hire_78 : decode cX14_hire 78 = .ok (.ireturn, 1) := by decide +kernel
theorem dX14_hire_79 : decode cX14_hire 79 = .ok (.aload_n 0, 1) := by decide +kernel
theorem dX14_hire_80 : decode cX14_hire 80 = .ok (.getfield 10, 3) := by decide +kernel
theorem dX14_hire_83 : decode cX14_hire 83 = .ok (.iload_n 1, 1) := by decide +kernel
theorem dX14_hire_84 : decode cX14_hire 84 = .ok (.invokevirtual 89, 3) := by decide +kernel
theorem dX14_hire_87 : decode cX14_hire 87 = .ok (.checkcast 47, 3) := by decide +kernel
theorem dX14_hire_90 : decode cX14_hire 90 = .ok (.getfield 115, 3) := by decide +kernel
theorem dX14_hire_93 : decode cX14_hire 93 = .ok (.invokevirtual 46, 3) := by decide +kernel
theorem dX14_hire_96 : decode cX14_hire 96 = .ok (.bipush 6, 2) := by decide +kernel
theorem dX14_hire_98 : decode cX14_hire 98 = .ok (.if_icmp .ne 9, 3) := by decide +kernel
theorem dX14_hire_101 : decode cX14_hire 101 = .ok (.aload_n 0, 1) := by decide +kernel
theorem dX14_hire_102 : decode cX14_hire 102 = .ok (.iconst 4, 1) := by decide +kernel
theorem dX14_hire_103 : decode cX14_hire 103 = .ok (.invokevirtual 42, 3) := by decide +kernel
theorem dX14_hire_106 : decode cX14_hire 106 = .ok (.ireturn, 1) := by decide +kernel
theorem dX14_hire_107 : decode cX14_hire 107 = .ok (.aload_n 0, 1) := by decide +kernel
theorem dX14_hire_108 : decode cX14_hire 108 = .ok (.getfield 10, 3) := by decide +kernel
theorem dX14_hire_111 : decode cX14_hire 111 = .ok (.iload_n 1, 1) := by decide +kernel
theorem dX14_hire_112 : decode cX14_hire 112 = .ok (.invokevirtual 89, 3) := by decide +kernel
theorem dX14_hire_115 : decode cX14_hire 115 = .ok (.checkcast 47, 3) := by decide +kernel
theorem dX14_hire_118 : decode cX14_hire 118 = .ok (.getfield 115, 3) := by decide +kernel
theorem dX14_hire_121 : decode cX14_hire 121 = .ok (.iconst 3, 1) := by decide +kernel
theorem dX14_hire_122 : decode cX14_hire 122 = .ok (.newarray .int, 2) := by decide +kernel
theorem dX14_hire_124 : decode cX14_hire 124 = .ok (.dup, 1) := by decide +kernel
theorem dX14_hire_125 : decode cX14_hire 125 = .ok (.iconst 0, 1) := by decide +kernel
theorem dX14_hire_126 : decode cX14_hire 126 = .ok (.iload_n 2, 1) := by decide +kernel
theorem dX14_hire_127 : decode cX14_hire 127 = .ok (.iastore, 1) := by decide +kernel
theorem dX14_hire_128 : decode cX14_hire 128 = .ok (.dup, 1) := by decide +kernel
theorem dX14_hire_129 : decode cX14_hire 129 = .ok (.iconst 1, 1) := by decide +kernel
theorem dX14_hire_130 : decode cX14_hire 130 = .ok (.iload_n 3, 1) := by decide +kernel
theorem dX14_hire_131 : decode cX14_hire 131 = .ok (.iastore, 1) := by decide +kernel
theorem dX14_hire_132 : decode cX14_hire 132 = .ok (.dup, 1) := by decide +kernel
theorem dX14_hire_133 : decode cX14_hire 133 = .ok (.iconst 2, 1) := by decide +kernel
theorem dX14_hire_134 : decode cX14_hire 134 = .ok (.iload 4, 2) := by decide +kernel
theorem dX14_hire_136 : decode cX14_hire 136 = .ok (.iastore, 1) := by decide +kernel
theorem dX14_hire_137 : decode cX14_hire 137 = .ok (.invokevirtual 52, 3) := by decide +kernel
theorem dX14_hire_140 : decode cX14_hire 140 = .ok (.pop, 1) := by decide +kernel
theorem dX14_hire_141 : decode cX14_hire 141 = .ok (.aload_n 0, 1) := by decide +kernel
theorem dX14_hire_142 : decode cX14_hire 142 = .ok (.iload_n 3, 1) := by decide +kernel
theorem dX14_hire_143 : decode cX14_hire 143 = .ok (.iload 4, 2) := by decide +kernel
theorem dX14_hire_145 : decode cX14_hire 145 = .ok (.imul, 1) := by decide +kernel
theorem dX14_hire_146 : decode cX14_hire 146 = .ok (.invokevirtual 56, 3) := by decide +kernel
theorem dX14_hire_149 : decode cX14_hire 149 = .ok (.ireturn, 1) := by decide +kernel
set_option maxRecDepth 20000 in
theorem ggX14_isScoreThere_X14_isOf : GoodIn wsX14_isScoreThere wsX14_isOf := goodIn_r _ [6, 7, 8, 9, 10, 11, 12, 13, 14, 15, 16, 17, 18, 19, 5, 20, 105, 106, 107, 108, 109] (by decide +kernel) (by decide +kernel)
set_option maxRecDepth 20000 in
theorem gX14_isScoreThere_X14_isOf : GoodIn wsX14_isScoreThere (va_wsS RX14 85 yX14_isOf wsX14_isOf) := goodIn_app (goodIn_of _ (by decide +kernel)) ggX14_isScoreThere_X14_isOf
set_option maxRecDepth 20000 in
theorem ggX14_isScoreThere_X14_in : GoodIn wsX14_isScoreThere wsX14_in := goodIn_r _ [20] (by decide +kernel) (by decide +kernel)
set_option maxRecDepth 20000 in
theorem gX14_isScoreThere_X14_in : GoodIn wsX14_isScoreThere (va_wsS RX14 38 yX14_in wsX14_in) := goodIn_app (goodIn_of _ (by decide +kernel)) ggX14_isScoreThere_X14_in
set_option maxRecDepth 20000 in
theorem ggX14_isScoreThere_X14_failsIf : GoodIn wsX14_isScoreThere wsX14_failsIf := goodIn_r _ [24, 25, 99, 100, 101, 102, 103, 104] (by decide +kernel) (by decide +kernel)
set_option maxRecDepth 20000 in
theorem gX14_isScoreThere_X14_failsIf : GoodIn wsX14_isScoreThere (wsV RX14 105 RX14 yX14_failsIf wsX14_failsIf) := goodIn_app (goodIn_of _ (by decide +kernel)) ggX14_isScoreThere_X14_failsIf
set_option maxRecDepth 20000 in
theorem ggX14_isScoreThere_Jx4a65c_get_915e3 : GoodIn wsX14_isScoreThere wsJx4a65c_get_915e3 := goodIn_r _ [29, 12, 30, 31, 32, 33, 34, 35, 36, 37, 38, 39, 40, 10, 41, 42, 105, 106, 107] (by decide +kernel) (by decide +kernel)
set_option maxRecDepth 20000 in
theorem gX14_isScoreThere_Jx4a65c_get_915e3 : GoodIn wsX14_isScoreThere (wsV RX14 89 RJx4a65c yJx4a65c_get_915e3 wsJx4a65c_get_915e3) := goodIn_app (goodIn_of _ (by decide +kernel)) ggX14_isScoreThere_Jx4a65c_get_915e3
set_option maxRecDepth 20000 in
theorem ggX14_isScoreThere_X13_isThere : GoodIn wsX14_isScoreThere wsX13_isThere := goodIn_ca (goodIn_r _ [47, 48, 49, 50, 51, 52, 53, 10, 54, 55, 56, 57, 58, 59, 60, 61, 62, 63, 64, 65, 66, 67, 68, 69, 70, 71, 72, 73, 74, 75, 76, 77, 78, 79, 80, 81, 82, 83, 84, 85, 86, 87, 88, 89, 90, 91, 92, 93, 94, 27, 29, 12, 30, 31, 32, 33, 34, 35, 36, 37, 38, 39, 40, 41, 42, 95, 96, 15, 97, 98, 17, 110, 111, 112, 113, 114, 115, 116, 117, 118, 105, 106, 107, 119, 120, 121, 122, 108, 109] (by decide +kernel) (by decide +kernel)) (goodIn_sub (fun _ h => List.mem_cons_of_mem _ (List.mem_append_right _ h)) (by decide +kernel))
set_option maxRecDepth 20000 in
theorem gX14_isScoreThere_X13_isThere : GoodIn wsX14_isScoreThere (wsV RX14 118 RX13 yX13_isThere wsX13_isThere) := goodIn_app (goodIn_of _ (by decide +kernel)) ggX14_isScoreThere_X13_isThere
theorem dX14_isScoreThere_0 : decode cX14_isScoreThere 0 = .ok (.aload_n 0, 1) := by decide +kernel
theorem dX14_isScoreThere_1 : decode cX14_isScoreThere 1 = .ok (.aload_n 0, 1) := by decide +kernel
theorem dX14_isScoreThere_2 : decode cX14_isScoreThere 2 = .ok (.getfield 10, 3) := by decide +kernel
theorem dX14_isScoreThere_5 : decode cX14_isScoreThere 5 = .ok (.iload_n 1, 1) := by decide +kernel
theorem dX14_isScoreThere_6 : decode cX14_isScoreThere 6 = .ok (.invokestatic 85, 3) := by decide +kernel
theorem dX14_isScoreThere_9 : decode cX14_isScoreThere 9 = .ok (.ifCond .ne 7, 3) := by decide +kernel
theorem dX14_isScoreThere_12 : decode cX14_isScoreThere 12 = .ok (.iconst 1, 1) := by decide +kernel
theorem dX14_isScoreThere_13 : decode cX14_isScoreThere 13 = .ok (.goto 19, 3) := by decide +kernel
theorem dX14_isScoreThere_16 : decode cX14_isScoreThere 16 = .ok (.iload_n 2, 1) := by decide +kernel
theorem dX14_isScoreThere_17 : decode cX14_isScoreThere 17 = .ok (.iconst 0, 1) := by decide +kernel
theorem dX14_isScoreThere_18 : decode cX14_isScoreThere 18 = .ok (.sipush 399, 3) := by decide +kernel
theorem dX14_isScoreThere_21 : decode cX14_isScoreThere 21 = .ok (.invokestatic 38, 3) := by decide +kernel
theorem dX14_isScoreThere_24 : decode cX14_isScoreThere 24 = .ok (.ifCond .eq 7, 3) := by decide +kernel
theorem dX14_isScoreThere_27 : decode cX14_isScoreThere 27 = .ok (.iconst 0, 1) := by decide +kernel
theorem dX14_isScoreThere_28 : decode cX14_isScoreThere 28 = .ok (.goto 4, 3) := by decide +kernel
theorem dX14_isScoreThere_31 : decode cX14_isScoreThere 31 = .ok (.iconst 2, 1) := by decide +kernel
theorem dX14_isScoreThere_32 : decode cX14_isScoreThere 32 = .ok (.invokevirtual 105, 3) := by decide +kernel
theorem dX14_isScoreThere_35 : decode cX14_isScoreThere 35 = .ok (.ifCond .ne 25, 3) := by decide +kernel
theorem dX14_isScoreThere_38 : decode cX14_isScoreThere 38 = .ok (.aload_n 0, 1) := by decide +kernel
theorem dX14_isScoreThere_39 : decode cX14_isScoreThere 39 = .ok (.getfield 10, 3) := by decide +kernel
theorem dX14_isScoreThere_42 : decode cX14_isScoreThere 42 = .ok (.iload_n 1, 1) := by decide +kernel
theorem dX14_isScoreThere_43 : decode cX14_isScoreThere 43 = .ok (.invokevirtual 89, 3) := by decide +kernel
theorem dX14_isScoreThere_46 : decode cX14_isScoreThere 46 = .ok (.checkcast 47, 3) := by decide +kernel
theorem dX14_isScoreThere_49 : decode cX14_isScoreThere 49 = .ok (.iload_n 2, 1) := by decide +kernel
theorem dX14_isScoreThere_50 : decode cX14_isScoreThere 50 = .ok (.invokevirtual 118, 3) := by decide +kernel
theorem dX14_isScoreThere_53 : decode cX14_isScoreThere 53 = .ok (.ifCond .eq 7, 3) := by decide +kernel
theorem dX14_isScoreThere_56 : decode cX14_isScoreThere 56 = .ok (.iconst 1, 1) := by decide +kernel
theorem dX14_isScoreThere_57 : decode cX14_isScoreThere 57 = .ok (.goto 4, 3) := by decide +kernel
theorem dX14_isScoreThere_60 : decode cX14_isScoreThere 60 = .ok (.iconst 0, 1) := by decide +kernel
theorem dX14_isScoreThere_61 : decode cX14_isScoreThere 61 = .ok (.ireturn, 1) := by decide +kernel
set_option maxRecDepth 20000 in
theorem ggX14_addPlayer_X14_in : GoodIn wsX14_addPlayer wsX14_in := goodIn_r _ [8] (by decide +kernel) (by decide +kernel)
set_option maxRecDepth 20000 in
theorem gX14_addPlayer_X14_in : GoodIn wsX14_addPlayer (va_wsS RX14 38 yX14_in wsX14_in) := goodIn_app (goodIn_of _ (by decide +kernel)) ggX14_addPlayer_X14_in
set_option maxRecDepth 20000 in
theorem ggX14_addPlayer_X14_fails : GoodIn wsX14_addPlayer wsX14_fails := goodIn_r _ [12, 13, 108, 109, 110, 111, 112, 113] (by decide +kernel) (by decide +kernel)
set_option maxRecDepth 20000 in
theorem gX14_addPlayer_X14_fails : GoodIn wsX14_addPlayer (wsV RX14 42 RX14 yX14_fails wsX14_fails) := goodIn_app (goodIn_of _ (by decide +kernel)) ggX14_addPlayer_X14_fails
set_option maxRecDepth 20000 in
theorem ggX14_addPlayer_Jx4a65c_size_8abf5 : GoodIn wsX14_addPlayer wsJx4a65c_size_8abf5 := goodIn_r _ [18, 19, 119, 120, 121] (by decide +kernel) (by decide +kernel)
set_option maxRecDepth 20000 in
theorem gX14_addPlayer_Jx4a65c_size_8abf5 : GoodIn wsX14_addPlayer (wsV RX14 46 RJx4a65c yJx4a65c_size_8abf5 wsJx4a65c_size_8abf5) := goodIn_app (goodIn_of _ (by decide +kernel)) ggX14_addPlayer_Jx4a65c_size_8abf5
set_option maxRecDepth 20000 in
theorem ggX14_addPlayer_X11_init : GoodIn wsX14_addPlayer wsX11_init := goodIn_r _ [22, 23, 24, 25, 26, 27, 17, 28, 29, 30, 31, 32, 33, 34, 35, 36, 37, 38, 39, 40, 41, 42, 43, 44, 45, 46, 47, 48, 119, 120, 121, 114, 115, 116, 117, 118] (by decide +kernel) (by decide +kernel)
set_option maxRecDepth 20000 in
theorem gX14_addPlayer_X11_init : GoodIn wsX14_addPlayer (wsX11_init) := ggX14_addPlayer_X11_init
set_option maxRecDepth 20000 in
theorem ggX14_addPlayer_Jx4a65c_add_9ea2d : GoodIn wsX14_addPlayer wsJx4a65c_add_9ea2d := goodIn_r _ [52, 53, 54, 38, 19, 55, 56, 57, 17, 58, 59, 60, 61, 62, 63, 64, 65, 66, 37, 67, 68, 69, 70, 71, 72, 73, 74, 75, 76, 77, 78, 79, 80, 81, 82, 83, 84, 85, 86, 87, 88, 89, 90, 91, 92, 93, 94, 95, 96, 97, 98, 99, 100, 101, 102, 103, 119, 120, 121, 122, 123, 124, 125] (by decide +kernel) (by decide +kernel)
set_option maxRecDepth 20000 in
theorem gX14_addPlayer_Jx4a65c_add_9ea2d : GoodIn wsX14_addPlayer (wsV RX14 52 RJx4a65c yJx4a65c_add_9ea2d wsJx4a65c_add_9ea2d) := goodIn_app (goodIn_of _ (by decide +kernel)) ggX14_addPlayer_Jx4a65c_add_9ea2d
set_option maxRecDepth 20000 in
theorem ggX14_addPlayer_X14_tells : GoodIn wsX14_addPlayer wsX14_tells := goodIn_r _ [107, 13, 108, 109, 110, 111, 112, 113] (by decide +kernel) (by decide +kernel)
set_option maxRecDepth 20000 in
theorem gX14_addPlayer_X14_tells : GoodIn wsX14_addPlayer (wsV RX14 56 RX14 yX14_tells wsX14_tells) := goodIn_app (goodIn_of _ (by decide +kernel)) ggX14_addPlayer_X14_tells
theorem dX14_addPlayer_0 : decode cX14_addPlayer 0 = .ok (.iload_n 1, 1) := by decide +kernel
theorem dX14_addPlayer_1 : decode cX14_addPlayer 1 = .ok (.iconst 0, 1) := by decide +kernel
theorem dX14_addPlayer_2 : decode cX14_addPlayer 2 = .ok (.iconst 5, 1) := by decide +kernel
theorem dX14_addPlayer_3 : decode cX14_addPlayer 3 = .ok (.invokestatic 38, 3) := by decide +kernel
theorem dX14_addPlayer_6 : decode cX14_addPlayer 6 = .ok (.ifCond .eq 24, 3) := by decide +kernel
theorem dX14_addPlayer_9 : decode cX14_addPlayer 9 = .ok (.iload_n 2, 1) := by decide +kernel
theorem dX14_addPlayer_10 : decode cX14_addPlayer 10 = .ok (.iconst 0, 1) := by decide +kernel
theorem dX14_addPlayer_11 : decode cX14_addPlayer 11 = .ok (.bipush 63, 2) := by decide +kernel
theorem dX14_addPlayer_13 : decode cX14_addPlayer 13 = .ok (.invokestatic 38, 3) := by decide +kernel
theorem dX14_addPlayer_16 : decode cX14_addPlayer 16 = .ok (.ifCond .eq 14, 3) := by decide +kernel
theorem dX14_addPlayer_19 : decode cX14_addPlayer 19 = .ok (.iload_n 3, 1) := by decide +kernel
theorem dX14_addPlayer_20 : decode cX14_addPlayer 20 = .ok (.iconst 1, 1) := by decide +kernel
theorem dX14_addPlayer_21 : decode cX14_addPlayer 21 = .ok (.sipush 999, 3) := by decide +kernel
theorem dX14_addPlayer_24 : decode cX14_addPlayer 24 = .ok (.invokestatic 38, 3) := by decide +kernel
theorem dX14_addPlayer_27 : decode cX14_addPlayer 27 = .ok (.ifCond .ne 9, 3) := by decide +kernel
theorem dX14_addPlayer_30 : decode cX14_addPlayer 30 = .ok (.aload_n 0, 1) := by decide +kernel
theorem dX14_addPlayer_31 : decode cX14_addPlayer 31 = .ok (.iconst 1, 1) := by decide +kernel
theorem dX14_addPlayer_32 : decode cX14_addPlayer 32 = .ok (.invokevirtual 42, 3) := by decide +kernel
theorem dX14_addPlayer_35 : decode cX14_addPlayer 35 = .ok (.ireturn, 1) := by decide +kernel
theorem dX14_addPlayer_36 : decode cX14_addPlayer 36 = .ok (.aload_n 0, 1) := by decide +kernel
theorem dX14_addPlayer_37 : decode cX14_addPlayer 37 = .ok (.getfield 16, 3) := by decide +kernel
theorem dX14_addPlayer_40 : decode cX14_addPlayer 40 = .ok (.invokevirtual 46, 3) := by decide +kernel
theorem dX14_addPlayer_43 : decode cX14_addPlayer 43 = .ok (.bipush 14, 2) := by decide +kernel
theorem dX14_addPlayer_45 : decode cX14_addPlayer 45 = .ok (.if_icmp .ne 9, 3) := by decide +kernel
theorem dX14_addPlayer_48 : decode cX14_addPlayer 48 = .ok (.aload_n 0, 1) := by decide +kernel
theorem dX14_addPlayer_49 : decode cX14_addPlayer 49 = .ok (.iconst 2, 1) := by decide +kernel
theorem dX14_addPlayer_50 : decode cX14_addPlayer 50 = .ok (.invokevirtual 42, 3) := by decide +kernel
theorem dX14_addPlayer_53 : decode cX14_addPlayer 53 = .ok (.ireturn, 1) := by decide +kernel
theorem dX14_addPlayer_54 : decode cX14_addPlayer 54 = .ok (.aload_n 0, 1) := by decide +kernel
theorem dX14_addPlayer_55 : decode cX14_addPlayer 55 = .ok (.getfield 16, 3) := by decide +kernel
theorem dX14_addPlayer_58 : decode cX14_addPlayer 58 = .ok (.new 121, 3) := by decide +kernel
theorem dX14_addPlayer_61 : decode cX14_addPlayer 61 = .ok (.dup, 1) := by decide +kernel
theorem dX14_addPlayer_62 : decode cX14_addPlayer 62 = .ok (.iload_n 1, 1) := by decide +kernel
theorem dX14_addPlayer_63 : decode cX14_addPlayer 63 = .ok (.iload_n 2, 1) := by decide +kernel
theorem dX14_addPlayer_64 : decode cX14_addPlayer 64 = .ok (.iload_n 3, 1) := by decide +kernel
theorem dX14_addPlayer_65 : decode cX14_addPlayer 65 = .ok (.invokespecial 123, 3) := by decide +kernel
theorem dX14_addPlayer_68 : decode cX14_addPlayer 68 = .ok (.invokevirtual 52, 3) := by decide +kernel
theorem dX14_addPlayer_71 : decode cX14_addPlayer 71 = .ok (.pop, 1) := by decide +kernel
theorem dX14_addPlayer_72 : decode cX14_addPlayer 72 = .ok (.aload_n 0, 1) := by decide +kernel
theorem dX14_addPlayer_73 : decode cX14_addPlayer 73 = .ok (.aload_n 0, 1) := by decide +kernel
theorem dX14_addPlayer_74 : decode cX14_addPlayer 74 = .ok (.getfield 16, 3) := by decide +kernel
theorem dX14_addPlayer_77 : decode cX14_addPlayer 77 = .ok (.invokevirtual 46, 3) := by decide +kernel
theorem dX14_addPlayer_80 : decode cX14_addPlayer 80 = .ok (.iconst 1, 1) := by decide +kernel
theorem dX14_addPlayer_81 : decode cX14_addPlayer 81 = .ok (.isub, 1) := by decide +kernel
theorem dX14_addPlayer_82 : decode cX14_addPlayer 82 = .ok (.invokevirtual 56, 3) := by decide +kernel
theorem dX14_addPlayer_85 : decode cX14_addPlayer 85 = .ok (.ireturn, 1) := by decide +kernel
set_option maxRecDepth 20000 in
theorem ggX14_leave_X14_isOf : GoodIn wsX14_leave wsX14_isOf := goodIn_r _ [11, 12, 13, 14, 15, 16, 17, 18, 19, 20, 21, 22, 23, 24, 10, 25, 187, 188, 189, 190, 191] (by decide +kernel) (by decide +kernel)
set_option maxRecDepth 20000 in
theorem gX14_leave_X14_isOf : GoodIn wsX14_leave (va_wsS RX14 85 yX14_isOf wsX14_isOf) := goodIn_app (goodIn_of _ (by decide +kernel)) ggX14_leave_X14_isOf
set_option maxRecDepth 20000 in
theorem ggX14_leave_X14_fails : GoodIn wsX14_leave wsX14_fails := goodIn_r _ [29, 30, 164, 165, 166, 167, 168, 169] (by decide +kernel) (by decide +kernel)
set_option maxRecDepth 20000 in
theorem gX14_leave_X14_fails : GoodIn wsX14_leave (wsV RX14 42 RX14 yX14_fails wsX14_fails) := goodIn_app (goodIn_of _ (by decide +kernel)) ggX14_leave_X14_fails
set_option maxRecDepth 20000 in
theorem ggX14_leave_X14_in : GoodIn wsX14_leave wsX14_in := goodIn_r _ [25] (by decide +kernel) (by decide +kernel)
set_option maxRecDepth 20000 in
theorem gX14_leave_X14_in : GoodIn wsX14_leave (va_wsS RX14 38 yX14_in wsX14_in) := goodIn_app (goodIn_of _ (by decide +kernel)) ggX14_leave_X14_in
set_option maxRecDepth 20000 in
theorem ggX14_leave_Jx4a65c_iterator_32c93 : GoodIn wsX14_leave wsJx4a65c_iterator_32c93 := goodIn_r _ [34, 35, 36, 37, 38, 39, 40, 41, 42, 43, 44, 45, 46, 47, 48, 192, 193, 194, 195, 187, 188, 189] (by decide +kernel) (by decide +kernel)
set_option maxRecDepth 20000 in
theorem gX14_leave_Jx4a65c_iterator_32c93 : GoodIn wsX14_leave (wsV RX14 59 RJx4a65c yJx4a65c_iterator_32c93 wsJx4a65c_iterator_32c93) := goodIn_app (goodIn_of _ (by decide +kernel)) ggX14_leave_Jx4a65c_iterator_32c93
set_option maxRecDepth 20000 in
theorem ggX14_leave_Jx35411_hasNext_aae02 : GoodIn wsX14_leave wsJx35411_hasNext_aae02 := goodIn_r _ [52, 53, 41, 192, 193, 194, 195, 187, 188, 189] (by decide +kernel) (by decide +kernel)
set_option maxRecDepth 20000 in
theorem gX14_leave_Jx35411_hasNext_aae02_f63Jx35411 : GoodIn wsX14_leave (va_wsF RX14 63 RJx35411 ⟨"java/util/Iterator", "hasNext", "()Z"⟩ yJx35411_hasNext_aae02 wsJx35411_hasNext_aae02) := goodIn_app (goodIn_of _ (by decide +kernel)) ggX14_leave_Jx35411_hasNext_aae02
set_option maxRecDepth 20000 in
theorem ggX14_leave_Jx95556_hasNext_aae02 : GoodIn wsX14_leave wsJx95556_hasNext_aae02 := goodIn_r _ [57, 58, 59, 196, 197, 198, 199] (by decide +kernel) (by decide +kernel)
set_option maxRecDepth 20000 in
theorem gX14_leave_Jx95556_hasNext_aae02_f63Jx95556 : GoodIn wsX14_leave (va_wsF RX14 63 RJx95556 ⟨"java/util/Iterator", "hasNext", "()Z"⟩ yJx95556_hasNext_aae02 wsJx95556_hasNext_aae02) := goodIn_app (goodIn_of _ (by decide +kernel)) ggX14_leave_Jx95556_hasNext_aae02
set_option maxRecDepth 20000 in
theorem ggX14_leave_Jx35411_next_0502b : GoodIn wsX14_leave wsJx35411_next_0502b := goodIn_r _ [63, 53, 41, 64, 45, 65, 66, 67, 37, 68, 46, 47, 48, 192, 193, 194, 195, 187, 188, 189] (by decide +kernel) (by decide +kernel)
set_option maxRecDepth 20000 in
theorem gX14_leave_Jx35411_next_0502b_f69Jx35411 : GoodIn wsX14_leave (va_wsF RX14 69 RJx35411 ⟨"java/util/Iterator", "next", "()Ljava/lang/Object;"⟩ yJx35411_next_0502b wsJx35411_next_0502b) := goodIn_app (goodIn_of _ (by decide +kernel)) ggX14_leave_Jx35411_next_0502b
set_option maxRecDepth 20000 in
theorem ggX14_leave_Jx95556_next_0502b : GoodIn wsX14_leave wsJx95556_next_0502b := goodIn_r _ [71, 58, 72, 73, 74, 75, 15, 76, 17, 77, 78, 79, 80, 81, 82, 83, 84, 85, 86, 87, 88, 89, 90, 91, 20, 92, 93, 22, 196, 197, 198, 199, 187, 188, 189, 190, 191] (by decide +kernel) (by decide +kernel)
set_option maxRecDepth 20000 in
theorem gX14_leave_Jx95556_next_0502b_f69Jx95556 : GoodIn wsX14_leave (va_wsF RX14 69 RJx95556 ⟨"java/util/Iterator", "next", "()Ljava/lang/Object;"⟩ yJx95556_next_0502b wsJx95556_next_0502b) := goodIn_app (goodIn_of _ (by decide +kernel)) ggX14_leave_Jx95556_next_0502b
set_option maxRecDepth 20000 in
theorem ggX14_leave_X12_has : GoodIn wsX14_leave wsX12_has := goodIn_ca (goodIn_r _ [98, 99, 100, 170, 171, 172, 173, 174, 175, 176, 177, 178, 179, 180, 181] (by decide +kernel) (by decide +kernel)) (goodIn_sub (fun _ h => List.mem_cons_of_mem _ (List.mem_append_right _ h)) (by decide +kernel))
set_option maxRecDepth 20000 in
theorem gX14_leave_X12_has : GoodIn wsX14_leave (wsV RX14 126 RX12 yX12_has wsX12_has) := goodIn_app (goodIn_of _ (by decide +kernel)) ggX14_leave_X12_has
set_option maxRecDepth 20000 in
theorem ggX14_leave_Jx4a65c_get_915e3 : GoodIn wsX14_leave wsJx4a65c_get_915e3 := goodIn_r _ [76, 17, 77, 78, 79, 80, 81, 82, 83, 84, 85, 86, 87, 15, 88, 89, 187, 188, 189] (by decide +kernel) (by decide +kernel)
set_option maxRecDepth 20000 in
theorem gX14_leave_Jx4a65c_get_915e3 : GoodIn wsX14_leave (wsV RX14 89 RJx4a65c yJx4a65c_get_915e3 wsJx4a65c_get_915e3) := goodIn_app (goodIn_of _ (by decide +kernel)) ggX14_leave_Jx4a65c_get_915e3
set_option maxRecDepth 20000 in
theorem ggX14_leave_Jx4a65c_size_8abf5 : GoodIn wsX14_leave wsJx4a65c_size_8abf5 := goodIn_r _ [16, 17, 187, 188, 189] (by decide +kernel) (by decide +kernel)
set_option maxRecDepth 20000 in
theorem gX14_leave_Jx4a65c_size_8abf5 : GoodIn wsX14_leave (wsV RX14 46 RJx4a65c yJx4a65c_size_8abf5 wsJx4a65c_size_8abf5) := goodIn_app (goodIn_of _ (by decide +kernel)) ggX14_leave_Jx4a65c_size_8abf5
set_option maxRecDepth 20000 in
theorem ggX14_leave_Jx4a65c_add_9ea2d : GoodIn wsX14_leave wsJx4a65c_add_9ea2d := goodIn_r _ [108, 109, 47, 89, 17, 110, 111, 112, 15, 113, 114, 115, 116, 117, 118, 119, 120, 121, 122, 123, 124, 125, 126, 127, 128, 129, 130, 131, 132, 133, 134, 135, 136, 137, 138, 139, 140, 141, 142, 143, 144, 145, 146, 147, 148, 149, 150, 151, 152, 153, 154, 155, 156, 157, 158, 159, 187, 188, 189, 200, 201, 202, 203] (by decide +kernel) (by decide +kernel)
set_option maxRecDepth 20000 in
theorem gX14_leave_Jx4a65c_add_9ea2d : GoodIn wsX14_leave (wsV RX14 52 RJx4a65c yJx4a65c_add_9ea2d wsJx4a65c_add_9ea2d) := goodIn_app (goodIn_of _ (by decide +kernel)) ggX14_leave_Jx4a65c_add_9ea2d
set_option maxRecDepth 20000 in
theorem ggX14_leave_X14_tells : GoodIn wsX14_leave wsX14_tells := goodIn_r _ [163, 30, 164, 165, 166, 167, 168, 169] (by decide +kernel) (by decide +kernel)
set_option maxRecDepth 20000 in
theorem gX14_leave_X14_tells : GoodIn wsX14_leave (wsV RX14 56 RX14 yX14_tells wsX14_tells) := goodIn_app (goodIn_of _ (by decide +kernel)) ggX14_leave_X14_tells
theorem dX14_leave_0 : decode cX14_leave 0 = .ok (.aload_n 0, 1) := by decide +kernel
theorem dX14_leave_1 : decode cX14_leave 1 = .ok (.getfield 16, 3) := by decide +kernel
theorem dX14_leave_4 : decode cX14_leave 4 = .ok (.iload_n 1, 1) := by decide +kernel
theorem dX14_leave_5 : decode cX14_leave 5 = .ok (.invokestatic 85, 3) := by decide +kernel
theorem dX14_leave_8 : decode cX14_leave 8 = .ok (.ifCond .ne 9, 3) := by decide +kernel
theorem dX14_leave_11 : decode cX14_leave 11 = .ok (.aload_n 0, 1) := by decide +kernel
theorem dX14_leave_12 : decode cX14_leave 12 = .ok (.iconst 1, 1) := by decide +kernel
theorem dX14_leave_13 : decode cX14_leave 13 = .ok (.invokevirtual 42, 3) := by decide +kernel
theorem dX14_leave_16 : decode cX14_leave 16 = .ok (.ireturn, 1) := by decide +kernel
theorem dX14_leave_17 : decode cX14_leave 17 = .ok (.iload_n 2, 1) := by decide +kernel
theorem dX14_leave_18 : decode cX14_leave 18 = .ok (.iconst 0, 1) := by decide +kernel
theorem dX14_leave_19 : decode cX14_leave 19 = .ok (.sipush 399, 3) := by decide +kernel
theorem dX14_leave_22 : decode cX14_leave 22 = .ok (.invokestatic 38, 3) := by decide +kernel
theorem dX14_leave_25 : decode cX14_leave 25 = .ok (.ifCond .eq 14, 3) := by decide +kernel
theorem dX14_leave_28 : decode cX14_leave 28 = .ok (.iload_n 3, 1) := by decide +kernel
theorem dX14_leave_29 : decode cX14_leave 29 = .ok (.iload_n 2, 1) := by decide +kernel
theorem dX14_leave_30 : decode cX14_leave 30 = .ok (.sipush 399, 3) := by decide +kernel
theorem dX14_leave_33 : decode cX14_leave 33 = .ok (.invokestatic 38, 3) := by decide +kernel
theorem dX14_leave_36 : decode cX14_leave 36 = .ok (.ifCond .ne 9, 3) := by decide +kernel
theorem dX14_leave_39 : decode cX14_leave 39 = .ok (.aload_n 0, 1) := by decide +kernel
theorem dX14_leave_40 : decode cX14_leave 40 = .ok (.iconst 2, 1) := by decide +kernel
theorem dX14_leave_41 : decode cX14_leave 41 = .ok (.invokevirtual 42, 3) := by decide +kernel
theorem dX14_leave_44 : decode cX14_leave 44 = .ok (.ireturn, 1) := by decide +kernel
theorem dX14_leave_45 : decode cX14_leave 45 = .ok (.aload_n 0, 1) := by decide +kernel
theorem dX14_leave_46 : decode cX14_leave 46 = .ok (.getfield 25, 3) := by decide +kernel
theorem dX14_leave_49 : decode cX14_leave 49 = .ok (.invokevirtual 59, 3) := by decide +kernel
theorem dX14_leave_52 : decode cX14_leave 52 = .ok (.astore 4, 2) := by decide +kernel
theorem dX14_leave_54 : decode cX14_leave 54 = .ok (.aload 4, 2) := by decide +kernel
theorem dX14_leave_56 : decode cX14_leave 56 = .ok (.invokeinterface 63 1, 5) := by decide +kernel
theorem dX14_leave_61 : decode cX14_leave 61 = .ok (.ifCond .eq 46, 3) := by decide +kernel
theorem dX14_leave_64 : decode cX14_leave 64 = .ok (.aload 4, 2) := by decide +kernel
theorem dX14_leave_66 : decode cX14_leave 66 = .ok (.invokeinterface 69 1, 5) := by decide +kernel
theorem dX14_leave_71 : decode cX14_leave 71 = .ok (.checkcast 73, 3) := by decide +kernel
theorem dX14_leave_74 : decode cX14_leave 74 = .ok (.astore 5, 2) := by decide +kernel
theorem dX14_leave_76 : decode cX14_leave 76 = .ok (.aload 5, 2) := by decide +kernel
theorem dX14_leave_78 : decode cX14_leave 78 = .ok (.iload_n 1, 1) := by decide +kernel
theorem dX14_leave_79 : decode cX14_leave 79 = .ok (.invokevirtual 126, 3) := by decide +kernel
theorem dX14_leave_82 : decode cX14_leave 82 = .ok (.ifCond .eq 22, 3) := by decide +kernel
theorem dX14_leave_85 : decode cX14_leave 85 = .ok (.aload 5, 2) := by decide +kernel
theorem dX14_leave_87 : decode cX14_leave 87 = .ok (.getfield 129, 3) := by decide +kernel
theorem dX14_leave_90 : decode cX14_leave 90 = .ok (.iload_n 2, 1) := by decide +kernel
theorem dX14_leave_91 : decode cX14_leave 91 = .ok (.iload_n 3, 1) := by decide +kernel
theorem dX14_leave_92 : decode cX14_leave 92 = .ok (.invokestatic 38, 3) := by decide +kernel
theorem dX14_leave_95 : decode cX14_leave 95 = .ok (.ifCond .eq 9, 3) := by decide +kernel
theorem dX14_leave_98 : decode cX14_leave 98 = .ok (.aload_n 0, 1) := by decide +kernel
theorem dX14_leave_99 : decode cX14_leave 99 = .ok (.iconst 3, 1) := by decide +kernel
theorem dX14_leave_100 : decode cX14_leave 100 = .ok (.invokevirtual 42, 3) := by decide +kernel
theorem dX14_leave_103 : decode cX14_leave 103 = .ok (.ireturn, 1) := by decide +kernel
theorem dX14_leave_104 : decode cX14_leave 104 = .ok (.goto (-50), 3) := by decide +kernel
theorem dX14_leave_107 : decode cX14_leave 107 = .ok (.aload_n 0, 1) := by decide +kernel
theorem dX14_leave_108 : decode cX14_leave 108 = .ok (.getfield 16, 3) := by decide +kernel
theorem dX14_leave_111 : decode cX14_leave 111 = .ok (.iload_n 1, 1) := by decide +kernel
theorem dX14_leave_112 : decode cX14_leave 112 = .ok (.invokevirtual 89, 3) := by decide +kernel
theorem dX14_leave_115 : decode cX14_leave 115 = .ok (.checkcast 121, 3) := by decide +kernel
theorem dX14_leave_118 : decode cX14_leave 118 = .ok (.getfield 132, 3) := by decide +kernel
theorem dX14_leave_121 : decode cX14_leave 121 = .ok (.invokevirtual 46, 3) := by decide +kernel
theorem dX14_leave_124 : decode cX14_leave 124 = .ok (.iconst 5, 1) := by decide +kernel
theorem dX14_leave_125 : decode cX14_leave 125 = .ok (.if_icmp .ne 9, 3) := by decide +kernel
theorem dX14_leave_128 : decode cX14_leave 128 = .ok (.aload_n 0, 1) := by decide +kernel
theorem dX14_leave_129 : decode cX14_leave 129 = .ok (.iconst 4, 1) := by decide +kernel
theorem dX14_leave_130 : decode cX14_leave 130 = .ok (.invokevirtual 42, 3) := by decide +kernel
theorem dX14_leave_133 : decode cX14_leave 133 = .ok (.ireturn, 1) := by decide +kernel
theorem dX14_leave_134 : decode cX14_leave 134 = .ok (.aload_n 0, 1) := by decide +kernel
theorem dX14_leave_135 : decode cX14_leave 135 = .ok (.getfield 16, 3) := by decide +kernel
theorem dX14_leave_138 : decode cX14_leave 138 = .ok (.iload_n 1, 1) := by decide +kernel
theorem dX14_leave_139 : decode cX14_leave 139 = .ok (.invokevirtual 89, 3) := by decide +kernel
theorem dX14_leave_142 : decode cX14_leave 142 = .ok (.checkcast 121, 3) := by decide +kernel
theorem dX14_leave_145 : decode cX14_leave 145 = .ok (.getfield 132, 3) := by decide +kernel
theorem dX14_leave_148 : decode cX14_leave 148 = .ok (.iconst 2, 1) := by decide +kernel
theorem dX14_leave_149 : decode cX14_leave 149 = .ok (.newarray .int, 2) := by decide +kernel
theorem dX14_leave_151 : decode cX14_leave 151 = .ok (.dup, 1) := by decide +kernel
theorem dX14_leave_152 : decode cX14_leave 152 = .ok (.iconst 0, 1) := by decide +kernel
theorem dX14_leave_153 : decode cX14_leave 153 = .ok (.iload_n 2, 1) := by decide +kernel
theorem dX14_leave_154 : decode cX14_leave 154 = .ok (.iastore, 1) := by decide +kernel
theorem dX14_leave_155 : decode cX14_leave 155 = .ok (.dup, 1) := by decide +kernel
theorem dX14_leave_156 : decode cX14_leave 156 = .ok (.iconst 1, 1) := by decide +kernel
theorem dX14_leave_157 : decode cX14_leave 157 = .ok (.iload_n 3, 1) := by decide +kernel
theorem dX14_leave_158 : decode cX14_leave 158 = .ok (.iastore, 1) := by decide +kernel
theorem dX14_leave_159 : decode cX14_leave 159 = .ok (.invokevirtual 52, 3) := by decide +kernel
theorem dX14_leave_162 : decode cX14_leave 162 = .ok (.pop, 1) := by decide +kernel
theorem dX14_leave_163 : decode cX14_leave 163 = .ok (.aload_n 0, 1) := by decide +kernel
theorem dX14_leave_164 : decode cX14_leave 164 = .ok (.aload_n 0, 1) := by decide +kernel
theorem dX14_leave_165 : decode cX14_leave 165 = .ok (.getfield 16, 3) := by decide +kernel
theorem dX14_leave_168 : decode cX14_leave 168 = .ok (.iload_n 1, 1) := by decide +kernel
theorem dX14_leave_169 : decode cX14_leave 169 = .ok (.invokevirtual 89, 3) := by decide +kernel
theorem dX14_leave_172 : decode cX14_leave 172 = .ok (.checkcast 121, 3) := by decide +kernel
theorem dX14_leave_175 : decode cX14_leave 175 = .ok (.getfield 132, 3) := by decide +kernel
theorem dX14_leave_178 : decode cX14_leave 178 = .ok (.invokevirtual 46, 3) := by decide +kernel
theorem dX14_leave_181 : decode cX14_leave 181 = .ok (.invokevirtual 56, 3) := by decide +kernel
theorem dX14_leave_184 : decode cX14_leave 184 = .ok (.ireturn, 1) := by decide +kernel
set_option maxRecDepth 20000 in
theorem ggX14_refuse_X14_isOf : GoodIn wsX14_refuse wsX14_isOf := goodIn_r _ [8, 9, 10, 11, 12, 13, 14, 15, 16, 17, 18, 19, 20, 21, 7, 22, 56, 57, 58, 59, 60] (by decide +kernel) (by decide +kernel)
set_option maxRecDepth 20000 in
theorem gX14_refuse_X14_isOf : GoodIn wsX14_refuse (va_wsS RX14 85 yX14_isOf wsX14_isOf) := goodIn_app (goodIn_of _ (by decide +kernel)) ggX14_refuse_X14_isOf
set_option maxRecDepth 20000 in
theorem ggX14_refuse_X14_failsIf : GoodIn wsX14_refuse wsX14_failsIf := goodIn_r _ [26, 27, 45, 46, 47, 48, 49, 50] (by decide +kernel) (by decide +kernel)
set_option maxRecDepth 20000 in
theorem gX14_refuse_X14_failsIf : GoodIn wsX14_refuse (wsV RX14 105 RX14 yX14_failsIf wsX14_failsIf) := goodIn_app (goodIn_of _ (by decide +kernel)) ggX14_refuse_X14_failsIf
set_option maxRecDepth 20000 in
theorem ggX14_refuse_Jx4a65c_get_915e3 : GoodIn wsX14_refuse wsJx4a65c_get_915e3 := goodIn_r _ [31, 14, 32, 33, 34, 35, 36, 37, 38, 39, 40, 41, 42, 12, 43, 44, 56, 57, 58] (by decide +kernel) (by decide +kernel)
set_option maxRecDepth 20000 in
theorem gX14_refuse_Jx4a65c_get_915e3 : GoodIn wsX14_refuse (wsV RX14 89 RJx4a65c yJx4a65c_get_915e3 wsJx4a65c_get_915e3) := goodIn_app (goodIn_of _ (by decide +kernel)) ggX14_refuse_Jx4a65c_get_915e3
theorem dX14_refuse_0 : decode cX14_refuse 0 = .ok (.aload_n 0, 1) := by decide +kernel
theorem dX14_refuse_1 : decode cX14_refuse 1 = .ok (.aload_n 0, 1) := by decide +kernel
theorem dX14_refuse_2 : decode cX14_refuse 2 = .ok (.getfield 16, 3) := by decide +kernel
theorem dX14_refuse_5 : decode cX14_refuse 5 = .ok (.iload_n 1, 1) := by decide +kernel
theorem dX14_refuse_6 : decode cX14_refuse 6 = .ok (.invokestatic 85, 3) := by decide +kernel
theorem dX14_refuse_9 : decode cX14_refuse 9 = .ok (.ifCond .eq 18, 3) := by decide +kernel
theorem dX14_refuse_12 : decode cX14_refuse 12 = .ok (.aload_n 0, 1) := by decide +kernel
theorem dX14_refuse_13 : decode cX14_refuse 13 = .ok (.getfield 10, 3) := by decide +kernel
theorem dX14_refuse_16 : decode cX14_refuse 16 = .ok (.iload_n 2, 1) := by decide +kernel
theorem dX14_refuse_17 : decode cX14_refuse 17 = .ok (.invokestatic 85, 3) := by decide +kernel
theorem dX14_refuse_20 : decode cX14_refuse 20 = .ok (.ifCond .eq 7, 3) := by decide +kernel
theorem dX14_refuse_23 : decode cX14_refuse 23 = .ok (.iconst 0, 1) := by decide +kernel
theorem dX14_refuse_24 : decode cX14_refuse 24 = .ok (.goto 4, 3) := by decide +kernel
theorem dX14_refuse_27 : decode cX14_refuse 27 = .ok (.iconst 1, 1) := by decide +kernel
theorem dX14_refuse_28 : decode cX14_refuse 28 = .ok (.invokevirtual 105, 3) := by decide +kernel
theorem dX14_refuse_31 : decode cX14_refuse 31 = .ok (.ifCond .eq 5, 3) := by decide +kernel
theorem dX14_refuse_34 : decode cX14_refuse 34 = .ok (.iconst 0, 1) := by decide +kernel
theorem dX14_refuse_35 : decode cX14_refuse 35 = .ok (.ireturn, 1) := by decide +kernel
theorem dX14_refuse_36 : decode cX14_refuse 36 = .ok (.aload_n 0, 1) := by decide +kernel
theorem dX14_refuse_37 : decode cX14_refuse 37 = .ok (.getfield 16, 3) := by decide +kernel
theorem dX14_refuse_40 : decode cX14_refuse 40 = .ok (.iload_n 1, 1) := by decide +kernel
theorem dX14_refuse_41 : decode cX14_refuse 41 = .ok (.invokevirtual 89, 3) := by decide +kernel
theorem dX14_refuse_44 : decode cX14_refuse 44 = .ok (.checkcast 121, 3) := by decide +kernel
theorem dX14_refuse_47 : decode cX14_refuse 47 = .ok (.getfield 135, 3) := by decide +kernel
theorem dX14_refuse_50 : decode cX14_refuse 50 = .ok (.iload_n 2, 1) := by decide +kernel
theorem dX14_refuse_51 : decode cX14_refuse 51 = .ok (.baload, 1) := by decide +kernel
theorem dX14_refuse_52 : decode cX14_refuse 52 = .ok (.istore 4, 2) := by decide +kernel
theorem dX14_refuse_54 : decode cX14_refuse 54 = .ok (.aload_n 0, 1) := by decide +kernel
theorem dX14_refuse_55 : decode cX14_refuse 55 = .ok (.getfield 16, 3) := by decide +kernel
theorem dX14_refuse_58 : decode cX14_refuse 58 = .ok (.iload_n 1, 1) := by decide +kernel
theorem dX14_refuse_59 : decode cX14_refuse 59 = .ok (.invokevirtual 89, 3) := by decide +kernel
theorem dX14_refuse_62 : decode cX14_refuse 62 = .ok (.checkcast 121, 3) := by decide +kernel
theorem dX14_refuse_65 : decode cX14_refuse 65 = .ok (.getfield 135, 3) := by decide +kernel
theorem dX14_refuse_68 : decode cX14_refuse 68 = .ok (.iload_n 2, 1) := by decide +kernel
theorem dX14_refuse_69 : decode cX14_refuse 69 = .ok (.iload_n 3, 1) := by decide +kernel
theorem dX14_refuse_70 : decode cX14_refuse 70 = .ok (.bastore, 1) := by decide +kernel
theorem dX14_refuse_71 : decode cX14_refuse 71 = .ok (.iload 4, 2) := by decide +kernel
theorem dX14_refuse_73 : decode cX14_refuse 73 = .ok (.ireturn, 1) := by decide +kernel
set_option maxRecDepth 20000 in
theorem ggX14_addHall_X14_in : GoodIn wsX14_addHall wsX14_in := goodIn_r _ [8] (by decide +kernel) (by decide +kernel)
set_option maxRecDepth 20000 in
theorem gX14_addHall_X14_in : GoodIn wsX14_addHall (va_wsS RX14 38 yX14_in wsX14_in) := goodIn_app (goodIn_of _ (by decide +kernel)) ggX14_addHall_X14_in
set_option maxRecDepth 20000 in
theorem ggX14_addHall_X14_fails : GoodIn wsX14_addHall wsX14_fails := goodIn_r _ [12, 13, 91, 92, 93, 94, 95, 96] (by decide +kernel) (by decide +kernel)
set_option maxRecDepth 20000 in
theorem gX14_addHall_X14_fails : GoodIn wsX14_addHall (wsV RX14 42 RX14 yX14_fails wsX14_fails) := goodIn_app (goodIn_of _ (by decide +kernel)) ggX14_addHall_X14_fails
set_option maxRecDepth 20000 in
theorem ggX14_addHall_Jx4a65c_size_8abf5 : GoodIn wsX14_addHall wsJx4a65c_size_8abf5 := goodIn_r _ [18, 19, 100, 101, 102] (by decide +kernel) (by decide +kernel)
set_option maxRecDepth 20000 in
theorem gX14_addHall_Jx4a65c_size_8abf5 : GoodIn wsX14_addHall (wsV RX14 46 RJx4a65c yJx4a65c_size_8abf5 wsJx4a65c_size_8abf5) := goodIn_app (goodIn_of _ (by decide +kernel)) ggX14_addHall_Jx4a65c_size_8abf5
set_option maxRecDepth 20000 in
theorem ggX14_addHall_X10_init : GoodIn wsX14_addHall wsX10_init := goodIn_r _ [22, 23, 24, 25, 26, 27, 28, 29, 97, 98, 99] (by decide +kernel) (by decide +kernel)
set_option maxRecDepth 20000 in
theorem gX14_addHall_X10_init : GoodIn wsX14_addHall (wsX10_init) := ggX14_addHall_X10_init
set_option maxRecDepth 20000 in
theorem ggX14_addHall_Jx4a65c_add_9ea2d : GoodIn wsX14_addHall wsJx4a65c_add_9ea2d := goodIn_r _ [33, 34, 35, 36, 19, 37, 38, 39, 17, 40, 41, 42, 43, 44, 45, 46, 47, 48, 49, 50, 51, 52, 53, 54, 55, 56, 57, 58, 59, 60, 61, 62, 63, 64, 65, 66, 67, 68, 69, 70, 71, 72, 73, 74, 75, 76, 77, 78, 79, 80, 81, 82, 83, 84, 85, 86, 100, 101, 102, 103, 104, 105, 106] (by decide +kernel) (by decide +kernel)
set_option maxRecDepth 20000 in
theorem gX14_addHall_Jx4a65c_add_9ea2d : GoodIn wsX14_addHall (wsV RX14 52 RJx4a65c yJx4a65c_add_9ea2d wsJx4a65c_add_9ea2d) := goodIn_app (goodIn_of _ (by decide +kernel)) ggX14_addHall_Jx4a65c_add_9ea2d
set_option maxRecDepth 20000 in
theorem ggX14_addHall_X14_tells : GoodIn wsX14_addHall wsX14_tells := goodIn_r _ [90, 13, 91, 92, 93, 94, 95, 96] (by decide +kernel) (by decide +kernel)
set_option maxRecDepth 20000 in
theorem gX14_addHall_X14_tells : GoodIn wsX14_addHall (wsV RX14 56 RX14 yX14_tells wsX14_tells) := goodIn_app (goodIn_of _ (by decide +kernel)) ggX14_addHall_X14_tells
theorem dX14_addHall_0 : decode cX14_addHall 0 = .ok (.iload_n 1, 1) := by decide +kernel
theorem dX14_addHall_1 : decode cX14_addHall 1 = .ok (.iconst 0, 1) := by decide +kernel
theorem dX14_addHall_2 : decode cX14_addHall 2 = .ok (.bipush 92, 2) := by decide +kernel
theorem dX14_addHall_4 : decode cX14_addHall 4 = .ok (.invokestatic 38, 3) := by decide +kernel
theorem dX14_addHall_7 : decode cX14_addHall 7 = .ok (.ifCond .eq 15, 3) := by decide +kernel
theorem dX14_addHall_10 : decode cX14_addHall 10 = .ok (.iload_n 2, 1) := by decide +kernel
theorem dX14_addHall_11 : decode cX14_addHall 11 = .ok (.iload_n 1, 1) := by decide +kernel
theorem dX14_addHall_12 : decode cX14_addHall 12 = .ok (.iconst 4, 1) := by decide +kernel
theorem dX14_addHall_13 : decode cX14_addHall 13 = .ok (.iadd, 1) := by decide +kernel
theorem dX14_addHall_14 : decode cX14_addHall 14 = .ok (.bipush 96, 2) := by decide +kernel
theorem dX14_addHall_16 : decode cX14_addHall 16 = .ok (.invokestatic 38, 3) := by decide +kernel
theorem dX14_addHall_19 : decode cX14_addHall 19 = .ok (.ifCond .ne 9, 3) := by decide +kernel
theorem dX14_addHall_22 : decode cX14_addHall 22 = .ok (.aload_n 0, 1) := by decide +kernel
theorem dX14_addHall_23 : decode cX14_addHall 23 = .ok (.iconst 1, 1) := by decide +kernel
theorem dX14_addHall_24 : decode cX14_addHall 24 = .ok (.invokevirtual 42, 3) := by decide +kernel
theorem dX14_addHall_27 : decode cX14_addHall 27 = .ok (.ireturn, 1) := by decide +kernel
theorem dX14_addHall_28 : decode cX14_addHall 28 = .ok (.aload_n 0, 1) := by decide +kernel
theorem dX14_addHall_29 : decode cX14_addHall 29 = .ok (.getfield 19, 3) := by decide +kernel
theorem dX14_addHall_32 : decode cX14_addHall 32 = .ok (.invokevirtual 46, 3) := by decide +kernel
theorem dX14_addHall_35 : decode cX14_addHall 35 = .ok (.iconst 4, 1) := by decide +kernel
theorem dX14_addHall_36 : decode cX14_addHall 36 = .ok (.if_icmp .ne 9, 3) := by decide +kernel
theorem dX14_addHall_39 : decode cX14_addHall 39 = .ok (.aload_n 0, 1) := by decide +kernel
theorem dX14_addHall_40 : decode cX14_addHall 40 = .ok (.iconst 2, 1) := by decide +kernel
theorem dX14_addHall_41 : decode cX14_addHall 41 = .ok (.invokevirtual 42, 3) := by decide +kernel
theorem dX14_addHall_44 : decode cX14_addHall 44 = .ok (.ireturn, 1) := by decide +kernel
theorem dX14_addHall_45 : decode cX14_addHall 45 = .ok (.aload_n 0, 1) := by decide +kernel
theorem dX14_addHall_46 : decode cX14_addHall 46 = .ok (.getfield 19, 3) := by decide +kernel
theorem dX14_addHall_49 : decode cX14_addHall 49 = .ok (.new 139, 3) := by decide +kernel
theorem dX14_addHall_52 : decode cX14_addHall 52 = .ok (.dup, 1) := by decide +kernel
theorem dX14_addHall_53 : decode cX14_addHall 53 = .ok (.iload_n 1, 1) := by decide +kernel
theorem dX14_addHall_54 : decode cX14_addHall 54 = .ok (.iload_n 2, 1) := by decide +kernel
theorem dX14_addHall_55 : decode cX14_addHall 55 = .ok (.invokespecial 141, 3) := by decide +kernel
theorem dX14_addHall_58 : decode cX14_addHall 58 = .ok (.invokevirtual 52, 3) := by decide +kernel
theorem dX14_addHall_61 : decode cX14_addHall 61 = .ok (.pop, 1) := by decide +kernel
theorem dX14_addHall_62 : decode cX14_addHall 62 = .ok (.aload_n 0, 1) := by decide +kernel
theorem dX14_addHall_63 : decode cX14_addHall 63 = .ok (.aload_n 0, 1) := by decide +kernel
theorem dX14_addHall_64 : decode cX14_addHall 64 = .ok (.getfield 19, 3) := by decide +kernel
theorem dX14_addHall_67 : decode cX14_addHall 67 = .ok (.invokevirtual 46, 3) := by decide +kernel
theorem dX14_addHall_70 : decode cX14_addHall 70 = .ok (.iconst 1, 1) := by decide +kernel
theorem dX14_addHall_71 : decode cX14_addHall 71 = .ok (.isub, 1) := by decide +kernel
theorem dX14_addHall_72 : decode cX14_addHall 72 = .ok (.invokevirtual 56, 3) := by decide +kernel
theorem dX14_addHall_75 : decode cX14_addHall 75 = .ok (.ireturn, 1) := by decide +kernel
set_option maxRecDepth 20000 in
theorem ggX14_give_X14_isOf : GoodIn wsX14_give wsX14_isOf := goodIn_r _ [11, 12, 13, 14, 15, 16, 17, 18, 19, 20, 21, 22, 23, 24, 10, 25, 117, 118, 119, 120, 121] (by decide +kernel) (by decide +kernel)
set_option maxRecDepth 20000 in
theorem gX14_give_X14_isOf : GoodIn wsX14_give (va_wsS RX14 85 yX14_isOf wsX14_isOf) := goodIn_app (goodIn_of _ (by decide +kernel)) ggX14_give_X14_isOf
set_option maxRecDepth 20000 in
theorem ggX14_give_X14_in : GoodIn wsX14_give wsX14_in := goodIn_r _ [25] (by decide +kernel) (by decide +kernel)
set_option maxRecDepth 20000 in
theorem gX14_give_X14_in : GoodIn wsX14_give (va_wsS RX14 38 yX14_in wsX14_in) := goodIn_app (goodIn_of _ (by decide +kernel)) ggX14_give_X14_in
set_option maxRecDepth 20000 in
theorem ggX14_give_X14_failsIf : GoodIn wsX14_give wsX14_failsIf := goodIn_r _ [29, 30, 96, 97, 98, 99, 100, 101] (by decide +kernel) (by decide +kernel)
set_option maxRecDepth 20000 in
theorem gX14_give_X14_failsIf : GoodIn wsX14_give (wsV RX14 105 RX14 yX14_failsIf wsX14_failsIf) := goodIn_app (goodIn_of _ (by decide +kernel)) ggX14_give_X14_failsIf
set_option maxRecDepth 20000 in
theorem ggX14_give_Jx4a65c_iterator_32c93 : GoodIn wsX14_give wsJx4a65c_iterator_32c93 := goodIn_r _ [34, 35, 36, 37, 38, 39, 40, 41, 42, 43, 44, 45, 46, 47, 48, 122, 123, 124, 125, 117, 118, 119] (by decide +kernel) (by decide +kernel)
set_option maxRecDepth 20000 in
theorem gX14_give_Jx4a65c_iterator_32c93 : GoodIn wsX14_give (wsV RX14 59 RJx4a65c yJx4a65c_iterator_32c93 wsJx4a65c_iterator_32c93) := goodIn_app (goodIn_of _ (by decide +kernel)) ggX14_give_Jx4a65c_iterator_32c93
set_option maxRecDepth 20000 in
theorem ggX14_give_Jx35411_hasNext_aae02 : GoodIn wsX14_give wsJx35411_hasNext_aae02 := goodIn_r _ [52, 53, 41, 122, 123, 124, 125, 117, 118, 119] (by decide +kernel) (by decide +kernel)
set_option maxRecDepth 20000 in
theorem gX14_give_Jx35411_hasNext_aae02_f63Jx35411 : GoodIn wsX14_give (va_wsF RX14 63 RJx35411 ⟨"java/util/Iterator", "hasNext", "()Z"⟩ yJx35411_hasNext_aae02 wsJx35411_hasNext_aae02) := goodIn_app (goodIn_of _ (by decide +kernel)) ggX14_give_Jx35411_hasNext_aae02
set_option maxRecDepth 20000 in
theorem ggX14_give_Jx95556_hasNext_aae02 : GoodIn wsX14_give wsJx95556_hasNext_aae02 := goodIn_r _ [57, 58, 59, 126, 127, 128, 129] (by decide +kernel) (by decide +kernel)
set_option maxRecDepth 20000 in
theorem gX14_give_Jx95556_hasNext_aae02_f63Jx95556 : GoodIn wsX14_give (va_wsF RX14 63 RJx95556 ⟨"java/util/Iterator", "hasNext", "()Z"⟩ yJx95556_hasNext_aae02 wsJx95556_hasNext_aae02) := goodIn_app (goodIn_of _ (by decide +kernel)) ggX14_give_Jx95556_hasNext_aae02
set_option maxRecDepth 20000 in
theorem ggX14_give_Jx35411_next_0502b : GoodIn wsX14_give wsJx35411_next_0502b := goodIn_r _ [63, 53, 41, 64, 45, 65, 66, 67, 37, 68, 46, 47, 48, 122, 123, 124, 125, 117, 118, 119] (by decide +kernel) (by decide +kernel)
set_option maxRecDepth 20000 in
theorem gX14_give_Jx35411_next_0502b_f69Jx35411 : GoodIn wsX14_give (va_wsF RX14 69 RJx35411 ⟨"java/util/Iterator", "next", "()Ljava/lang/Object;"⟩ yJx35411_next_0502b wsJx35411_next_0502b) := goodIn_app (goodIn_of _ (by decide +kernel)) ggX14_give_Jx35411_next_0502b
set_option maxRecDepth 20000 in
theorem ggX14_give_Jx95556_next_0502b : GoodIn wsX14_give wsJx95556_next_0502b := goodIn_r _ [71, 58, 72, 73, 74, 75, 15, 76, 17, 77, 78, 79, 80, 81, 82, 83, 84, 85, 86, 87, 88, 89, 90, 91, 20, 92, 93, 22, 126, 127, 128, 129, 117, 118, 119, 120, 121] (by decide +kernel) (by decide +kernel)
set_option maxRecDepth 20000 in
theorem gX14_give_Jx95556_next_0502b_f69Jx95556 : GoodIn wsX14_give (va_wsF RX14 69 RJx95556 ⟨"java/util/Iterator", "next", "()Ljava/lang/Object;"⟩ yJx95556_next_0502b wsJx95556_next_0502b) := goodIn_app (goodIn_of _ (by decide +kernel)) ggX14_give_Jx95556_next_0502b
set_option maxRecDepth 20000 in
theorem ggX14_give_Jx4a65c_get_915e3 : GoodIn wsX14_give wsJx4a65c_get_915e3 := goodIn_r _ [76, 17, 77, 78, 79, 80, 81, 82, 83, 84, 85, 86, 87, 15, 88, 89, 117, 118, 119] (by decide +kernel) (by decide +kernel)
set_option maxRecDepth 20000 in
theorem gX14_give_Jx4a65c_get_915e3 : GoodIn wsX14_give (wsV RX14 89 RJx4a65c yJx4a65c_get_915e3 wsJx4a65c_get_915e3) := goodIn_app (goodIn_of _ (by decide +kernel)) ggX14_give_Jx4a65c_get_915e3
theorem dX14_give_0 : decode cX14_give 0 = .ok (.aload_n 0, 1) := by decide +kernel
theorem dX14_give_1 : decode cX14_give 1 = .ok (.aload_n 0, 1) := by decide +kernel
theorem dX14_give_2 : decode cX14_give 2 = .ok (.getfield 19, 3) := by decide +kernel
theorem dX14_give_5 : decode cX14_give 5 = .ok (.iload_n 1, 1) := by decide +kernel
theorem dX14_give_6 : decode cX14_give 6 = .ok (.invokestatic 85, 3) := by decide +kernel
theorem dX14_give_9 : decode cX14_give 9 = .ok (.ifCond .ne 7, 3) := by decide +kernel
theorem dX14_give_12 : decode cX14_give 12 = .ok (.iconst 1, 1) := by decide +kernel
theorem dX14_give_13 : decode cX14_give 13 = .ok (.goto 19, 3) := by decide +kernel
theorem dX14_give_16 : decode cX14_give 16 = .ok (.iload_n 2, 1) := by decide +kernel
theorem dX14_give_17 : decode cX14_give 17 = .ok (.iconst 0, 1) := by decide +kernel
theorem dX14_give_18 : decode cX14_give 18 = .ok (.sipush 399, 3) := by decide +kernel
theorem dX14_give_21 : decode cX14_give 21 = .ok (.invokestatic 38, 3) := by decide +kernel
theorem dX14_give_24 : decode cX14_give 24 = .ok (.ifCond .eq 7, 3) := by decide +kernel
theorem dX14_give_27 : decode cX14_give 27 = .ok (.iconst 0, 1) := by decide +kernel
theorem dX14_give_28 : decode cX14_give 28 = .ok (.goto 4, 3) := by decide +kernel
theorem dX14_give_31 : decode cX14_give 31 = .ok (.iconst 2, 1) := by decide +kernel
theorem dX14_give_32 : decode cX14_give 32 = .ok (.invokevirtual 105, 3) := by decide +kernel
theorem dX14_give_35 : decode cX14_give 35 = .ok (.ifCond .eq 5, 3) := by decide +kernel
theorem dX14_give_38 : decode cX14_give 38 = .ok (.iconst 0, 1) := by decide +kernel
theorem dX14_give_39 : decode cX14_give 39 = .ok (.ireturn, 1) := by decide +kernel
theorem dX14_give_40 : decode cX14_give 40 = .ok (.aload_n 0, 1) := by decide +kernel
theorem dX14_give_41 : decode cX14_give 41 = .ok (.getfield 25, 3) := by decide +kernel
theorem dX14_give_44 : decode cX14_give 44 = .ok (.invokevirtual 59, 3) := by decide +kernel
theorem dX14_give_47 : decode cX14_give 47 = .ok (.astore 4, 2) := by decide +kernel
theorem dX14_give_49 : decode cX14_give 49 = .ok (.aload 4, 2) := by decide +kernel
theorem dX14_give_51 : decode cX14_give 51 = .ok (.invokeinterface 63 1, 5) := by decide +kernel
theorem dX14_give_56 : decode cX14_give 56 = .ok (.ifCond .eq 46, 3) := by decide +kernel
theorem dX14_give_59 : decode cX14_give 59 = .ok (.aload 4, 2) := by decide +kernel
theorem dX14_give_61 : decode cX14_give 61 = .ok (.invokeinterface 69 1, 5) := by decide +kernel
theorem dX14_give_66 : decode cX14_give 66 = .ok (.checkcast 73, 3) := by decide +kernel
theorem dX14_give_69 : decode cX14_give 69 = .ok (.astore 5, 2) := by decide +kernel
theorem dX14_give_71 : decode cX14_give 71 = .ok (.aload 5, 2) := by decide +kernel
theorem dX14_give_73 : decode cX14_give 73 = .ok (.getfield 144, 3) := by decide +kernel
theorem dX14_give_76 : decode cX14_give 76 = .ok (.iload_n 1, 1) := by decide +kernel
theorem dX14_give_77 : decode cX14_give 77 = .ok (.if_icmp .ne 22, 3) := by decide +kernel
theorem dX14_give_80 : decode cX14_give 80 = .ok (.aload 5, 2) := by decide +kernel
theorem dX14_give_82 : decode cX14_give 82 = .ok (.getfield 129, 3) := by decide +kernel
theorem dX14_give_85 : decode cX14_give 85 = .ok (.iload_n 2, 1) := by decide +kernel
theorem dX14_give_86 : decode cX14_give 86 = .ok (.if_icmp .ne 13, 3) := by decide +kernel
theorem dX14_give_89 : decode cX14_give 89 = .ok (.aload_n 0, 1) := by decide +kernel
theorem dX14_give_90 : decode cX14_give 90 = .ok (.iconst 3, 1) := by decide +kernel
theorem dX14_give_91 : decode cX14_give 91 = .ok (.invokevirtual 105, 3) := by decide +kernel
theorem dX14_give_94 : decode cX14_give 94 = .ok (.ifCond .eq 3, 3) := by decide +kernel
theorem dX14_give_97 : decode cX14_give 97 = .ok (.iconst 0, 1) := by decide +kernel
theorem dX14_give_98 : decode cX14_give 98 = .ok (.ireturn, 1) := by decide +kernel
theorem dX14_give_99 : decode cX14_give 99 = .ok (.goto (-50), 3) := by decide +kernel
theorem dX14_give_102 : decode cX14_give 102 = .ok (.aload_n 0, 1) := by decide +kernel
theorem dX14_give_103 : decode cX14_give 103 = .ok (.getfield 19, 3) := by decide +kernel
theorem dX14_give_106 : decode cX14_give 106 = .ok (.iload_n 1, 1) := by decide +kernel
theorem dX14_give_107 : decode cX14_give 107 = .ok (.invokevirtual 89, 3) := by decide +kernel
theorem dX14_give_110 : decode cX14_give 110 = .ok (.checkcast 139, 3) := by decide +kernel
theorem dX14_give_113 : decode cX14_give 113 = .ok (.getfield 147, 3) := by decide +kernel
theorem dX14_give_116 : decode cX14_give 116 = .ok (.iload_n 2, 1) := by decide +kernel
theorem dX14_give_117 : decode cX14_give 117 = .ok (.baload, 1) := by decide +kernel
theorem dX14_give_118 : decode cX14_give 118 = .ok (.istore 4, 2) := by decide +kernel
theorem dX14_give_120 : decode cX14_give 120 = .ok (.aload_n 0, 1) := by decide +kernel
theorem dX14_give_121 : decode cX14_give 121 = .ok (.getfield 19, 3) := by decide +kernel
theorem dX14_give_124 : decode cX14_give 124 = .ok (.iload_n 1, 1) := by decide +kernel
theorem dX14_give_125 : decode cX14_give 125 = .ok (.invokevirtual 89, 3) := by decide +kernel
theorem dX14_give_128 : decode cX14_give 128 = .ok (.checkcast 139, 3) := by decide +kernel
theorem dX14_give_131 : decode cX14_give 131 = .ok (.getfield 147, 3) := by decide +kernel
theorem dX14_give_134 : decode cX14_give 134 = .ok (.iload_n 2, 1) := by decide +kernel
theorem dX14_give_135 : decode cX14_give 135 = .ok (.iload_n 3, 1) := by decide +kernel
theorem dX14_give_136 : decode cX14_give 136 = .ok (.bastore, 1) := by decide +kernel
theorem dX14_give_137 : decode cX14_give 137 = .ok (.iload 4, 2) := by decide +kernel
theorem dX14_give_139 : decode cX14_give 139 = .ok (.ireturn, 1) := by decide +kernel
set_option maxRecDepth 20000 in
theorem ggX14_addService_X14_isOf : GoodIn wsX14_addService wsX14_isOf := goodIn_r _ [17, 18, 19, 20, 21, 22, 23, 24, 25, 26, 27, 28, 29, 30, 16, 31, 304, 305, 306, 307, 308] (by decide +kernel) (by decide +kernel)
set_option maxRecDepth 20000 in
theorem gX14_addService_X14_isOf : GoodIn wsX14_addService (va_wsS RX14 85 yX14_isOf wsX14_isOf) := goodIn_app (goodIn_of _ (by decide +kernel)) ggX14_addService_X14_isOf
set_option maxRecDepth 20000 in
theorem ggX14_addService_X14_fails : GoodIn wsX14_addService wsX14_fails := goodIn_r _ [35, 36, 283, 284, 285, 286, 287, 288] (by decide +kernel) (by decide +kernel)
set_option maxRecDepth 20000 in
theorem gX14_addService_X14_fails : GoodIn wsX14_addService (wsV RX14 42 RX14 yX14_fails wsX14_fails) := goodIn_app (goodIn_of _ (by decide +kernel)) ggX14_addService_X14_fails
set_option maxRecDepth 20000 in
theorem ggX14_addService_J0_indexOf_0f7a4 : GoodIn wsX14_addService wsJ0_indexOf_0f7a4 := goodIn_r _ [41, 42, 43, 44, 40, 45, 46, 47, 48, 49, 50, 51, 52, 53, 54, 55, 56, 57, 58, 59, 60, 61, 62, 63, 64, 65, 66, 67, 68, 69, 70, 71, 72, 73, 74, 75, 76, 77, 78, 79, 80, 81, 82, 83, 84, 85, 86, 87, 88, 89, 90, 91, 92, 93, 94, 95, 96, 97, 98, 99, 100, 101, 102, 103, 104, 105, 106, 107, 108, 109, 110, 111, 112, 113, 114, 115, 116, 117, 118, 119, 120, 121, 122, 123, 124, 125, 309, 310, 311, 312] (by decide +kernel) (by decide +kernel)
set_option maxRecDepth 20000 in
theorem gX14_addService_J0_indexOf_0f7a4 : GoodIn wsX14_addService (wsV RX14 152 RJ0 yJ0_indexOf_0f7a4 wsJ0_indexOf_0f7a4) := goodIn_app (goodIn_of _ (by decide +kernel)) ggX14_addService_J0_indexOf_0f7a4
set_option maxRecDepth 20000 in
theorem ggX14_addService_X14_in : GoodIn wsX14_addService wsX14_in := goodIn_r _ [31] (by decide +kernel) (by decide +kernel)
set_option maxRecDepth 20000 in
theorem gX14_addService_X14_in : GoodIn wsX14_addService (va_wsS RX14 38 yX14_in wsX14_in) := goodIn_app (goodIn_of _ (by decide +kernel)) ggX14_addService_X14_in
set_option maxRecDepth 20000 in
theorem ggX14_addService_Jx4a65c_get_915e3 : GoodIn wsX14_addService wsJx4a65c_get_915e3 := goodIn_r _ [129, 23, 130, 131, 132, 133, 134, 135, 100, 136, 137, 138, 139, 21, 140, 141, 304, 305, 306] (by decide +kernel) (by decide +kernel)
set_option maxRecDepth 20000 in
theorem gX14_addService_Jx4a65c_get_915e3 : GoodIn wsX14_addService (wsV RX14 89 RJx4a65c yJx4a65c_get_915e3 wsJx4a65c_get_915e3) := goodIn_app (goodIn_of _ (by decide +kernel)) ggX14_addService_Jx4a65c_get_915e3
set_option maxRecDepth 20000 in
theorem ggX14_addService_Jx4a65c_iterator_32c93 : GoodIn wsX14_addService wsJx4a65c_iterator_32c93 := goodIn_r _ [145, 146, 147, 148, 149, 150, 151, 152, 153, 154, 155, 156, 157, 158, 159, 313, 314, 315, 316, 304, 305, 306] (by decide +kernel) (by decide +kernel)
set_option maxRecDepth 20000 in
theorem gX14_addService_Jx4a65c_iterator_32c93 : GoodIn wsX14_addService (wsV RX14 59 RJx4a65c yJx4a65c_iterator_32c93 wsJx4a65c_iterator_32c93) := goodIn_app (goodIn_of _ (by decide +kernel)) ggX14_addService_Jx4a65c_iterator_32c93
set_option maxRecDepth 20000 in
theorem ggX14_addService_Jx35411_hasNext_aae02 : GoodIn wsX14_addService wsJx35411_hasNext_aae02 := goodIn_r _ [163, 164, 152, 313, 314, 315, 316, 304, 305, 306] (by decide +kernel) (by decide +kernel)
set_option maxRecDepth 20000 in
theorem gX14_addService_Jx35411_hasNext_aae02_f63Jx35411 : GoodIn wsX14_addService (va_wsF RX14 63 RJx35411 ⟨"java/util/Iterator", "hasNext", "()Z"⟩ yJx35411_hasNext_aae02 wsJx35411_hasNext_aae02) := goodIn_app (goodIn_of _ (by decide +kernel)) ggX14_addService_Jx35411_hasNext_aae02
set_option maxRecDepth 20000 in
theorem ggX14_addService_Jx95556_hasNext_aae02 : GoodIn wsX14_addService wsJx95556_hasNext_aae02 := goodIn_r _ [168, 169, 170, 317, 318, 319, 320] (by decide +kernel) (by decide +kernel)
set_option maxRecDepth 20000 in
theorem gX14_addService_Jx95556_hasNext_aae02_f63Jx95556 : GoodIn wsX14_addService (va_wsF RX14 63 RJx95556 ⟨"java/util/Iterator", "hasNext", "()Z"⟩ yJx95556_hasNext_aae02 wsJx95556_hasNext_aae02) := goodIn_app (goodIn_of _ (by decide +kernel)) ggX14_addService_Jx95556_hasNext_aae02
set_option maxRecDepth 20000 in
theorem ggX14_addService_Jx35411_next_0502b : GoodIn wsX14_addService wsJx35411_next_0502b := goodIn_r _ [174, 164, 152, 175, 156, 176, 177, 178, 148, 179, 157, 158, 159, 313, 314, 315, 316, 304, 305, 306] (by decide +kernel) (by decide +kernel)
set_option maxRecDepth 20000 in
theorem gX14_addService_Jx35411_next_0502b_f69Jx35411 : GoodIn wsX14_addService (va_wsF RX14 69 RJx35411 ⟨"java/util/Iterator", "next", "()Ljava/lang/Object;"⟩ yJx35411_next_0502b wsJx35411_next_0502b) := goodIn_app (goodIn_of _ (by decide +kernel)) ggX14_addService_Jx35411_next_0502b
set_option maxRecDepth 20000 in
theorem ggX14_addService_Jx95556_next_0502b : GoodIn wsX14_addService wsJx95556_next_0502b := goodIn_r _ [182, 169, 183, 184, 185, 127, 21, 129, 23, 130, 131, 132, 133, 134, 135, 100, 136, 137, 138, 139, 140, 141, 186, 187, 26, 188, 189, 28, 317, 318, 319, 320, 304, 305, 306, 307, 308] (by decide +kernel) (by decide +kernel)
set_option maxRecDepth 20000 in
theorem gX14_addService_Jx95556_next_0502b_f69Jx95556 : GoodIn wsX14_addService (va_wsF RX14 69 RJx95556 ⟨"java/util/Iterator", "next", "()Ljava/lang/Object;"⟩ yJx95556_next_0502b wsJx95556_next_0502b) := goodIn_app (goodIn_of _ (by decide +kernel)) ggX14_addService_Jx95556_next_0502b
set_option maxRecDepth 20000 in
theorem ggX14_addService_X12_end : GoodIn wsX14_addService wsX12_end := goodIn_r _ [193, 194, 195, 292, 293, 294, 295, 296, 297, 298, 299, 300, 301, 302, 303] (by decide +kernel) (by decide +kernel)
set_option maxRecDepth 20000 in
theorem gX14_addService_X12_end : GoodIn wsX14_addService (wsV RX14 166 RX12 yX12_end wsX12_end) := goodIn_app (goodIn_of _ (by decide +kernel)) ggX14_addService_X12_end
set_option maxRecDepth 20000 in
theorem ggX14_addService_Jx4a65c_size_8abf5 : GoodIn wsX14_addService wsJx4a65c_size_8abf5 := goodIn_r _ [22, 23, 304, 305, 306] (by decide +kernel) (by decide +kernel)
set_option maxRecDepth 20000 in
theorem gX14_addService_Jx4a65c_size_8abf5 : GoodIn wsX14_addService (wsV RX14 46 RJx4a65c yJx4a65c_size_8abf5 wsJx4a65c_size_8abf5) := goodIn_app (goodIn_of _ (by decide +kernel)) ggX14_addService_Jx4a65c_size_8abf5
set_option maxRecDepth 20000 in
theorem ggX14_addService_X12_init : GoodIn wsX14_addService wsX12_init := goodIn_r _ [200, 201, 154, 155, 202, 203, 21, 204, 205, 206, 207, 208, 209, 210, 211, 212, 213, 214, 194, 195, 215, 216, 217, 218, 219, 141, 220, 221, 222, 223, 224, 225, 226, 227, 228, 229, 304, 305, 306, 292, 293, 294, 295, 296, 297, 298, 299, 300, 301, 302, 303] (by decide +kernel) (by decide +kernel)
set_option maxRecDepth 20000 in
theorem gX14_addService_X12_init : GoodIn wsX14_addService (wsX12_init) := ggX14_addService_X12_init
set_option maxRecDepth 20000 in
theorem ggX14_addService_Jx4a65c_add_9ea2d : GoodIn wsX14_addService wsJx4a65c_add_9ea2d := goodIn_r _ [233, 234, 158, 141, 23, 235, 236, 237, 21, 238, 239, 240, 241, 242, 243, 244, 245, 246, 219, 247, 66, 67, 68, 248, 249, 250, 251, 252, 253, 254, 255, 256, 257, 258, 259, 260, 261, 262, 263, 264, 265, 266, 267, 268, 269, 270, 271, 272, 273, 274, 70, 71, 275, 276, 277, 278, 304, 305, 306, 321, 322, 323, 324] (by decide +kernel) (by decide +kernel)
set_option maxRecDepth 20000 in
theorem gX14_addService_Jx4a65c_add_9ea2d : GoodIn wsX14_addService (wsV RX14 52 RJx4a65c yJx4a65c_add_9ea2d wsJx4a65c_add_9ea2d) := goodIn_app (goodIn_of _ (by decide +kernel)) ggX14_addService_Jx4a65c_add_9ea2d
set_option maxRecDepth 20000 in
theorem ggX14_addService_X14_tells : GoodIn wsX14_addService wsX14_tells := goodIn_r _ [282, 36, 283, 284, 285, 286, 287, 288] (by decide +kernel) (by decide +kernel)
set_option maxRecDepth 20000 in
theorem gX14_addService_X14_tells : GoodIn wsX14_addService (wsV RX14 56 RX14 yX14_tells wsX14_tells) := goodIn_app (goodIn_of _ (by decide +kernel)) ggX14_addService_X14_tells
theorem dX14_addService_0 : decode cX14_addService 0 = .ok (.aload_n 0, 1) := by decide +kernel
theorem dX14_addService_1 : decode cX14_addService 1 = .ok (.getfield 19, 3) := by decide +kernel
theorem dX14_addService_4 : decode cX14_addService 4 = .ok (.iload 5, 2) := by decide +kernel
theorem dX14_addService_6 : decode cX14_addService 6 = .ok (.invokestatic 85, 3) := by decide +kernel
theorem dX14_addService_9 : decode cX14_addService 9 = .ok (.ifCond .ne 9, 3) := by decide +kernel
theorem dX14_addService_12 : decode cX14_addService 12 = .ok (.aload_n 0, 1) := by decide +kernel
theorem dX14_addService_13 : decode cX14_addService 13 = .ok (.iconst 1, 1) := by decide +kernel
theorem dX14_addService_14 : decode cX14_addService 14 = .ok (.invokevirtual 42, 3) := by decide +kernel
theorem dX14_addService_17 : decode cX14_addService 17 = .ok (.ireturn, 1) := by decide +kernel
theorem dX14_addService_18 : decode cX14_addService 18 = .ok (.ldc 150, 2) := by decide +kernel
theorem dX14_addService_20 : decode cX14_addService 20 = .ok (.iload_n 1, 1) := by decide +kernel
theorem dX14_addService_21 : decode cX14_addService 21 = .ok (.invokevirtual 152, 3) := by decide +kernel
theorem dX14_addService_24 : decode cX14_addService 24 = .ok (.ifCond .lt 35, 3) := by decide +kernel
theorem dX14_addService_27 : decode cX14_addService 27 = .ok (.iload_n 2, 1) := by decide +kernel
theorem dX14_addService_28 : decode cX14_addService 28 = .ok (.iconst 0, 1) := by decide +kernel
theorem dX14_addService_29 : decode cX14_addService 29 = .ok (.sipush 399, 3) := by decide +kernel
theorem dX14_addService_32 : decode cX14_addService 32 = .ok (.invokestatic 38, 3) := by decide +kernel
theorem dX14_addService_35 : decode cX14_addService 35 = .ok (.ifCond .eq 24, 3) := by decide +kernel
theorem dX14_addService_38 : decode cX14_addService 38 = .ok (.iload_n 3, 1) := by decide +kernel
theorem dX14_addService_39 : decode cX14_addService 39 = .ok (.iconst 0, 1) := by decide +kernel
theorem dX14_addService_40 : decode cX14_addService 40 = .ok (.bipush 95, 2) := by decide +kernel
theorem dX14_addService_42 : decode cX14_addService 42 = .ok (.invokestatic 38, 3) := by decide +kernel
theorem dX14_addService_45 : decode cX14_addService 45 = .ok (.ifCond .eq 14, 3) := by decide +kernel
theorem dX14_addService_48 : decode cX14_addService 48 = .ok (.iload 4, 2) := by decide +kernel
theorem dX14_addService_50 : decode cX14_addService 50 = .ok (.iconst 4, 1) := by decide +kernel
theorem dX14_addService_51 : decode cX14_addService 51 = .ok (.bipush 16, 2) := by decide +kernel
theorem dX14_addService_53 : decode cX14_addService 53 = .ok (.invokestatic 38, 3) := by decide +kernel
theorem dX14_addService_56 : decode cX14_addService 56 = .ok (.ifCond .ne 9, 3) := by decide +kernel
theorem dX14_addService_59 : decode cX14_addService 59 = .ok (.aload_n 0, 1) := by decide +kernel
theorem dX14_addService_60 : decode cX14_addService 60 = .ok (.iconst 2, 1) := by decide +kernel
theorem dX14_addService_61 : decode cX14_addService 61 = .ok (.invokevirtual 42, 3) := by decide +kernel
theorem dX14_addService_64 : decode cX14_addService 64 = .ok (.ireturn, 1) := by decide +kernel
theorem dX14_addService_65 : decode cX14_addService 65 = .ok (.aload_n 0, 1) := by decide +kernel
theorem dX14_addService_66 : decode cX14_addService 66 = .ok (.getfield 19, 3) := by decide +kernel
theorem dX14_addService_69 : decode cX14_addService 69 = .ok (.iload 5, 2) := by decide +kernel
theorem dX14_addService_71 : decode cX14_addService 71 = .ok (.invokevirtual 89, 3) := by decide +kernel
theorem dX14_addService_74 : decode cX14_addService 74 = .ok (.checkcast 139, 3) := by decide +kernel
theorem dX14_addService_77 : decode cX14_addService 77 = .ok (.astore 6, 2) := by decide +kernel
theorem dX14_addService_79 : decode cX14_addService 79 = .ok (.iload_n 3, 1) := by decide +kernel
theorem dX14_addService_80 : decode cX14_addService 80 = .ok (.aload 6, 2) := by decide +kernel
theorem dX14_addService_82 : decode cX14_addService 82 = .ok (.getfield 157, 3) := by decide +kernel
theorem dX14_addService_85 : decode cX14_addService 85 = .ok (.if_icmp .lt 25, 3) := by decide +kernel
theorem dX14_addService_88 : decode cX14_addService 88 = .ok (.iload_n 3, 1) := by decide +kernel
theorem dX14_addService_89 : decode cX14_addService 89 = .ok (.iload 4, 2) := by decide +kernel
theorem dX14_addService_91 : decode cX14_addService 91 = .ok (.iadd, 1) := by decide +kernel
theorem dX14_addService_92 : decode cX14_addService 92 = .ok (.aload 6, 2) := by decide +kernel
theorem dX14_addService_94 : decode cX14_addService 94 = .ok (.getfield 160, 3) := by decide +kernel
theorem dX14_addService_97 : decode cX14_addService 97 = .ok (.if_icmp .gt 13, 3) := by decide +kernel
theorem dX14_addService_100 : decode cX14_addService 100 = .ok (.aload 6, 2) := by decide +kernel
theorem dX14_addService_102 : decode cX14_addService 102 = .ok (.getfield 147, 3) := by decide +kernel
theorem dX14_addService_105 : decode cX14_addService 105 = .ok (.iload_n 2, 1) := by decide +kernel
theorem dX14_addService_106 : decode cX14_addService 106 = .ok (.baload, 1) := by decide +kernel
theorem dX14_addService_107 : decode cX14_addService 107 = .ok (.ifCond .eq 7, 3) := by decide +kernel
theorem dX14_addService_110 : decode cX14_addService 110 = .ok (.iconst 1, 1) := by decide +kernel
theorem dX14_addService_111 : decode cX14_addService 111 = .ok (.goto 4, 3) := by decide +kernel
theorem dX14_addService_114 : decode cX14_addService 114 = .ok (.iconst 0, 1) := by decide +kernel
theorem dX14_addService_115 : decode cX14_addService 115 = .ok (.istore 7, 2) := by decide +kernel
theorem dX14_addService_117 : decode cX14_addService 117 = .ok (.aload_n 0, 1) := by decide +kernel
theorem dX14_addService_118 : decode cX14_addService 118 = .ok (.getfield 25, 3) := by decide +kernel
theorem dX14_addService_121 : decode cX14_addService 121 = .ok (.invokevirtual 59, 3) := by decide +kernel
theorem dX14_addService_124 : decode cX14_addService 124 = .ok (.astore 8, 2) := by decide +kernel
theorem dX14_addService_126 : decode cX14_addService 126 = .ok (.aload 8, 2) := by decide +kernel
theorem dX14_addService_128 : decode cX14_addService 128 = .ok (.invokeinterface 63 1, 5) := by decide +kernel
theorem dX14_addService_133 : decode cX14_addService 133 = .ok (.ifCond .eq 74, 3) := by decide +kernel
theorem dX14_addService_136 : decode cX14_addService 136 = .ok (.aload 8, 2) := by decide +kernel
theorem dX14_addService_138 : decode cX14_addService 138 = .ok (.invokeinterface 69 1, 5) := by decide +kernel
theorem dX14_addService_143 : decode cX14_addService 143 = .ok (.checkcast 73, 3) := by decide +kernel
theorem dX14_addService_146 : decode cX14_addService 146 = .ok (.astore 9, 2) := by decide +kernel
theorem dX14_addService_148 : decode cX14_addService 148 = .ok (.iload 7, 2) := by decide +kernel
theorem dX14_addService_150 : decode cX14_addService 150 = .ok (.ifCond .ne 47, 3) := by decide +kernel
theorem dX14_addService_153 : decode cX14_addService 153 = .ok (.aload 9, 2) := by decide +kernel
theorem dX14_addService_155 : decode cX14_addService 155 = .ok (.getfield 144, 3) := by decide +kernel
theorem dX14_addService_158 : decode cX14_addService 158 = .ok (.iload 5, 2) := by decide +kernel
theorem dX14_addService_160 : decode cX14_addService 160 = .ok (.if_icmp .ne 41, 3) := by decide +kernel
theorem dX14_addService_163 : decode cX14_addService 163 = .ok (.aload 9, 2) := by decide +kernel
theorem dX14_addService_165 : decode cX14_addService 165 = .ok (.getfield 129, 3) := by decide +kernel
theorem dX14_addService_168 : decode cX14_addService 168 = .ok (.iload_n 2, 1) := by decide +kernel
theorem dX14_addService_169 : decode cX14_addService 169 = .ok (.if_icmp .ne 32, 3) := by decide +kernel
theorem dX14_addService_172 : decode cX14_addService 172 = .ok (.aload 9, 2) := by decide +kernel
theorem dX14_addService_174 : decode cX14_addService 174 = .ok (.getfield 163, 3) := by decide +kernel
theorem dX14_addService_177 : decode cX14_addService 177 = .ok (.iload_n 3, 1) := by decide +kernel
theorem dX14_addService_178 : decode cX14_addService 178 = .ok (.iload 4, 2) := by decide +kernel
theorem dX14_addService_180 : decode cX14_addService 180 = .ok (.iadd, 1) := by decide +kernel
theorem dX14_addService_181 : decode cX14_addService 181 = .ok (.iconst 4, 1) := by decide +kernel
theorem dX14_addService_182 : decode cX14_addService 182 = .ok (.iadd, 1) := by decide +kernel
theorem dX14_addService_183 : decode cX14_addService 183 = .ok (.if_icmp .ge 18, 3) := by decide +kernel
theorem dX14_addService_186 : decode cX14_addService 186 = .ok (.iload_n 3, 1) := by decide +kernel
theorem dX14_addService_187 : decode cX14_addService 187 = .ok (.aload 9, 2) := by decide +kernel
theorem dX14_addService_189 : decode cX14_addService 189 = .ok (.invokevirtual 166, 3) := by decide +kernel
theorem dX14_addService_192 : decode cX14_addService 192 = .ok (.iconst 4, 1) := by decide +kernel
theorem dX14_addService_193 : decode cX14_addService 193 = .ok (.iadd, 1) := by decide +kernel
theorem dX14_addService_194 : decode cX14_addService 194 = .ok (.if_icmp .ge 7, 3) := by decide +kernel
theorem dX14_addService_197 : decode cX14_addService 197 = .ok (.iconst 1, 1) := by decide +kernel
theorem dX14_addService_198 : decode cX14_addService 198 = .ok (.goto 4, 3) := by decide +kernel
theorem dX14_addService_201 : decode cX14_addService 201 = .ok (.iconst 0, 1) := by decide +kernel
theorem dX14_addService_202 : decode cX14_addService 202 = .ok (.istore 7, 2) := by decide +kernel
theorem dX14_addService_204 : decode cX14_addService 204 = .ok (.goto (-78), 3) := by decide +kernel
theorem dX14_addService_207 : decode cX14_addService 207 = .ok (.iload 7, 2) := by decide +kernel
theorem dX14_addService_209 : decode cX14_addService 209 = .ok (.ifCond .eq 9, 3) := by decide +kernel
theorem dX14_addService_212 : decode cX14_addService 212 = .ok (.aload_n 0, 1) := by decide +kernel
theorem dX14_addService_213 : decode cX14_addService 213 = .ok (.iconst 3, 1) := by decide +kernel
theorem dX14_addService_214 : decode cX14_addService 214 = .ok (.invokevirtual 42, 3) := by decide +kernel
theorem dX14_addService_217 : decode cX14_addService 217 = .ok (.ireturn, 1) := by decide +kernel
theorem dX14_addService_218 : decode cX14_addService 218 = .ok (.aload_n 0, 1) := by decide +kernel
theorem dX14_addService_219 : decode cX14_addService 219 = .ok (.getfield 25, 3) := by decide +kernel
theorem dX14_addService_222 : decode cX14_addService 222 = .ok (.invokevirtual 46, 3) := by decide +kernel
theorem dX14_addService_225 : decode cX14_addService 225 = .ok (.bipush 30, 2) := by decide +kernel
theorem dX14_addService_227 : decode cX14_addService 227 = .ok (.if_icmp .ne 9, 3) := by decide +kernel
theorem dX14_addService_230 : decode cX14_addService 230 = .ok (.aload_n 0, 1) := by decide +kernel
theorem dX14_addService_231 : decode cX14_addService 231 = .ok (.iconst 4, 1) := by decide +kernel
theorem dX14_addService_232 : decode cX14_addService 232 = .ok (.invokevirtual 42, 3) := by decide +kernel
theorem dX14_addService_235 : decode cX14_addService 235 = .ok (.ireturn, 1) := by decide +kernel
theorem dX14_addService_236 : decode cX14_addService 236 = .ok (.aload_n 0, 1) := by decide +kernel
theorem dX14_addService_237 : decode cX14_addService 237 = .ok (.getfield 25, 3) := by decide +kernel
theorem dX14_addService_240 : decode cX14_addService 240 = .ok (.new 73, 3) := by decide +kernel
theorem dX14_addService_243 : decode cX14_addService 243 = .ok (.dup, 1) := by decide +kernel
theorem dX14_addService_244 : decode cX14_addService 244 = .ok (.iload_n 1, 1) := by decide +kernel
theorem dX14_addService_245 : decode cX14_addService 245 = .ok (.iload_n 2, 1) := by decide +kernel
theorem dX14_addService_246 : decode cX14_addService 246 = .ok (.iload_n 3, 1) := by decide +kernel
theorem dX14_addService_247 : decode cX14_addService 247 = .ok (.iload 4, 2) := by decide +kernel
theorem dX14_addService_249 : decode cX14_addService 249 = .ok (.iload 5, 2) := by decide +kernel
theorem dX14_addService_251 : decode cX14_addService 251 = .ok (.invokespecial 169, 3) := by decide +kernel
theorem dX14_addService_254 : decode cX14_addService 254 = .ok (.invokevirtual 52, 3) := by decide +kernel
theorem dX14_addService_257 : decode cX14_addService 257 = .ok (.pop, 1) := by decide +kernel
theorem dX14_addService_258 : decode cX14_addService 258 = .ok (.aload_n 0, 1) := by decide +kernel
theorem dX14_addService_259 : decode cX14_addService 259 = .ok (.aload_n 0, 1) := by decide +kernel
theorem dX14_addService_260 : decode cX14_addService 260 = .ok (.getfield 25, 3) := by decide +kernel
theorem dX14_addService_263 : decode cX14_addService 263 = .ok (.invokevirtual 46, 3) := by decide +kernel
theorem dX14_addService_266 : decode cX14_addService 266 = .ok (.iconst 1, 1) := by decide +kernel
theorem dX14_addService_267 : decode cX14_addService 267 = .ok (.isub, 1) := by decide +kernel
theorem dX14_addService_268 : decode cX14_addService 268 = .ok (.invokevirtual 56, 3) := by decide +kernel
theorem dX14_addService_271 : decode cX14_addService 271 = .ok (.ireturn, 1) := by decide +kernel
set_option maxRecDepth 20000 in
theorem ggX14_forbids_Jx4a65c_iterator_32c93 : GoodIn wsX14_forbids wsJx4a65c_iterator_32c93 := goodIn_r _ [15, 16, 17, 18, 19, 20, 21, 22, 23, 24, 25, 26, 27, 28, 29, 166, 167, 168, 169, 170, 171, 172] (by decide +kernel) (by decide +kernel)
set_option maxRecDepth 20000 in
theorem gX14_forbids_Jx4a65c_iterator_32c93 : GoodIn wsX14_forbids (wsV RX14 59 RJx4a65c yJx4a65c_iterator_32c93 wsJx4a65c_iterator_32c93) := goodIn_app (goodIn_of _ (by decide +kernel)) ggX14_forbids_Jx4a65c_iterator_32c93
set_option maxRecDepth 20000 in
theorem ggX14_forbids_Jx35411_hasNext_aae02 : GoodIn wsX14_forbids wsJx35411_hasNext_aae02 := goodIn_r _ [33, 34, 22, 166, 167, 168, 169, 170, 171, 172] (by decide +kernel) (by decide +kernel)
set_option maxRecDepth 20000 in
theorem gX14_forbids_Jx35411_hasNext_aae02_f63Jx35411 : GoodIn wsX14_forbids (va_wsF RX14 63 RJx35411 ⟨"java/util/Iterator", "hasNext", "()Z"⟩ yJx35411_hasNext_aae02 wsJx35411_hasNext_aae02) := goodIn_app (goodIn_of _ (by decide +kernel)) ggX14_forbids_Jx35411_hasNext_aae02
set_option maxRecDepth 20000 in
theorem ggX14_forbids_Jx95556_hasNext_aae02 : GoodIn wsX14_forbids wsJx95556_hasNext_aae02 := goodIn_r _ [38, 39, 40, 173, 174, 175, 176] (by decide +kernel) (by decide +kernel)
set_option maxRecDepth 20000 in
theorem gX14_forbids_Jx95556_hasNext_aae02_f63Jx95556 : GoodIn wsX14_forbids (va_wsF RX14 63 RJx95556 ⟨"java/util/Iterator", "hasNext", "()Z"⟩ yJx95556_hasNext_aae02 wsJx95556_hasNext_aae02) := goodIn_app (goodIn_of _ (by decide +kernel)) ggX14_forbids_Jx95556_hasNext_aae02
set_option maxRecDepth 20000 in
theorem ggX14_forbids_Jx35411_next_0502b : GoodIn wsX14_forbids wsJx35411_next_0502b := goodIn_r _ [44, 34, 22, 45, 26, 46, 47, 48, 18, 49, 27, 28, 29, 166, 167, 168, 169, 170, 171, 172] (by decide +kernel) (by decide +kernel)
set_option maxRecDepth 20000 in
theorem gX14_forbids_Jx35411_next_0502b_f69Jx35411 : GoodIn wsX14_forbids (va_wsF RX14 69 RJx35411 ⟨"java/util/Iterator", "next", "()Ljava/lang/Object;"⟩ yJx35411_next_0502b wsJx35411_next_0502b) := goodIn_app (goodIn_of _ (by decide +kernel)) ggX14_forbids_Jx35411_next_0502b
set_option maxRecDepth 20000 in
theorem ggX14_forbids_Jx95556_next_0502b : GoodIn wsX14_forbids wsJx95556_next_0502b := goodIn_r _ [52, 39, 53, 54, 55, 56, 14, 57, 58, 59, 60, 61, 62, 63, 64, 65, 66, 67, 68, 69, 70, 71, 72, 73, 74, 75, 76, 77, 173, 174, 175, 176, 170, 171, 172, 177, 178] (by decide +kernel) (by decide +kernel)
set_option maxRecDepth 20000 in
theorem gX14_forbids_Jx95556_next_0502b_f69Jx95556 : GoodIn wsX14_forbids (va_wsF RX14 69 RJx95556 ⟨"java/util/Iterator", "next", "()Ljava/lang/Object;"⟩ yJx95556_next_0502b wsJx95556_next_0502b) := goodIn_app (goodIn_of _ (by decide +kernel)) ggX14_forbids_Jx95556_next_0502b
set_option maxRecDepth 20000 in
theorem gX14_forbids_Jx4a65c_iterator_32c93_f180Jx4a65c : GoodIn wsX14_forbids (va_wsF RX14 180 RJx4a65c ⟨"java/util/List", "iterator", "()Ljava/util/Iterator;"⟩ yJx4a65c_iterator_32c93 wsJx4a65c_iterator_32c93) := goodIn_app (goodIn_of _ (by decide +kernel)) ggX14_forbids_Jx4a65c_iterator_32c93
set_option maxRecDepth 20000 in
theorem ggX14_forbids_Jxcdf0f_iterator_32c93 : GoodIn wsX14_forbids wsJxcdf0f_iterator_32c93 := goodIn_r _ [83, 84, 85, 37, 86, 87, 88, 89, 74, 90, 77, 91, 92, 93, 94, 24, 25, 53, 40, 39, 95, 173, 174, 175, 176, 177, 178] (by decide +kernel) (by decide +kernel)
set_option maxRecDepth 20000 in
theorem gX14_forbids_Jxcdf0f_iterator_32c93_f180Jx6a02c : GoodIn wsX14_forbids (va_wsF RX14 180 RJx6a02c ⟨"java/util/List", "iterator", "()Ljava/util/Iterator;"⟩ yJxcdf0f_iterator_32c93 wsJxcdf0f_iterator_32c93) := goodIn_app (goodIn_of _ (by decide +kernel)) ggX14_forbids_Jxcdf0f_iterator_32c93
set_option maxRecDepth 20000 in
theorem ggX14_forbids_J6_intValue_8abf5 : GoodIn wsX14_forbids wsJ6_intValue_8abf5 := goodIn_r _ [100, 101, 179] (by decide +kernel) (by decide +kernel)
set_option maxRecDepth 20000 in
theorem gX14_forbids_J6_intValue_8abf5 : GoodIn wsX14_forbids (wsV RX14 181 RJ6 yJ6_intValue_8abf5 wsJ6_intValue_8abf5) := goodIn_app (goodIn_of _ (by decide +kernel)) ggX14_forbids_J6_intValue_8abf5
set_option maxRecDepth 20000 in
theorem ggX14_forbids_J6_valueOf_2dffe : GoodIn wsX14_forbids wsJ6_valueOf_2dffe := goodIn_r _ [104, 105, 106, 107, 108, 99, 109, 110, 111, 101, 112, 113, 114, 115, 116, 24, 25, 179] (by decide +kernel) (by decide +kernel)
set_option maxRecDepth 20000 in
theorem gX14_forbids_J6_valueOf_2dffe : GoodIn wsX14_forbids (va_wsS RX14 76 yJ6_valueOf_2dffe wsJ6_valueOf_2dffe) := goodIn_app (goodIn_of _ (by decide +kernel)) ggX14_forbids_J6_valueOf_2dffe
set_option maxRecDepth 20000 in
theorem ggX14_forbids_Jx4a65c_contains_9ea2d : GoodIn wsX14_forbids wsJx4a65c_contains_9ea2d := goodIn_r _ [120, 121, 122, 123, 14, 124, 58, 125, 126, 127, 128, 71, 129, 130, 131, 132, 99, 133, 134, 101, 135, 97, 98, 100, 136, 137, 138, 139, 140, 141, 142, 143, 144, 145, 146, 147, 170, 171, 172, 179, 180, 181, 182, 183] (by decide +kernel) (by decide +kernel)
set_option maxRecDepth 20000 in
theorem gX14_forbids_Jx4a65c_contains_9ea2d : GoodIn wsX14_forbids (wsV RX14 82 RJx4a65c yJx4a65c_contains_9ea2d wsJx4a65c_contains_9ea2d) := goodIn_app (goodIn_of _ (by decide +kernel)) ggX14_forbids_Jx4a65c_contains_9ea2d
theorem dX14_forbids_0 : decode cX14_forbids 0 = .ok (.iconst 0, 1) := by decide +kernel
theorem dX14_forbids_1 : decode cX14_forbids 1 = .ok (.istore 4, 2) := by decide +kernel
theorem dX14_forbids_3 : decode cX14_forbids 3 = .ok (.aload_n 0, 1) := by decide +kernel
theorem dX14_forbids_4 : decode cX14_forbids 4 = .ok (.getfield 25, 3) := by decide +kernel
theorem dX14_forbids_7 : decode cX14_forbids 7 = .ok (.invokevirtual 59, 3) := by decide +kernel
theorem dX14_forbids_10 : decode cX14_forbids 10 = .ok (.astore 5, 2) := by decide +kernel
theorem dX14_forbids_12 : decode cX14_forbids 12 = .ok (.aload 5, 2) := by decide +kernel
theorem dX14_forbids_14 : decode cX14_forbids 14 = .ok (.invokeinterface 63 1, 5) := by decide +kernel
theorem dX14_forbids_19 : decode cX14_forbids 19 = .ok (.ifCond .eq 123, 3) := by decide +kernel
theorem dX14_forbids_22 : decode cX14_forbids 22 = .ok (.aload 5, 2) := by decide +kernel
theorem dX14_forbids_24 : decode cX14_forbids 24 = .ok (.invokeinterface 69 1, 5) := by decide +kernel
theorem dX14_forbids_29 : decode cX14_forbids 29 = .ok (.checkcast 73, 3) := by decide +kernel
theorem dX14_forbids_32 : decode cX14_forbids 32 = .ok (.astore 6, 2) := by decide +kernel
theorem dX14_forbids_34 : decode cX14_forbids 34 = .ok (.aload 6, 2) := by decide +kernel
theorem dX14_forbids_36 : decode cX14_forbids 36 = .ok (.aload_n 1, 1) := by decide +kernel
theorem dX14_forbids_37 : decode cX14_forbids 37 = .ok (.if_acmp .eq (-25), 3) := by decide +kernel
theorem dX14_forbids_40 : decode cX14_forbids 40 = .ok (.iload_n 2, 1) := by decide +kernel
theorem dX14_forbids_41 : decode cX14_forbids 41 = .ok (.iconst (-1), 1) := by decide +kernel
theorem dX14_forbids_42 : decode cX14_forbids 42 = .ok (.if_icmp .eq (-30), 3) := by decide +kernel
theorem dX14_forbids_45 : decode cX14_forbids 45 = .ok (.aload 6, 2) := by decide +kernel
theorem dX14_forbids_47 : decode cX14_forbids 47 = .ok (.getfield 172, 3) := by decide +kernel
theorem dX14_forbids_50 : decode cX14_forbids 50 = .ok (.iload_n 2, 1) := by decide +kernel
theorem dX14_forbids_51 : decode cX14_forbids 51 = .ok (.if_icmp .ne (-39), 3) := by decide +kernel
theorem dX14_forbids_54 : decode cX14_forbids 54 = .ok (.aload 6, 2) := by decide +kernel
theorem dX14_forbids_56 : decode cX14_forbids 56 = .ok (.getfield 129, 3) := by decide +kernel
theorem dX14_forbids_59 : decode cX14_forbids 59 = .ok (.aload_n 1, 1) := by decide +kernel
theorem dX14_forbids_60 : decode cX14_forbids 60 = .ok (.getfield 129, 3) := by decide +kernel
theorem dX14_forbids_63 : decode cX14_forbids 63 = .ok (.isub, 1) := by decide +kernel
theorem dX14_forbids_64 : decode cX14_forbids 64 = .ok (.invokestatic 175, 3) := by decide +kernel
theorem dX14_forbids_67 : decode cX14_forbids 67 = .ok (.bipush 100, 2) := by decide +kernel
theorem dX14_forbids_69 : decode cX14_forbids 69 = .ok (.if_icmp .lt 6, 3) := by decide +kernel
theorem dX14_forbids_72 : decode cX14_forbids 72 = .ok (.goto (-60), 3) := by decide +kernel
theorem dX14_forbids_75 : decode cX14_forbids 75 = .ok (.aload_n 3, 1) := by decide +kernel
theorem dX14_forbids_76 : decode cX14_forbids 76 = .ok (.invokeinterface 180 1, 5) := by decide +kernel
theorem dX14_forbids_81 : decode cX14_forbids 81 = .ok (.astore 7, 2) := by decide +kernel
theorem dX14_forbids_83 : decode cX14_forbids 83 = .ok (.aload 7, 2) := by decide +kernel
theorem dX14_forbids_85 : decode cX14_forbids 85 = .ok (.invokeinterface 63 1, 5) := by decide +kernel
theorem dX14_forbids_90 : decode cX14_forbids 90 = .ok (.ifCond .eq 49, 3) := by decide +kernel
theorem dX14_forbids_93 : decode cX14_forbids 93 = .ok (.aload 7, 2) := by decide +kernel
theorem dX14_forbids_95 : decode cX14_forbids 95 = .ok (.invokeinterface 69 1, 5) := by decide +kernel
theorem dX14_forbids_100 : decode cX14_forbids 100 = .ok (.checkcast 77, 3) := by decide +kernel
theorem dX14_forbids_103 : decode cX14_forbids 103 = .ok (.invokevirtual 181, 3) := by decide +kernel
theorem dX14_forbids_106 : decode cX14_forbids 106 = .ok (.istore 8, 2) := by decide +kernel
theorem dX14_forbids_108 : decode cX14_forbids 108 = .ok (.iload 4, 2) := by decide +kernel
theorem dX14_forbids_110 : decode cX14_forbids 110 = .ok (.ifCond .ne 19, 3) := by decide +kernel
theorem dX14_forbids_113 : decode cX14_forbids 113 = .ok (.aload 6, 2) := by decide +kernel
theorem dX14_forbids_115 : decode cX14_forbids 115 = .ok (.getfield 75, 3) := by decide +kernel
theorem dX14_forbids_118 : decode cX14_forbids 118 = .ok (.iload 8, 2) := by decide +kernel
theorem dX14_forbids_120 : decode cX14_forbids 120 = .ok (.invokestatic 76, 3) := by decide +kernel
theorem dX14_forbids_123 : decode cX14_forbids 123 = .ok (.invokevirtual 82, 3) := by decide +kernel
theorem dX14_forbids_126 : decode cX14_forbids 126 = .ok (.ifCond .eq 7, 3) := by decide +kernel
theorem dX14_forbids_129 : decode cX14_forbids 129 = .ok (.iconst 1, 1) := by decide +kernel
theorem dX14_forbids_130 : decode cX14_forbids 130 = .ok (.goto 4, 3) := by decide +kernel
theorem dX14_forbids_133 : decode cX14_forbids 133 = .ok (.iconst 0, 1) := by decide +kernel
theorem dX14_forbids_134 : decode cX14_forbids 134 = .ok (.istore 4, 2) := by decide +kernel
theorem dX14_forbids_136 : decode cX14_forbids 136 = .ok (.goto (-53), 3) := by decide +kernel
theorem dX14_forbids_139 : decode cX14_forbids 139 = .ok (.goto (-127), 3) := by decide +kernel
theorem dX14_forbids_142 : decode cX14_forbids 142 = .ok (.iload 4, 2) := by decide +kernel
theorem dX14_forbids_144 : decode cX14_forbids 144 = .ok (.ireturn, 1) := by decide +kernel
set_option maxRecDepth 20000 in
theorem ggX14_add_X14_isOf : GoodIn wsX14_add wsX14_isOf := goodIn_r _ [15, 16, 17, 18, 19, 20, 21, 22, 23, 24, 25, 26, 27, 28, 14, 29, 284, 285, 286, 287, 288] (by decide +kernel) (by decide +kernel)
set_option maxRecDepth 20000 in
theorem gX14_add_X14_isOf : GoodIn wsX14_add (va_wsS RX14 85 yX14_isOf wsX14_isOf) := goodIn_app (goodIn_of _ (by decide +kernel)) ggX14_add_X14_isOf
set_option maxRecDepth 20000 in
theorem ggX14_add_X14_fails : GoodIn wsX14_add wsX14_fails := goodIn_r _ [33, 34, 261, 262, 263, 264, 265, 266] (by decide +kernel) (by decide +kernel)
set_option maxRecDepth 20000 in
theorem gX14_add_X14_fails : GoodIn wsX14_add (wsV RX14 42 RX14 yX14_fails wsX14_fails) := goodIn_app (goodIn_of _ (by decide +kernel)) ggX14_add_X14_fails
set_option maxRecDepth 20000 in
theorem ggX14_add_Jx4a65c_get_915e3 : GoodIn wsX14_add wsJx4a65c_get_915e3 := goodIn_r _ [38, 21, 39, 40, 41, 42, 43, 44, 45, 46, 47, 48, 49, 19, 50, 51, 284, 285, 286] (by decide +kernel) (by decide +kernel)
set_option maxRecDepth 20000 in
theorem gX14_add_Jx4a65c_get_915e3 : GoodIn wsX14_add (wsV RX14 89 RJx4a65c yJx4a65c_get_915e3 wsJx4a65c_get_915e3) := goodIn_app (goodIn_of _ (by decide +kernel)) ggX14_add_Jx4a65c_get_915e3
set_option maxRecDepth 20000 in
theorem ggX14_add_Jx4a65c_iterator_32c93 : GoodIn wsX14_add wsJx4a65c_iterator_32c93 := goodIn_r _ [55, 56, 57, 58, 59, 60, 61, 62, 63, 64, 65, 66, 67, 68, 69, 289, 290, 291, 292, 284, 285, 286] (by decide +kernel) (by decide +kernel)
set_option maxRecDepth 20000 in
theorem gX14_add_Jx4a65c_iterator_32c93 : GoodIn wsX14_add (wsV RX14 59 RJx4a65c yJx4a65c_iterator_32c93 wsJx4a65c_iterator_32c93) := goodIn_app (goodIn_of _ (by decide +kernel)) ggX14_add_Jx4a65c_iterator_32c93
set_option maxRecDepth 20000 in
theorem ggX14_add_Jx35411_hasNext_aae02 : GoodIn wsX14_add wsJx35411_hasNext_aae02 := goodIn_r _ [73, 74, 62, 289, 290, 291, 292, 284, 285, 286] (by decide +kernel) (by decide +kernel)
set_option maxRecDepth 20000 in
theorem gX14_add_Jx35411_hasNext_aae02_f63Jx35411 : GoodIn wsX14_add (va_wsF RX14 63 RJx35411 ⟨"java/util/Iterator", "hasNext", "()Z"⟩ yJx35411_hasNext_aae02 wsJx35411_hasNext_aae02) := goodIn_app (goodIn_of _ (by decide +kernel)) ggX14_add_Jx35411_hasNext_aae02
set_option maxRecDepth 20000 in
theorem ggX14_add_Jx95556_hasNext_aae02 : GoodIn wsX14_add wsJx95556_hasNext_aae02 := goodIn_r _ [78, 79, 80, 293, 294, 295, 296] (by decide +kernel) (by decide +kernel)
set_option maxRecDepth 20000 in
theorem gX14_add_Jx95556_hasNext_aae02_f63Jx95556 : GoodIn wsX14_add (va_wsF RX14 63 RJx95556 ⟨"java/util/Iterator", "hasNext", "()Z"⟩ yJx95556_hasNext_aae02 wsJx95556_hasNext_aae02) := goodIn_app (goodIn_of _ (by decide +kernel)) ggX14_add_Jx95556_hasNext_aae02
set_option maxRecDepth 20000 in
theorem ggX14_add_Jx35411_next_0502b : GoodIn wsX14_add wsJx35411_next_0502b := goodIn_r _ [84, 74, 62, 85, 66, 86, 87, 88, 58, 89, 67, 68, 69, 289, 290, 291, 292, 284, 285, 286] (by decide +kernel) (by decide +kernel)
set_option maxRecDepth 20000 in
theorem gX14_add_Jx35411_next_0502b_f69Jx35411 : GoodIn wsX14_add (va_wsF RX14 69 RJx35411 ⟨"java/util/Iterator", "next", "()Ljava/lang/Object;"⟩ yJx35411_next_0502b wsJx35411_next_0502b) := goodIn_app (goodIn_of _ (by decide +kernel)) ggX14_add_Jx35411_next_0502b
set_option maxRecDepth 20000 in
theorem ggX14_add_Jx95556_next_0502b : GoodIn wsX14_add wsJx95556_next_0502b := goodIn_r _ [92, 79, 93, 94, 95, 36, 19, 38, 21, 39, 40, 41, 42, 43, 44, 45, 46, 47, 48, 49, 50, 51, 96, 97, 24, 98, 99, 26, 293, 294, 295, 296, 284, 285, 286, 287, 288] (by decide +kernel) (by decide +kernel)
set_option maxRecDepth 20000 in
theorem gX14_add_Jx95556_next_0502b_f69Jx95556 : GoodIn wsX14_add (va_wsF RX14 69 RJx95556 ⟨"java/util/Iterator", "next", "()Ljava/lang/Object;"⟩ yJx95556_next_0502b wsJx95556_next_0502b) := goodIn_app (goodIn_of _ (by decide +kernel)) ggX14_add_Jx95556_next_0502b
set_option maxRecDepth 20000 in
theorem ggX14_add_J6_intValue_8abf5 : GoodIn wsX14_add wsJ6_intValue_8abf5 := goodIn_r _ [104, 105, 297] (by decide +kernel) (by decide +kernel)
set_option maxRecDepth 20000 in
theorem gX14_add_J6_intValue_8abf5 : GoodIn wsX14_add (wsV RX14 181 RJ6 yJ6_intValue_8abf5 wsJ6_intValue_8abf5) := goodIn_app (goodIn_of _ (by decide +kernel)) ggX14_add_J6_intValue_8abf5
set_option maxRecDepth 20000 in
theorem ggX14_add_J6_valueOf_2dffe : GoodIn wsX14_add wsJ6_valueOf_2dffe := goodIn_r _ [108, 109, 110, 111, 112, 103, 113, 114, 115, 105, 116, 117, 118, 119, 120, 64, 65, 297] (by decide +kernel) (by decide +kernel)
set_option maxRecDepth 20000 in
theorem gX14_add_J6_valueOf_2dffe : GoodIn wsX14_add (va_wsS RX14 76 yJ6_valueOf_2dffe wsJ6_valueOf_2dffe) := goodIn_app (goodIn_of _ (by decide +kernel)) ggX14_add_J6_valueOf_2dffe
set_option maxRecDepth 20000 in
theorem ggX14_add_Jx4a65c_contains_9ea2d : GoodIn wsX14_add wsJx4a65c_contains_9ea2d := goodIn_r _ [124, 125, 126, 127, 19, 128, 21, 129, 130, 131, 132, 51, 133, 134, 135, 136, 103, 137, 138, 105, 139, 101, 102, 104, 140, 141, 142, 143, 144, 145, 146, 147, 148, 149, 150, 151, 284, 285, 286, 297, 298, 299, 300, 301] (by decide +kernel) (by decide +kernel)
set_option maxRecDepth 20000 in
theorem gX14_add_Jx4a65c_contains_9ea2d : GoodIn wsX14_add (wsV RX14 82 RJx4a65c yJx4a65c_contains_9ea2d wsJx4a65c_contains_9ea2d) := goodIn_app (goodIn_of _ (by decide +kernel)) ggX14_add_Jx4a65c_contains_9ea2d
set_option maxRecDepth 20000 in
theorem ggX14_add_Jx4a65c_size_8abf5 : GoodIn wsX14_add wsJx4a65c_size_8abf5 := goodIn_r _ [20, 21, 284, 285, 286] (by decide +kernel) (by decide +kernel)
set_option maxRecDepth 20000 in
theorem gX14_add_Jx4a65c_size_8abf5 : GoodIn wsX14_add (wsV RX14 46 RJx4a65c yJx4a65c_size_8abf5 wsJx4a65c_size_8abf5) := goodIn_app (goodIn_of _ (by decide +kernel)) ggX14_add_Jx4a65c_size_8abf5
set_option maxRecDepth 20000 in
theorem ggX14_add_Jxbd725_of_41f1f : GoodIn wsX14_add wsJxbd725_of_41f1f := goodIn_r _ [157, 158, 159, 24, 160, 161, 162, 99, 26, 163, 164, 165, 166, 167, 168, 169, 170, 171, 172, 173, 174, 175, 64, 65, 176, 177, 41, 178, 287, 288] (by decide +kernel) (by decide +kernel)
set_option maxRecDepth 20000 in
theorem gX14_add_Jxbd725_of_41f1f : GoodIn wsX14_add (va_wsS RX14 197 yJxbd725_of_41f1f wsJxbd725_of_41f1f) := goodIn_app (goodIn_of _ (by decide +kernel)) ggX14_add_Jxbd725_of_41f1f
set_option maxRecDepth 20000 in
theorem ggX14_add_X14_forbids : GoodIn wsX14_add wsX14_forbids := goodIn_r _ [182, 1, 3, 11, 183, 184, 185, 186, 187, 8, 7, 52, 53, 54, 19, 55, 56, 57, 58, 59, 60, 61, 62, 63, 64, 65, 66, 67, 68, 69, 70, 71, 72, 73, 74, 75, 76, 77, 78, 79, 80, 81, 82, 83, 84, 85, 86, 87, 88, 89, 90, 91, 92, 93, 94, 95, 36, 38, 21, 39, 40, 41, 42, 43, 44, 45, 46, 47, 48, 49, 50, 51, 96, 97, 24, 98, 99, 26, 188, 189, 190, 191, 165, 192, 193, 194, 195, 196, 197, 23, 25, 198, 199, 200, 201, 202, 100, 101, 102, 103, 104, 105, 106, 107, 108, 109, 110, 111, 112, 113, 114, 115, 116, 117, 118, 119, 120, 121, 122, 123, 124, 125, 126, 127, 128, 129, 130, 131, 132, 133, 134, 135, 136, 137, 138, 139, 140, 141, 142, 143, 144, 145, 146, 147, 148, 149, 150, 151, 261, 262, 263, 264, 265, 266, 272, 273, 274, 275, 276, 277, 278, 279, 280, 281, 282, 283, 289, 290, 291, 292, 284, 285, 286, 293, 294, 295, 296, 287, 288, 297, 298, 299, 300, 301] (by decide +kernel) (by decide +kernel)
set_option maxRecDepth 20000 in
theorem gX14_add_X14_forbids : GoodIn wsX14_add (wsV RX14 201 RX14 yX14_forbids wsX14_forbids) := goodIn_app (goodIn_of _ (by decide +kernel)) ggX14_add_X14_forbids
set_option maxRecDepth 20000 in
theorem ggX14_add_Jx4a65c_add_9ea2d : GoodIn wsX14_add wsJx4a65c_add_9ea2d := goodIn_r _ [206, 207, 68, 51, 21, 208, 209, 210, 19, 211, 212, 213, 214, 215, 216, 217, 218, 219, 220, 221, 222, 186, 223, 224, 225, 226, 227, 228, 229, 230, 231, 232, 233, 234, 235, 236, 237, 238, 239, 240, 241, 242, 243, 244, 245, 246, 247, 248, 249, 250, 251, 252, 253, 254, 255, 256, 284, 285, 286, 302, 303, 304, 305] (by decide +kernel) (by decide +kernel)
set_option maxRecDepth 20000 in
theorem gX14_add_Jx4a65c_add_9ea2d : GoodIn wsX14_add (wsV RX14 52 RJx4a65c yJx4a65c_add_9ea2d wsJx4a65c_add_9ea2d) := goodIn_app (goodIn_of _ (by decide +kernel)) ggX14_add_Jx4a65c_add_9ea2d
set_option maxRecDepth 20000 in
theorem ggX14_add_X14_tells : GoodIn wsX14_add wsX14_tells := goodIn_r _ [260, 34, 261, 262, 263, 264, 265, 266] (by decide +kernel) (by decide +kernel)
set_option maxRecDepth 20000 in
theorem gX14_add_X14_tells : GoodIn wsX14_add (wsV RX14 56 RX14 yX14_tells wsX14_tells) := goodIn_app (goodIn_of _ (by decide +kernel)) ggX14_add_X14_tells
theorem dX14_add_0 : decode cX14_add 0 = .ok (.aload_n 0, 1) := by decide +kernel
theorem dX14_add_1 : decode cX14_add 1 = .ok (.getfield 25, 3) := by decide +kernel
theorem dX14_add_4 : decode cX14_add 4 = .ok (.iload_n 1, 1) := by decide +kernel
theorem dX14_add_5 : decode cX14_add 5 = .ok (.invokestatic 85, 3) := by decide +kernel
theorem dX14_add_8 : decode cX14_add 8 = .ok (.ifCond .eq 14, 3) := by decide +kernel
theorem dX14_add_11 : decode cX14_add 11 = .ok (.aload_n 0, 1) := by decide +kernel
theorem dX14_add_12 : decode cX14_add 12 = .ok (.getfield 10, 3) := by decide +kernel
theorem dX14_add_15 : decode cX14_add 15 = .ok (.iload_n 2, 1) := by decide +kernel
theorem dX14_add_16 : decode cX14_add 16 = .ok (.invokestatic 85, 3) := by decide +kernel
theorem dX14_add_19 : decode cX14_add 19 = .ok (.ifCond .ne 9, 3) := by decide +kernel
theorem dX14_add_22 : decode cX14_add 22 = .ok (.aload_n 0, 1) := by decide +kernel
theorem dX14_add_23 : decode cX14_add 23 = .ok (.iconst 1, 1) := by decide +kernel
theorem dX14_add_24 : decode cX14_add 24 = .ok (.invokevirtual 42, 3) := by decide +kernel
theorem dX14_add_27 : decode cX14_add 27 = .ok (.ireturn, 1) := by decide +kernel
theorem dX14_add_28 : decode cX14_add 28 = .ok (.aload_n 0, 1) := by decide +kernel
theorem dX14_add_29 : decode cX14_add 29 = .ok (.getfield 25, 3) := by decide +kernel
theorem dX14_add_32 : decode cX14_add 32 = .ok (.iload_n 1, 1) := by decide +kernel
theorem dX14_add_33 : decode cX14_add 33 = .ok (.invokevirtual 89, 3) := by decide +kernel
theorem dX14_add_36 : decode cX14_add 36 = .ok (.checkcast 73, 3) := by decide +kernel
theorem dX14_add_39 : decode cX14_add 39 = .ok (.astore_n 3, 1) := by decide +kernel
theorem dX14_add_40 : decode cX14_add 40 = .ok (.aload_n 0, 1) := by decide +kernel
theorem dX14_add_41 : decode cX14_add 41 = .ok (.getfield 10, 3) := by decide +kernel
theorem dX14_add_44 : decode cX14_add 44 = .ok (.iload_n 2, 1) := by decide +kernel
theorem dX14_add_45 : decode cX14_add 45 = .ok (.invokevirtual 89, 3) := by decide +kernel
theorem dX14_add_48 : decode cX14_add 48 = .ok (.checkcast 47, 3) := by decide +kernel
theorem dX14_add_51 : decode cX14_add 51 = .ok (.getfield 184, 3) := by decide +kernel
theorem dX14_add_54 : decode cX14_add 54 = .ok (.aload_n 3, 1) := by decide +kernel
theorem dX14_add_55 : decode cX14_add 55 = .ok (.getfield 187, 3) := by decide +kernel
theorem dX14_add_58 : decode cX14_add 58 = .ok (.bipush 99, 2) := by decide +kernel
theorem dX14_add_60 : decode cX14_add 60 = .ok (.if_icmp .ne 8, 3) := by decide +kernel
theorem dX14_add_63 : decode cX14_add 63 = .ok (.bipush 20, 2) := by decide +kernel
theorem dX14_add_65 : decode cX14_add 65 = .ok (.goto 4, 3) := by decide +kernel
theorem dX14_add_68 : decode cX14_add 68 = .ok (.iconst 0, 1) := by decide +kernel
theorem dX14_add_69 : decode cX14_add 69 = .ok (.iadd, 1) := by decide +kernel
theorem dX14_add_70 : decode cX14_add 70 = .ok (.istore 4, 2) := by decide +kernel
theorem dX14_add_72 : decode cX14_add 72 = .ok (.aload_n 3, 1) := by decide +kernel
theorem dX14_add_73 : decode cX14_add 73 = .ok (.getfield 75, 3) := by decide +kernel
theorem dX14_add_76 : decode cX14_add 76 = .ok (.invokevirtual 59, 3) := by decide +kernel
theorem dX14_add_79 : decode cX14_add 79 = .ok (.astore 5, 2) := by decide +kernel
theorem dX14_add_81 : decode cX14_add 81 = .ok (.aload 5, 2) := by decide +kernel
theorem dX14_add_83 : decode cX14_add 83 = .ok (.invokeinterface 63 1, 5) := by decide +kernel
theorem dX14_add_88 : decode cX14_add 88 = .ok (.ifCond .eq 41, 3) := by decide +kernel
theorem dX14_add_91 : decode cX14_add 91 = .ok (.aload 5, 2) := by decide +kernel
theorem dX14_add_93 : decode cX14_add 93 = .ok (.invokeinterface 69 1, 5) := by decide +kernel
theorem dX14_add_98 : decode cX14_add 98 = .ok (.checkcast 77, 3) := by decide +kernel
theorem dX14_add_101 : decode cX14_add 101 = .ok (.invokevirtual 181, 3) := by decide +kernel
theorem dX14_add_104 : decode cX14_add 104 = .ok (.istore 6, 2) := by decide +kernel
theorem dX14_add_106 : decode cX14_add 106 = .ok (.iload 4, 2) := by decide +kernel
theorem dX14_add_108 : decode cX14_add 108 = .ok (.aload_n 0, 1) := by decide +kernel
theorem dX14_add_109 : decode cX14_add 109 = .ok (.getfield 10, 3) := by decide +kernel
theorem dX14_add_112 : decode cX14_add 112 = .ok (.iload 6, 2) := by decide +kernel
theorem dX14_add_114 : decode cX14_add 114 = .ok (.invokevirtual 89, 3) := by decide +kernel
theorem dX14_add_117 : decode cX14_add 117 = .ok (.checkcast 47, 3) := by decide +kernel
theorem dX14_add_120 : decode cX14_add 120 = .ok (.getfield 184, 3) := by decide +kernel
theorem dX14_add_123 : decode cX14_add 123 = .ok (.iadd, 1) := by decide +kernel
theorem dX14_add_124 : decode cX14_add 124 = .ok (.istore 4, 2) := by decide +kernel
theorem dX14_add_126 : decode cX14_add 126 = .ok (.goto (-45), 3) := by decide +kernel
theorem dX14_add_129 : decode cX14_add 129 = .ok (.aload_n 3, 1) := by decide +kernel
theorem dX14_add_130 : decode cX14_add 130 = .ok (.getfield 191, 3) := by decide +kernel
theorem dX14_add_133 : decode cX14_add 133 = .ok (.ifCond .ne 60, 3) := by decide +kernel
theorem dX14_add_136 : decode cX14_add 136 = .ok (.aload_n 3, 1) := by decide +kernel
theorem dX14_add_137 : decode cX14_add 137 = .ok (.getfield 75, 3) := by decide +kernel
theorem dX14_add_140 : decode cX14_add 140 = .ok (.iload_n 2, 1) := by decide +kernel
theorem dX14_add_141 : decode cX14_add 141 = .ok (.invokestatic 76, 3) := by decide +kernel
theorem dX14_add_144 : decode cX14_add 144 = .ok (.invokevirtual 82, 3) := by decide +kernel
theorem dX14_add_147 : decode cX14_add 147 = .ok (.ifCond .ne 46, 3) := by decide +kernel
theorem dX14_add_150 : decode cX14_add 150 = .ok (.aload_n 3, 1) := by decide +kernel
theorem dX14_add_151 : decode cX14_add 151 = .ok (.getfield 75, 3) := by decide +kernel
theorem dX14_add_154 : decode cX14_add 154 = .ok (.invokevirtual 46, 3) := by decide +kernel
theorem dX14_add_157 : decode cX14_add 157 = .ok (.bipush 6, 2) := by decide +kernel
theorem dX14_add_159 : decode cX14_add 159 = .ok (.if_icmp .eq 34, 3) := by decide +kernel
theorem dX14_add_162 : decode cX14_add 162 = .ok (.iload 4, 2) := by decide +kernel
theorem dX14_add_164 : decode cX14_add 164 = .ok (.bipush 15, 2) := by decide +kernel
theorem dX14_add_166 : decode cX14_add 166 = .ok (.aload_n 3, 1) := by decide +kernel
theorem dX14_add_167 : decode cX14_add 167 = .ok (.getfield 194, 3) := by decide +kernel
theorem dX14_add_170 : decode cX14_add 170 = .ok (.imul, 1) := by decide +kernel
theorem dX14_add_171 : decode cX14_add 171 = .ok (.if_icmp .gt 22, 3) := by decide +kernel
theorem dX14_add_174 : decode cX14_add 174 = .ok (.aload_n 0, 1) := by decide +kernel
theorem dX14_add_175 : decode cX14_add 175 = .ok (.aload_n 3, 1) := by decide +kernel
theorem dX14_add_176 : decode cX14_add 176 = .ok (.aload_n 3, 1) := by decide +kernel
theorem dX14_add_177 : decode cX14_add 177 = .ok (.getfield 172, 3) := by decide +kernel
theorem dX14_add_180 : decode cX14_add 180 = .ok (.iload_n 2, 1) := by decide +kernel
theorem dX14_add_181 : decode cX14_add 181 = .ok (.invokestatic 76, 3) := by decide +kernel
theorem dX14_add_184 : decode cX14_add 184 = .ok (.invokestatic 197, 3) := by decide +kernel
theorem dX14_add_187 : decode cX14_add 187 = .ok (.invokevirtual 201, 3) := by decide +kernel
theorem dX14_add_190 : decode cX14_add 190 = .ok (.ifCond .eq 9, 3) := by decide +kernel
theorem dX14_add_193 : decode cX14_add 193 = .ok (.aload_n 0, 1) := by decide +kernel
theorem dX14_add_194 : decode cX14_add 194 = .ok (.iconst 2, 1) := by decide +kernel
theorem dX14_add_195 : decode cX14_add 195 = .ok (.invokevirtual 42, 3) := by decide +kernel
theorem dX14_add_198 : decode cX14_add 198 = .ok (.ireturn, 1) := by decide +kernel
theorem dX14_add_199 : decode cX14_add 199 = .ok (.aload_n 3, 1) := by decide +kernel
theorem dX14_add_200 : decode cX14_add 200 = .ok (.getfield 75, 3) := by decide +kernel
theorem dX14_add_203 : decode cX14_add 203 = .ok (.iload_n 2, 1) := by decide +kernel
theorem dX14_add_204 : decode cX14_add 204 = .ok (.invokestatic 76, 3) := by decide +kernel
theorem dX14_add_207 : decode cX14_add 207 = .ok (.invokevirtual 52, 3) := by decide +kernel
theorem dX14_add_210 : decode cX14_add 210 = .ok (.pop, 1) := by decide +kernel
theorem dX14_add_211 : decode cX14_add 211 = .ok (.aload_n 0, 1) := by decide +kernel
theorem dX14_add_212 : decode cX14_add 212 = .ok (.aload_n 3, 1) := by decide +kernel
theorem dX14_add_213 : decode cX14_add 213 = .ok (.getfield 75, 3) := by decide +kernel
theorem dX14_add_216 : decode cX14_add 216 = .ok (.invokevirtual 46, 3) := by decide +kernel
theorem dX14_add_219 : decode cX14_add 219 = .ok (.invokevirtual 56, 3) := by decide +kernel
theorem dX14_add_222 : decode cX14_add 222 = .ok (.ireturn, 1) := by decide +kernel
set_option maxRecDepth 20000 in
theorem ggX14_remove_X14_isOf : GoodIn wsX14_remove wsX14_isOf := goodIn_r _ [9, 10, 11, 12, 13, 14, 15, 16, 17, 18, 19, 20, 21, 22, 8, 23, 138, 139, 140, 141, 142] (by decide +kernel) (by decide +kernel)
set_option maxRecDepth 20000 in
theorem gX14_remove_X14_isOf : GoodIn wsX14_remove (va_wsS RX14 85 yX14_isOf wsX14_isOf) := goodIn_app (goodIn_of _ (by decide +kernel)) ggX14_remove_X14_isOf
set_option maxRecDepth 20000 in
theorem ggX14_remove_X14_fails : GoodIn wsX14_remove wsX14_fails := goodIn_r _ [27, 28, 120, 121, 122, 123, 124, 125] (by decide +kernel) (by decide +kernel)
set_option maxRecDepth 20000 in
theorem gX14_remove_X14_fails : GoodIn wsX14_remove (wsV RX14 42 RX14 yX14_fails wsX14_fails) := goodIn_app (goodIn_of _ (by decide +kernel)) ggX14_remove_X14_fails
set_option maxRecDepth 20000 in
theorem ggX14_remove_Jx4a65c_get_915e3 : GoodIn wsX14_remove wsJx4a65c_get_915e3 := goodIn_r _ [32, 15, 33, 34, 35, 36, 37, 38, 39, 40, 41, 42, 43, 13, 44, 45, 138, 139, 140] (by decide +kernel) (by decide +kernel)
set_option maxRecDepth 20000 in
theorem gX14_remove_Jx4a65c_get_915e3 : GoodIn wsX14_remove (wsV RX14 89 RJx4a65c yJx4a65c_get_915e3 wsJx4a65c_get_915e3) := goodIn_app (goodIn_of _ (by decide +kernel)) ggX14_remove_Jx4a65c_get_915e3
set_option maxRecDepth 20000 in
theorem ggX14_remove_J6_valueOf_2dffe : GoodIn wsX14_remove wsJ6_valueOf_2dffe := goodIn_r _ [49, 50, 51, 52, 53, 48, 54, 55, 56, 57, 58, 59, 60, 61, 62, 63, 64, 143] (by decide +kernel) (by decide +kernel)
set_option maxRecDepth 20000 in
theorem gX14_remove_J6_valueOf_2dffe : GoodIn wsX14_remove (va_wsS RX14 76 yJ6_valueOf_2dffe wsJ6_valueOf_2dffe) := goodIn_app (goodIn_of _ (by decide +kernel)) ggX14_remove_J6_valueOf_2dffe
set_option maxRecDepth 20000 in
theorem ggX14_remove_Jx4a65c_contains_9ea2d : GoodIn wsX14_remove wsJx4a65c_contains_9ea2d := goodIn_r _ [68, 69, 70, 71, 13, 72, 15, 73, 74, 75, 76, 45, 77, 78, 79, 80, 48, 81, 82, 57, 83, 84, 85, 86, 87, 88, 89, 90, 91, 92, 93, 94, 95, 96, 97, 98, 138, 139, 140, 143, 144, 145, 146, 147] (by decide +kernel) (by decide +kernel)
set_option maxRecDepth 20000 in
theorem gX14_remove_Jx4a65c_contains_9ea2d : GoodIn wsX14_remove (wsV RX14 82 RJx4a65c yJx4a65c_contains_9ea2d wsJx4a65c_contains_9ea2d) := goodIn_app (goodIn_of _ (by decide +kernel)) ggX14_remove_Jx4a65c_contains_9ea2d
set_option maxRecDepth 20000 in
theorem ggX14_remove_Jx4a65c_indexOf_e47da : GoodIn wsX14_remove wsJx4a65c_indexOf_e47da := goodIn_r _ [72, 15, 73, 74, 75, 13, 76, 45, 77, 78, 79, 80, 48, 81, 82, 57, 83, 84, 85, 86, 87, 88, 89, 90, 91, 92, 93, 94, 95, 96, 97, 98, 138, 139, 140, 143, 144, 145, 146, 147] (by decide +kernel) (by decide +kernel)
set_option maxRecDepth 20000 in
theorem gX14_remove_Jx4a65c_indexOf_e47da : GoodIn wsX14_remove (wsV RX14 205 RJx4a65c yJx4a65c_indexOf_e47da wsJx4a65c_indexOf_e47da) := goodIn_app (goodIn_of _ (by decide +kernel)) ggX14_remove_Jx4a65c_indexOf_e47da
set_option maxRecDepth 20000 in
theorem ggX14_remove_Jx4a65c_remove_915e3 : GoodIn wsX14_remove wsJx4a65c_remove_915e3 := goodIn_r _ [103, 15, 45, 33, 34, 35, 36, 37, 38, 39, 40, 104, 105, 106, 13, 107, 108, 109, 110, 111, 112, 113, 138, 139, 140] (by decide +kernel) (by decide +kernel)
set_option maxRecDepth 20000 in
theorem gX14_remove_Jx4a65c_remove_915e3 : GoodIn wsX14_remove (wsV RX14 208 RJx4a65c yJx4a65c_remove_915e3 wsJx4a65c_remove_915e3) := goodIn_app (goodIn_of _ (by decide +kernel)) ggX14_remove_Jx4a65c_remove_915e3
set_option maxRecDepth 20000 in
theorem ggX14_remove_Jx4a65c_size_8abf5 : GoodIn wsX14_remove wsJx4a65c_size_8abf5 := goodIn_r _ [14, 15, 138, 139, 140] (by decide +kernel) (by decide +kernel)
set_option maxRecDepth 20000 in
theorem gX14_remove_Jx4a65c_size_8abf5 : GoodIn wsX14_remove (wsV RX14 46 RJx4a65c yJx4a65c_size_8abf5 wsJx4a65c_size_8abf5) := goodIn_app (goodIn_of _ (by decide +kernel)) ggX14_remove_Jx4a65c_size_8abf5
set_option maxRecDepth 20000 in
theorem ggX14_remove_X14_tells : GoodIn wsX14_remove wsX14_tells := goodIn_r _ [119, 28, 120, 121, 122, 123, 124, 125] (by decide +kernel) (by decide +kernel)
set_option maxRecDepth 20000 in
theorem gX14_remove_X14_tells : GoodIn wsX14_remove (wsV RX14 56 RX14 yX14_tells wsX14_tells) := goodIn_app (goodIn_of _ (by decide +kernel)) ggX14_remove_X14_tells
theorem dX14_remove_0 : decode cX14_remove 0 = .ok (.aload_n 0, 1) := by decide +kernel
theorem dX14_remove_1 : decode cX14_remove 1 = .ok (.getfield 25, 3) := by decide +kernel
theorem dX14_remove_4 : decode cX14_remove 4 = .ok (.iload_n 1, 1) := by decide +kernel
theorem dX14_remove_5 : decode cX14_remove 5 = .ok (.invokestatic 85, 3) := by decide +kernel
theorem dX14_remove_8 : decode cX14_remove 8 = .ok (.ifCond .eq 14, 3) := by decide +kernel
theorem dX14_remove_11 : decode cX14_remove 11 = .ok (.aload_n 0, 1) := by decide +kernel
theorem dX14_remove_12 : decode cX14_remove 12 = .ok (.getfield 10, 3) := by decide +kernel
theorem dX14_remove_15 : decode cX14_remove 15 = .ok (.iload_n 2, 1) := by decide +kernel
theorem dX14_remove_16 : decode cX14_remove 16 = .ok (.invokestatic 85, 3) := by decide +kernel
theorem dX14_remove_19 : decode cX14_remove 19 = .ok (.ifCond .ne 9, 3) := by decide +kernel
theorem dX14_remove_22 : decode cX14_remove 22 = .ok (.aload_n 0, 1) := by decide +kernel
theorem dX14_remove_23 : decode cX14_remove 23 = .ok (.iconst 1, 1) := by decide +kernel
theorem dX14_remove_24 : decode cX14_remove 24 = .ok (.invokevirtual 42, 3) := by decide +kernel
theorem dX14_remove_27 : decode cX14_remove 27 = .ok (.ireturn, 1) := by decide +kernel
theorem dX14_remove_28 : decode cX14_remove 28 = .ok (.aload_n 0, 1) := by decide +kernel
theorem dX14_remove_29 : decode cX14_remove 29 = .ok (.getfield 25, 3) := by decide +kernel
theorem dX14_remove_32 : decode cX14_remove 32 = .ok (.iload_n 1, 1) := by decide +kernel
theorem dX14_remove_33 : decode cX14_remove 33 = .ok (.invokevirtual 89, 3) := by decide +kernel
theorem dX14_remove_36 : decode cX14_remove 36 = .ok (.checkcast 73, 3) := by decide +kernel
theorem dX14_remove_39 : decode cX14_remove 39 = .ok (.astore_n 3, 1) := by decide +kernel
theorem dX14_remove_40 : decode cX14_remove 40 = .ok (.aload_n 3, 1) := by decide +kernel
theorem dX14_remove_41 : decode cX14_remove 41 = .ok (.getfield 191, 3) := by decide +kernel
theorem dX14_remove_44 : decode cX14_remove 44 = .ok (.ifCond .ne 17, 3) := by decide +kernel
theorem dX14_remove_47 : decode cX14_remove 47 = .ok (.aload_n 3, 1) := by decide +kernel
theorem dX14_remove_48 : decode cX14_remove 48 = .ok (.getfield 75, 3) := by decide +kernel
theorem dX14_remove_51 : decode cX14_remove 51 = .ok (.iload_n 2, 1) := by decide +kernel
theorem dX14_remove_52 : decode cX14_remove 52 = .ok (.invokestatic 76, 3) := by decide +kernel
theorem dX14_remove_55 : decode cX14_remove 55 = .ok (.invokevirtual 82, 3) := by decide +kernel
theorem dX14_remove_58 : decode cX14_remove 58 = .ok (.ifCond .ne 9, 3) := by decide +kernel
theorem dX14_remove_61 : decode cX14_remove 61 = .ok (.aload_n 0, 1) := by decide +kernel
theorem dX14_remove_62 : decode cX14_remove 62 = .ok (.iconst 2, 1) := by decide +kernel
theorem dX14_remove_63 : decode cX14_remove 63 = .ok (.invokevirtual 42, 3) := by decide +kernel
theorem dX14_remove_66 : decode cX14_remove 66 = .ok (.ireturn, 1) := by decide +kernel
theorem dX14_remove_67 : decode cX14_remove 67 = .ok (.aload_n 3, 1) := by decide +kernel
theorem dX14_remove_68 : decode cX14_remove 68 = .ok (.getfield 75, 3) := by decide +kernel
theorem dX14_remove_71 : decode cX14_remove 71 = .ok (.aload_n 3, 1) := by decide +kernel
theorem dX14_remove_72 : decode cX14_remove 72 = .ok (.getfield 75, 3) := by decide +kernel
theorem dX14_remove_75 : decode cX14_remove 75 = .ok (.iload_n 2, 1) := by decide +kernel
theorem dX14_remove_76 : decode cX14_remove 76 = .ok (.invokestatic 76, 3) := by decide +kernel
theorem dX14_remove_79 : decode cX14_remove 79 = .ok (.invokevirtual 205, 3) := by decide +kernel
theorem dX14_remove_82 : decode cX14_remove 82 = .ok (.invokevirtual 208, 3) := by decide +kernel
theorem dX14_remove_85 : decode cX14_remove 85 = .ok (.pop, 1) := by decide +kernel
theorem dX14_remove_86 : decode cX14_remove 86 = .ok (.aload_n 0, 1) := by decide +kernel
theorem dX14_remove_87 : decode cX14_remove 87 = .ok (.aload_n 3, 1) := by decide +kernel
theorem dX14_remove_88 : decode cX14_remove 88 = .ok (.getfield 75, 3) := by decide +kernel
theorem dX14_remove_91 : decode cX14_remove 91 = .ok (.invokevirtual 46, 3) := by decide +kernel
theorem dX14_remove_94 : decode cX14_remove 94 = .ok (.invokevirtual 56, 3) := by decide +kernel
theorem dX14_remove_97 : decode cX14_remove 97 = .ok (.ireturn, 1) := by decide +kernel
set_option maxRecDepth 20000 in
theorem ggX14_setSeries_X14_isOf : GoodIn wsX14_setSeries wsX14_isOf := goodIn_r _ [9, 10, 11, 12, 13, 14, 15, 16, 17, 18, 19, 20, 21, 22, 8, 23, 194, 195, 196, 197, 198] (by decide +kernel) (by decide +kernel)
set_option maxRecDepth 20000 in
theorem gX14_setSeries_X14_isOf : GoodIn wsX14_setSeries (va_wsS RX14 85 yX14_isOf wsX14_isOf) := goodIn_app (goodIn_of _ (by decide +kernel)) ggX14_setSeries_X14_isOf
set_option maxRecDepth 20000 in
theorem ggX14_setSeries_X14_fails : GoodIn wsX14_setSeries wsX14_fails := goodIn_r _ [27, 28, 176, 177, 178, 179, 180, 181] (by decide +kernel) (by decide +kernel)
set_option maxRecDepth 20000 in
theorem gX14_setSeries_X14_fails : GoodIn wsX14_setSeries (wsV RX14 42 RX14 yX14_fails wsX14_fails) := goodIn_app (goodIn_of _ (by decide +kernel)) ggX14_setSeries_X14_fails
set_option maxRecDepth 20000 in
theorem ggX14_setSeries_X14_in : GoodIn wsX14_setSeries wsX14_in := goodIn_r _ [23] (by decide +kernel) (by decide +kernel)
set_option maxRecDepth 20000 in
theorem gX14_setSeries_X14_in : GoodIn wsX14_setSeries (va_wsS RX14 38 yX14_in wsX14_in) := goodIn_app (goodIn_of _ (by decide +kernel)) ggX14_setSeries_X14_in
set_option maxRecDepth 20000 in
theorem ggX14_setSeries_Jx4a65c_get_915e3 : GoodIn wsX14_setSeries wsJx4a65c_get_915e3 := goodIn_r _ [32, 15, 33, 34, 35, 36, 37, 38, 39, 40, 41, 42, 43, 13, 44, 45, 194, 195, 196] (by decide +kernel) (by decide +kernel)
set_option maxRecDepth 20000 in
theorem gX14_setSeries_Jx4a65c_get_915e3 : GoodIn wsX14_setSeries (wsV RX14 89 RJx4a65c yJx4a65c_get_915e3 wsJx4a65c_get_915e3) := goodIn_app (goodIn_of _ (by decide +kernel)) ggX14_setSeries_Jx4a65c_get_915e3
set_option maxRecDepth 20000 in
theorem ggX14_setSeries_X14_forbids : GoodIn wsX14_setSeries wsX14_forbids := goodIn_r _ [49, 1, 2, 5, 50, 51, 52, 53, 54, 55, 4, 56, 57, 58, 13, 59, 60, 61, 62, 63, 64, 65, 66, 67, 68, 69, 70, 71, 72, 73, 74, 75, 76, 77, 78, 79, 80, 81, 82, 83, 84, 85, 86, 87, 88, 89, 90, 91, 92, 93, 94, 95, 96, 97, 98, 99, 30, 32, 15, 33, 34, 35, 36, 37, 38, 39, 40, 41, 42, 43, 44, 45, 100, 101, 18, 102, 103, 20, 104, 105, 106, 107, 108, 109, 110, 111, 112, 113, 114, 17, 19, 115, 116, 117, 118, 119, 120, 121, 122, 123, 124, 125, 126, 127, 128, 129, 130, 131, 132, 133, 134, 135, 136, 137, 138, 139, 140, 141, 142, 143, 144, 145, 146, 147, 148, 149, 150, 151, 152, 153, 154, 155, 156, 157, 158, 159, 160, 161, 162, 163, 164, 165, 166, 167, 168, 169, 170, 171, 176, 177, 178, 179, 180, 181, 182, 183, 184, 185, 186, 187, 188, 189, 190, 191, 192, 193, 199, 200, 201, 202, 194, 195, 196, 203, 204, 205, 206, 197, 198, 207, 208, 209, 210, 211] (by decide +kernel) (by decide +kernel)
set_option maxRecDepth 20000 in
theorem gX14_setSeries_X14_forbids : GoodIn wsX14_setSeries (wsV RX14 201 RX14 yX14_forbids wsX14_forbids) := goodIn_app (goodIn_of _ (by decide +kernel)) ggX14_setSeries_X14_forbids
set_option maxRecDepth 20000 in
theorem ggX14_setSeries_X14_tells : GoodIn wsX14_setSeries wsX14_tells := goodIn_r _ [175, 28, 176, 177, 178, 179, 180, 181] (by decide +kernel) (by decide +kernel)
set_option maxRecDepth 20000 in
theorem gX14_setSeries_X14_tells : GoodIn wsX14_setSeries (wsV RX14 56 RX14 yX14_tells wsX14_tells) := goodIn_app (goodIn_of _ (by decide +kernel)) ggX14_setSeries_X14_tells
theorem dX14_setSeries_0 : decode cX14_setSeries 0 = .ok (.aload_n 0, 1) := by decide +kernel
theorem dX14_setSeries_1 : decode cX14_setSeries 1 = .ok (.getfield 25, 3) := by decide +kernel
theorem dX14_setSeries_4 : decode cX14_setSeries 4 = .ok (.iload_n 1, 1) := by decide +kernel
theorem dX14_setSeries_5 : decode cX14_setSeries 5 = .ok (.invokestatic 85, 3) := by decide +kernel
theorem dX14_setSeries_8 : decode cX14_setSeries 8 = .ok (.ifCond .ne 9, 3) := by decide +kernel
theorem dX14_setSeries_11 : decode cX14_setSeries 11 = .ok (.aload_n 0, 1) := by decide +kernel
theorem dX14_setSeries_12 : decode cX14_setSeries 12 = .ok (.iconst 1, 1) := by decide +kernel
theorem dX14_setSeries_13 : decode cX14_setSeries 13 = .ok (.invokevirtual 42, 3) := by decide +kernel
theorem dX14_setSeries_16 : decode cX14_setSeries 16 = .ok (.ireturn, 1) := by decide +kernel
theorem dX14_setSeries_17 : decode cX14_setSeries 17 = .ok (.iload_n 2, 1) := by decide +kernel
theorem dX14_setSeries_18 : decode cX14_setSeries 18 = .ok (.iconst (-1), 1) := by decide +kernel
theorem dX14_setSeries_19 : decode cX14_setSeries 19 = .ok (.iconst 3, 1) := by decide +kernel
theorem dX14_setSeries_20 : decode cX14_setSeries 20 = .ok (.invokestatic 38, 3) := by decide +kernel
theorem dX14_setSeries_23 : decode cX14_setSeries 23 = .ok (.ifCond .ne 9, 3) := by decide +kernel
theorem dX14_setSeries_26 : decode cX14_setSeries 26 = .ok (.aload_n 0, 1) := by decide +kernel
theorem dX14_setSeries_27 : decode cX14_setSeries 27 = .ok (.iconst 2, 1) := by decide +kernel
theorem dX14_setSeries_28 : decode cX14_setSeries 28 = .ok (.invokevirtual 42, 3) := by decide +kernel
theorem dX14_setSeries_31 : decode cX14_setSeries 31 = .ok (.ireturn, 1) := by decide +kernel
theorem dX14_setSeries_32 : decode cX14_setSeries 32 = .ok (.aload_n 0, 1) := by decide +kernel
theorem dX14_setSeries_33 : decode cX14_setSeries 33 = .ok (.getfield 25, 3) := by decide +kernel
theorem dX14_setSeries_36 : decode cX14_setSeries 36 = .ok (.iload_n 1, 1) := by decide +kernel
theorem dX14_setSeries_37 : decode cX14_setSeries 37 = .ok (.invokevirtual 89, 3) := by decide +kernel
theorem dX14_setSeries_40 : decode cX14_setSeries 40 = .ok (.checkcast 73, 3) := by decide +kernel
theorem dX14_setSeries_43 : decode cX14_setSeries 43 = .ok (.astore_n 3, 1) := by decide +kernel
theorem dX14_setSeries_44 : decode cX14_setSeries 44 = .ok (.aload_n 3, 1) := by decide +kernel
theorem dX14_setSeries_45 : decode cX14_setSeries 45 = .ok (.getfield 187, 3) := by decide +kernel
theorem dX14_setSeries_48 : decode cX14_setSeries 48 = .ok (.bipush 99, 2) := by decide +kernel
theorem dX14_setSeries_50 : decode cX14_setSeries 50 = .ok (.if_icmp .ne 16, 3) := by decide +kernel
theorem dX14_setSeries_53 : decode cX14_setSeries 53 = .ok (.aload_n 0, 1) := by decide +kernel
theorem dX14_setSeries_54 : decode cX14_setSeries 54 = .ok (.aload_n 3, 1) := by decide +kernel
theorem dX14_setSeries_55 : decode cX14_setSeries 55 = .ok (.iload_n 2, 1) := by decide +kernel
theorem dX14_setSeries_56 : decode cX14_setSeries 56 = .ok (.aload_n 3, 1) := by decide +kernel
theorem dX14_setSeries_57 : decode cX14_setSeries 57 = .ok (.getfield 75, 3) := by decide +kernel
theorem dX14_setSeries_60 : decode cX14_setSeries 60 = .ok (.invokevirtual 201, 3) := by decide +kernel
theorem dX14_setSeries_63 : decode cX14_setSeries 63 = .ok (.ifCond .eq 9, 3) := by decide +kernel
theorem dX14_setSeries_66 : decode cX14_setSeries 66 = .ok (.aload_n 0, 1) := by decide +kernel
theorem dX14_setSeries_67 : decode cX14_setSeries 67 = .ok (.iconst 3, 1) := by decide +kernel
theorem dX14_setSeries_68 : decode cX14_setSeries 68 = .ok (.invokevirtual 42, 3) := by decide +kernel
theorem dX14_setSeries_71 : decode cX14_setSeries 71 = .ok (.ireturn, 1) := by decide +kernel
theorem dX14_setSeries_72 : decode cX14_setSeries 72 = .ok (.aload_n 3, 1) := by decide +kernel
theorem dX14_setSeries_73 : decode cX14_setSeries 73 = .ok (.getfield 172, 3) := by decide +kernel
theorem dX14_setSeries_76 : decode cX14_setSeries 76 = .ok (.istore 4, 2) := by decide +kernel
theorem dX14_setSeries_78 : decode cX14_setSeries 78 = .ok (.aload_n 3, 1) := by decide +kernel
theorem dX14_setSeries_79 : decode cX14_setSeries 79 = .ok (.iload_n 2, 1) := by decide +kernel
theorem dX14_setSeries_80 : decode cX14_setSeries 80 = .ok (.putfield 172, 3) := by decide +kernel
theorem dX14_setSeries_83 : decode cX14_setSeries 83 = .ok (.aload_n 0, 1) := by decide +kernel
theorem dX14_setSeries_84 : decode cX14_setSeries 84 = .ok (.iload 4, 2) := by decide +kernel
theorem dX14_setSeries_86 : decode cX14_setSeries 86 = .ok (.invokevirtual 56, 3) := by decide +kernel
theorem dX14_setSeries_89 : decode cX14_setSeries 89 = .ok (.ireturn, 1) := by decide +kernel
set_option maxRecDepth 20000 in
theorem ggX14_addGuest_X14_in : GoodIn wsX14_addGuest wsX14_in := goodIn_r _ [8] (by decide +kernel) (by decide +kernel)
set_option maxRecDepth 20000 in
theorem gX14_addGuest_X14_in : GoodIn wsX14_addGuest (va_wsS RX14 38 yX14_in wsX14_in) := goodIn_app (goodIn_of _ (by decide +kernel)) ggX14_addGuest_X14_in
set_option maxRecDepth 20000 in
theorem ggX14_addGuest_X14_fails : GoodIn wsX14_addGuest wsX14_fails := goodIn_r _ [12, 13, 105, 106, 107, 108, 109, 110] (by decide +kernel) (by decide +kernel)
set_option maxRecDepth 20000 in
theorem gX14_addGuest_X14_fails : GoodIn wsX14_addGuest (wsV RX14 42 RX14 yX14_fails wsX14_fails) := goodIn_app (goodIn_of _ (by decide +kernel)) ggX14_addGuest_X14_fails
set_option maxRecDepth 20000 in
theorem ggX14_addGuest_Jx4a65c_size_8abf5 : GoodIn wsX14_addGuest wsJx4a65c_size_8abf5 := goodIn_r _ [18, 19, 114, 115, 116] (by decide +kernel) (by decide +kernel)
set_option maxRecDepth 20000 in
theorem gX14_addGuest_Jx4a65c_size_8abf5 : GoodIn wsX14_addGuest (wsV RX14 46 RJx4a65c yJx4a65c_size_8abf5 wsJx4a65c_size_8abf5) := goodIn_app (goodIn_of _ (by decide +kernel)) ggX14_addGuest_Jx4a65c_size_8abf5
set_option maxRecDepth 20000 in
theorem ggX14_addGuest_X9_init : GoodIn wsX14_addGuest wsX9_init := goodIn_r _ [22, 23, 24, 25, 26, 27, 17, 28, 29, 30, 31, 32, 33, 34, 35, 36, 37, 38, 39, 40, 41, 42, 43, 44, 45, 114, 115, 116, 111, 112, 113] (by decide +kernel) (by decide +kernel)
set_option maxRecDepth 20000 in
theorem gX14_addGuest_X9_init : GoodIn wsX14_addGuest (wsX9_init) := ggX14_addGuest_X9_init
set_option maxRecDepth 20000 in
theorem ggX14_addGuest_Jx4a65c_add_9ea2d : GoodIn wsX14_addGuest wsJx4a65c_add_9ea2d := goodIn_r _ [49, 50, 51, 35, 19, 52, 53, 54, 17, 55, 56, 57, 58, 59, 60, 61, 62, 63, 34, 64, 65, 66, 67, 68, 69, 70, 71, 72, 73, 74, 75, 76, 77, 78, 79, 80, 81, 82, 83, 84, 85, 86, 87, 88, 89, 90, 91, 92, 93, 94, 95, 96, 97, 98, 99, 100, 114, 115, 116, 117, 118, 119, 120] (by decide +kernel) (by decide +kernel)
set_option maxRecDepth 20000 in
theorem gX14_addGuest_Jx4a65c_add_9ea2d : GoodIn wsX14_addGuest (wsV RX14 52 RJx4a65c yJx4a65c_add_9ea2d wsJx4a65c_add_9ea2d) := goodIn_app (goodIn_of _ (by decide +kernel)) ggX14_addGuest_Jx4a65c_add_9ea2d
set_option maxRecDepth 20000 in
theorem ggX14_addGuest_X14_tells : GoodIn wsX14_addGuest wsX14_tells := goodIn_r _ [104, 13, 105, 106, 107, 108, 109, 110] (by decide +kernel) (by decide +kernel)
set_option maxRecDepth 20000 in
theorem gX14_addGuest_X14_tells : GoodIn wsX14_addGuest (wsV RX14 56 RX14 yX14_tells wsX14_tells) := goodIn_app (goodIn_of _ (by decide +kernel)) ggX14_addGuest_X14_tells
theorem dX14_addGuest_0 : decode cX14_addGuest 0 = .ok (.iload_n 1, 1) := by decide +kernel
theorem dX14_addGuest_1 : decode cX14_addGuest 1 = .ok (.iconst 0, 1) := by decide +kernel
theorem dX14_addGuest_2 : decode cX14_addGuest 2 = .ok (.sipush 9999, 3) := by decide +kernel
theorem dX14_addGuest_5 : decode cX14_addGuest 5 = .ok (.invokestatic 38, 3) := by decide +kernel
theorem dX14_addGuest_8 : decode cX14_addGuest 8 = .ok (.ifCond .eq 14, 3) := by decide +kernel
theorem dX14_addGuest_11 : decode cX14_addGuest 11 = .ok (.iload_n 2, 1) := by decide +kernel
theorem dX14_addGuest_12 : decode cX14_addGuest 12 = .ok (.iconst 0, 1) := by decide +kernel
theorem dX14_addGuest_13 : decode cX14_addGuest 13 = .ok (.sipush 4095, 3) := by decide +kernel
theorem dX14_addGuest_16 : decode cX14_addGuest 16 = .ok (.invokestatic 38, 3) := by decide +kernel
theorem dX14_addGuest_19 : decode cX14_addGuest 19 = .ok (.ifCond .ne 9, 3) := by decide +kernel
theorem dX14_addGuest_22 : decode cX14_addGuest 22 = .ok (.aload_n 0, 1) := by decide +kernel
theorem dX14_addGuest_23 : decode cX14_addGuest 23 = .ok (.iconst 1, 1) := by decide +kernel
theorem dX14_addGuest_24 : decode cX14_addGuest 24 = .ok (.invokevirtual 42, 3) := by decide +kernel
theorem dX14_addGuest_27 : decode cX14_addGuest 27 = .ok (.ireturn, 1) := by decide +kernel
theorem dX14_addGuest_28 : decode cX14_addGuest 28 = .ok (.aload_n 0, 1) := by decide +kernel
theorem dX14_addGuest_29 : decode cX14_addGuest 29 = .ok (.getfield 22, 3) := by decide +kernel
theorem dX14_addGuest_32 : decode cX14_addGuest 32 = .ok (.invokevirtual 46, 3) := by decide +kernel
theorem dX14_addGuest_35 : decode cX14_addGuest 35 = .ok (.iconst 5, 1) := by decide +kernel
theorem dX14_addGuest_36 : decode cX14_addGuest 36 = .ok (.if_icmp .ne 9, 3) := by decide +kernel
theorem dX14_addGuest_39 : decode cX14_addGuest 39 = .ok (.aload_n 0, 1) := by decide +kernel
theorem dX14_addGuest_40 : decode cX14_addGuest 40 = .ok (.iconst 2, 1) := by decide +kernel
theorem dX14_addGuest_41 : decode cX14_addGuest 41 = .ok (.invokevirtual 42, 3) := by decide +kernel
theorem dX14_addGuest_44 : decode cX14_addGuest 44 = .ok (.ireturn, 1) := by decide +kernel
theorem dX14_addGuest_45 : decode cX14_addGuest 45 = .ok (.aload_n 0, 1) := by decide +kernel
theorem dX14_addGuest_46 : decode cX14_addGuest 46 = .ok (.getfield 22, 3) := by decide +kernel
theorem dX14_addGuest_49 : decode cX14_addGuest 49 = .ok (.new 211, 3) := by decide +kernel
theorem dX14_addGuest_52 : decode cX14_addGuest 52 = .ok (.dup, 1) := by decide +kernel
theorem dX14_addGuest_53 : decode cX14_addGuest 53 = .ok (.iload_n 1, 1) := by decide +kernel
theorem dX14_addGuest_54 : decode cX14_addGuest 54 = .ok (.iload_n 2, 1) := by decide +kernel
theorem dX14_addGuest_55 : decode cX14_addGuest 55 = .ok (.invokespecial 213, 3) := by decide +kernel
theorem dX14_addGuest_58 : decode cX14_addGuest 58 = .ok (.invokevirtual 52, 3) := by decide +kernel
theorem dX14_addGuest_61 : decode cX14_addGuest 61 = .ok (.pop, 1) := by decide +kernel
theorem dX14_addGuest_62 : decode cX14_addGuest 62 = .ok (.aload_n 0, 1) := by decide +kernel
theorem dX14_addGuest_63 : decode cX14_addGuest 63 = .ok (.aload_n 0, 1) := by decide +kernel
theorem dX14_addGuest_64 : decode cX14_addGuest 64 = .ok (.getfield 22, 3) := by decide +kernel
theorem dX14_addGuest_67 : decode cX14_addGuest 67 = .ok (.invokevirtual 46, 3) := by decide +kernel
theorem dX14_addGuest_70 : decode cX14_addGuest 70 = .ok (.iconst 1, 1) := by decide +kernel
theorem dX14_addGuest_71 : decode cX14_addGuest 71 = .ok (.isub, 1) := by decide +kernel
theorem dX14_addGuest_72 : decode cX14_addGuest 72 = .ok (.invokevirtual 56, 3) := by decide +kernel
theorem dX14_addGuest_75 : decode cX14_addGuest 75 = .ok (.ireturn, 1) := by decide +kernel
set_option maxRecDepth 20000 in
theorem ggX14_elsewhere_X14_isOf : GoodIn wsX14_elsewhere wsX14_isOf := goodIn_r _ [7, 8, 9, 10, 11, 12, 13, 14, 15, 16, 17, 18, 19, 20, 6, 21, 168, 169, 170, 171, 172] (by decide +kernel) (by decide +kernel)
set_option maxRecDepth 20000 in
theorem gX14_elsewhere_X14_isOf : GoodIn wsX14_elsewhere (va_wsS RX14 85 yX14_isOf wsX14_isOf) := goodIn_app (goodIn_of _ (by decide +kernel)) ggX14_elsewhere_X14_isOf
set_option maxRecDepth 20000 in
theorem ggX14_elsewhere_X14_fails : GoodIn wsX14_elsewhere wsX14_fails := goodIn_r _ [25, 26, 159, 160, 161, 162, 163, 164] (by decide +kernel) (by decide +kernel)
set_option maxRecDepth 20000 in
theorem gX14_elsewhere_X14_fails : GoodIn wsX14_elsewhere (wsV RX14 42 RX14 yX14_fails wsX14_fails) := goodIn_app (goodIn_of _ (by decide +kernel)) ggX14_elsewhere_X14_fails
set_option maxRecDepth 20000 in
theorem ggX14_elsewhere_X14_in : GoodIn wsX14_elsewhere wsX14_in := goodIn_r _ [21] (by decide +kernel) (by decide +kernel)
set_option maxRecDepth 20000 in
theorem gX14_elsewhere_X14_in : GoodIn wsX14_elsewhere (va_wsS RX14 38 yX14_in wsX14_in) := goodIn_app (goodIn_of _ (by decide +kernel)) ggX14_elsewhere_X14_in
set_option maxRecDepth 20000 in
theorem ggX14_elsewhere_Jx4a65c_get_915e3 : GoodIn wsX14_elsewhere wsJx4a65c_get_915e3 := goodIn_r _ [30, 13, 31, 32, 33, 34, 35, 36, 37, 38, 39, 40, 41, 11, 42, 43, 168, 169, 170] (by decide +kernel) (by decide +kernel)
set_option maxRecDepth 20000 in
theorem gX14_elsewhere_Jx4a65c_get_915e3 : GoodIn wsX14_elsewhere (wsV RX14 89 RJx4a65c yJx4a65c_get_915e3 wsJx4a65c_get_915e3) := goodIn_app (goodIn_of _ (by decide +kernel)) ggX14_elsewhere_Jx4a65c_get_915e3
set_option maxRecDepth 20000 in
theorem ggX14_elsewhere_J6_valueOf_2dffe : GoodIn wsX14_elsewhere wsJ6_valueOf_2dffe := goodIn_r _ [47, 48, 49, 50, 51, 46, 52, 53, 54, 55, 56, 57, 58, 59, 60, 61, 62, 173] (by decide +kernel) (by decide +kernel)
set_option maxRecDepth 20000 in
theorem gX14_elsewhere_J6_valueOf_2dffe : GoodIn wsX14_elsewhere (va_wsS RX14 76 yJ6_valueOf_2dffe wsJ6_valueOf_2dffe) := goodIn_app (goodIn_of _ (by decide +kernel)) ggX14_elsewhere_J6_valueOf_2dffe
set_option maxRecDepth 20000 in
theorem ggX14_elsewhere_Jx4a65c_contains_9ea2d : GoodIn wsX14_elsewhere wsJx4a65c_contains_9ea2d := goodIn_r _ [66, 67, 68, 69, 11, 70, 13, 71, 72, 73, 74, 43, 75, 76, 77, 78, 46, 79, 80, 55, 81, 82, 83, 84, 85, 86, 87, 88, 89, 90, 91, 92, 93, 94, 95, 96, 168, 169, 170, 173, 174, 175, 176, 177] (by decide +kernel) (by decide +kernel)
set_option maxRecDepth 20000 in
theorem gX14_elsewhere_Jx4a65c_contains_9ea2d : GoodIn wsX14_elsewhere (wsV RX14 82 RJx4a65c yJx4a65c_contains_9ea2d wsJx4a65c_contains_9ea2d) := goodIn_app (goodIn_of _ (by decide +kernel)) ggX14_elsewhere_Jx4a65c_contains_9ea2d
set_option maxRecDepth 20000 in
theorem ggX14_elsewhere_Jx4a65c_size_8abf5 : GoodIn wsX14_elsewhere wsJx4a65c_size_8abf5 := goodIn_r _ [12, 13, 168, 169, 170] (by decide +kernel) (by decide +kernel)
set_option maxRecDepth 20000 in
theorem gX14_elsewhere_Jx4a65c_size_8abf5 : GoodIn wsX14_elsewhere (wsV RX14 46 RJx4a65c yJx4a65c_size_8abf5 wsJx4a65c_size_8abf5) := goodIn_app (goodIn_of _ (by decide +kernel)) ggX14_elsewhere_Jx4a65c_size_8abf5
set_option maxRecDepth 20000 in
theorem ggX14_elsewhere_Jx4a65c_add_9ea2d : GoodIn wsX14_elsewhere wsJx4a65c_add_9ea2d := goodIn_r _ [102, 103, 104, 43, 13, 105, 106, 107, 11, 108, 109, 110, 111, 112, 113, 114, 115, 116, 117, 118, 119, 120, 121, 122, 123, 124, 125, 126, 127, 128, 129, 130, 131, 132, 133, 134, 135, 136, 137, 138, 139, 140, 141, 142, 143, 144, 145, 146, 147, 148, 149, 150, 151, 152, 153, 154, 168, 169, 170, 178, 179, 180, 181] (by decide +kernel) (by decide +kernel)
set_option maxRecDepth 20000 in
theorem gX14_elsewhere_Jx4a65c_add_9ea2d : GoodIn wsX14_elsewhere (wsV RX14 52 RJx4a65c yJx4a65c_add_9ea2d wsJx4a65c_add_9ea2d) := goodIn_app (goodIn_of _ (by decide +kernel)) ggX14_elsewhere_Jx4a65c_add_9ea2d
set_option maxRecDepth 20000 in
theorem ggX14_elsewhere_X14_tells : GoodIn wsX14_elsewhere wsX14_tells := goodIn_r _ [158, 26, 159, 160, 161, 162, 163, 164] (by decide +kernel) (by decide +kernel)
set_option maxRecDepth 20000 in
theorem gX14_elsewhere_X14_tells : GoodIn wsX14_elsewhere (wsV RX14 56 RX14 yX14_tells wsX14_tells) := goodIn_app (goodIn_of _ (by decide +kernel)) ggX14_elsewhere_X14_tells
theorem dX14_elsewhere_0 : decode cX14_elsewhere 0 = .ok (.aload_n 0, 1) := by decide +kernel
theorem dX14_elsewhere_1 : decode cX14_elsewhere 1 = .ok (.getfield 22, 3) := by decide +kernel
theorem dX14_elsewhere_4 : decode cX14_elsewhere 4 = .ok (.iload_n 1, 1) := by decide +kernel
theorem dX14_elsewhere_5 : decode cX14_elsewhere 5 = .ok (.invokestatic 85, 3) := by decide +kernel
theorem dX14_elsewhere_8 : decode cX14_elsewhere 8 = .ok (.ifCond .ne 9, 3) := by decide +kernel
theorem dX14_elsewhere_11 : decode cX14_elsewhere 11 = .ok (.aload_n 0, 1) := by decide +kernel
theorem dX14_elsewhere_12 : decode cX14_elsewhere 12 = .ok (.iconst 1, 1) := by decide +kernel
theorem dX14_elsewhere_13 : decode cX14_elsewhere 13 = .ok (.invokevirtual 42, 3) := by decide +kernel
theorem dX14_elsewhere_16 : decode cX14_elsewhere 16 = .ok (.ireturn, 1) := by decide +kernel
theorem dX14_elsewhere_17 : decode cX14_elsewhere 17 = .ok (.iload_n 2, 1) := by decide +kernel
theorem dX14_elsewhere_18 : decode cX14_elsewhere 18 = .ok (.iconst 0, 1) := by decide +kernel
theorem dX14_elsewhere_19 : decode cX14_elsewhere 19 = .ok (.sipush 399, 3) := by decide +kernel
theorem dX14_elsewhere_22 : decode cX14_elsewhere 22 = .ok (.invokestatic 38, 3) := by decide +kernel
theorem dX14_elsewhere_25 : decode cX14_elsewhere 25 = .ok (.ifCond .ne 9, 3) := by decide +kernel
theorem dX14_elsewhere_28 : decode cX14_elsewhere 28 = .ok (.aload_n 0, 1) := by decide +kernel
theorem dX14_elsewhere_29 : decode cX14_elsewhere 29 = .ok (.iconst 2, 1) := by decide +kernel
theorem dX14_elsewhere_30 : decode cX14_elsewhere 30 = .ok (.invokevirtual 42, 3) := by decide +kernel
theorem dX14_elsewhere_33 : decode cX14_elsewhere 33 = .ok (.ireturn, 1) := by decide +kernel
theorem dX14_elsewhere_34 : decode cX14_elsewhere 34 = .ok (.aload_n 0, 1) := by decide +kernel
theorem dX14_elsewhere_35 : decode cX14_elsewhere 35 = .ok (.getfield 22, 3) := by decide +kernel
theorem dX14_elsewhere_38 : decode cX14_elsewhere 38 = .ok (.iload_n 1, 1) := by decide +kernel
theorem dX14_elsewhere_39 : decode cX14_elsewhere 39 = .ok (.invokevirtual 89, 3) := by decide +kernel
theorem dX14_elsewhere_42 : decode cX14_elsewhere 42 = .ok (.checkcast 211, 3) := by decide +kernel
theorem dX14_elsewhere_45 : decode cX14_elsewhere 45 = .ok (.astore_n 3, 1) := by decide +kernel
theorem dX14_elsewhere_46 : decode cX14_elsewhere 46 = .ok (.aload_n 3, 1) := by decide +kernel
theorem dX14_elsewhere_47 : decode cX14_elsewhere 47 = .ok (.getfield 214, 3) := by decide +kernel
theorem dX14_elsewhere_50 : decode cX14_elsewhere 50 = .ok (.iload_n 2, 1) := by decide +kernel
theorem dX14_elsewhere_51 : decode cX14_elsewhere 51 = .ok (.invokestatic 76, 3) := by decide +kernel
theorem dX14_elsewhere_54 : decode cX14_elsewhere 54 = .ok (.invokevirtual 82, 3) := by decide +kernel
theorem dX14_elsewhere_57 : decode cX14_elsewhere 57 = .ok (.ifCond .ne 33, 3) := by decide +kernel
theorem dX14_elsewhere_60 : decode cX14_elsewhere 60 = .ok (.aload_n 3, 1) := by decide +kernel
theorem dX14_elsewhere_61 : decode cX14_elsewhere 61 = .ok (.getfield 214, 3) := by decide +kernel
theorem dX14_elsewhere_64 : decode cX14_elsewhere 64 = .ok (.invokevirtual 46, 3) := by decide +kernel
theorem dX14_elsewhere_67 : decode cX14_elsewhere 67 = .ok (.bipush 20, 2) := by decide +kernel
theorem dX14_elsewhere_69 : decode cX14_elsewhere 69 = .ok (.if_icmp .ne 9, 3) := by decide +kernel
theorem dX14_elsewhere_72 : decode cX14_elsewhere 72 = .ok (.aload_n 0, 1) := by decide +kernel
theorem dX14_elsewhere_73 : decode cX14_elsewhere 73 = .ok (.iconst 3, 1) := by decide +kernel
theorem dX14_elsewhere_74 : decode cX14_elsewhere 74 = .ok (.invokevirtual 42, 3) := by decide +kernel
theorem dX14_elsewhere_77 : decode cX14_elsewhere 77 = .ok (.ireturn, 1) := by decide +kernel
theorem dX14_elsewhere_78 : decode cX14_elsewhere 78 = .ok (.aload_n 3, 1) := by decide +kernel
theorem dX14_elsewhere_79 : decode cX14_elsewhere 79 = .ok (.getfield 214, 3) := by decide +kernel
theorem dX14_elsewhere_82 : decode cX14_elsewhere 82 = .ok (.iload_n 2, 1) := by decide +kernel
theorem dX14_elsewhere_83 : decode cX14_elsewhere 83 = .ok (.invokestatic 76, 3) := by decide +kernel
theorem dX14_elsewhere_86 : decode cX14_elsewhere 86 = .ok (.invokevirtual 52, 3) := by decide +kernel
theorem dX14_elsewhere_89 : decode cX14_elsewhere 89 = .ok (.pop, 1) := by decide +kernel
theorem dX14_elsewhere_90 : decode cX14_elsewhere 90 = .ok (.aload_n 0, 1) := by decide +kernel
theorem dX14_elsewhere_91 : decode cX14_elsewhere 91 = .ok (.aload_n 3, 1) := by decide +kernel
theorem dX14_elsewhere_92 : decode cX14_elsewhere 92 = .ok (.getfield 214, 3) := by decide +kernel
theorem dX14_elsewhere_95 : decode cX14_elsewhere 95 = .ok (.invokevirtual 46, 3) := by decide +kernel
theorem dX14_elsewhere_98 : decode cX14_elsewhere 98 = .ok (.invokevirtual 56, 3) := by decide +kernel
theorem dX14_elsewhere_101 : decode cX14_elsewhere 101 = .ok (.ireturn, 1) := by decide +kernel
set_option maxRecDepth 20000 in
theorem ggX14_known_Jx4a65c_iterator_32c93 : GoodIn wsX14_known wsJx4a65c_iterator_32c93 := goodIn_r _ [11, 12, 13, 14, 15, 16, 17, 18, 19, 20, 21, 22, 23, 24, 25, 108, 109, 110, 111, 112, 113, 114] (by decide +kernel) (by decide +kernel)
set_option maxRecDepth 20000 in
theorem gX14_known_Jx4a65c_iterator_32c93 : GoodIn wsX14_known (wsV RX14 59 RJx4a65c yJx4a65c_iterator_32c93 wsJx4a65c_iterator_32c93) := goodIn_app (goodIn_of _ (by decide +kernel)) ggX14_known_Jx4a65c_iterator_32c93
set_option maxRecDepth 20000 in
theorem ggX14_known_Jx35411_hasNext_aae02 : GoodIn wsX14_known wsJx35411_hasNext_aae02 := goodIn_r _ [29, 30, 18, 108, 109, 110, 111, 112, 113, 114] (by decide +kernel) (by decide +kernel)
set_option maxRecDepth 20000 in
theorem gX14_known_Jx35411_hasNext_aae02_f63Jx35411 : GoodIn wsX14_known (va_wsF RX14 63 RJx35411 ⟨"java/util/Iterator", "hasNext", "()Z"⟩ yJx35411_hasNext_aae02 wsJx35411_hasNext_aae02) := goodIn_app (goodIn_of _ (by decide +kernel)) ggX14_known_Jx35411_hasNext_aae02
set_option maxRecDepth 20000 in
theorem ggX14_known_Jx95556_hasNext_aae02 : GoodIn wsX14_known wsJx95556_hasNext_aae02 := goodIn_r _ [34, 35, 36, 115, 116, 117, 118] (by decide +kernel) (by decide +kernel)
set_option maxRecDepth 20000 in
theorem gX14_known_Jx95556_hasNext_aae02_f63Jx95556 : GoodIn wsX14_known (va_wsF RX14 63 RJx95556 ⟨"java/util/Iterator", "hasNext", "()Z"⟩ yJx95556_hasNext_aae02 wsJx95556_hasNext_aae02) := goodIn_app (goodIn_of _ (by decide +kernel)) ggX14_known_Jx95556_hasNext_aae02
set_option maxRecDepth 20000 in
theorem ggX14_known_Jx35411_next_0502b : GoodIn wsX14_known wsJx35411_next_0502b := goodIn_r _ [40, 30, 18, 41, 22, 42, 43, 44, 14, 45, 23, 24, 25, 108, 109, 110, 111, 112, 113, 114] (by decide +kernel) (by decide +kernel)
set_option maxRecDepth 20000 in
theorem gX14_known_Jx35411_next_0502b_f69Jx35411 : GoodIn wsX14_known (va_wsF RX14 69 RJx35411 ⟨"java/util/Iterator", "next", "()Ljava/lang/Object;"⟩ yJx35411_next_0502b wsJx35411_next_0502b) := goodIn_app (goodIn_of _ (by decide +kernel)) ggX14_known_Jx35411_next_0502b
set_option maxRecDepth 20000 in
theorem ggX14_known_Jx95556_next_0502b : GoodIn wsX14_known wsJx95556_next_0502b := goodIn_r _ [48, 35, 49, 50, 51, 52, 10, 53, 54, 55, 56, 57, 58, 59, 60, 61, 62, 63, 64, 65, 66, 67, 68, 69, 70, 71, 72, 73, 115, 116, 117, 118, 112, 113, 114, 119, 120] (by decide +kernel) (by decide +kernel)
set_option maxRecDepth 20000 in
theorem gX14_known_Jx95556_next_0502b_f69Jx95556 : GoodIn wsX14_known (va_wsF RX14 69 RJx95556 ⟨"java/util/Iterator", "next", "()Ljava/lang/Object;"⟩ yJx95556_next_0502b wsJx95556_next_0502b) := goodIn_app (goodIn_of _ (by decide +kernel)) ggX14_known_Jx95556_next_0502b
set_option maxRecDepth 20000 in
theorem ggX14_known_J6_intValue_8abf5 : GoodIn wsX14_known wsJ6_intValue_8abf5 := goodIn_r _ [78, 79, 121] (by decide +kernel) (by decide +kernel)
set_option maxRecDepth 20000 in
theorem gX14_known_J6_intValue_8abf5 : GoodIn wsX14_known (wsV RX14 181 RJ6 yJ6_intValue_8abf5 wsJ6_intValue_8abf5) := goodIn_app (goodIn_of _ (by decide +kernel)) ggX14_known_J6_intValue_8abf5
set_option maxRecDepth 20000 in
theorem ggX14_known_Jx4a65c_get_915e3 : GoodIn wsX14_known wsJx4a65c_get_915e3 := goodIn_r _ [53, 54, 55, 56, 57, 58, 59, 60, 61, 62, 63, 64, 65, 10, 66, 67, 112, 113, 114] (by decide +kernel) (by decide +kernel)
set_option maxRecDepth 20000 in
theorem gX14_known_Jx4a65c_get_915e3 : GoodIn wsX14_known (wsV RX14 89 RJx4a65c yJx4a65c_get_915e3 wsJx4a65c_get_915e3) := goodIn_app (goodIn_of _ (by decide +kernel)) ggX14_known_Jx4a65c_get_915e3
theorem dX14_known_0 : decode cX14_known 0 = .ok (.iconst 0, 1) := by decide +kernel
theorem dX14_known_1 : decode cX14_known 1 = .ok (.istore_n 3, 1) := by decide +kernel
theorem dX14_known_2 : decode cX14_known 2 = .ok (.aload_n 1, 1) := by decide +kernel
theorem dX14_known_3 : decode cX14_known 3 = .ok (.getfield 75, 3) := by decide +kernel
theorem dX14_known_6 : decode cX14_known 6 = .ok (.invokevirtual 59, 3) := by decide +kernel
theorem dX14_known_9 : decode cX14_known 9 = .ok (.astore 4, 2) := by decide +kernel
theorem dX14_known_11 : decode cX14_known 11 = .ok (.aload 4, 2) := by decide +kernel
theorem dX14_known_13 : decode cX14_known 13 = .ok (.invokeinterface 63 1, 5) := by decide +kernel
theorem dX14_known_18 : decode cX14_known 18 = .ok (.ifCond .eq 55, 3) := by decide +kernel
theorem dX14_known_21 : decode cX14_known 21 = .ok (.aload 4, 2) := by decide +kernel
theorem dX14_known_23 : decode cX14_known 23 = .ok (.invokeinterface 69 1, 5) := by decide +kernel
theorem dX14_known_28 : decode cX14_known 28 = .ok (.checkcast 77, 3) := by decide +kernel
theorem dX14_known_31 : decode cX14_known 31 = .ok (.invokevirtual 181, 3) := by decide +kernel
theorem dX14_known_34 : decode cX14_known 34 = .ok (.istore 5, 2) := by decide +kernel
theorem dX14_known_36 : decode cX14_known 36 = .ok (.iload_n 3, 1) := by decide +kernel
theorem dX14_known_37 : decode cX14_known 37 = .ok (.aload_n 0, 1) := by decide +kernel
theorem dX14_known_38 : decode cX14_known 38 = .ok (.getfield 10, 3) := by decide +kernel
theorem dX14_known_41 : decode cX14_known 41 = .ok (.iload 5, 2) := by decide +kernel
theorem dX14_known_43 : decode cX14_known 43 = .ok (.invokevirtual 89, 3) := by decide +kernel
theorem dX14_known_46 : decode cX14_known 46 = .ok (.checkcast 47, 3) := by decide +kernel
theorem dX14_known_49 : decode cX14_known 49 = .ok (.getfield 108, 3) := by decide +kernel
theorem dX14_known_52 : decode cX14_known 52 = .ok (.ifCond .eq 15, 3) := by decide +kernel
theorem dX14_known_55 : decode cX14_known 55 = .ok (.aload_n 2, 1) := by decide +kernel
theorem dX14_known_56 : decode cX14_known 56 = .ok (.getfield 217, 3) := by decide +kernel
theorem dX14_known_59 : decode cX14_known 59 = .ok (.iconst 1, 1) := by decide +kernel
theorem dX14_known_60 : decode cX14_known 60 = .ok (.iload 5, 2) := by decide +kernel
theorem dX14_known_62 : decode cX14_known 62 = .ok (.ishl, 1) := by decide +kernel
theorem dX14_known_63 : decode cX14_known 63 = .ok (.iand, 1) := by decide +kernel
theorem dX14_known_64 : decode cX14_known 64 = .ok (.goto 4, 3) := by decide +kernel
theorem dX14_known_67 : decode cX14_known 67 = .ok (.iconst 0, 1) := by decide +kernel
theorem dX14_known_68 : decode cX14_known 68 = .ok (.ior, 1) := by decide +kernel
theorem dX14_known_69 : decode cX14_known 69 = .ok (.istore_n 3, 1) := by decide +kernel
theorem dX14_known_70 : decode cX14_known 70 = .ok (.goto (-59), 3) := by decide +kernel
theorem dX14_known_73 : decode cX14_known 73 = .ok (.iload_n 3, 1) := by decide +kernel
theorem dX14_known_74 : decode cX14_known 74 = .ok (.ireturn, 1) := by decide +kernel
set_option maxRecDepth 20000 in
theorem ggX14_canEngage_Jx4a65c_get_915e3 : GoodIn wsX14_canEngage wsJx4a65c_get_915e3 := goodIn_r _ [11, 12, 13, 14, 15, 16, 17, 18, 19, 20, 21, 22, 23, 10, 24, 25, 126, 127, 128] (by decide +kernel) (by decide +kernel)
set_option maxRecDepth 20000 in
theorem gX14_canEngage_Jx4a65c_get_915e3 : GoodIn wsX14_canEngage (wsV RX14 89 RJx4a65c yJx4a65c_get_915e3 wsJx4a65c_get_915e3) := goodIn_app (goodIn_of _ (by decide +kernel)) ggX14_canEngage_Jx4a65c_get_915e3
set_option maxRecDepth 20000 in
theorem ggX14_canEngage_X14_known : GoodIn wsX14_canEngage wsX14_known := goodIn_r _ [30, 31, 32, 33, 34, 35, 36, 37, 38, 39, 10, 40, 41, 42, 43, 44, 45, 46, 47, 48, 49, 50, 51, 52, 53, 54, 55, 56, 57, 58, 59, 60, 61, 62, 63, 64, 65, 66, 67, 68, 69, 70, 71, 72, 73, 74, 75, 76, 77, 78, 79, 80, 8, 11, 12, 13, 14, 15, 16, 17, 18, 19, 20, 21, 22, 23, 24, 25, 81, 82, 83, 84, 85, 86, 87, 88, 89, 90, 91, 92, 7, 9, 114, 115, 116, 117, 118, 119, 120, 121, 122, 123, 124, 125, 108, 109, 110, 111, 112, 113, 129, 130, 131, 132, 133, 134, 135, 136, 137, 138, 139, 140, 126, 127, 128, 141, 142, 143, 144, 145, 146, 147] (by decide +kernel) (by decide +kernel)
set_option maxRecDepth 20000 in
theorem gX14_canEngage_X14_known : GoodIn wsX14_canEngage (wsV RX14 220 RX14 yX14_known wsX14_known) := goodIn_app (goodIn_of _ (by decide +kernel)) ggX14_canEngage_X14_known
set_option maxRecDepth 20000 in
theorem ggX14_canEngage_X9_isNear : GoodIn wsX14_canEngage wsX9_isNear := goodIn_r _ [97, 98, 99, 100, 101, 102, 103, 104, 38, 39, 10, 40, 41, 42, 43, 44, 45, 46, 47, 48, 49, 50, 51, 52, 53, 54, 105, 56, 57, 58, 59, 60, 61, 62, 63, 64, 65, 106, 67, 68, 69, 70, 71, 72, 73, 74, 75, 76, 77, 78, 79, 80, 8, 11, 12, 13, 14, 15, 16, 17, 18, 19, 20, 21, 22, 23, 24, 25, 81, 82, 83, 84, 85, 86, 107, 88, 89, 90, 91, 92, 134, 135, 136, 137, 138, 139, 140, 126, 127, 128, 141, 142, 143, 144, 145, 146, 147] (by decide +kernel) (by decide +kernel)
set_option maxRecDepth 20000 in
theorem gX14_canEngage_X9_isNear : GoodIn wsX14_canEngage (wsV RX14 224 RX9 yX9_isNear wsX9_isNear) := goodIn_app (goodIn_of _ (by decide +kernel)) ggX14_canEngage_X9_isNear
set_option maxRecDepth 20000 in
theorem ggX14_canEngage_Jx4a65c_iterator_32c93 : GoodIn wsX14_canEngage wsJx4a65c_iterator_32c93 := goodIn_r _ [40, 41, 42, 43, 44, 45, 46, 47, 48, 49, 50, 51, 52, 53, 54, 137, 138, 139, 140, 126, 127, 128] (by decide +kernel) (by decide +kernel)
set_option maxRecDepth 20000 in
theorem gX14_canEngage_Jx4a65c_iterator_32c93 : GoodIn wsX14_canEngage (wsV RX14 59 RJx4a65c yJx4a65c_iterator_32c93 wsJx4a65c_iterator_32c93) := goodIn_app (goodIn_of _ (by decide +kernel)) ggX14_canEngage_Jx4a65c_iterator_32c93
set_option maxRecDepth 20000 in
theorem ggX14_canEngage_Jx35411_hasNext_aae02 : GoodIn wsX14_canEngage wsJx35411_hasNext_aae02 := goodIn_r _ [58, 59, 47, 137, 138, 139, 140, 126, 127, 128] (by decide +kernel) (by decide +kernel)
set_option maxRecDepth 20000 in
theorem gX14_canEngage_Jx35411_hasNext_aae02_f63Jx35411 : GoodIn wsX14_canEngage (va_wsF RX14 63 RJx35411 ⟨"java/util/Iterator", "hasNext", "()Z"⟩ yJx35411_hasNext_aae02 wsJx35411_hasNext_aae02) := goodIn_app (goodIn_of _ (by decide +kernel)) ggX14_canEngage_Jx35411_hasNext_aae02
set_option maxRecDepth 20000 in
theorem ggX14_canEngage_Jx95556_hasNext_aae02 : GoodIn wsX14_canEngage wsJx95556_hasNext_aae02 := goodIn_r _ [63, 64, 65, 141, 142, 143, 144] (by decide +kernel) (by decide +kernel)
set_option maxRecDepth 20000 in
theorem gX14_canEngage_Jx95556_hasNext_aae02_f63Jx95556 : GoodIn wsX14_canEngage (va_wsF RX14 63 RJx95556 ⟨"java/util/Iterator", "hasNext", "()Z"⟩ yJx95556_hasNext_aae02 wsJx95556_hasNext_aae02) := goodIn_app (goodIn_of _ (by decide +kernel)) ggX14_canEngage_Jx95556_hasNext_aae02
set_option maxRecDepth 20000 in
theorem ggX14_canEngage_Jx35411_next_0502b : GoodIn wsX14_canEngage wsJx35411_next_0502b := goodIn_r _ [69, 59, 47, 70, 51, 71, 72, 73, 43, 74, 52, 53, 54, 137, 138, 139, 140, 126, 127, 128] (by decide +kernel) (by decide +kernel)
set_option maxRecDepth 20000 in
theorem gX14_canEngage_Jx35411_next_0502b_f69Jx35411 : GoodIn wsX14_canEngage (va_wsF RX14 69 RJx35411 ⟨"java/util/Iterator", "next", "()Ljava/lang/Object;"⟩ yJx35411_next_0502b wsJx35411_next_0502b) := goodIn_app (goodIn_of _ (by decide +kernel)) ggX14_canEngage_Jx35411_next_0502b
set_option maxRecDepth 20000 in
theorem ggX14_canEngage_Jx95556_next_0502b : GoodIn wsX14_canEngage wsJx95556_next_0502b := goodIn_r _ [77, 64, 78, 79, 80, 8, 10, 11, 12, 13, 14, 15, 16, 17, 18, 19, 20, 21, 22, 23, 24, 25, 81, 82, 83, 84, 85, 86, 141, 142, 143, 144, 126, 127, 128, 145, 146] (by decide +kernel) (by decide +kernel)
set_option maxRecDepth 20000 in
theorem gX14_canEngage_Jx95556_next_0502b_f69Jx95556 : GoodIn wsX14_canEngage (va_wsF RX14 69 RJx95556 ⟨"java/util/Iterator", "next", "()Ljava/lang/Object;"⟩ yJx95556_next_0502b wsJx95556_next_0502b) := goodIn_app (goodIn_of _ (by decide +kernel)) ggX14_canEngage_Jx95556_next_0502b
theorem dX14_canEngage_0 : decode cX14_canEngage 0 = .ok (.aload_n 0, 1) := by decide +kernel
theorem dX14_canEngage_1 : decode cX14_canEngage 1 = .ok (.getfield 22, 3) := by decide +kernel
theorem dX14_canEngage_4 : decode cX14_canEngage 4 = .ok (.iload_n 2, 1) := by decide +kernel
theorem dX14_canEngage_5 : decode cX14_canEngage 5 = .ok (.invokevirtual 89, 3) := by decide +kernel
theorem dX14_canEngage_8 : decode cX14_canEngage 8 = .ok (.checkcast 211, 3) := by decide +kernel
theorem dX14_canEngage_11 : decode cX14_canEngage 11 = .ok (.astore_n 3, 1) := by decide +kernel
theorem dX14_canEngage_12 : decode cX14_canEngage 12 = .ok (.aload_n 0, 1) := by decide +kernel
theorem dX14_canEngage_13 : decode cX14_canEngage 13 = .ok (.aload_n 1, 1) := by decide +kernel
theorem dX14_canEngage_14 : decode cX14_canEngage 14 = .ok (.aload_n 3, 1) := by decide +kernel
theorem dX14_canEngage_15 : decode cX14_canEngage 15 = .ok (.invokevirtual 220, 3) := by decide +kernel
theorem dX14_canEngage_18 : decode cX14_canEngage 18 = .ok (.ifCond .eq 18, 3) := by decide +kernel
theorem dX14_canEngage_21 : decode cX14_canEngage 21 = .ok (.aload_n 3, 1) := by decide +kernel
theorem dX14_canEngage_22 : decode cX14_canEngage 22 = .ok (.aload_n 1, 1) := by decide +kernel
theorem dX14_canEngage_23 : decode cX14_canEngage 23 = .ok (.getfield 129, 3) := by decide +kernel
theorem dX14_canEngage_26 : decode cX14_canEngage 26 = .ok (.invokevirtual 224, 3) := by decide +kernel
theorem dX14_canEngage_29 : decode cX14_canEngage 29 = .ok (.ifCond .ne 7, 3) := by decide +kernel
theorem dX14_canEngage_32 : decode cX14_canEngage 32 = .ok (.iconst 1, 1) := by decide +kernel
theorem dX14_canEngage_33 : decode cX14_canEngage 33 = .ok (.goto 4, 3) := by decide +kernel
theorem dX14_canEngage_36 : decode cX14_canEngage 36 = .ok (.iconst 0, 1) := by decide +kernel
theorem dX14_canEngage_37 : decode cX14_canEngage 37 = .ok (.istore 4, 2) := by decide +kernel
theorem dX14_canEngage_39 : decode cX14_canEngage 39 = .ok (.aload_n 0, 1) := by decide +kernel
theorem dX14_canEngage_40 : decode cX14_canEngage 40 = .ok (.getfield 25, 3) := by decide +kernel
theorem dX14_canEngage_43 : decode cX14_canEngage 43 = .ok (.invokevirtual 59, 3) := by decide +kernel
theorem dX14_canEngage_46 : decode cX14_canEngage 46 = .ok (.astore 5, 2) := by decide +kernel
theorem dX14_canEngage_48 : decode cX14_canEngage 48 = .ok (.aload 5, 2) := by decide +kernel
theorem dX14_canEngage_50 : decode cX14_canEngage 50 = .ok (.invokeinterface 63 1, 5) := by decide +kernel
theorem dX14_canEngage_55 : decode cX14_canEngage 55 = .ok (.ifCond .eq 57, 3) := by decide +kernel
theorem dX14_canEngage_58 : decode cX14_canEngage 58 = .ok (.aload 5, 2) := by decide +kernel
theorem dX14_canEngage_60 : decode cX14_canEngage 60 = .ok (.invokeinterface 69 1, 5) := by decide +kernel
theorem dX14_canEngage_65 : decode cX14_canEngage 65 = .ok (.checkcast 73, 3) := by decide +kernel
theorem dX14_canEngage_68 : decode cX14_canEngage 68 = .ok (.astore 6, 2) := by decide +kernel
theorem dX14_canEngage_70 : decode cX14_canEngage 70 = .ok (.iload 4, 2) := by decide +kernel
theorem dX14_canEngage_72 : decode cX14_canEngage 72 = .ok (.ifCond .eq 34, 3) := by decide +kernel
theorem dX14_canEngage_75 : decode cX14_canEngage 75 = .ok (.aload 6, 2) := by decide +kernel
theorem dX14_canEngage_77 : decode cX14_canEngage 77 = .ok (.aload_n 1, 1) := by decide +kernel
theorem dX14_canEngage_78 : decode cX14_canEngage 78 = .ok (.if_acmp .eq 24, 3) := by decide +kernel
theorem dX14_canEngage_81 : decode cX14_canEngage 81 = .ok (.aload 6, 2) := by decide +kernel
theorem dX14_canEngage_83 : decode cX14_canEngage 83 = .ok (.getfield 129, 3) := by decide +kernel
theorem dX14_canEngage_86 : decode cX14_canEngage 86 = .ok (.aload_n 1, 1) := by decide +kernel
theorem dX14_canEngage_87 : decode cX14_canEngage 87 = .ok (.getfield 129, 3) := by decide +kernel
theorem dX14_canEngage_90 : decode cX14_canEngage 90 = .ok (.if_icmp .ne 12, 3) := by decide +kernel
theorem dX14_canEngage_93 : decode cX14_canEngage 93 = .ok (.aload 6, 2) := by decide +kernel
theorem dX14_canEngage_95 : decode cX14_canEngage 95 = .ok (.getfield 227, 3) := by decide +kernel
theorem dX14_canEngage_98 : decode cX14_canEngage 98 = .ok (.iload_n 2, 1) := by decide +kernel
theorem dX14_canEngage_99 : decode cX14_canEngage 99 = .ok (.if_icmp .eq 7, 3) := by decide +kernel
theorem dX14_canEngage_102 : decode cX14_canEngage 102 = .ok (.iconst 1, 1) := by decide +kernel
theorem dX14_canEngage_103 : decode cX14_canEngage 103 = .ok (.goto 4, 3) := by decide +kernel
theorem dX14_canEngage_106 : decode cX14_canEngage 106 = .ok (.iconst 0, 1) := by decide +kernel
theorem dX14_canEngage_107 : decode cX14_canEngage 107 = .ok (.istore 4, 2) := by decide +kernel
theorem dX14_canEngage_109 : decode cX14_canEngage 109 = .ok (.goto (-61), 3) := by decide +kernel
theorem dX14_canEngage_112 : decode cX14_canEngage 112 = .ok (.iload 4, 2) := by decide +kernel
theorem dX14_canEngage_114 : decode cX14_canEngage 114 = .ok (.ireturn, 1) := by decide +kernel
set_option maxRecDepth 20000 in
theorem ggX14_engage_X14_isOf : GoodIn wsX14_engage wsX14_isOf := goodIn_r _ [9, 10, 11, 12, 13, 14, 15, 16, 17, 18, 19, 20, 21, 22, 8, 23, 153, 154, 155, 156, 157] (by decide +kernel) (by decide +kernel)
set_option maxRecDepth 20000 in
theorem gX14_engage_X14_isOf : GoodIn wsX14_engage (va_wsS RX14 85 yX14_isOf wsX14_isOf) := goodIn_app (goodIn_of _ (by decide +kernel)) ggX14_engage_X14_isOf
set_option maxRecDepth 20000 in
theorem ggX14_engage_X14_fails : GoodIn wsX14_engage wsX14_fails := goodIn_r _ [27, 28, 135, 136, 137, 138, 139, 140] (by decide +kernel) (by decide +kernel)
set_option maxRecDepth 20000 in
theorem gX14_engage_X14_fails : GoodIn wsX14_engage (wsV RX14 42 RX14 yX14_fails wsX14_fails) := goodIn_app (goodIn_of _ (by decide +kernel)) ggX14_engage_X14_fails
