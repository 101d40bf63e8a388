set_option maxRecDepth 20000 in
theorem ggX14_engage_Jx4a65c_get_915e3 : GoodIn wsX14_engage wsJx4a65c_get_915e3 := goodIn_r _ [32, 15, 33, 34, 35, 36, 37, 38, 39, 40, 41, 42, 43, 13, 44, 45, 153, 154, 155] (by decide +kernel) (by decide +kernel)
set_option maxRecDepth 20000 in
theorem gX14_engage_Jx4a65c_get_915e3 : GoodIn wsX14_engage (wsV RX14 89 RJx4a65c yJx4a65c_get_915e3 wsJx4a65c_get_915e3) := goodIn_app (goodIn_of _ (by decide +kernel)) ggX14_engage_Jx4a65c_get_915e3
set_option maxRecDepth 20000 in
theorem ggX14_engage_X14_canEngage : GoodIn wsX14_engage wsX14_canEngage := goodIn_r _ [49, 2, 50, 51, 1, 3, 5, 29, 30, 31, 13, 32, 15, 33, 34, 35, 36, 37, 38, 39, 40, 41, 42, 43, 44, 45, 52, 53, 54, 8, 55, 56, 57, 58, 59, 60, 61, 62, 63, 64, 65, 66, 67, 68, 69, 70, 71, 72, 73, 74, 75, 76, 77, 78, 79, 80, 81, 82, 83, 84, 85, 86, 87, 88, 89, 90, 91, 92, 93, 94, 95, 96, 97, 98, 99, 100, 101, 102, 103, 104, 105, 106, 107, 18, 108, 109, 20, 110, 111, 112, 113, 114, 115, 116, 117, 118, 119, 120, 121, 122, 123, 124, 125, 126, 127, 128, 129, 130, 135, 136, 137, 138, 139, 140, 141, 142, 143, 144, 145, 146, 147, 148, 149, 150, 151, 152, 153, 154, 155, 158, 159, 160, 161, 162, 163, 164, 165, 166, 167, 168, 169, 170, 171, 172, 173, 156, 157, 174] (by decide +kernel) (by decide +kernel)
set_option maxRecDepth 20000 in
theorem gX14_engage_X14_canEngage : GoodIn wsX14_engage (wsV RX14 230 RX14 yX14_canEngage wsX14_canEngage) := goodIn_app (goodIn_of _ (by decide +kernel)) ggX14_engage_X14_canEngage
set_option maxRecDepth 20000 in
theorem ggX14_engage_X14_tells : GoodIn wsX14_engage wsX14_tells := goodIn_r _ [134, 28, 135, 136, 137, 138, 139, 140] (by decide +kernel) (by decide +kernel)
set_option maxRecDepth 20000 in
theorem gX14_engage_X14_tells : GoodIn wsX14_engage (wsV RX14 56 RX14 yX14_tells wsX14_tells) := goodIn_app (goodIn_of _ (by decide +kernel)) ggX14_engage_X14_tells
theorem dX14_engage_0 : decode cX14_engage 0 = .ok (.aload_n 0, 1) := by decide +kernel
theorem dX14_engage_1 : decode cX14_engage 1 = .ok (.getfield 25, 3) := by decide +kernel
theorem dX14_engage_4 : decode cX14_engage 4 = .ok (.iload_n 1, 1) := by decide +kernel
theorem dX14_engage_5 : decode cX14_engage 5 = .ok (.invokestatic 85, 3) := by decide +kernel
theorem dX14_engage_8 : decode cX14_engage 8 = .ok (.ifCond .eq 14, 3) := by decide +kernel
theorem dX14_engage_11 : decode cX14_engage 11 = .ok (.aload_n 0, 1) := by decide +kernel
theorem dX14_engage_12 : decode cX14_engage 12 = .ok (.getfield 22, 3) := by decide +kernel
theorem dX14_engage_15 : decode cX14_engage 15 = .ok (.iload_n 2, 1) := by decide +kernel
theorem dX14_engage_16 : decode cX14_engage 16 = .ok (.invokestatic 85, 3) := by decide +kernel
theorem dX14_engage_19 : decode cX14_engage 19 = .ok (.ifCond .ne 9, 3) := by decide +kernel
theorem dX14_engage_22 : decode cX14_engage 22 = .ok (.aload_n 0, 1) := by decide +kernel
theorem dX14_engage_23 : decode cX14_engage 23 = .ok (.iconst 1, 1) := by decide +kernel
theorem dX14_engage_24 : decode cX14_engage 24 = .ok (.invokevirtual 42, 3) := by decide +kernel
theorem dX14_engage_27 : decode cX14_engage 27 = .ok (.ireturn, 1) := by decide +kernel
theorem dX14_engage_28 : decode cX14_engage 28 = .ok (.aload_n 0, 1) := by decide +kernel
theorem dX14_engage_29 : decode cX14_engage 29 = .ok (.getfield 25, 3) := by decide +kernel
theorem dX14_engage_32 : decode cX14_engage 32 = .ok (.iload_n 1, 1) := by decide +kernel
theorem dX14_engage_33 : decode cX14_engage 33 = .ok (.invokevirtual 89, 3) := by decide +kernel
theorem dX14_engage_36 : decode cX14_engage 36 = .ok (.checkcast 73, 3) := by decide +kernel
theorem dX14_engage_39 : decode cX14_engage 39 = .ok (.astore_n 3, 1) := by decide +kernel
theorem dX14_engage_40 : decode cX14_engage 40 = .ok (.aload_n 3, 1) := by decide +kernel
theorem dX14_engage_41 : decode cX14_engage 41 = .ok (.getfield 191, 3) := by decide +kernel
theorem dX14_engage_44 : decode cX14_engage 44 = .ok (.ifCond .ne 12, 3) := by decide +kernel
theorem dX14_engage_47 : decode cX14_engage 47 = .ok (.aload_n 0, 1) := by decide +kernel
theorem dX14_engage_48 : decode cX14_engage 48 = .ok (.aload_n 3, 1) := by decide +kernel
theorem dX14_engage_49 : decode cX14_engage 49 = .ok (.iload_n 2, 1) := by decide +kernel
theorem dX14_engage_50 : decode cX14_engage 50 = .ok (.invokevirtual 230, 3) := by decide +kernel
theorem dX14_engage_53 : decode cX14_engage 53 = .ok (.ifCond .ne 9, 3) := by decide +kernel
theorem dX14_engage_56 : decode cX14_engage 56 = .ok (.aload_n 0, 1) := by decide +kernel
theorem dX14_engage_57 : decode cX14_engage 57 = .ok (.iconst 2, 1) := by decide +kernel
theorem dX14_engage_58 : decode cX14_engage 58 = .ok (.invokevirtual 42, 3) := by decide +kernel
theorem dX14_engage_61 : decode cX14_engage 61 = .ok (.ireturn, 1) := by decide +kernel
theorem dX14_engage_62 : decode cX14_engage 62 = .ok (.aload_n 3, 1) := by decide +kernel
theorem dX14_engage_63 : decode cX14_engage 63 = .ok (.getfield 227, 3) := by decide +kernel
theorem dX14_engage_66 : decode cX14_engage 66 = .ok (.istore 4, 2) := by decide +kernel
theorem dX14_engage_68 : decode cX14_engage 68 = .ok (.aload_n 3, 1) := by decide +kernel
theorem dX14_engage_69 : decode cX14_engage 69 = .ok (.iload_n 2, 1) := by decide +kernel
theorem dX14_engage_70 : decode cX14_engage 70 = .ok (.putfield 227, 3) := by decide +kernel
theorem dX14_engage_73 : decode cX14_engage 73 = .ok (.aload_n 0, 1) := by decide +kernel
theorem dX14_engage_74 : decode cX14_engage 74 = .ok (.iload 4, 2) := by decide +kernel
theorem dX14_engage_76 : decode cX14_engage 76 = .ok (.invokevirtual 56, 3) := by decide +kernel
theorem dX14_engage_79 : decode cX14_engage 79 = .ok (.ireturn, 1) := by decide +kernel
set_option maxRecDepth 20000 in
theorem ggX14_cancelGuest_X14_isOf : GoodIn wsX14_cancelGuest wsX14_isOf := goodIn_r _ [16, 17, 18, 19, 20, 21, 22, 23, 24, 25, 26, 27, 28, 29, 15, 30, 164, 165, 166, 167, 168] (by decide +kernel) (by decide +kernel)
set_option maxRecDepth 20000 in
theorem gX14_cancelGuest_X14_isOf : GoodIn wsX14_cancelGuest (va_wsS RX14 85 yX14_isOf wsX14_isOf) := goodIn_app (goodIn_of _ (by decide +kernel)) ggX14_cancelGuest_X14_isOf
set_option maxRecDepth 20000 in
theorem ggX14_cancelGuest_X14_fails : GoodIn wsX14_cancelGuest wsX14_fails := goodIn_r _ [34, 35, 138, 139, 140, 141, 142, 143] (by decide +kernel) (by decide +kernel)
set_option maxRecDepth 20000 in
theorem gX14_cancelGuest_X14_fails : GoodIn wsX14_cancelGuest (wsV RX14 42 RX14 yX14_fails wsX14_fails) := goodIn_app (goodIn_of _ (by decide +kernel)) ggX14_cancelGuest_X14_fails
set_option maxRecDepth 20000 in
theorem ggX14_cancelGuest_Jx4a65c_get_915e3 : GoodIn wsX14_cancelGuest wsJx4a65c_get_915e3 := goodIn_r _ [39, 22, 40, 41, 42, 43, 44, 45, 46, 47, 48, 49, 50, 20, 51, 52, 164, 165, 166] (by decide +kernel) (by decide +kernel)
set_option maxRecDepth 20000 in
theorem gX14_cancelGuest_Jx4a65c_get_915e3 : GoodIn wsX14_cancelGuest (wsV RX14 89 RJx4a65c yJx4a65c_get_915e3 wsJx4a65c_get_915e3) := goodIn_app (goodIn_of _ (by decide +kernel)) ggX14_cancelGuest_Jx4a65c_get_915e3
set_option maxRecDepth 20000 in
theorem ggX14_cancelGuest_X14_known : GoodIn wsX14_cancelGuest wsX14_known := goodIn_r _ [56, 7, 8, 9, 10, 11, 57, 58, 59, 60, 20, 61, 62, 63, 64, 65, 66, 67, 68, 69, 70, 71, 72, 73, 74, 75, 76, 77, 78, 79, 80, 81, 82, 83, 84, 85, 86, 87, 88, 89, 90, 91, 92, 93, 94, 95, 96, 97, 98, 99, 100, 101, 37, 39, 22, 40, 41, 42, 43, 44, 45, 46, 47, 48, 49, 50, 51, 52, 102, 103, 25, 104, 105, 27, 106, 107, 108, 109, 110, 111, 36, 38, 144, 145, 146, 147, 148, 149, 150, 151, 152, 153, 154, 155, 138, 139, 140, 141, 142, 143, 159, 160, 161, 162, 163, 156, 157, 158, 169, 170, 171, 172, 164, 165, 166, 173, 174, 175, 176, 167, 168, 177] (by decide +kernel) (by decide +kernel)
set_option maxRecDepth 20000 in
theorem gX14_cancelGuest_X14_known : GoodIn wsX14_cancelGuest (wsV RX14 220 RX14 yX14_known wsX14_known) := goodIn_app (goodIn_of _ (by decide +kernel)) ggX14_cancelGuest_X14_known
set_option maxRecDepth 20000 in
theorem ggX14_cancelGuest_Jx4a65c_size_8abf5 : GoodIn wsX14_cancelGuest wsJx4a65c_size_8abf5 := goodIn_r _ [21, 22, 164, 165, 166] (by decide +kernel) (by decide +kernel)
set_option maxRecDepth 20000 in
theorem gX14_cancelGuest_Jx4a65c_size_8abf5 : GoodIn wsX14_cancelGuest (wsV RX14 46 RJx4a65c yJx4a65c_size_8abf5 wsJx4a65c_size_8abf5) := goodIn_app (goodIn_of _ (by decide +kernel)) ggX14_cancelGuest_Jx4a65c_size_8abf5
set_option maxRecDepth 20000 in
theorem ggX14_cancelGuest_X14_canEngage : GoodIn wsX14_cancelGuest wsX14_canEngage := goodIn_r _ [117, 4, 5, 118, 1, 2, 3, 36, 37, 38, 20, 39, 22, 40, 41, 42, 43, 44, 45, 46, 47, 48, 49, 50, 51, 52, 53, 54, 55, 15, 56, 7, 8, 9, 10, 11, 57, 58, 59, 60, 61, 62, 63, 64, 65, 66, 67, 68, 69, 70, 71, 72, 73, 74, 75, 76, 77, 78, 79, 80, 81, 82, 83, 84, 85, 86, 87, 88, 89, 90, 91, 92, 93, 94, 95, 96, 97, 98, 99, 100, 101, 102, 103, 25, 104, 105, 27, 106, 107, 108, 109, 110, 111, 119, 120, 121, 122, 123, 124, 125, 126, 127, 128, 129, 130, 131, 132, 133, 138, 139, 140, 141, 142, 143, 144, 145, 146, 147, 148, 149, 150, 151, 152, 153, 154, 155, 164, 165, 166, 159, 160, 161, 162, 163, 156, 157, 158, 169, 170, 171, 172, 173, 174, 175, 176, 167, 168, 177] (by decide +kernel) (by decide +kernel)
set_option maxRecDepth 20000 in
theorem gX14_cancelGuest_X14_canEngage : GoodIn wsX14_cancelGuest (wsV RX14 230 RX14 yX14_canEngage wsX14_canEngage) := goodIn_app (goodIn_of _ (by decide +kernel)) ggX14_cancelGuest_X14_canEngage
set_option maxRecDepth 20000 in
theorem ggX14_cancelGuest_Jx4a65c_iterator_32c93 : GoodIn wsX14_cancelGuest wsJx4a65c_iterator_32c93 := goodIn_r _ [61, 62, 63, 64, 65, 66, 67, 68, 69, 70, 71, 72, 73, 74, 75, 169, 170, 171, 172, 164, 165, 166] (by decide +kernel) (by decide +kernel)
set_option maxRecDepth 20000 in
theorem gX14_cancelGuest_Jx4a65c_iterator_32c93 : GoodIn wsX14_cancelGuest (wsV RX14 59 RJx4a65c yJx4a65c_iterator_32c93 wsJx4a65c_iterator_32c93) := goodIn_app (goodIn_of _ (by decide +kernel)) ggX14_cancelGuest_Jx4a65c_iterator_32c93
set_option maxRecDepth 20000 in
theorem ggX14_cancelGuest_Jx35411_hasNext_aae02 : GoodIn wsX14_cancelGuest wsJx35411_hasNext_aae02 := goodIn_r _ [79, 80, 68, 169, 170, 171, 172, 164, 165, 166] (by decide +kernel) (by decide +kernel)
set_option maxRecDepth 20000 in
theorem gX14_cancelGuest_Jx35411_hasNext_aae02_f63Jx35411 : GoodIn wsX14_cancelGuest (va_wsF RX14 63 RJx35411 ⟨"java/util/Iterator", "hasNext", "()Z"⟩ yJx35411_hasNext_aae02 wsJx35411_hasNext_aae02) := goodIn_app (goodIn_of _ (by decide +kernel)) ggX14_cancelGuest_Jx35411_hasNext_aae02
set_option maxRecDepth 20000 in
theorem ggX14_cancelGuest_Jx95556_hasNext_aae02 : GoodIn wsX14_cancelGuest wsJx95556_hasNext_aae02 := goodIn_r _ [84, 85, 86, 173, 174, 175, 176] (by decide +kernel) (by decide +kernel)
set_option maxRecDepth 20000 in
theorem gX14_cancelGuest_Jx95556_hasNext_aae02_f63Jx95556 : GoodIn wsX14_cancelGuest (va_wsF RX14 63 RJx95556 ⟨"java/util/Iterator", "hasNext", "()Z"⟩ yJx95556_hasNext_aae02 wsJx95556_hasNext_aae02) := goodIn_app (goodIn_of _ (by decide +kernel)) ggX14_cancelGuest_Jx95556_hasNext_aae02
set_option maxRecDepth 20000 in
theorem ggX14_cancelGuest_Jx35411_next_0502b : GoodIn wsX14_cancelGuest wsJx35411_next_0502b := goodIn_r _ [90, 80, 68, 91, 72, 92, 93, 94, 64, 95, 73, 74, 75, 169, 170, 171, 172, 164, 165, 166] (by decide +kernel) (by decide +kernel)
set_option maxRecDepth 20000 in
theorem gX14_cancelGuest_Jx35411_next_0502b_f69Jx35411 : GoodIn wsX14_cancelGuest (va_wsF RX14 69 RJx35411 ⟨"java/util/Iterator", "next", "()Ljava/lang/Object;"⟩ yJx35411_next_0502b wsJx35411_next_0502b) := goodIn_app (goodIn_of _ (by decide +kernel)) ggX14_cancelGuest_Jx35411_next_0502b
set_option maxRecDepth 20000 in
theorem ggX14_cancelGuest_Jx95556_next_0502b : GoodIn wsX14_cancelGuest wsJx95556_next_0502b := goodIn_r _ [98, 85, 99, 100, 101, 37, 20, 39, 22, 40, 41, 42, 43, 44, 45, 46, 47, 48, 49, 50, 51, 52, 102, 103, 25, 104, 105, 27, 173, 174, 175, 176, 164, 165, 166, 167, 168] (by decide +kernel) (by decide +kernel)
set_option maxRecDepth 20000 in
theorem gX14_cancelGuest_Jx95556_next_0502b_f69Jx95556 : GoodIn wsX14_cancelGuest (va_wsF RX14 69 RJx95556 ⟨"java/util/Iterator", "next", "()Ljava/lang/Object;"⟩ yJx95556_next_0502b wsJx95556_next_0502b) := goodIn_app (goodIn_of _ (by decide +kernel)) ggX14_cancelGuest_Jx95556_next_0502b
set_option maxRecDepth 20000 in
theorem ggX14_cancelGuest_J6_intValue_8abf5 : GoodIn wsX14_cancelGuest wsJ6_intValue_8abf5 := goodIn_r _ [110, 111, 177] (by decide +kernel) (by decide +kernel)
set_option maxRecDepth 20000 in
theorem gX14_cancelGuest_J6_intValue_8abf5 : GoodIn wsX14_cancelGuest (wsV RX14 181 RJ6 yJ6_intValue_8abf5 wsJ6_intValue_8abf5) := goodIn_app (goodIn_of _ (by decide +kernel)) ggX14_cancelGuest_J6_intValue_8abf5
set_option maxRecDepth 20000 in
theorem ggX14_cancelGuest_X14_tells : GoodIn wsX14_cancelGuest wsX14_tells := goodIn_r _ [137, 35, 138, 139, 140, 141, 142, 143] (by decide +kernel) (by decide +kernel)
set_option maxRecDepth 20000 in
theorem gX14_cancelGuest_X14_tells : GoodIn wsX14_cancelGuest (wsV RX14 56 RX14 yX14_tells wsX14_tells) := goodIn_app (goodIn_of _ (by decide +kernel)) ggX14_cancelGuest_X14_tells
theorem dX14_cancelGuest_0 : decode cX14_cancelGuest 0 = .ok (.aload_n 0, 1) := by decide +kernel
theorem dX14_cancelGuest_1 : decode cX14_cancelGuest 1 = .ok (.getfield 25, 3) := by decide +kernel
theorem dX14_cancelGuest_4 : decode cX14_cancelGuest 4 = .ok (.iload_n 1, 1) := by decide +kernel
theorem dX14_cancelGuest_5 : decode cX14_cancelGuest 5 = .ok (.invokestatic 85, 3) := by decide +kernel
theorem dX14_cancelGuest_8 : decode cX14_cancelGuest 8 = .ok (.ifCond .ne 9, 3) := by decide +kernel
theorem dX14_cancelGuest_11 : decode cX14_cancelGuest 11 = .ok (.aload_n 0, 1) := by decide +kernel
theorem dX14_cancelGuest_12 : decode cX14_cancelGuest 12 = .ok (.iconst 1, 1) := by decide +kernel
theorem dX14_cancelGuest_13 : decode cX14_cancelGuest 13 = .ok (.invokevirtual 42, 3) := by decide +kernel
theorem dX14_cancelGuest_16 : decode cX14_cancelGuest 16 = .ok (.ireturn, 1) := by decide +kernel
theorem dX14_cancelGuest_17 : decode cX14_cancelGuest 17 = .ok (.aload_n 0, 1) := by decide +kernel
theorem dX14_cancelGuest_18 : decode cX14_cancelGuest 18 = .ok (.getfield 25, 3) := by decide +kernel
theorem dX14_cancelGuest_21 : decode cX14_cancelGuest 21 = .ok (.iload_n 1, 1) := by decide +kernel
theorem dX14_cancelGuest_22 : decode cX14_cancelGuest 22 = .ok (.invokevirtual 89, 3) := by decide +kernel
theorem dX14_cancelGuest_25 : decode cX14_cancelGuest 25 = .ok (.checkcast 73, 3) := by decide +kernel
theorem dX14_cancelGuest_28 : decode cX14_cancelGuest 28 = .ok (.astore_n 2, 1) := by decide +kernel
theorem dX14_cancelGuest_29 : decode cX14_cancelGuest 29 = .ok (.aload_n 2, 1) := by decide +kernel
theorem dX14_cancelGuest_30 : decode cX14_cancelGuest 30 = .ok (.getfield 227, 3) := by decide +kernel
theorem dX14_cancelGuest_33 : decode cX14_cancelGuest 33 = .ok (.iconst (-1), 1) := by decide +kernel
theorem dX14_cancelGuest_34 : decode cX14_cancelGuest 34 = .ok (.if_icmp .ne 9, 3) := by decide +kernel
theorem dX14_cancelGuest_37 : decode cX14_cancelGuest 37 = .ok (.aload_n 0, 1) := by decide +kernel
theorem dX14_cancelGuest_38 : decode cX14_cancelGuest 38 = .ok (.iconst 2, 1) := by decide +kernel
theorem dX14_cancelGuest_39 : decode cX14_cancelGuest 39 = .ok (.invokevirtual 42, 3) := by decide +kernel
theorem dX14_cancelGuest_42 : decode cX14_cancelGuest 42 = .ok (.ireturn, 1) := by decide +kernel
theorem dX14_cancelGuest_43 : decode cX14_cancelGuest 43 = .ok (.aload_n 0, 1) := by decide +kernel
theorem dX14_cancelGuest_44 : decode cX14_cancelGuest 44 = .ok (.aload_n 2, 1) := by decide +kernel
theorem dX14_cancelGuest_45 : decode cX14_cancelGuest 45 = .ok (.aload_n 0, 1) := by decide +kernel
theorem dX14_cancelGuest_46 : decode cX14_cancelGuest 46 = .ok (.getfield 22, 3) := by decide +kernel
theorem dX14_cancelGuest_49 : decode cX14_cancelGuest 49 = .ok (.aload_n 2, 1) := by decide +kernel
theorem dX14_cancelGuest_50 : decode cX14_cancelGuest 50 = .ok (.getfield 227, 3) := by decide +kernel
theorem dX14_cancelGuest_53 : decode cX14_cancelGuest 53 = .ok (.invokevirtual 89, 3) := by decide +kernel
theorem dX14_cancelGuest_56 : decode cX14_cancelGuest 56 = .ok (.checkcast 211, 3) := by decide +kernel
theorem dX14_cancelGuest_59 : decode cX14_cancelGuest 59 = .ok (.invokevirtual 220, 3) := by decide +kernel
theorem dX14_cancelGuest_62 : decode cX14_cancelGuest 62 = .ok (.istore_n 3, 1) := by decide +kernel
theorem dX14_cancelGuest_63 : decode cX14_cancelGuest 63 = .ok (.iconst (-1), 1) := by decide +kernel
theorem dX14_cancelGuest_64 : decode cX14_cancelGuest 64 = .ok (.istore 4, 2) := by decide +kernel
theorem dX14_cancelGuest_66 : decode cX14_cancelGuest 66 = .ok (.iconst 0, 1) := by decide +kernel
theorem dX14_cancelGuest_67 : decode cX14_cancelGuest 67 = .ok (.istore 5, 2) := by decide +kernel
theorem dX14_cancelGuest_69 : decode cX14_cancelGuest 69 = .ok (.iload 5, 2) := by decide +kernel
theorem dX14_cancelGuest_71 : decode cX14_cancelGuest 71 = .ok (.aload_n 0, 1) := by decide +kernel
theorem dX14_cancelGuest_72 : decode cX14_cancelGuest 72 = .ok (.getfield 22, 3) := by decide +kernel
theorem dX14_cancelGuest_75 : decode cX14_cancelGuest 75 = .ok (.invokevirtual 46, 3) := by decide +kernel
theorem dX14_cancelGuest_78 : decode cX14_cancelGuest 78 = .ok (.if_icmp .ge 102, 3) := by decide +kernel
theorem dX14_cancelGuest_81 : decode cX14_cancelGuest 81 = .ok (.iload 5, 2) := by decide +kernel
theorem dX14_cancelGuest_83 : decode cX14_cancelGuest 83 = .ok (.aload_n 2, 1) := by decide +kernel
theorem dX14_cancelGuest_84 : decode cX14_cancelGuest 84 = .ok (.getfield 227, 3) := by decide +kernel
theorem dX14_cancelGuest_87 : decode cX14_cancelGuest 87 = .ok (.if_icmp .eq 87, 3) := by decide +kernel
theorem dX14_cancelGuest_90 : decode cX14_cancelGuest 90 = .ok (.aload_n 0, 1) := by decide +kernel
theorem dX14_cancelGuest_91 : decode cX14_cancelGuest 91 = .ok (.aload_n 2, 1) := by decide +kernel
theorem dX14_cancelGuest_92 : decode cX14_cancelGuest 92 = .ok (.iload 5, 2) := by decide +kernel
theorem dX14_cancelGuest_94 : decode cX14_cancelGuest 94 = .ok (.invokevirtual 230, 3) := by decide +kernel
theorem dX14_cancelGuest_97 : decode cX14_cancelGuest 97 = .ok (.ifCond .eq 77, 3) := by decide +kernel
theorem dX14_cancelGuest_100 : decode cX14_cancelGuest 100 = .ok (.aload_n 0, 1) := by decide +kernel
theorem dX14_cancelGuest_101 : decode cX14_cancelGuest 101 = .ok (.aload_n 2, 1) := by decide +kernel
theorem dX14_cancelGuest_102 : decode cX14_cancelGuest 102 = .ok (.aload_n 0, 1) := by decide +kernel
theorem dX14_cancelGuest_103 : decode cX14_cancelGuest 103 = .ok (.getfield 22, 3) := by decide +kernel
theorem dX14_cancelGuest_106 : decode cX14_cancelGuest 106 = .ok (.iload 5, 2) := by decide +kernel
theorem dX14_cancelGuest_108 : decode cX14_cancelGuest 108 = .ok (.invokevirtual 89, 3) := by decide +kernel
theorem dX14_cancelGuest_111 : decode cX14_cancelGuest 111 = .ok (.checkcast 211, 3) := by decide +kernel
theorem dX14_cancelGuest_114 : decode cX14_cancelGuest 114 = .ok (.invokevirtual 220, 3) := by decide +kernel
theorem dX14_cancelGuest_117 : decode cX14_cancelGuest 117 = .ok (.iload_n 3, 1) := by decide +kernel
theorem dX14_cancelGuest_118 : decode cX14_cancelGuest 118 = .ok (.iand, 1) := by decide +kernel
theorem dX14_cancelGuest_119 : decode cX14_cancelGuest 119 = .ok (.iload_n 3, 1) := by decide +kernel
theorem dX14_cancelGuest_120 : decode cX14_cancelGuest 120 = .ok (.if_icmp .eq 6, 3) := by decide +kernel
theorem dX14_cancelGuest_123 : decode cX14_cancelGuest 123 = .ok (.goto 51, 3) := by decide +kernel
theorem dX14_cancelGuest_126 : decode cX14_cancelGuest 126 = .ok (.iload 4, 2) := by decide +kernel
theorem dX14_cancelGuest_128 : decode cX14_cancelGuest 128 = .ok (.iconst (-1), 1) := by decide +kernel
theorem dX14_cancelGuest_129 : decode cX14_cancelGuest 129 = .ok (.if_icmp .eq 36, 3) := by decide +kernel
theorem dX14_cancelGuest_132 : decode cX14_cancelGuest 132 = .ok (.aload_n 0, 1) := by decide +kernel
theorem dX14_cancelGuest_133 : decode cX14_cancelGuest 133 = .ok (.getfield 22, 3) := by decide +kernel
theorem dX14_cancelGuest_136 : decode cX14_cancelGuest 136 = .ok (.iload 5, 2) := by decide +kernel
theorem dX14_cancelGuest_138 : decode cX14_cancelGuest 138 = .ok (.invokevirtual 89, 3) := by decide +kernel
theorem dX14_cancelGuest_141 : decode cX14_cancelGuest 141 = .ok (.checkcast 211, 3) := by decide +kernel
theorem dX14_cancelGuest_144 : decode cX14_cancelGuest 144 = .ok (.getfield 234, 3) := by decide +kernel
theorem dX14_cancelGuest_147 : decode cX14_cancelGuest 147 = .ok (.aload_n 0, 1) := by decide +kernel
theorem dX14_cancelGuest_148 : decode cX14_cancelGuest 148 = .ok (.getfield 22, 3) := by decide +kernel
theorem dX14_cancelGuest_151 : decode cX14_cancelGuest 151 = .ok (.iload 4, 2) := by decide +kernel
theorem dX14_cancelGuest_153 : decode cX14_cancelGuest 153 = .ok (.invokevirtual 89, 3) := by decide +kernel
theorem dX14_cancelGuest_156 : decode cX14_cancelGuest 156 = .ok (.checkcast 211, 3) := by decide +kernel
theorem dX14_cancelGuest_159 : decode cX14_cancelGuest 159 = .ok (.getfield 234, 3) := by decide +kernel
theorem dX14_cancelGuest_162 : decode cX14_cancelGuest 162 = .ok (.if_icmp .ge 8, 3) := by decide +kernel
theorem dX14_cancelGuest_165 : decode cX14_cancelGuest 165 = .ok (.iload 5, 2) := by decide +kernel
theorem dX14_cancelGuest_167 : decode cX14_cancelGuest 167 = .ok (.goto 5, 3) := by decide +kernel
theorem dX14_cancelGuest_170 : decode cX14_cancelGuest 170 = .ok (.iload 4, 2) := by decide +kernel
theorem dX14_cancelGuest_172 : decode cX14_cancelGuest 172 = .ok (.istore 4, 2) := by decide +kernel
theorem dX14_cancelGuest_174 : decode cX14_cancelGuest 174 = .ok (.iinc 5 1, 3) := by decide +kernel
theorem dX14_cancelGuest_177 : decode cX14_cancelGuest 177 = .ok (.goto (-108), 3) := by decide +kernel
theorem dX14_cancelGuest_180 : decode cX14_cancelGuest 180 = .ok (.aload_n 2, 1) := by decide +kernel
theorem dX14_cancelGuest_181 : decode cX14_cancelGuest 181 = .ok (.iload 4, 2) := by decide +kernel
theorem dX14_cancelGuest_183 : decode cX14_cancelGuest 183 = .ok (.putfield 227, 3) := by decide +kernel
theorem dX14_cancelGuest_186 : decode cX14_cancelGuest 186 = .ok (.aload_n 2, 1) := by decide +kernel
theorem dX14_cancelGuest_187 : decode cX14_cancelGuest 187 = .ok (.getfield 75, 3) := by decide +kernel
theorem dX14_cancelGuest_190 : decode cX14_cancelGuest 190 = .ok (.invokevirtual 59, 3) := by decide +kernel
theorem dX14_cancelGuest_193 : decode cX14_cancelGuest 193 = .ok (.astore 5, 2) := by decide +kernel
theorem dX14_cancelGuest_195 : decode cX14_cancelGuest 195 = .ok (.aload 5, 2) := by decide +kernel
theorem dX14_cancelGuest_197 : decode cX14_cancelGuest 197 = .ok (.invokeinterface 63 1, 5) := by decide +kernel
theorem dX14_cancelGuest_202 : decode cX14_cancelGuest 202 = .ok (.ifCond .eq 53, 3) := by decide +kernel
theorem dX14_cancelGuest_205 : decode cX14_cancelGuest 205 = .ok (.aload 5, 2) := by decide +kernel
theorem dX14_cancelGuest_207 : decode cX14_cancelGuest 207 = .ok (.invokeinterface 69 1, 5) := by decide +kernel
theorem dX14_cancelGuest_212 : decode cX14_cancelGuest 212 = .ok (.checkcast 77, 3) := by decide +kernel
theorem dX14_cancelGuest_215 : decode cX14_cancelGuest 215 = .ok (.invokevirtual 181, 3) := by decide +kernel
theorem dX14_cancelGuest_218 : decode cX14_cancelGuest 218 = .ok (.istore 6, 2) := by decide +kernel
theorem dX14_cancelGuest_220 : decode cX14_cancelGuest 220 = .ok (.iload 4, 2) := by decide +kernel
theorem dX14_cancelGuest_222 : decode cX14_cancelGuest 222 = .ok (.iconst (-1), 1) := by decide +kernel
theorem dX14_cancelGuest_223 : decode cX14_cancelGuest 223 = .ok (.if_icmp .ne 29, 3) := by decide +kernel
theorem dX14_cancelGuest_226 : decode cX14_cancelGuest 226 = .ok (.aload_n 0, 1) := by decide +kernel
theorem dX14_cancelGuest_227 : decode cX14_cancelGuest 227 = .ok (.getfield 10, 3) := by decide +kernel
theorem dX14_cancelGuest_230 : decode cX14_cancelGuest 230 = .ok (.iload 6, 2) := by decide +kernel
theorem dX14_cancelGuest_232 : decode cX14_cancelGuest 232 = .ok (.invokevirtual 89, 3) := by decide +kernel
theorem dX14_cancelGuest_235 : decode cX14_cancelGuest 235 = .ok (.checkcast 47, 3) := by decide +kernel
theorem dX14_cancelGuest_238 : decode cX14_cancelGuest 238 = .ok (.getfield 108, 3) := by decide +kernel
theorem dX14_cancelGuest_241 : decode cX14_cancelGuest 241 = .ok (.ifCond .eq 11, 3) := by decide +kernel
theorem dX14_cancelGuest_244 : decode cX14_cancelGuest 244 = .ok (.aload_n 2, 1) := by decide +kernel
theorem dX14_cancelGuest_245 : decode cX14_cancelGuest 245 = .ok (.getfield 237, 3) := by decide +kernel
theorem dX14_cancelGuest_248 : decode cX14_cancelGuest 248 = .ok (.iload 6, 2) := by decide +kernel
theorem dX14_cancelGuest_250 : decode cX14_cancelGuest 250 = .ok (.aconst_null, 1) := by decide +kernel
theorem dX14_cancelGuest_251 : decode cX14_cancelGuest 251 = .ok (.aastore, 1) := by decide +kernel
theorem dX14_cancelGuest_252 : decode cX14_cancelGuest 252 = .ok (.goto (-57), 3) := by decide +kernel
theorem dX14_cancelGuest_255 : decode cX14_cancelGuest 255 = .ok (.aload_n 0, 1) := by decide +kernel
theorem dX14_cancelGuest_256 : decode cX14_cancelGuest 256 = .ok (.iload 4, 2) := by decide +kernel
theorem dX14_cancelGuest_258 : decode cX14_cancelGuest 258 = .ok (.invokevirtual 56, 3) := by decide +kernel
theorem dX14_cancelGuest_261 : decode cX14_cancelGuest 261 = .ok (.ireturn, 1) := by decide +kernel
set_option maxRecDepth 20000 in
theorem ggX14_guestOf_X14_isOf : GoodIn wsX14_guestOf wsX14_isOf := goodIn_r _ [7, 8, 9, 10, 11, 12, 13, 14, 15, 16, 17, 18, 19, 20, 6, 21, 66, 67, 68, 69, 70] (by decide +kernel) (by decide +kernel)
set_option maxRecDepth 20000 in
theorem gX14_guestOf_X14_isOf : GoodIn wsX14_guestOf (va_wsS RX14 85 yX14_isOf wsX14_isOf) := goodIn_app (goodIn_of _ (by decide +kernel)) ggX14_guestOf_X14_isOf
set_option maxRecDepth 20000 in
theorem ggX14_guestOf_X14_fails : GoodIn wsX14_guestOf wsX14_fails := goodIn_r _ [25, 26, 48, 49, 50, 51, 52, 53] (by decide +kernel) (by decide +kernel)
set_option maxRecDepth 20000 in
theorem gX14_guestOf_X14_fails : GoodIn wsX14_guestOf (wsV RX14 42 RX14 yX14_fails wsX14_fails) := goodIn_app (goodIn_of _ (by decide +kernel)) ggX14_guestOf_X14_fails
set_option maxRecDepth 20000 in
theorem ggX14_guestOf_Jx4a65c_get_915e3 : GoodIn wsX14_guestOf wsJx4a65c_get_915e3 := goodIn_r _ [30, 13, 31, 32, 33, 34, 35, 36, 37, 38, 39, 40, 41, 11, 42, 43, 66, 67, 68] (by decide +kernel) (by decide +kernel)
set_option maxRecDepth 20000 in
theorem gX14_guestOf_Jx4a65c_get_915e3 : GoodIn wsX14_guestOf (wsV RX14 89 RJx4a65c yJx4a65c_get_915e3 wsJx4a65c_get_915e3) := goodIn_app (goodIn_of _ (by decide +kernel)) ggX14_guestOf_Jx4a65c_get_915e3
set_option maxRecDepth 20000 in
theorem ggX14_guestOf_X14_tells : GoodIn wsX14_guestOf wsX14_tells := goodIn_r _ [47, 26, 48, 49, 50, 51, 52, 53] (by decide +kernel) (by decide +kernel)
set_option maxRecDepth 20000 in
theorem gX14_guestOf_X14_tells : GoodIn wsX14_guestOf (wsV RX14 56 RX14 yX14_tells wsX14_tells) := goodIn_app (goodIn_of _ (by decide +kernel)) ggX14_guestOf_X14_tells
theorem dX14_guestOf_0 : decode cX14_guestOf 0 = .ok (.aload_n 0, 1) := by decide +kernel
theorem dX14_guestOf_1 : decode cX14_guestOf 1 = .ok (.getfield 25, 3) := by decide +kernel
theorem dX14_guestOf_4 : decode cX14_guestOf 4 = .ok (.iload_n 1, 1) := by decide +kernel
theorem dX14_guestOf_5 : decode cX14_guestOf 5 = .ok (.invokestatic 85, 3) := by decide +kernel
theorem dX14_guestOf_8 : decode cX14_guestOf 8 = .ok (.ifCond .ne 9, 3) := by decide +kernel
theorem dX14_guestOf_11 : decode cX14_guestOf 11 = .ok (.aload_n 0, 1) := by decide +kernel
theorem dX14_guestOf_12 : decode cX14_guestOf 12 = .ok (.iconst 1, 1) := by decide +kernel
theorem dX14_guestOf_13 : decode cX14_guestOf 13 = .ok (.invokevirtual 42, 3) := by decide +kernel
theorem dX14_guestOf_16 : decode cX14_guestOf 16 = .ok (.ireturn, 1) := by decide +kernel
theorem dX14_guestOf_17 : decode cX14_guestOf 17 = .ok (.aload_n 0, 1) := by decide +kernel
theorem dX14_guestOf_18 : decode cX14_guestOf 18 = .ok (.getfield 25, 3) := by decide +kernel
theorem dX14_guestOf_21 : decode cX14_guestOf 21 = .ok (.iload_n 1, 1) := by decide +kernel
theorem dX14_guestOf_22 : decode cX14_guestOf 22 = .ok (.invokevirtual 89, 3) := by decide +kernel
theorem dX14_guestOf_25 : decode cX14_guestOf 25 = .ok (.checkcast 73, 3) := by decide +kernel
theorem dX14_guestOf_28 : decode cX14_guestOf 28 = .ok (.getfield 227, 3) := by decide +kernel
theorem dX14_guestOf_31 : decode cX14_guestOf 31 = .ok (.iconst (-1), 1) := by decide +kernel
theorem dX14_guestOf_32 : decode cX14_guestOf 32 = .ok (.if_icmp .ne 11, 3) := by decide +kernel
theorem dX14_guestOf_35 : decode cX14_guestOf 35 = .ok (.aload_n 0, 1) := by decide +kernel
theorem dX14_guestOf_36 : decode cX14_guestOf 36 = .ok (.iconst 2, 1) := by decide +kernel
theorem dX14_guestOf_37 : decode cX14_guestOf 37 = .ok (.invokevirtual 42, 3) := by decide +kernel
theorem dX14_guestOf_40 : decode cX14_guestOf 40 = .ok (.goto 21, 3) := by decide +kernel
theorem dX14_guestOf_43 : decode cX14_guestOf 43 = .ok (.aload_n 0, 1) := by decide +kernel
theorem dX14_guestOf_44 : decode cX14_guestOf 44 = .ok (.aload_n 0, 1) := by decide +kernel
theorem dX14_guestOf_45 : decode cX14_guestOf 45 = .ok (.getfield 25, 3) := by decide +kernel
theorem dX14_guestOf_48 : decode cX14_guestOf 48 = .ok (.iload_n 1, 1) := by decide +kernel
theorem dX14_guestOf_49 : decode cX14_guestOf 49 = .ok (.invokevirtual 89, 3) := by decide +kernel
theorem dX14_guestOf_52 : decode cX14_guestOf 52 = .ok (.checkcast 73, 3) := by decide +kernel
theorem dX14_guestOf_55 : decode cX14_guestOf 55 = .ok (.getfield 227, 3) := by decide +kernel
theorem dX14_guestOf_58 : decode cX14_guestOf 58 = .ok (.invokevirtual 56, 3) := by decide +kernel
theorem dX14_guestOf_61 : decode cX14_guestOf 61 = .ok (.ireturn, 1) := by decide +kernel
set_option maxRecDepth 20000 in
theorem ggX14_keeps_Jx4a65c_iterator_32c93 : GoodIn wsX14_keeps wsJx4a65c_iterator_32c93 := goodIn_r _ [16, 17, 18, 19, 20, 21, 22, 23, 24, 25, 26, 27, 28, 29, 30, 114, 115, 116, 117, 118, 119, 120] (by decide +kernel) (by decide +kernel)
set_option maxRecDepth 20000 in
theorem gX14_keeps_Jx4a65c_iterator_32c93_f180Jx4a65c : GoodIn wsX14_keeps (va_wsF RX14 180 RJx4a65c ⟨"java/util/List", "iterator", "()Ljava/util/Iterator;"⟩ yJx4a65c_iterator_32c93 wsJx4a65c_iterator_32c93) := goodIn_app (goodIn_of _ (by decide +kernel)) ggX14_keeps_Jx4a65c_iterator_32c93
set_option maxRecDepth 20000 in
theorem ggX14_keeps_Jxcdf0f_iterator_32c93 : GoodIn wsX14_keeps wsJxcdf0f_iterator_32c93 := goodIn_r _ [34, 35, 36, 37, 38, 39, 40, 41, 42, 43, 44, 45, 46, 47, 48, 25, 26, 49, 50, 51, 52, 121, 122, 123, 124, 125, 126] (by decide +kernel) (by decide +kernel)
set_option maxRecDepth 20000 in
theorem gX14_keeps_Jxcdf0f_iterator_32c93_f180Jx6a02c : GoodIn wsX14_keeps (va_wsF RX14 180 RJx6a02c ⟨"java/util/List", "iterator", "()Ljava/util/Iterator;"⟩ yJxcdf0f_iterator_32c93 wsJxcdf0f_iterator_32c93) := goodIn_app (goodIn_of _ (by decide +kernel)) ggX14_keeps_Jxcdf0f_iterator_32c93
set_option maxRecDepth 20000 in
theorem ggX14_keeps_Jx35411_hasNext_aae02 : GoodIn wsX14_keeps wsJx35411_hasNext_aae02 := goodIn_r _ [56, 57, 23, 114, 115, 116, 117, 118, 119, 120] (by decide +kernel) (by decide +kernel)
set_option maxRecDepth 20000 in
theorem gX14_keeps_Jx35411_hasNext_aae02_f63Jx35411 : GoodIn wsX14_keeps (va_wsF RX14 63 RJx35411 ⟨"java/util/Iterator", "hasNext", "()Z"⟩ yJx35411_hasNext_aae02 wsJx35411_hasNext_aae02) := goodIn_app (goodIn_of _ (by decide +kernel)) ggX14_keeps_Jx35411_hasNext_aae02
set_option maxRecDepth 20000 in
theorem ggX14_keeps_Jx95556_hasNext_aae02 : GoodIn wsX14_keeps wsJx95556_hasNext_aae02 := goodIn_r _ [60, 51, 50, 121, 122, 123, 124] (by decide +kernel) (by decide +kernel)
set_option maxRecDepth 20000 in
theorem gX14_keeps_Jx95556_hasNext_aae02_f63Jx95556 : GoodIn wsX14_keeps (va_wsF RX14 63 RJx95556 ⟨"java/util/Iterator", "hasNext", "()Z"⟩ yJx95556_hasNext_aae02 wsJx95556_hasNext_aae02) := goodIn_app (goodIn_of _ (by decide +kernel)) ggX14_keeps_Jx95556_hasNext_aae02
set_option maxRecDepth 20000 in
theorem ggX14_keeps_Jx35411_next_0502b : GoodIn wsX14_keeps wsJx35411_next_0502b := goodIn_r _ [64, 57, 23, 65, 27, 66, 67, 68, 19, 69, 28, 29, 30, 114, 115, 116, 117, 118, 119, 120] (by decide +kernel) (by decide +kernel)
set_option maxRecDepth 20000 in
theorem gX14_keeps_Jx35411_next_0502b_f69Jx35411 : GoodIn wsX14_keeps (va_wsF RX14 69 RJx35411 ⟨"java/util/Iterator", "next", "()Ljava/lang/Object;"⟩ yJx35411_next_0502b wsJx35411_next_0502b) := goodIn_app (goodIn_of _ (by decide +kernel)) ggX14_keeps_Jx35411_next_0502b
set_option maxRecDepth 20000 in
theorem ggX14_keeps_Jx95556_next_0502b : GoodIn wsX14_keeps wsJx95556_next_0502b := goodIn_r _ [72, 51, 49, 73, 74, 75, 15, 76, 77, 78, 79, 80, 81, 82, 83, 84, 85, 86, 87, 88, 89, 90, 91, 92, 42, 93, 94, 44, 121, 122, 123, 124, 118, 119, 120, 125, 126] (by decide +kernel) (by decide +kernel)
set_option maxRecDepth 20000 in
theorem gX14_keeps_Jx95556_next_0502b_f69Jx95556 : GoodIn wsX14_keeps (va_wsF RX14 69 RJx95556 ⟨"java/util/Iterator", "next", "()Ljava/lang/Object;"⟩ yJx95556_next_0502b wsJx95556_next_0502b) := goodIn_app (goodIn_of _ (by decide +kernel)) ggX14_keeps_Jx95556_next_0502b
set_option maxRecDepth 20000 in
theorem ggX14_keeps_X12_end : GoodIn wsX14_keeps wsX12_end := goodIn_r _ [99, 100, 101, 102, 103, 104, 105, 106, 107, 108, 109, 110, 111, 112, 113] (by decide +kernel) (by decide +kernel)
set_option maxRecDepth 20000 in
theorem gX14_keeps_X12_end : GoodIn wsX14_keeps (wsV RX14 166 RX12 yX12_end wsX12_end) := goodIn_app (goodIn_of _ (by decide +kernel)) ggX14_keeps_X12_end
theorem dX14_keeps_0 : decode cX14_keeps 0 = .ok (.sipush 400, 3) := by decide +kernel
theorem dX14_keeps_3 : decode cX14_keeps 3 = .ok (.newarray .int, 2) := by decide +kernel
theorem dX14_keeps_5 : decode cX14_keeps 5 = .ok (.astore_n 2, 1) := by decide +kernel
theorem dX14_keeps_6 : decode cX14_keeps 6 = .ok (.sipush 400, 3) := by decide +kernel
theorem dX14_keeps_9 : decode cX14_keeps 9 = .ok (.newarray .int, 2) := by decide +kernel
theorem dX14_keeps_11 : decode cX14_keeps 11 = .ok (.astore_n 3, 1) := by decide +kernel
theorem dX14_keeps_12 : decode cX14_keeps 12 = .ok (.sipush 400, 3) := by decide +kernel
theorem dX14_keeps_15 : decode cX14_keeps 15 = .ok (.newarray .int, 2) := by decide +kernel
theorem dX14_keeps_17 : decode cX14_keeps 17 = .ok (.astore 4, 2) := by decide +kernel
theorem dX14_keeps_19 : decode cX14_keeps 19 = .ok (.aload_n 1, 1) := by decide +kernel
theorem dX14_keeps_20 : decode cX14_keeps 20 = .ok (.invokeinterface 180 1, 5) := by decide +kernel
theorem dX14_keeps_25 : decode cX14_keeps 25 = .ok (.astore 5, 2) := by decide +kernel
theorem dX14_keeps_27 : decode cX14_keeps 27 = .ok (.aload 5, 2) := by decide +kernel
theorem dX14_keeps_29 : decode cX14_keeps 29 = .ok (.invokeinterface 63 1, 5) := by decide +kernel
theorem dX14_keeps_34 : decode cX14_keeps 34 = .ok (.ifCond .eq 185, 3) := by decide +kernel
theorem dX14_keeps_37 : decode cX14_keeps 37 = .ok (.aload 5, 2) := by decide +kernel
theorem dX14_keeps_39 : decode cX14_keeps 39 = .ok (.invokeinterface 69 1, 5) := by decide +kernel
theorem dX14_keeps_44 : decode cX14_keeps 44 = .ok (.checkcast 73, 3) := by decide +kernel
theorem dX14_keeps_47 : decode cX14_keeps 47 = .ok (.astore 6, 2) := by decide +kernel
theorem dX14_keeps_49 : decode cX14_keeps 49 = .ok (.aload_n 1, 1) := by decide +kernel
theorem dX14_keeps_50 : decode cX14_keeps 50 = .ok (.invokeinterface 180 1, 5) := by decide +kernel
theorem dX14_keeps_55 : decode cX14_keeps 55 = .ok (.astore 7, 2) := by decide +kernel
theorem dX14_keeps_57 : decode cX14_keeps 57 = .ok (.aload 7, 2) := by decide +kernel
theorem dX14_keeps_59 : decode cX14_keeps 59 = .ok (.invokeinterface 63 1, 5) := by decide +kernel
theorem dX14_keeps_64 : decode cX14_keeps 64 = .ok (.ifCond .eq 70, 3) := by decide +kernel
theorem dX14_keeps_67 : decode cX14_keeps 67 = .ok (.aload 7, 2) := by decide +kernel
theorem dX14_keeps_69 : decode cX14_keeps 69 = .ok (.invokeinterface 69 1, 5) := by decide +kernel
theorem dX14_keeps_74 : decode cX14_keeps 74 = .ok (.checkcast 73, 3) := by decide +kernel
theorem dX14_keeps_77 : decode cX14_keeps 77 = .ok (.astore 8, 2) := by decide +kernel
theorem dX14_keeps_79 : decode cX14_keeps 79 = .ok (.aload 6, 2) := by decide +kernel
theorem dX14_keeps_81 : decode cX14_keeps 81 = .ok (.aload 8, 2) := by decide +kernel
theorem dX14_keeps_83 : decode cX14_keeps 83 = .ok (.if_acmp .eq 48, 3) := by decide +kernel
theorem dX14_keeps_86 : decode cX14_keeps 86 = .ok (.aload 6, 2) := by decide +kernel
theorem dX14_keeps_88 : decode cX14_keeps 88 = .ok (.getfield 129, 3) := by decide +kernel
theorem dX14_keeps_91 : decode cX14_keeps 91 = .ok (.aload 8, 2) := by decide +kernel
theorem dX14_keeps_93 : decode cX14_keeps 93 = .ok (.getfield 129, 3) := by decide +kernel
theorem dX14_keeps_96 : decode cX14_keeps 96 = .ok (.if_icmp .ne 35, 3) := by decide +kernel
theorem dX14_keeps_99 : decode cX14_keeps 99 = .ok (.aload 6, 2) := by decide +kernel
theorem dX14_keeps_101 : decode cX14_keeps 101 = .ok (.getfield 163, 3) := by decide +kernel
theorem dX14_keeps_104 : decode cX14_keeps 104 = .ok (.aload 8, 2) := by decide +kernel
theorem dX14_keeps_106 : decode cX14_keeps 106 = .ok (.invokevirtual 166, 3) := by decide +kernel
theorem dX14_keeps_109 : decode cX14_keeps 109 = .ok (.iconst 2, 1) := by decide +kernel
theorem dX14_keeps_110 : decode cX14_keeps 110 = .ok (.iadd, 1) := by decide +kernel
theorem dX14_keeps_111 : decode cX14_keeps 111 = .ok (.if_icmp .ge 20, 3) := by decide +kernel
theorem dX14_keeps_114 : decode cX14_keeps 114 = .ok (.aload 8, 2) := by decide +kernel
theorem dX14_keeps_116 : decode cX14_keeps 116 = .ok (.getfield 163, 3) := by decide +kernel
theorem dX14_keeps_119 : decode cX14_keeps 119 = .ok (.aload 6, 2) := by decide +kernel
theorem dX14_keeps_121 : decode cX14_keeps 121 = .ok (.invokevirtual 166, 3) := by decide +kernel
theorem dX14_keeps_124 : decode cX14_keeps 124 = .ok (.iconst 2, 1) := by decide +kernel
theorem dX14_keeps_125 : decode cX14_keeps 125 = .ok (.iadd, 1) := by decide +kernel
theorem dX14_keeps_126 : decode cX14_keeps 126 = .ok (.if_icmp .ge 5, 3) := by decide +kernel
theorem dX14_keeps_129 : decode cX14_keeps 129 = .ok (.iconst 0, 1) := by decide +kernel
theorem dX14_keeps_130 : decode cX14_keeps 130 = .ok (.ireturn, 1) := by decide +kernel
theorem dX14_keeps_131 : decode cX14_keeps 131 = .ok (.goto (-74), 3) := by decide +kernel
theorem dX14_keeps_134 : decode cX14_keeps 134 = .ok (.aload_n 3, 1) := by decide +kernel
theorem dX14_keeps_135 : decode cX14_keeps 135 = .ok (.aload 6, 2) := by decide +kernel
theorem dX14_keeps_137 : decode cX14_keeps 137 = .ok (.getfield 129, 3) := by decide +kernel
theorem dX14_keeps_140 : decode cX14_keeps 140 = .ok (.aload_n 2, 1) := by decide +kernel
theorem dX14_keeps_141 : decode cX14_keeps 141 = .ok (.aload 6, 2) := by decide +kernel
theorem dX14_keeps_143 : decode cX14_keeps 143 = .ok (.getfield 129, 3) := by decide +kernel
theorem dX14_keeps_146 : decode cX14_keeps 146 = .ok (.iaload, 1) := by decide +kernel
theorem dX14_keeps_147 : decode cX14_keeps 147 = .ok (.ifCond .ne 11, 3) := by decide +kernel
theorem dX14_keeps_150 : decode cX14_keeps 150 = .ok (.aload 6, 2) := by decide +kernel
theorem dX14_keeps_152 : decode cX14_keeps 152 = .ok (.getfield 163, 3) := by decide +kernel
theorem dX14_keeps_155 : decode cX14_keeps 155 = .ok (.goto 18, 3) := by decide +kernel
theorem dX14_keeps_158 : decode cX14_keeps 158 = .ok (.aload_n 3, 1) := by decide +kernel
theorem dX14_keeps_159 : decode cX14_keeps 159 = .ok (.aload 6, 2) := by decide +kernel
theorem dX14_keeps_161 : decode cX14_keeps 161 = .ok (.getfield 129, 3) := by decide +kernel
theorem dX14_keeps_164 : decode cX14_keeps 164 = .ok (.iaload, 1) := by decide +kernel
theorem dX14_keeps_165 : decode cX14_keeps 165 = .ok (.aload 6, 2) := by decide +kernel
theorem dX14_keeps_167 : decode cX14_keeps 167 = .ok (.getfield 163, 3) := by decide +kernel
theorem dX14_keeps_170 : decode cX14_keeps 170 = .ok (.invokestatic 241, 3) := by decide +kernel
theorem dX14_keeps_173 : decode cX14_keeps 173 = .ok (.iastore, 1) := by decide +kernel
theorem dX14_keeps_174 : decode cX14_keeps 174 = .ok (.aload 4, 2) := by decide +kernel
theorem dX14_keeps_176 : decode cX14_keeps 176 = .ok (.aload 6, 2) := by decide +kernel
theorem dX14_keeps_178 : decode cX14_keeps 178 = .ok (.getfield 129, 3) := by decide +kernel
theorem dX14_keeps_181 : decode cX14_keeps 181 = .ok (.aload 4, 2) := by decide +kernel
theorem dX14_keeps_183 : decode cX14_keeps 183 = .ok (.aload 6, 2) := by decide +kernel
theorem dX14_keeps_185 : decode cX14_keeps 185 = .ok (.getfield 129, 3) := by decide +kernel
theorem dX14_keeps_188 : decode cX14_keeps 188 = .ok (.iaload, 1) := by decide +kernel
theorem dX14_keeps_189 : decode cX14_keeps 189 = .ok (.aload 6, 2) := by decide +kernel
theorem dX14_keeps_191 : decode cX14_keeps 191 = .ok (.invokevirtual 166, 3) := by decide +kernel
theorem dX14_keeps_194 : decode cX14_keeps 194 = .ok (.invokestatic 245, 3) := by decide +kernel
theorem dX14_keeps_197 : decode cX14_keeps 197 = .ok (.iastore, 1) := by decide +kernel
theorem dX14_keeps_198 : decode cX14_keeps 198 = .ok (.aload_n 2, 1) := by decide +kernel
theorem dX14_keeps_199 : decode cX14_keeps 199 = .ok (.aload 6, 2) := by decide +kernel
theorem dX14_keeps_201 : decode cX14_keeps 201 = .ok (.getfield 129, 3) := by decide +kernel
theorem dX14_keeps_204 : decode cX14_keeps 204 = .ok (.dup2, 1) := by decide +kernel
theorem dX14_keeps_205 : decode cX14_keeps 205 = .ok (.iaload, 1) := by decide +kernel
theorem dX14_keeps_206 : decode cX14_keeps 206 = .ok (.iconst 1, 1) := by decide +kernel
theorem dX14_keeps_207 : decode cX14_keeps 207 = .ok (.iadd, 1) := by decide +kernel
theorem dX14_keeps_208 : decode cX14_keeps 208 = .ok (.dup_x2, 1) := by decide +kernel
theorem dX14_keeps_209 : decode cX14_keeps 209 = .ok (.iastore, 1) := by decide +kernel
theorem dX14_keeps_210 : decode cX14_keeps 210 = .ok (.iconst 2, 1) := by decide +kernel
theorem dX14_keeps_211 : decode cX14_keeps 211 = .ok (.if_icmp .le 5, 3) := by decide +kernel
theorem dX14_keeps_214 : decode cX14_keeps 214 = .ok (.iconst 0, 1) := by decide +kernel
theorem dX14_keeps_215 : decode cX14_keeps 215 = .ok (.ireturn, 1) := by decide +kernel
theorem dX14_keeps_216 : decode cX14_keeps 216 = .ok (.goto (-189), 3) := by decide +kernel
theorem dX14_keeps_219 : decode cX14_keeps 219 = .ok (.iconst 0, 1) := by decide +kernel
theorem dX14_keeps_220 : decode cX14_keeps 220 = .ok (.istore 5, 2) := by decide +kernel
theorem dX14_keeps_222 : decode cX14_keeps 222 = .ok (.iload 5, 2) := by decide +kernel
theorem dX14_keeps_224 : decode cX14_keeps 224 = .ok (.sipush 400, 3) := by decide +kernel
theorem dX14_keeps_227 : decode cX14_keeps 227 = .ok (.if_icmp .ge 99, 3) := by decide +kernel
theorem dX14_keeps_230 : decode cX14_keeps 230 = .ok (.iload 5, 2) := by decide +kernel
theorem dX14_keeps_232 : decode cX14_keeps 232 = .ok (.ifCond .le 41, 3) := by decide +kernel
theorem dX14_keeps_235 : decode cX14_keeps 235 = .ok (.aload_n 2, 1) := by decide +kernel
theorem dX14_keeps_236 : decode cX14_keeps 236 = .ok (.iload 5, 2) := by decide +kernel
theorem dX14_keeps_238 : decode cX14_keeps 238 = .ok (.iconst 1, 1) := by decide +kernel
theorem dX14_keeps_239 : decode cX14_keeps 239 = .ok (.isub, 1) := by decide +kernel
theorem dX14_keeps_240 : decode cX14_keeps 240 = .ok (.iaload, 1) := by decide +kernel
theorem dX14_keeps_241 : decode cX14_keeps 241 = .ok (.ifCond .le 32, 3) := by decide +kernel
theorem dX14_keeps_244 : decode cX14_keeps 244 = .ok (.aload_n 2, 1) := by decide +kernel
theorem dX14_keeps_245 : decode cX14_keeps 245 = .ok (.iload 5, 2) := by decide +kernel
theorem dX14_keeps_247 : decode cX14_keeps 247 = .ok (.iaload, 1) := by decide +kernel
theorem dX14_keeps_248 : decode cX14_keeps 248 = .ok (.ifCond .le 25, 3) := by decide +kernel
theorem dX14_keeps_251 : decode cX14_keeps 251 = .ok (.bipush 96, 2) := by decide +kernel
theorem dX14_keeps_253 : decode cX14_keeps 253 = .ok (.aload 4, 2) := by decide +kernel
theorem dX14_keeps_255 : decode cX14_keeps 255 = .ok (.iload 5, 2) := by decide +kernel
theorem dX14_keeps_257 : decode cX14_keeps 257 = .ok (.iconst 1, 1) := by decide +kernel
theorem dX14_keeps_258 : decode cX14_keeps 258 = .ok (.isub, 1) := by decide +kernel
theorem dX14_keeps_259 : decode cX14_keeps 259 = .ok (.iaload, 1) := by decide +kernel
theorem dX14_keeps_260 : decode cX14_keeps 260 = .ok (.isub, 1) := by decide +kernel
theorem dX14_keeps_261 : decode cX14_keeps 261 = .ok (.aload_n 3, 1) := by decide +kernel
theorem dX14_keeps_262 : decode cX14_keeps 262 = .ok (.iload 5, 2) := by decide +kernel
theorem dX14_keeps_264 : decode cX14_keeps 264 = .ok (.iaload, 1) := by decide +kernel
theorem dX14_keeps_265 : decode cX14_keeps 265 = .ok (.iadd, 1) := by decide +kernel
theorem dX14_keeps_266 : decode cX14_keeps 266 = .ok (.bipush 44, 2) := by decide +kernel
theorem dX14_keeps_268 : decode cX14_keeps 268 = .ok (.if_icmp .ge 5, 3) := by decide +kernel
theorem dX14_keeps_271 : decode cX14_keeps 271 = .ok (.iconst 0, 1) := by decide +kernel
theorem dX14_keeps_272 : decode cX14_keeps 272 = .ok (.ireturn, 1) := by decide +kernel
theorem dX14_keeps_273 : decode cX14_keeps 273 = .ok (.iconst 0, 1) := by decide +kernel
theorem dX14_keeps_274 : decode cX14_keeps 274 = .ok (.istore 6, 2) := by decide +kernel
theorem dX14_keeps_276 : decode cX14_keeps 276 = .ok (.iload 5, 2) := by decide +kernel
theorem dX14_keeps_278 : decode cX14_keeps 278 = .ok (.istore 7, 2) := by decide +kernel
theorem dX14_keeps_280 : decode cX14_keeps 280 = .ok (.iload 7, 2) := by decide +kernel
theorem dX14_keeps_282 : decode cX14_keeps 282 = .ok (.sipush 400, 3) := by decide +kernel
theorem dX14_keeps_285 : decode cX14_keeps 285 = .ok (.iload 5, 2) := by decide +kernel
theorem dX14_keeps_287 : decode cX14_keeps 287 = .ok (.bipush 7, 2) := by decide +kernel
theorem dX14_keeps_289 : decode cX14_keeps 289 = .ok (.iadd, 1) := by decide +kernel
theorem dX14_keeps_290 : decode cX14_keeps 290 = .ok (.invokestatic 241, 3) := by decide +kernel
theorem dX14_keeps_293 : decode cX14_keeps 293 = .ok (.if_icmp .ge 18, 3) := by decide +kernel
theorem dX14_keeps_296 : decode cX14_keeps 296 = .ok (.iload 6, 2) := by decide +kernel
theorem dX14_keeps_298 : decode cX14_keeps 298 = .ok (.aload_n 2, 1) := by decide +kernel
theorem dX14_keeps_299 : decode cX14_keeps 299 = .ok (.iload 7, 2) := by decide +kernel
theorem dX14_keeps_301 : decode cX14_keeps 301 = .ok (.iaload, 1) := by decide +kernel
theorem dX14_keeps_302 : decode cX14_keeps 302 = .ok (.iadd, 1) := by decide +kernel
theorem dX14_keeps_303 : decode cX14_keeps 303 = .ok (.istore 6, 2) := by decide +kernel
theorem dX14_keeps_305 : decode cX14_keeps 305 = .ok (.iinc 7 1, 3) := by decide +kernel
theorem dX14_keeps_308 : decode cX14_keeps 308 = .ok (.goto (-28), 3) := by decide +kernel
theorem dX14_keeps_311 : decode cX14_keeps 311 = .ok (.iload 6, 2) := by decide +kernel
theorem dX14_keeps_313 : decode cX14_keeps 313 = .ok (.bipush 8, 2) := by decide +kernel
theorem dX14_keeps_315 : decode cX14_keeps 315 = .ok (.if_icmp .le 5, 3) := by decide +kernel
theorem dX14_keeps_318 : decode cX14_keeps 318 = .ok (.iconst 0, 1) := by decide +kernel
theorem dX14_keeps_319 : decode cX14_keeps 319 = .ok (.ireturn, 1) := by decide +kernel
theorem dX14_keeps_320 : decode cX14_keeps 320 = .ok (.iinc 5 1, 3) := by decide +kernel
theorem dX14_keeps_323 : decode cX14_keeps 323 = .ok (.goto (-101), 3) := by decide +kernel
theorem dX14_keeps_326 : decode cX14_keeps 326 = .ok (.iconst 1, 1) := by decide +kernel
theorem dX14_keeps_327 : decode cX14_keeps 327 = .ok (.ireturn, 1) := by decide +kernel
set_option maxRecDepth 20000 in
theorem ggX14_booked_Jx4a65c_init_da8c8 : GoodIn wsX14_booked wsJx4a65c_init_da8c8 := goodIn_r _ [8, 9, 10, 11, 12, 13, 14, 15, 16, 17, 18, 19, 20, 21, 22, 147, 148, 149] (by decide +kernel) (by decide +kernel)
set_option maxRecDepth 20000 in
theorem gX14_booked_Jx4a65c_init_da8c8 : GoodIn wsX14_booked (wsJx4a65c_init_da8c8) := ggX14_booked_Jx4a65c_init_da8c8
set_option maxRecDepth 20000 in
theorem ggX14_booked_Jx4a65c_iterator_32c93 : GoodIn wsX14_booked wsJx4a65c_iterator_32c93 := goodIn_r _ [26, 27, 28, 29, 30, 31, 32, 33, 34, 21, 22, 35, 36, 37, 38, 156, 157, 158, 159, 147, 148, 149] (by decide +kernel) (by decide +kernel)
set_option maxRecDepth 20000 in
theorem gX14_booked_Jx4a65c_iterator_32c93 : GoodIn wsX14_booked (wsV RX14 59 RJx4a65c yJx4a65c_iterator_32c93 wsJx4a65c_iterator_32c93) := goodIn_app (goodIn_of _ (by decide +kernel)) ggX14_booked_Jx4a65c_iterator_32c93
set_option maxRecDepth 20000 in
theorem ggX14_booked_Jx35411_hasNext_aae02 : GoodIn wsX14_booked wsJx35411_hasNext_aae02 := goodIn_r _ [42, 43, 33, 156, 157, 158, 159, 147, 148, 149] (by decide +kernel) (by decide +kernel)
set_option maxRecDepth 20000 in
theorem gX14_booked_Jx35411_hasNext_aae02_f63Jx35411 : GoodIn wsX14_booked (va_wsF RX14 63 RJx35411 ⟨"java/util/Iterator", "hasNext", "()Z"⟩ yJx35411_hasNext_aae02 wsJx35411_hasNext_aae02) := goodIn_app (goodIn_of _ (by decide +kernel)) ggX14_booked_Jx35411_hasNext_aae02
set_option maxRecDepth 20000 in
theorem ggX14_booked_Jx95556_hasNext_aae02 : GoodIn wsX14_booked wsJx95556_hasNext_aae02 := goodIn_r _ [47, 48, 49, 160, 161, 162, 163] (by decide +kernel) (by decide +kernel)
set_option maxRecDepth 20000 in
theorem gX14_booked_Jx95556_hasNext_aae02_f63Jx95556 : GoodIn wsX14_booked (va_wsF RX14 63 RJx95556 ⟨"java/util/Iterator", "hasNext", "()Z"⟩ yJx95556_hasNext_aae02 wsJx95556_hasNext_aae02) := goodIn_app (goodIn_of _ (by decide +kernel)) ggX14_booked_Jx95556_hasNext_aae02
set_option maxRecDepth 20000 in
theorem ggX14_booked_Jx35411_next_0502b : GoodIn wsX14_booked wsJx35411_next_0502b := goodIn_r _ [53, 43, 33, 54, 35, 55, 56, 57, 29, 58, 36, 37, 38, 156, 157, 158, 159, 147, 148, 149] (by decide +kernel) (by decide +kernel)
set_option maxRecDepth 20000 in
theorem gX14_booked_Jx35411_next_0502b_f69Jx35411 : GoodIn wsX14_booked (va_wsF RX14 69 RJx35411 ⟨"java/util/Iterator", "next", "()Ljava/lang/Object;"⟩ yJx35411_next_0502b wsJx35411_next_0502b) := goodIn_app (goodIn_of _ (by decide +kernel)) ggX14_booked_Jx35411_next_0502b
set_option maxRecDepth 20000 in
theorem ggX14_booked_Jx95556_next_0502b : GoodIn wsX14_booked wsJx95556_next_0502b := goodIn_r _ [61, 48, 62, 63, 64, 65, 3, 66, 67, 68, 69, 70, 71, 72, 73, 74, 75, 76, 77, 78, 79, 10, 80, 81, 82, 83, 84, 85, 160, 161, 162, 163, 147, 148, 149, 164, 165] (by decide +kernel) (by decide +kernel)
set_option maxRecDepth 20000 in
theorem gX14_booked_Jx95556_next_0502b_f69Jx95556 : GoodIn wsX14_booked (va_wsF RX14 69 RJx95556 ⟨"java/util/Iterator", "next", "()Ljava/lang/Object;"⟩ yJx95556_next_0502b wsJx95556_next_0502b) := goodIn_app (goodIn_of _ (by decide +kernel)) ggX14_booked_Jx95556_next_0502b
set_option maxRecDepth 20000 in
theorem ggX14_booked_X12_has : GoodIn wsX14_booked wsX12_has := goodIn_ca (goodIn_r _ [90, 91, 92, 166, 167, 168, 169, 170, 171, 172, 173, 174, 175, 176, 177] (by decide +kernel) (by decide +kernel)) (goodIn_sub (fun _ h => List.mem_cons_of_mem _ (List.mem_append_right _ h)) (by decide +kernel))
set_option maxRecDepth 20000 in
theorem gX14_booked_X12_has : GoodIn wsX14_booked (wsV RX14 126 RX12 yX12_has wsX12_has) := goodIn_app (goodIn_of _ (by decide +kernel)) ggX14_booked_X12_has
set_option maxRecDepth 20000 in
theorem ggX14_booked_Jx4a65c_add_9ea2d : GoodIn wsX14_booked wsJx4a65c_add_9ea2d := goodIn_r _ [96, 97, 37, 10, 67, 98, 99, 100, 3, 101, 102, 103, 104, 105, 106, 107, 108, 109, 9, 110, 111, 112, 113, 114, 115, 116, 117, 118, 119, 120, 121, 122, 123, 124, 125, 126, 127, 128, 129, 130, 131, 132, 133, 134, 135, 136, 137, 138, 139, 140, 141, 142, 143, 144, 145, 146, 147, 148, 149, 178, 179, 180, 181] (by decide +kernel) (by decide +kernel)
set_option maxRecDepth 20000 in
theorem gX14_booked_Jx4a65c_add_9ea2d : GoodIn wsX14_booked (wsV RX14 52 RJx4a65c yJx4a65c_add_9ea2d wsJx4a65c_add_9ea2d) := goodIn_app (goodIn_of _ (by decide +kernel)) ggX14_booked_Jx4a65c_add_9ea2d
theorem dX14_booked_0 : decode cX14_booked 0 = .ok (.new 7, 3) := by decide +kernel
theorem dX14_booked_3 : decode cX14_booked 3 = .ok (.dup, 1) := by decide +kernel
theorem dX14_booked_4 : decode cX14_booked 4 = .ok (.invokespecial 9, 3) := by decide +kernel
theorem dX14_booked_7 : decode cX14_booked 7 = .ok (.astore_n 3, 1) := by decide +kernel
theorem dX14_booked_8 : decode cX14_booked 8 = .ok (.aload_n 0, 1) := by decide +kernel
theorem dX14_booked_9 : decode cX14_booked 9 = .ok (.getfield 25, 3) := by decide +kernel
theorem dX14_booked_12 : decode cX14_booked 12 = .ok (.invokevirtual 59, 3) := by decide +kernel
theorem dX14_booked_15 : decode cX14_booked 15 = .ok (.astore 4, 2) := by decide +kernel
theorem dX14_booked_17 : decode cX14_booked 17 = .ok (.aload 4, 2) := by decide +kernel
theorem dX14_booked_19 : decode cX14_booked 19 = .ok (.invokeinterface 63 1, 5) := by decide +kernel
theorem dX14_booked_24 : decode cX14_booked 24 = .ok (.ifCond .eq 40, 3) := by decide +kernel
theorem dX14_booked_27 : decode cX14_booked 27 = .ok (.aload 4, 2) := by decide +kernel
theorem dX14_booked_29 : decode cX14_booked 29 = .ok (.invokeinterface 69 1, 5) := by decide +kernel
theorem dX14_booked_34 : decode cX14_booked 34 = .ok (.checkcast 73, 3) := by decide +kernel
theorem dX14_booked_37 : decode cX14_booked 37 = .ok (.astore 5, 2) := by decide +kernel
theorem dX14_booked_39 : decode cX14_booked 39 = .ok (.aload 5, 2) := by decide +kernel
theorem dX14_booked_41 : decode cX14_booked 41 = .ok (.aload_n 2, 1) := by decide +kernel
theorem dX14_booked_42 : decode cX14_booked 42 = .ok (.if_acmp .eq 19, 3) := by decide +kernel
theorem dX14_booked_45 : decode cX14_booked 45 = .ok (.aload 5, 2) := by decide +kernel
theorem dX14_booked_47 : decode cX14_booked 47 = .ok (.iload_n 1, 1) := by decide +kernel
theorem dX14_booked_48 : decode cX14_booked 48 = .ok (.invokevirtual 126, 3) := by decide +kernel
theorem dX14_booked_51 : decode cX14_booked 51 = .ok (.ifCond .eq 10, 3) := by decide +kernel
theorem dX14_booked_54 : decode cX14_booked 54 = .ok (.aload_n 3, 1) := by decide +kernel
theorem dX14_booked_55 : decode cX14_booked 55 = .ok (.aload 5, 2) := by decide +kernel
theorem dX14_booked_57 : decode cX14_booked 57 = .ok (.invokevirtual 52, 3) := by decide +kernel
theorem dX14_booked_60 : decode cX14_booked 60 = .ok (.pop, 1) := by decide +kernel
theorem dX14_booked_61 : decode cX14_booked 61 = .ok (.goto (-44), 3) := by decide +kernel
theorem dX14_booked_64 : decode cX14_booked 64 = .ok (.aload_n 3, 1) := by decide +kernel
theorem dX14_booked_65 : decode cX14_booked 65 = .ok (.areturn, 1) := by decide +kernel
set_option maxRecDepth 20000 in
theorem ggX14_free_Jx4a65c_get_915e3 : GoodIn wsX14_free wsJx4a65c_get_915e3 := goodIn_r _ [8, 9, 10, 11, 12, 13, 14, 15, 16, 17, 18, 19, 20, 7, 21, 22, 223, 224, 225] (by decide +kernel) (by decide +kernel)
set_option maxRecDepth 20000 in
theorem gX14_free_Jx4a65c_get_915e3 : GoodIn wsX14_free (wsV RX14 89 RJx4a65c yJx4a65c_get_915e3 wsJx4a65c_get_915e3) := goodIn_app (goodIn_of _ (by decide +kernel)) ggX14_free_Jx4a65c_get_915e3
set_option maxRecDepth 20000 in
theorem ggX14_free_X11_isAway : GoodIn wsX14_free wsX11_isAway := goodIn_ca (goodIn_r _ [27, 28, 29, 30, 31, 32, 7, 33, 34, 35, 36, 37, 38, 39, 40, 41, 42, 43, 44, 45, 46, 47, 48, 49, 50, 51, 52, 53, 54, 55, 56, 57, 58, 59, 60, 61, 62, 63, 64, 65, 66, 67, 68, 69, 70, 71, 72, 73, 5, 8, 9, 10, 11, 12, 13, 14, 15, 16, 17, 18, 19, 20, 21, 22, 74, 75, 76, 77, 78, 79, 226, 227, 228, 229, 230, 231, 232, 233, 234, 223, 224, 225, 235, 236, 237, 238, 239, 240] (by decide +kernel) (by decide +kernel)) (goodIn_sub (fun _ h => List.mem_cons_of_mem _ (List.mem_append_right _ h)) (by decide +kernel))
set_option maxRecDepth 20000 in
theorem gX14_free_X11_isAway : GoodIn wsX14_free (wsV RX14 248 RX11 yX11_isAway wsX11_isAway) := goodIn_app (goodIn_of _ (by decide +kernel)) ggX14_free_X11_isAway
set_option maxRecDepth 20000 in
theorem ggX14_free_X14_booked : GoodIn wsX14_free wsX14_booked := goodIn_ca (goodIn_r _ [84, 85, 86, 7, 87, 88, 89, 90, 91, 92, 22, 93, 94, 95, 96, 97, 98, 99, 100, 101, 102, 42, 43, 103, 31, 32, 33, 34, 35, 36, 37, 38, 39, 40, 41, 44, 45, 46, 47, 104, 49, 50, 51, 52, 53, 54, 55, 56, 57, 58, 105, 60, 61, 62, 63, 64, 65, 66, 67, 68, 69, 70, 71, 72, 73, 5, 8, 9, 10, 11, 12, 13, 14, 15, 16, 17, 18, 19, 20, 21, 74, 75, 76, 77, 78, 79, 106, 107, 108, 109, 110, 111, 112, 113, 114, 115, 116, 117, 118, 119, 120, 121, 122, 123, 124, 125, 126, 127, 128, 129, 130, 131, 132, 133, 134, 135, 136, 137, 138, 139, 140, 141, 142, 143, 144, 145, 146, 147, 148, 149, 150, 151, 152, 153, 154, 155, 156, 157, 158, 159, 160, 161, 162, 163, 164, 165, 166, 223, 224, 225, 205, 206, 207, 208, 209, 210, 231, 232, 233, 234, 235, 236, 237, 238, 239, 240, 211, 212, 213, 214, 215, 216, 217, 218, 219, 220, 221, 222, 241, 242, 243, 244] (by decide +kernel) (by decide +kernel)) (goodIn_sub (fun _ h => List.mem_cons_of_mem _ (List.mem_append_right _ h)) (by decide +kernel))
set_option maxRecDepth 20000 in
theorem gX14_free_X14_booked : GoodIn wsX14_free (wsV RX14 251 RX14 yX14_booked wsX14_booked) := goodIn_app (goodIn_of _ (by decide +kernel)) ggX14_free_X14_booked
set_option maxRecDepth 20000 in
theorem ggX14_free_Jx4a65c_add_9ea2d : GoodIn wsX14_free wsJx4a65c_add_9ea2d := goodIn_r _ [116, 117, 46, 22, 9, 118, 119, 120, 7, 121, 122, 123, 124, 125, 126, 127, 128, 129, 92, 130, 131, 132, 133, 134, 135, 136, 137, 138, 139, 140, 141, 142, 143, 144, 145, 146, 147, 148, 149, 150, 151, 152, 153, 154, 155, 156, 157, 158, 159, 160, 161, 162, 163, 164, 165, 166, 223, 224, 225, 241, 242, 243, 244] (by decide +kernel) (by decide +kernel)
set_option maxRecDepth 20000 in
theorem gX14_free_Jx4a65c_add_9ea2d_f255Jx4a65c : GoodIn wsX14_free (va_wsF RX14 255 RJx4a65c ⟨"java/util/List", "add", "(Ljava/lang/Object;)Z"⟩ yJx4a65c_add_9ea2d wsJx4a65c_add_9ea2d) := goodIn_app (goodIn_of _ (by decide +kernel)) ggX14_free_Jx4a65c_add_9ea2d
set_option maxRecDepth 20000 in
theorem ggX14_free_Jxe2765_add_9ea2d : GoodIn wsX14_free wsJxe2765_add_9ea2d := goodIn_r _ [172] (by decide +kernel) (by decide +kernel)
set_option maxRecDepth 20000 in
theorem gX14_free_Jxe2765_add_9ea2d_f255Jx6a02c : GoodIn wsX14_free (va_wsF RX14 255 RJx6a02c ⟨"java/util/List", "add", "(Ljava/lang/Object;)Z"⟩ yJxe2765_add_9ea2d wsJxe2765_add_9ea2d) := goodIn_app (goodIn_of _ (by decide +kernel)) ggX14_free_Jxe2765_add_9ea2d
set_option maxRecDepth 20000 in
theorem ggX14_free_X14_keeps : GoodIn wsX14_free wsX14_keeps := goodIn_ca (goodIn_r _ [176, 177, 88, 3, 178, 179, 161, 132, 162, 180, 131, 133, 181, 182, 31, 7, 33, 34, 35, 36, 37, 38, 39, 40, 41, 42, 43, 44, 45, 46, 47, 183, 184, 185, 186, 187, 188, 55, 189, 190, 191, 192, 76, 193, 79, 194, 195, 196, 197, 71, 58, 57, 198, 104, 49, 50, 51, 52, 53, 54, 56, 105, 60, 61, 62, 63, 64, 65, 66, 67, 68, 69, 70, 72, 73, 5, 8, 9, 10, 11, 12, 13, 14, 15, 16, 17, 18, 19, 20, 21, 22, 74, 75, 77, 78, 199, 200, 201, 109, 202, 203, 204, 211, 212, 213, 214, 215, 216, 217, 218, 219, 220, 221, 222, 231, 232, 233, 234, 223, 224, 225, 235, 236, 237, 238, 239, 240] (by decide +kernel) (by decide +kernel)) (goodIn_sub (fun _ h => List.mem_cons_of_mem _ (List.mem_append_right _ h)) (by decide +kernel))
set_option maxRecDepth 20000 in
theorem gX14_free_X14_keeps : GoodIn wsX14_free (wsV RX14 256 RX14 yX14_keeps wsX14_keeps) := goodIn_app (goodIn_of _ (by decide +kernel)) ggX14_free_X14_keeps
theorem dX14_free_0 : decode cX14_free 0 = .ok (.aload_n 0, 1) := by decide +kernel
theorem dX14_free_1 : decode cX14_free 1 = .ok (.getfield 16, 3) := by decide +kernel
theorem dX14_free_4 : decode cX14_free 4 = .ok (.iload_n 1, 1) := by decide +kernel
theorem dX14_free_5 : decode cX14_free 5 = .ok (.invokevirtual 89, 3) := by decide +kernel
theorem dX14_free_8 : decode cX14_free 8 = .ok (.checkcast 121, 3) := by decide +kernel
theorem dX14_free_11 : decode cX14_free 11 = .ok (.aload_n 2, 1) := by decide +kernel
theorem dX14_free_12 : decode cX14_free 12 = .ok (.getfield 129, 3) := by decide +kernel
theorem dX14_free_15 : decode cX14_free 15 = .ok (.invokevirtual 248, 3) := by decide +kernel
theorem dX14_free_18 : decode cX14_free 18 = .ok (.ifCond .eq 5, 3) := by decide +kernel
theorem dX14_free_21 : decode cX14_free 21 = .ok (.iconst 0, 1) := by decide +kernel
theorem dX14_free_22 : decode cX14_free 22 = .ok (.ireturn, 1) := by decide +kernel
theorem dX14_free_23 : decode cX14_free 23 = .ok (.aload_n 0, 1) := by decide +kernel
theorem dX14_free_24 : decode cX14_free 24 = .ok (.iload_n 1, 1) := by decide +kernel
theorem dX14_free_25 : decode cX14_free 25 = .ok (.aload_n 2, 1) := by decide +kernel
theorem dX14_free_26 : decode cX14_free 26 = .ok (.invokevirtual 251, 3) := by decide +kernel
theorem dX14_free_29 : decode cX14_free 29 = .ok (.astore_n 3, 1) := by decide +kernel
theorem dX14_free_30 : decode cX14_free 30 = .ok (.aload_n 3, 1) := by decide +kernel
theorem dX14_free_31 : decode cX14_free 31 = .ok (.aload_n 2, 1) := by decide +kernel
theorem dX14_free_32 : decode cX14_free 32 = .ok (.invokeinterface 255 2, 5) := by decide +kernel
theorem dX14_free_37 : decode cX14_free 37 = .ok (.pop, 1) := by decide +kernel
theorem dX14_free_38 : decode cX14_free 38 = .ok (.aload_n 0, 1) := by decide +kernel
theorem dX14_free_39 : decode cX14_free 39 = .ok (.aload_n 3, 1) := by decide +kernel
theorem dX14_free_40 : decode cX14_free 40 = .ok (.invokevirtual 256, 3) := by decide +kernel
theorem dX14_free_43 : decode cX14_free 43 = .ok (.ireturn, 1) := by decide +kernel
set_option maxRecDepth 20000 in
theorem ggX14_casts_X12_clear : GoodIn wsX14_casts wsX12_clear := goodIn_r _ [26, 27, 28, 29, 30, 31, 559, 560, 561, 562, 563, 564, 565, 566, 567, 568, 569, 570] (by decide +kernel) (by decide +kernel)
set_option maxRecDepth 20000 in
theorem gX14_casts_X12_clear : GoodIn wsX14_casts (wsV RX14 260 RX12 yX12_clear wsX12_clear) := goodIn_app (goodIn_of _ (by decide +kernel)) ggX14_casts_X12_clear
set_option maxRecDepth 20000 in
theorem ggX14_casts_Jx4a65c_iterator_32c93 : GoodIn wsX14_casts wsJx4a65c_iterator_32c93 := goodIn_r _ [36, 37, 38, 39, 40, 41, 42, 43, 44, 45, 46, 47, 48, 49, 50, 596, 597, 598, 599, 600, 601, 602] (by decide +kernel) (by decide +kernel)
set_option maxRecDepth 20000 in
theorem gX14_casts_Jx4a65c_iterator_32c93 : GoodIn wsX14_casts (wsV RX14 59 RJx4a65c yJx4a65c_iterator_32c93 wsJx4a65c_iterator_32c93) := goodIn_app (goodIn_of _ (by decide +kernel)) ggX14_casts_Jx4a65c_iterator_32c93
set_option maxRecDepth 20000 in
theorem ggX14_casts_Jx35411_hasNext_aae02 : GoodIn wsX14_casts wsJx35411_hasNext_aae02 := goodIn_r _ [54, 55, 43, 596, 597, 598, 599, 600, 601, 602] (by decide +kernel) (by decide +kernel)
set_option maxRecDepth 20000 in
theorem gX14_casts_Jx35411_hasNext_aae02_f63Jx35411 : GoodIn wsX14_casts (va_wsF RX14 63 RJx35411 ⟨"java/util/Iterator", "hasNext", "()Z"⟩ yJx35411_hasNext_aae02 wsJx35411_hasNext_aae02) := goodIn_app (goodIn_of _ (by decide +kernel)) ggX14_casts_Jx35411_hasNext_aae02
set_option maxRecDepth 20000 in
theorem ggX14_casts_Jx95556_hasNext_aae02 : GoodIn wsX14_casts wsJx95556_hasNext_aae02 := goodIn_r _ [59, 60, 61, 603, 604, 605, 606] (by decide +kernel) (by decide +kernel)
set_option maxRecDepth 20000 in
theorem gX14_casts_Jx95556_hasNext_aae02_f63Jx95556 : GoodIn wsX14_casts (va_wsF RX14 63 RJx95556 ⟨"java/util/Iterator", "hasNext", "()Z"⟩ yJx95556_hasNext_aae02 wsJx95556_hasNext_aae02) := goodIn_app (goodIn_of _ (by decide +kernel)) ggX14_casts_Jx95556_hasNext_aae02
set_option maxRecDepth 20000 in
theorem ggX14_casts_Jx35411_next_0502b : GoodIn wsX14_casts wsJx35411_next_0502b := goodIn_r _ [65, 55, 43, 66, 47, 67, 68, 69, 39, 70, 48, 49, 50, 596, 597, 598, 599, 600, 601, 602] (by decide +kernel) (by decide +kernel)
set_option maxRecDepth 20000 in
theorem gX14_casts_Jx35411_next_0502b_f69Jx35411 : GoodIn wsX14_casts (va_wsF RX14 69 RJx35411 ⟨"java/util/Iterator", "next", "()Ljava/lang/Object;"⟩ yJx35411_next_0502b wsJx35411_next_0502b) := goodIn_app (goodIn_of _ (by decide +kernel)) ggX14_casts_Jx35411_next_0502b
set_option maxRecDepth 20000 in
theorem ggX14_casts_Jx95556_next_0502b : GoodIn wsX14_casts wsJx95556_next_0502b := goodIn_r _ [73, 60, 74, 75, 76, 77, 35, 78, 79, 80, 81, 82, 83, 84, 85, 86, 87, 88, 89, 90, 91, 92, 93, 94, 95, 96, 97, 98, 603, 604, 605, 606, 600, 601, 602, 607, 608] (by decide +kernel) (by decide +kernel)
set_option maxRecDepth 20000 in
theorem gX14_casts_Jx95556_next_0502b_f69Jx95556 : GoodIn wsX14_casts (va_wsF RX14 69 RJx95556 ⟨"java/util/Iterator", "next", "()Ljava/lang/Object;"⟩ yJx95556_next_0502b wsJx95556_next_0502b) := goodIn_app (goodIn_of _ (by decide +kernel)) ggX14_casts_Jx95556_next_0502b
set_option maxRecDepth 20000 in
theorem ggX14_casts_J6_intValue_8abf5 : GoodIn wsX14_casts wsJ6_intValue_8abf5 := goodIn_r _ [103, 104, 609] (by decide +kernel) (by decide +kernel)
set_option maxRecDepth 20000 in
theorem gX14_casts_J6_intValue_8abf5 : GoodIn wsX14_casts (wsV RX14 181 RJ6 yJ6_intValue_8abf5 wsJ6_intValue_8abf5) := goodIn_app (goodIn_of _ (by decide +kernel)) ggX14_casts_J6_intValue_8abf5
set_option maxRecDepth 20000 in
theorem ggX14_casts_Jx4a65c_get_915e3 : GoodIn wsX14_casts wsJx4a65c_get_915e3 := goodIn_r _ [78, 79, 80, 81, 82, 83, 84, 85, 86, 87, 88, 89, 90, 35, 91, 92, 600, 601, 602] (by decide +kernel) (by decide +kernel)
set_option maxRecDepth 20000 in
theorem gX14_casts_Jx4a65c_get_915e3 : GoodIn wsX14_casts (wsV RX14 89 RJx4a65c yJx4a65c_get_915e3 wsJx4a65c_get_915e3) := goodIn_app (goodIn_of _ (by decide +kernel)) ggX14_casts_Jx4a65c_get_915e3
set_option maxRecDepth 20000 in
theorem ggX14_casts_X13_isThere : GoodIn wsX14_casts wsX13_isThere := goodIn_ca (goodIn_r _ [111, 112, 113, 114, 115, 33, 34, 35, 36, 37, 38, 39, 40, 41, 42, 43, 44, 45, 46, 47, 48, 49, 50, 116, 52, 53, 54, 55, 56, 57, 58, 59, 60, 61, 117, 63, 64, 65, 66, 67, 68, 69, 70, 71, 72, 73, 74, 75, 76, 77, 78, 79, 80, 81, 82, 83, 84, 85, 86, 87, 88, 89, 90, 91, 92, 93, 94, 95, 96, 97, 98, 577, 578, 579, 580, 581, 596, 597, 598, 599, 600, 601, 602, 603, 604, 605, 606, 607, 608] (by decide +kernel) (by decide +kernel)) (goodIn_sub (fun _ h => List.mem_cons_of_mem _ (List.mem_append_right _ h)) (by decide +kernel))
set_option maxRecDepth 20000 in
theorem gX14_casts_X13_isThere : GoodIn wsX14_casts (wsV RX14 118 RX13 yX13_isThere wsX13_isThere) := goodIn_app (goodIn_of _ (by decide +kernel)) ggX14_casts_X13_isThere
set_option maxRecDepth 20000 in
theorem ggX14_casts_Jx4a65c_size_8abf5 : GoodIn wsX14_casts wsJx4a65c_size_8abf5 := goodIn_r _ [121, 79, 600, 601, 602] (by decide +kernel) (by decide +kernel)
set_option maxRecDepth 20000 in
theorem gX14_casts_Jx4a65c_size_8abf5 : GoodIn wsX14_casts (wsV RX14 46 RJx4a65c yJx4a65c_size_8abf5 wsJx4a65c_size_8abf5) := goodIn_app (goodIn_of _ (by decide +kernel)) ggX14_casts_Jx4a65c_size_8abf5
set_option maxRecDepth 20000 in
theorem ggX14_casts_X14_free : GoodIn wsX14_casts wsX14_free := goodIn_ca (goodIn_r _ [126, 13, 15, 11, 105, 77, 106, 35, 78, 79, 80, 81, 82, 83, 84, 85, 86, 87, 88, 89, 90, 91, 92, 127, 128, 129, 130, 131, 132, 133, 134, 33, 34, 36, 37, 38, 39, 40, 41, 42, 43, 44, 45, 46, 47, 48, 49, 50, 135, 52, 53, 54, 55, 56, 57, 58, 59, 60, 61, 136, 63, 64, 65, 66, 67, 68, 69, 70, 71, 72, 73, 74, 75, 76, 93, 94, 95, 96, 97, 98, 137, 138, 139, 125, 140, 141, 142, 143, 144, 145, 146, 147, 148, 149, 150, 151, 152, 153, 154, 155, 156, 157, 158, 32, 51, 62, 159, 160, 161, 25, 162, 27, 163, 164, 165, 166, 167, 168, 169, 170, 171, 172, 173, 174, 175, 176, 177, 178, 179, 180, 181, 182, 183, 184, 185, 186, 187, 188, 189, 190, 191, 192, 193, 194, 195, 196, 197, 198, 199, 30, 200, 201, 202, 203, 204, 205, 206, 207, 208, 209, 210, 211, 212, 213, 214, 215, 216, 217, 218, 219, 220, 221, 222, 223, 224, 225, 226, 12, 227, 228, 229, 230, 231, 232, 233, 234, 235, 236, 237, 238, 239, 240, 241, 242, 243, 244, 245, 246, 247, 248, 249, 250, 251, 252, 253, 571, 572, 573, 574, 575, 576, 559, 560, 561, 562, 563, 564, 565, 566, 567, 568, 569, 570, 600, 601, 602, 585, 586, 587, 588, 589, 596, 597, 598, 599, 603, 604, 605, 606, 607, 608, 610, 611, 612, 613] (by decide +kernel) (by decide +kernel)) (goodIn_sub (fun _ h => List.mem_cons_of_mem _ (List.mem_append_right _ h)) (by decide +kernel))
set_option maxRecDepth 20000 in
theorem gX14_casts_X14_free : GoodIn wsX14_casts (wsV RX14 266 RX14 yX14_free wsX14_free) := goodIn_app (goodIn_of _ (by decide +kernel)) ggX14_casts_X14_free
set_option maxRecDepth 20000 in
theorem ggX14_casts_X14_booked : GoodIn wsX14_casts wsX14_booked := goodIn_ca (goodIn_r _ [140, 141, 142, 35, 143, 144, 145, 146, 147, 148, 92, 149, 150, 151, 152, 153, 154, 155, 156, 157, 158, 45, 46, 32, 33, 34, 36, 37, 38, 39, 40, 41, 42, 43, 44, 47, 48, 49, 50, 51, 52, 53, 54, 55, 56, 57, 58, 59, 60, 61, 62, 63, 64, 65, 66, 67, 68, 69, 70, 71, 72, 73, 74, 75, 76, 77, 78, 79, 80, 81, 82, 83, 84, 85, 86, 87, 88, 89, 90, 91, 93, 94, 95, 96, 97, 98, 159, 160, 161, 25, 162, 27, 163, 164, 165, 166, 167, 168, 169, 170, 171, 172, 173, 174, 175, 176, 177, 178, 179, 180, 181, 182, 183, 184, 185, 186, 187, 188, 189, 190, 191, 192, 193, 194, 195, 196, 197, 198, 199, 30, 200, 201, 202, 203, 204, 205, 206, 207, 208, 209, 210, 211, 212, 213, 214, 215, 216, 600, 601, 602, 571, 572, 573, 574, 575, 576, 596, 597, 598, 599, 603, 604, 605, 606, 607, 608, 559, 560, 561, 562, 563, 564, 565, 566, 567, 568, 569, 570, 610, 611, 612, 613] (by decide +kernel) (by decide +kernel)) (goodIn_sub (fun _ h => List.mem_cons_of_mem _ (List.mem_append_right _ h)) (by decide +kernel))
set_option maxRecDepth 20000 in
theorem gX14_casts_X14_booked : GoodIn wsX14_casts (wsV RX14 251 RX14 yX14_booked wsX14_booked) := goodIn_app (goodIn_of _ (by decide +kernel)) ggX14_casts_X14_booked
set_option maxRecDepth 20000 in
theorem gX14_casts_Jx4a65c_size_8abf5_f32Jx4a65c : GoodIn wsX14_casts (va_wsF RX14 32 RJx4a65c ⟨"java/util/List", "size", "()I"⟩ yJx4a65c_size_8abf5 wsJx4a65c_size_8abf5) := goodIn_app (goodIn_of _ (by decide +kernel)) ggX14_casts_Jx4a65c_size_8abf5
set_option maxRecDepth 20000 in
theorem ggX14_casts_Jx6a02c_size_8abf5 : GoodIn wsX14_casts wsJx6a02c_size_8abf5 := goodIn_r _ [242, 98, 607, 608] (by decide +kernel) (by decide +kernel)
set_option maxRecDepth 20000 in
theorem gX14_casts_Jx6a02c_size_8abf5_f32Jx6a02c : GoodIn wsX14_casts (va_wsF RX14 32 RJx6a02c ⟨"java/util/List", "size", "()I"⟩ yJx6a02c_size_8abf5 wsJx6a02c_size_8abf5) := goodIn_app (goodIn_of _ (by decide +kernel)) ggX14_casts_Jx6a02c_size_8abf5
set_option maxRecDepth 20000 in
theorem ggX14_casts_X13_all : GoodIn wsX14_casts wsX13_all := goodIn_ca (goodIn_r _ [260, 261, 142, 35, 262, 263, 146, 147, 148, 92, 149, 150, 151, 152, 153, 154, 155, 156, 157, 158, 45, 46, 264, 265, 102, 266, 267, 268, 269, 270, 271, 272, 273, 104, 274, 275, 276, 277, 278, 279, 165, 166, 167, 168, 49, 79, 169, 170, 171, 172, 173, 174, 175, 176, 177, 178, 179, 180, 181, 182, 183, 184, 185, 186, 187, 188, 189, 190, 191, 192, 193, 194, 195, 196, 197, 198, 199, 30, 200, 201, 202, 203, 204, 205, 206, 207, 208, 209, 210, 211, 212, 213, 214, 215, 216, 600, 601, 602, 577, 578, 579, 580, 581, 609, 610, 611, 612, 613] (by decide +kernel) (by decide +kernel)) (goodIn_sub (fun _ h => List.mem_cons_of_mem _ (List.mem_append_right _ h)) (by decide +kernel))
set_option maxRecDepth 20000 in
theorem gX14_casts_X13_all : GoodIn wsX14_casts (wsV RX14 93 RX13 yX13_all wsX13_all) := goodIn_app (goodIn_of _ (by decide +kernel)) ggX14_casts_X13_all
set_option maxRecDepth 20000 in
theorem ggX14_casts_X8_init : GoodIn wsX14_casts wsX8_init := goodIn_r _ [282, 283, 284, 45, 46, 285, 286, 287, 288, 289, 290, 291, 292, 293, 294, 295, 296, 297, 298, 299, 300, 301, 302, 590, 591, 592, 593, 594, 595, 614, 615, 616, 617, 618, 619, 620, 621] (by decide +kernel) (by decide +kernel)
set_option maxRecDepth 20000 in
theorem gX14_casts_X8_init : GoodIn wsX14_casts (wsX8_init) := ggX14_casts_X8_init
set_option maxRecDepth 20000 in
theorem ggX14_casts_X8_row : GoodIn wsX14_casts wsX8_row := goodIn_ca (goodIn_r _ [306, 289, 12, 283, 307, 308, 309, 20, 310, 288, 311, 312, 255, 119, 35, 121, 79, 256, 241, 95, 242, 98, 313, 265, 102, 266, 267, 268, 269, 270, 271, 272, 273, 104, 274, 275, 276, 277, 278, 45, 46, 314, 315, 316, 287, 317, 318, 319, 320, 321, 322, 323, 324, 325, 326, 327, 328, 329, 330, 331, 332, 333, 334, 335, 336, 337, 338, 339, 340, 341, 342, 343, 344, 345, 346, 347, 348, 349, 350, 351, 352, 353, 354, 355, 356, 188, 357, 358, 359, 360, 361, 195, 196, 197, 362, 363, 364, 365, 366, 367, 368, 369, 370, 371, 372, 373, 374, 375, 376, 377, 378, 379, 380, 381, 382, 383, 384, 385, 386, 387, 388, 389, 390, 391, 392, 393, 394, 395, 396, 397, 100, 101, 103, 398, 399, 400, 401, 402, 403, 404, 405, 406, 407, 408, 409, 410, 411, 412, 413, 414, 415, 416, 417, 418, 419, 420, 421, 422, 423, 424, 425, 426, 427, 428, 429, 430, 431, 120, 432, 433, 434, 435, 290, 436, 437, 438, 77, 106, 78, 80, 81, 82, 83, 84, 85, 86, 87, 88, 89, 90, 91, 92, 439, 76, 93, 94, 96, 97, 440, 441, 442, 443, 130, 444, 445, 446, 447, 448, 449, 450, 451, 291, 292, 452, 453, 454, 455, 456, 457, 458, 459, 460, 461, 462, 463, 464, 465, 466, 467, 468, 297, 469, 470, 471, 472, 473, 474, 475, 476, 477, 478, 479, 480, 481, 482, 483, 484, 485, 486, 487, 488, 489, 490, 491, 492, 493, 494, 495, 496, 497, 498, 499, 500, 501, 502, 503, 504, 505, 506, 507, 508, 509, 510, 511, 512, 513, 514, 515, 516, 517, 518, 519, 520, 521, 522, 523, 524, 525, 526, 527, 528, 529, 530, 531, 532, 533, 534, 535, 536, 537, 538, 539, 540, 541, 542, 543, 544, 545, 546, 547, 548, 549, 550, 551, 552, 553, 554, 555, 556, 557, 125, 558, 590, 591, 592, 593, 594, 595, 571, 572, 573, 574, 575, 576, 600, 601, 602, 607, 608, 609, 614, 615, 616, 617, 618, 619, 620, 621, 622, 623, 624, 625, 626, 627, 628, 629, 630, 631, 632, 633, 634, 635, 636, 637, 638, 639, 640, 610, 611, 612, 613, 585, 586, 587, 588, 589] (by decide +kernel) (by decide +kernel)) (goodIn_sub (fun _ h => List.mem_cons_of_mem _ (List.mem_append_right _ h)) (by decide +kernel))
set_option maxRecDepth 20000 in
theorem gX14_casts_X8_row : GoodIn wsX14_casts (wsV RX14 278 RX8 yX8_row wsX8_row) := goodIn_app (goodIn_of _ (by decide +kernel)) ggX14_casts_X8_row
theorem dX14_casts_0 : decode cX14_casts 0 = .ok (.aload_n 1, 1) := by decide +kernel
theorem dX14_casts_1 : decode cX14_casts 1 = .ok (.invokevirtual 260, 3) := by decide +kernel
theorem dX14_casts_4 : decode cX14_casts 4 = .ok (.bipush 14, 2) := by decide +kernel
theorem dX14_casts_6 : decode cX14_casts 6 = .ok (.newarray .boolean, 2) := by decide +kernel
theorem dX14_casts_8 : decode cX14_casts 8 = .ok (.astore_n 2, 1) := by decide +kernel
theorem dX14_casts_9 : decode cX14_casts 9 = .ok (.iconst 0, 1) := by decide +kernel
theorem dX14_casts_10 : decode cX14_casts 10 = .ok (.istore_n 3, 1) := by decide +kernel
theorem dX14_casts_11 : decode cX14_casts 11 = .ok (.aload_n 1, 1) := by decide +kernel
theorem dX14_casts_12 : decode cX14_casts 12 = .ok (.getfield 75, 3) := by decide +kernel
theorem dX14_casts_15 : decode cX14_casts 15 = .ok (.invokevirtual 59, 3) := by decide +kernel
theorem dX14_casts_18 : decode cX14_casts 18 = .ok (.astore 4, 2) := by decide +kernel
theorem dX14_casts_20 : decode cX14_casts 20 = .ok (.aload 4, 2) := by decide +kernel
theorem dX14_casts_22 : decode cX14_casts 22 = .ok (.invokeinterface 63 1, 5) := by decide +kernel
theorem dX14_casts_27 : decode cX14_casts 27 = .ok (.ifCond .eq 322, 3) := by decide +kernel
theorem dX14_casts_30 : decode cX14_casts 30 = .ok (.aload 4, 2) := by decide +kernel
theorem dX14_casts_32 : decode cX14_casts 32 = .ok (.invokeinterface 69 1, 5) := by decide +kernel
theorem dX14_casts_37 : decode cX14_casts 37 = .ok (.checkcast 77, 3) := by decide +kernel
theorem dX14_casts_40 : decode cX14_casts 40 = .ok (.invokevirtual 181, 3) := by decide +kernel
theorem dX14_casts_43 : decode cX14_casts 43 = .ok (.istore 5, 2) := by decide +kernel
theorem dX14_casts_45 : decode cX14_casts 45 = .ok (.aload_n 0, 1) := by decide +kernel
theorem dX14_casts_46 : decode cX14_casts 46 = .ok (.getfield 10, 3) := by decide +kernel
theorem dX14_casts_49 : decode cX14_casts 49 = .ok (.iload 5, 2) := by decide +kernel
theorem dX14_casts_51 : decode cX14_casts 51 = .ok (.invokevirtual 89, 3) := by decide +kernel
theorem dX14_casts_54 : decode cX14_casts 54 = .ok (.checkcast 47, 3) := by decide +kernel
theorem dX14_casts_57 : decode cX14_casts 57 = .ok (.astore 6, 2) := by decide +kernel
theorem dX14_casts_59 : decode cX14_casts 59 = .ok (.aload 6, 2) := by decide +kernel
theorem dX14_casts_61 : decode cX14_casts 61 = .ok (.getfield 108, 3) := by decide +kernel
theorem dX14_casts_64 : decode cX14_casts 64 = .ok (.ifCond .eq 37, 3) := by decide +kernel
theorem dX14_casts_67 : decode cX14_casts 67 = .ok (.aload_n 1, 1) := by decide +kernel
theorem dX14_casts_68 : decode cX14_casts 68 = .ok (.getfield 227, 3) := by decide +kernel
theorem dX14_casts_71 : decode cX14_casts 71 = .ok (.iconst (-1), 1) := by decide +kernel
theorem dX14_casts_72 : decode cX14_casts 72 = .ok (.if_icmp .eq 33, 3) := by decide +kernel
theorem dX14_casts_75 : decode cX14_casts 75 = .ok (.aload_n 0, 1) := by decide +kernel
theorem dX14_casts_76 : decode cX14_casts 76 = .ok (.getfield 22, 3) := by decide +kernel
theorem dX14_casts_79 : decode cX14_casts 79 = .ok (.aload_n 1, 1) := by decide +kernel
theorem dX14_casts_80 : decode cX14_casts 80 = .ok (.getfield 227, 3) := by decide +kernel
theorem dX14_casts_83 : decode cX14_casts 83 = .ok (.invokevirtual 89, 3) := by decide +kernel
theorem dX14_casts_86 : decode cX14_casts 86 = .ok (.checkcast 211, 3) := by decide +kernel
theorem dX14_casts_89 : decode cX14_casts 89 = .ok (.getfield 217, 3) := by decide +kernel
theorem dX14_casts_92 : decode cX14_casts 92 = .ok (.iload 5, 2) := by decide +kernel
theorem dX14_casts_94 : decode cX14_casts 94 = .ok (.ishr, 1) := by decide +kernel
theorem dX14_casts_95 : decode cX14_casts 95 = .ok (.iconst 1, 1) := by decide +kernel
theorem dX14_casts_96 : decode cX14_casts 96 = .ok (.iand, 1) := by decide +kernel
theorem dX14_casts_97 : decode cX14_casts 97 = .ok (.iconst 1, 1) := by decide +kernel
theorem dX14_casts_98 : decode cX14_casts 98 = .ok (.if_icmp .ne 7, 3) := by decide +kernel
theorem dX14_casts_101 : decode cX14_casts 101 = .ok (.iconst 1, 1) := by decide +kernel
theorem dX14_casts_102 : decode cX14_casts 102 = .ok (.goto 4, 3) := by decide +kernel
theorem dX14_casts_105 : decode cX14_casts 105 = .ok (.iconst 0, 1) := by decide +kernel
theorem dX14_casts_106 : decode cX14_casts 106 = .ok (.istore 7, 2) := by decide +kernel
theorem dX14_casts_108 : decode cX14_casts 108 = .ok (.iload 7, 2) := by decide +kernel
theorem dX14_casts_110 : decode cX14_casts 110 = .ok (.ifCond .eq (-90), 3) := by decide +kernel
theorem dX14_casts_113 : decode cX14_casts 113 = .ok (.aload 6, 2) := by decide +kernel
theorem dX14_casts_115 : decode cX14_casts 115 = .ok (.aload_n 1, 1) := by decide +kernel
theorem dX14_casts_116 : decode cX14_casts 116 = .ok (.getfield 129, 3) := by decide +kernel
theorem dX14_casts_119 : decode cX14_casts 119 = .ok (.invokevirtual 118, 3) := by decide +kernel
theorem dX14_casts_122 : decode cX14_casts 122 = .ok (.ifCond .ne 6, 3) := by decide +kernel
theorem dX14_casts_125 : decode cX14_casts 125 = .ok (.goto (-105), 3) := by decide +kernel
theorem dX14_casts_128 : decode cX14_casts 128 = .ok (.bipush 14, 2) := by decide +kernel
theorem dX14_casts_130 : decode cX14_casts 130 = .ok (.newarray .boolean, 2) := by decide +kernel
theorem dX14_casts_132 : decode cX14_casts 132 = .ok (.astore 8, 2) := by decide +kernel
theorem dX14_casts_134 : decode cX14_casts 134 = .ok (.bipush 14, 2) := by decide +kernel
theorem dX14_casts_136 : decode cX14_casts 136 = .ok (.newarray .int, 2) := by decide +kernel
theorem dX14_casts_138 : decode cX14_casts 138 = .ok (.astore 9, 2) := by decide +kernel
theorem dX14_casts_140 : decode cX14_casts 140 = .ok (.bipush 14, 2) := by decide +kernel
theorem dX14_casts_142 : decode cX14_casts 142 = .ok (.newarray .int, 2) := by decide +kernel
theorem dX14_casts_144 : decode cX14_casts 144 = .ok (.astore 10, 2) := by decide +kernel
theorem dX14_casts_146 : decode cX14_casts 146 = .ok (.iconst 0, 1) := by decide +kernel
theorem dX14_casts_147 : decode cX14_casts 147 = .ok (.istore 11, 2) := by decide +kernel
theorem dX14_casts_149 : decode cX14_casts 149 = .ok (.iload 11, 2) := by decide +kernel
theorem dX14_casts_151 : decode cX14_casts 151 = .ok (.aload_n 0, 1) := by decide +kernel
theorem dX14_casts_152 : decode cX14_casts 152 = .ok (.getfield 16, 3) := by decide +kernel
theorem dX14_casts_155 : decode cX14_casts 155 = .ok (.invokevirtual 46, 3) := by decide +kernel
theorem dX14_casts_158 : decode cX14_casts 158 = .ok (.if_icmp .ge 108, 3) := by decide +kernel
theorem dX14_casts_161 : decode cX14_casts 161 = .ok (.aload 8, 2) := by decide +kernel
theorem dX14_casts_163 : decode cX14_casts 163 = .ok (.iload 11, 2) := by decide +kernel
theorem dX14_casts_165 : decode cX14_casts 165 = .ok (.aload_n 1, 1) := by decide +kernel
theorem dX14_casts_166 : decode cX14_casts 166 = .ok (.getfield 263, 3) := by decide +kernel
theorem dX14_casts_169 : decode cX14_casts 169 = .ok (.iload 11, 2) := by decide +kernel
theorem dX14_casts_171 : decode cX14_casts 171 = .ok (.baload, 1) := by decide +kernel
theorem dX14_casts_172 : decode cX14_casts 172 = .ok (.ifCond .ne 38, 3) := by decide +kernel
theorem dX14_casts_175 : decode cX14_casts 175 = .ok (.aload_n 0, 1) := by decide +kernel
theorem dX14_casts_176 : decode cX14_casts 176 = .ok (.getfield 16, 3) := by decide +kernel
theorem dX14_casts_179 : decode cX14_casts 179 = .ok (.iload 11, 2) := by decide +kernel
theorem dX14_casts_181 : decode cX14_casts 181 = .ok (.invokevirtual 89, 3) := by decide +kernel
theorem dX14_casts_184 : decode cX14_casts 184 = .ok (.checkcast 121, 3) := by decide +kernel
theorem dX14_casts_187 : decode cX14_casts 187 = .ok (.getfield 135, 3) := by decide +kernel
theorem dX14_casts_190 : decode cX14_casts 190 = .ok (.iload 5, 2) := by decide +kernel
theorem dX14_casts_192 : decode cX14_casts 192 = .ok (.baload, 1) := by decide +kernel
theorem dX14_casts_193 : decode cX14_casts 193 = .ok (.ifCond .ne 17, 3) := by decide +kernel
theorem dX14_casts_196 : decode cX14_casts 196 = .ok (.aload_n 0, 1) := by decide +kernel
theorem dX14_casts_197 : decode cX14_casts 197 = .ok (.iload 11, 2) := by decide +kernel
theorem dX14_casts_199 : decode cX14_casts 199 = .ok (.aload_n 1, 1) := by decide +kernel
theorem dX14_casts_200 : decode cX14_casts 200 = .ok (.invokevirtual 266, 3) := by decide +kernel
theorem dX14_casts_203 : decode cX14_casts 203 = .ok (.ifCond .eq 7, 3) := by decide +kernel
theorem dX14_casts_206 : decode cX14_casts 206 = .ok (.iconst 1, 1) := by decide +kernel
theorem dX14_casts_207 : decode cX14_casts 207 = .ok (.goto 4, 3) := by decide +kernel
theorem dX14_casts_210 : decode cX14_casts 210 = .ok (.iconst 0, 1) := by decide +kernel
theorem dX14_casts_211 : decode cX14_casts 211 = .ok (.bastore, 1) := by decide +kernel
theorem dX14_casts_212 : decode cX14_casts 212 = .ok (.aload 9, 2) := by decide +kernel
theorem dX14_casts_214 : decode cX14_casts 214 = .ok (.iload 11, 2) := by decide +kernel
theorem dX14_casts_216 : decode cX14_casts 216 = .ok (.aload_n 2, 1) := by decide +kernel
theorem dX14_casts_217 : decode cX14_casts 217 = .ok (.iload 11, 2) := by decide +kernel
theorem dX14_casts_219 : decode cX14_casts 219 = .ok (.baload, 1) := by decide +kernel
theorem dX14_casts_220 : decode cX14_casts 220 = .ok (.ifCond .eq 7, 3) := by decide +kernel
theorem dX14_casts_223 : decode cX14_casts 223 = .ok (.iconst 0, 1) := by decide +kernel
theorem dX14_casts_224 : decode cX14_casts 224 = .ok (.goto 18, 3) := by decide +kernel
theorem dX14_casts_227 : decode cX14_casts 227 = .ok (.aload_n 0, 1) := by decide +kernel
theorem dX14_casts_228 : decode cX14_casts 228 = .ok (.getfield 16, 3) := by decide +kernel
theorem dX14_casts_231 : decode cX14_casts 231 = .ok (.iload 11, 2) := by decide +kernel
theorem dX14_casts_233 : decode cX14_casts 233 = .ok (.invokevirtual 89, 3) := by decide +kernel
theorem dX14_casts_236 : decode cX14_casts 236 = .ok (.checkcast 121, 3) := by decide +kernel
theorem dX14_casts_239 : decode cX14_casts 239 = .ok (.getfield 270, 3) := by decide +kernel
theorem dX14_casts_242 : decode cX14_casts 242 = .ok (.iastore, 1) := by decide +kernel
theorem dX14_casts_243 : decode cX14_casts 243 = .ok (.aload 10, 2) := by decide +kernel
theorem dX14_casts_245 : decode cX14_casts 245 = .ok (.iload 11, 2) := by decide +kernel
theorem dX14_casts_247 : decode cX14_casts 247 = .ok (.aload_n 0, 1) := by decide +kernel
theorem dX14_casts_248 : decode cX14_casts 248 = .ok (.iload 11, 2) := by decide +kernel
theorem dX14_casts_250 : decode cX14_casts 250 = .ok (.aload_n 1, 1) := by decide +kernel
theorem dX14_casts_251 : decode cX14_casts 251 = .ok (.invokevirtual 251, 3) := by decide +kernel
theorem dX14_casts_254 : decode cX14_casts 254 = .ok (.invokeinterface 32 1, 5) := by decide +kernel
theorem dX14_casts_259 : decode cX14_casts 259 = .ok (.iastore, 1) := by decide +kernel
theorem dX14_casts_260 : decode cX14_casts 260 = .ok (.iinc 11 1, 3) := by decide +kernel
theorem dX14_casts_263 : decode cX14_casts 263 = .ok (.goto (-114), 3) := by decide +kernel
theorem dX14_casts_266 : decode cX14_casts 266 = .ok (.new 273, 3) := by decide +kernel
theorem dX14_casts_269 : decode cX14_casts 269 = .ok (.dup, 1) := by decide +kernel
theorem dX14_casts_270 : decode cX14_casts 270 = .ok (.aload_n 0, 1) := by decide +kernel
theorem dX14_casts_271 : decode cX14_casts 271 = .ok (.aload 6, 2) := by decide +kernel
theorem dX14_casts_273 : decode cX14_casts 273 = .ok (.invokevirtual 93, 3) := by decide +kernel
theorem dX14_casts_276 : decode cX14_casts 276 = .ok (.aload 8, 2) := by decide +kernel
theorem dX14_casts_278 : decode cX14_casts 278 = .ok (.aload 9, 2) := by decide +kernel
theorem dX14_casts_280 : decode cX14_casts 280 = .ok (.aload 10, 2) := by decide +kernel
theorem dX14_casts_282 : decode cX14_casts 282 = .ok (.invokespecial 275, 3) := by decide +kernel
theorem dX14_casts_285 : decode cX14_casts 285 = .ok (.invokevirtual 278, 3) := by decide +kernel
theorem dX14_casts_288 : decode cX14_casts 288 = .ok (.astore 11, 2) := by decide +kernel
theorem dX14_casts_290 : decode cX14_casts 290 = .ok (.aload 11, 2) := by decide +kernel
theorem dX14_casts_292 : decode cX14_casts 292 = .ok (.ifnonnull 6, 3) := by decide +kernel
theorem dX14_casts_295 : decode cX14_casts 295 = .ok (.goto (-275), 3) := by decide +kernel
theorem dX14_casts_298 : decode cX14_casts 298 = .ok (.aload_n 1, 1) := by decide +kernel
theorem dX14_casts_299 : decode cX14_casts 299 = .ok (.getfield 237, 3) := by decide +kernel
theorem dX14_casts_302 : decode cX14_casts 302 = .ok (.iload 5, 2) := by decide +kernel
theorem dX14_casts_304 : decode cX14_casts 304 = .ok (.aload 11, 2) := by decide +kernel
theorem dX14_casts_306 : decode cX14_casts 306 = .ok (.aastore, 1) := by decide +kernel
theorem dX14_casts_307 : decode cX14_casts 307 = .ok (.aload 11, 2) := by decide +kernel
theorem dX14_casts_309 : decode cX14_casts 309 = .ok (.astore 12, 2) := by decide +kernel
theorem dX14_casts_311 : decode cX14_casts 311 = .ok (.aload 12, 2) := by decide +kernel
theorem dX14_casts_313 : decode cX14_casts 313 = .ok (.arraylength, 1) := by decide +kernel
theorem dX14_casts_314 : decode cX14_casts 314 = .ok (.istore 13, 2) := by decide +kernel
theorem dX14_casts_316 : decode cX14_casts 316 = .ok (.iconst 0, 1) := by decide +kernel
theorem dX14_casts_317 : decode cX14_casts 317 = .ok (.istore 14, 2) := by decide +kernel
theorem dX14_casts_319 : decode cX14_casts 319 = .ok (.iload 14, 2) := by decide +kernel
theorem dX14_casts_321 : decode cX14_casts 321 = .ok (.iload 13, 2) := by decide +kernel
theorem dX14_casts_323 : decode cX14_casts 323 = .ok (.if_icmp .ge 21, 3) := by decide +kernel
theorem dX14_casts_326 : decode cX14_casts 326 = .ok (.aload 12, 2) := by decide +kernel
theorem dX14_casts_328 : decode cX14_casts 328 = .ok (.iload 14, 2) := by decide +kernel
theorem dX14_casts_330 : decode cX14_casts 330 = .ok (.iaload, 1) := by decide +kernel
theorem dX14_casts_331 : decode cX14_casts 331 = .ok (.istore 15, 2) := by decide +kernel
theorem dX14_casts_333 : decode cX14_casts 333 = .ok (.aload_n 2, 1) := by decide +kernel
theorem dX14_casts_334 : decode cX14_casts 334 = .ok (.iload 15, 2) := by decide +kernel
theorem dX14_casts_336 : decode cX14_casts 336 = .ok (.iconst 1, 1) := by decide +kernel
theorem dX14_casts_337 : decode cX14_casts 337 = .ok (.bastore, 1) := by decide +kernel
theorem dX14_casts_338 : decode cX14_casts 338 = .ok (.iinc 14 1, 3) := by decide +kernel
theorem dX14_casts_341 : decode cX14_casts 341 = .ok (.goto (-22), 3) := by decide +kernel
theorem dX14_casts_344 : decode cX14_casts 344 = .ok (.iconst 1, 1) := by decide +kernel
theorem dX14_casts_345 : decode cX14_casts 345 = .ok (.istore_n 3, 1) := by decide +kernel
theorem dX14_casts_346 : decode cX14_casts 346 = .ok (.goto (-326), 3) := by decide +kernel
theorem dX14_casts_349 : decode cX14_casts 349 = .ok (.iload_n 3, 1) := by decide +kernel
theorem dX14_casts_350 : decode cX14_casts 350 = .ok (.ireturn, 1) := by decide +kernel
set_option maxRecDepth 20000 in
theorem ggX14_costOf_Jx4a65c_get_915e3 : GoodIn wsX14_costOf wsJx4a65c_get_915e3 := goodIn_r _ [18, 19, 20, 21, 22, 23, 24, 25, 26, 27, 28, 29, 30, 17, 31, 32, 178, 179, 180] (by decide +kernel) (by decide +kernel)
set_option maxRecDepth 20000 in
theorem gX14_costOf_Jx4a65c_get_915e3 : GoodIn wsX14_costOf (wsV RX14 89 RJx4a65c yJx4a65c_get_915e3 wsJx4a65c_get_915e3) := goodIn_app (goodIn_of _ (by decide +kernel)) ggX14_costOf_Jx4a65c_get_915e3
set_option maxRecDepth 20000 in
theorem ggX14_costOf_Jx4a65c_size_8abf5 : GoodIn wsX14_costOf wsJx4a65c_size_8abf5 := goodIn_r _ [36, 19, 178, 179, 180] (by decide +kernel) (by decide +kernel)
set_option maxRecDepth 20000 in
theorem gX14_costOf_Jx4a65c_size_8abf5 : GoodIn wsX14_costOf (wsV RX14 46 RJx4a65c yJx4a65c_size_8abf5 wsJx4a65c_size_8abf5) := goodIn_app (goodIn_of _ (by decide +kernel)) ggX14_costOf_Jx4a65c_size_8abf5
set_option maxRecDepth 20000 in
theorem ggX14_costOf_X12_has : GoodIn wsX14_costOf wsX12_has := goodIn_ca (goodIn_r _ [41, 42, 43, 152, 153, 154, 155, 156, 157, 158, 159, 160, 161, 162, 163] (by decide +kernel) (by decide +kernel)) (goodIn_sub (fun _ h => List.mem_cons_of_mem _ (List.mem_append_right _ h)) (by decide +kernel))
set_option maxRecDepth 20000 in
theorem gX14_costOf_X12_has : GoodIn wsX14_costOf (wsV RX14 126 RX12 yX12_has wsX12_has) := goodIn_app (goodIn_of _ (by decide +kernel)) ggX14_costOf_X12_has
set_option maxRecDepth 20000 in
theorem ggX14_costOf_X13_all : GoodIn wsX14_costOf wsX13_all := goodIn_ca (goodIn_r _ [48, 49, 50, 17, 51, 52, 53, 54, 55, 32, 56, 57, 58, 59, 60, 61, 62, 63, 64, 65, 66, 67, 68, 69, 70, 71, 72, 73, 74, 75, 76, 77, 78, 79, 80, 81, 82, 83, 84, 85, 86, 87, 88, 89, 90, 19, 91, 92, 93, 94, 95, 96, 97, 98, 99, 100, 101, 102, 103, 104, 105, 106, 107, 108, 109, 110, 111, 112, 113, 114, 115, 116, 117, 118, 119, 120, 121, 122, 123, 124, 125, 126, 127, 128, 129, 130, 131, 132, 133, 134, 135, 136, 137, 138, 139, 178, 179, 180, 181, 182, 183, 184, 185, 186, 187, 188, 189, 190] (by decide +kernel) (by decide +kernel)) (goodIn_sub (fun _ h => List.mem_cons_of_mem _ (List.mem_append_right _ h)) (by decide +kernel))
set_option maxRecDepth 20000 in
theorem gX14_costOf_X13_all : GoodIn wsX14_costOf (wsV RX14 93 RX13 yX13_all wsX13_all) := goodIn_app (goodIn_of _ (by decide +kernel)) ggX14_costOf_X13_all
set_option maxRecDepth 20000 in
theorem gX14_costOf_Jx4a65c_get_915e3_f285Jx4a65c : GoodIn wsX14_costOf (va_wsF RX14 285 RJx4a65c ⟨"java/util/List", "get", "(I)Ljava/lang/Object;"⟩ yJx4a65c_get_915e3 wsJx4a65c_get_915e3) := goodIn_app (goodIn_of _ (by decide +kernel)) ggX14_costOf_Jx4a65c_get_915e3
set_option maxRecDepth 20000 in
theorem ggX14_costOf_Jx6a02c_get_915e3 : GoodIn wsX14_costOf wsJx6a02c_get_915e3 := goodIn_r _ [145, 146, 147, 191, 192] (by decide +kernel) (by decide +kernel)
set_option maxRecDepth 20000 in
theorem gX14_costOf_Jx6a02c_get_915e3_f285Jx6a02c : GoodIn wsX14_costOf (va_wsF RX14 285 RJx6a02c ⟨"java/util/List", "get", "(I)Ljava/lang/Object;"⟩ yJx6a02c_get_915e3 wsJx6a02c_get_915e3) := goodIn_app (goodIn_of _ (by decide +kernel)) ggX14_costOf_Jx6a02c_get_915e3
set_option maxRecDepth 20000 in
theorem ggX14_costOf_J6_intValue_8abf5 : GoodIn wsX14_costOf wsJ6_intValue_8abf5 := goodIn_r _ [151, 79, 186] (by decide +kernel) (by decide +kernel)
set_option maxRecDepth 20000 in
theorem gX14_costOf_J6_intValue_8abf5 : GoodIn wsX14_costOf (wsV RX14 181 RJ6 yJ6_intValue_8abf5 wsJ6_intValue_8abf5) := goodIn_app (goodIn_of _ (by decide +kernel)) ggX14_costOf_J6_intValue_8abf5
theorem dX14_costOf_0 : decode cX14_costOf 0 = .ok (.aload_n 1, 1) := by decide +kernel
theorem dX14_costOf_1 : decode cX14_costOf 1 = .ok (.getfield 191, 3) := by decide +kernel
theorem dX14_costOf_4 : decode cX14_costOf 4 = .ok (.ifCond .ne 5, 3) := by decide +kernel
theorem dX14_costOf_7 : decode cX14_costOf 7 = .ok (.iconst 0, 1) := by decide +kernel
theorem dX14_costOf_8 : decode cX14_costOf 8 = .ok (.ireturn, 1) := by decide +kernel
theorem dX14_costOf_9 : decode cX14_costOf 9 = .ok (.aload_n 1, 1) := by decide +kernel
theorem dX14_costOf_10 : decode cX14_costOf 10 = .ok (.getfield 227, 3) := by decide +kernel
theorem dX14_costOf_13 : decode cX14_costOf 13 = .ok (.iconst (-1), 1) := by decide +kernel
theorem dX14_costOf_14 : decode cX14_costOf 14 = .ok (.if_icmp .ne 7, 3) := by decide +kernel
theorem dX14_costOf_17 : decode cX14_costOf 17 = .ok (.iconst 0, 1) := by decide +kernel
theorem dX14_costOf_18 : decode cX14_costOf 18 = .ok (.goto 20, 3) := by decide +kernel
theorem dX14_costOf_21 : decode cX14_costOf 21 = .ok (.aload_n 0, 1) := by decide +kernel
theorem dX14_costOf_22 : decode cX14_costOf 22 = .ok (.getfield 22, 3) := by decide +kernel
theorem dX14_costOf_25 : decode cX14_costOf 25 = .ok (.aload_n 1, 1) := by decide +kernel
theorem dX14_costOf_26 : decode cX14_costOf 26 = .ok (.getfield 227, 3) := by decide +kernel
theorem dX14_costOf_29 : decode cX14_costOf 29 = .ok (.invokevirtual 89, 3) := by decide +kernel
theorem dX14_costOf_32 : decode cX14_costOf 32 = .ok (.checkcast 211, 3) := by decide +kernel
theorem dX14_costOf_35 : decode cX14_costOf 35 = .ok (.getfield 234, 3) := by decide +kernel
theorem dX14_costOf_38 : decode cX14_costOf 38 = .ok (.istore_n 2, 1) := by decide +kernel
theorem dX14_costOf_39 : decode cX14_costOf 39 = .ok (.iconst 0, 1) := by decide +kernel
theorem dX14_costOf_40 : decode cX14_costOf 40 = .ok (.istore_n 3, 1) := by decide +kernel
theorem dX14_costOf_41 : decode cX14_costOf 41 = .ok (.iload_n 3, 1) := by decide +kernel
theorem dX14_costOf_42 : decode cX14_costOf 42 = .ok (.aload_n 0, 1) := by decide +kernel
theorem dX14_costOf_43 : decode cX14_costOf 43 = .ok (.getfield 16, 3) := by decide +kernel
theorem dX14_costOf_46 : decode cX14_costOf 46 = .ok (.invokevirtual 46, 3) := by decide +kernel
theorem dX14_costOf_49 : decode cX14_costOf 49 = .ok (.if_icmp .ge 38, 3) := by decide +kernel
theorem dX14_costOf_52 : decode cX14_costOf 52 = .ok (.iload_n 2, 1) := by decide +kernel
theorem dX14_costOf_53 : decode cX14_costOf 53 = .ok (.aload_n 1, 1) := by decide +kernel
theorem dX14_costOf_54 : decode cX14_costOf 54 = .ok (.iload_n 3, 1) := by decide +kernel
theorem dX14_costOf_55 : decode cX14_costOf 55 = .ok (.invokevirtual 126, 3) := by decide +kernel
theorem dX14_costOf_58 : decode cX14_costOf 58 = .ok (.ifCond .eq 20, 3) := by decide +kernel
theorem dX14_costOf_61 : decode cX14_costOf 61 = .ok (.aload_n 0, 1) := by decide +kernel
theorem dX14_costOf_62 : decode cX14_costOf 62 = .ok (.getfield 16, 3) := by decide +kernel
theorem dX14_costOf_65 : decode cX14_costOf 65 = .ok (.iload_n 3, 1) := by decide +kernel
theorem dX14_costOf_66 : decode cX14_costOf 66 = .ok (.invokevirtual 89, 3) := by decide +kernel
theorem dX14_costOf_69 : decode cX14_costOf 69 = .ok (.checkcast 121, 3) := by decide +kernel
theorem dX14_costOf_72 : decode cX14_costOf 72 = .ok (.getfield 270, 3) := by decide +kernel
theorem dX14_costOf_75 : decode cX14_costOf 75 = .ok (.goto 4, 3) := by decide +kernel
theorem dX14_costOf_78 : decode cX14_costOf 78 = .ok (.iconst 0, 1) := by decide +kernel
theorem dX14_costOf_79 : decode cX14_costOf 79 = .ok (.iadd, 1) := by decide +kernel
theorem dX14_costOf_80 : decode cX14_costOf 80 = .ok (.istore_n 2, 1) := by decide +kernel
theorem dX14_costOf_81 : decode cX14_costOf 81 = .ok (.iinc 3 1, 3) := by decide +kernel
theorem dX14_costOf_84 : decode cX14_costOf 84 = .ok (.goto (-43), 3) := by decide +kernel
theorem dX14_costOf_87 : decode cX14_costOf 87 = .ok (.iconst 0, 1) := by decide +kernel
theorem dX14_costOf_88 : decode cX14_costOf 88 = .ok (.istore_n 3, 1) := by decide +kernel
theorem dX14_costOf_89 : decode cX14_costOf 89 = .ok (.iload_n 3, 1) := by decide +kernel
theorem dX14_costOf_90 : decode cX14_costOf 90 = .ok (.aload_n 0, 1) := by decide +kernel
theorem dX14_costOf_91 : decode cX14_costOf 91 = .ok (.getfield 10, 3) := by decide +kernel
theorem dX14_costOf_94 : decode cX14_costOf 94 = .ok (.invokevirtual 46, 3) := by decide +kernel
theorem dX14_costOf_97 : decode cX14_costOf 97 = .ok (.if_icmp .ge 96, 3) := by decide +kernel
theorem dX14_costOf_100 : decode cX14_costOf 100 = .ok (.aload_n 1, 1) := by decide +kernel
theorem dX14_costOf_101 : decode cX14_costOf 101 = .ok (.getfield 237, 3) := by decide +kernel
theorem dX14_costOf_104 : decode cX14_costOf 104 = .ok (.iload_n 3, 1) := by decide +kernel
theorem dX14_costOf_105 : decode cX14_costOf 105 = .ok (.aaload, 1) := by decide +kernel
theorem dX14_costOf_106 : decode cX14_costOf 106 = .ok (.astore 4, 2) := by decide +kernel
theorem dX14_costOf_108 : decode cX14_costOf 108 = .ok (.iconst 0, 1) := by decide +kernel
theorem dX14_costOf_109 : decode cX14_costOf 109 = .ok (.istore 5, 2) := by decide +kernel
theorem dX14_costOf_111 : decode cX14_costOf 111 = .ok (.aload 4, 2) := by decide +kernel
theorem dX14_costOf_113 : decode cX14_costOf 113 = .ok (.ifnull 74, 3) := by decide +kernel
theorem dX14_costOf_116 : decode cX14_costOf 116 = .ok (.iload 5, 2) := by decide +kernel
theorem dX14_costOf_118 : decode cX14_costOf 118 = .ok (.aload 4, 2) := by decide +kernel
theorem dX14_costOf_120 : decode cX14_costOf 120 = .ok (.arraylength, 1) := by decide +kernel
theorem dX14_costOf_121 : decode cX14_costOf 121 = .ok (.if_icmp .ge 66, 3) := by decide +kernel
theorem dX14_costOf_124 : decode cX14_costOf 124 = .ok (.iload_n 2, 1) := by decide +kernel
theorem dX14_costOf_125 : decode cX14_costOf 125 = .ok (.aload_n 0, 1) := by decide +kernel
theorem dX14_costOf_126 : decode cX14_costOf 126 = .ok (.getfield 16, 3) := by decide +kernel
theorem dX14_costOf_129 : decode cX14_costOf 129 = .ok (.aload 4, 2) := by decide +kernel
theorem dX14_costOf_131 : decode cX14_costOf 131 = .ok (.iload 5, 2) := by decide +kernel
theorem dX14_costOf_133 : decode cX14_costOf 133 = .ok (.iaload, 1) := by decide +kernel
theorem dX14_costOf_134 : decode cX14_costOf 134 = .ok (.invokevirtual 89, 3) := by decide +kernel
theorem dX14_costOf_137 : decode cX14_costOf 137 = .ok (.checkcast 121, 3) := by decide +kernel
theorem dX14_costOf_140 : decode cX14_costOf 140 = .ok (.getfield 282, 3) := by decide +kernel
theorem dX14_costOf_143 : decode cX14_costOf 143 = .ok (.aload_n 0, 1) := by decide +kernel
theorem dX14_costOf_144 : decode cX14_costOf 144 = .ok (.getfield 10, 3) := by decide +kernel
theorem dX14_costOf_147 : decode cX14_costOf 147 = .ok (.iload_n 3, 1) := by decide +kernel
theorem dX14_costOf_148 : decode cX14_costOf 148 = .ok (.invokevirtual 89, 3) := by decide +kernel
theorem dX14_costOf_151 : decode cX14_costOf 151 = .ok (.checkcast 47, 3) := by decide +kernel
theorem dX14_costOf_154 : decode cX14_costOf 154 = .ok (.invokevirtual 93, 3) := by decide +kernel
theorem dX14_costOf_157 : decode cX14_costOf 157 = .ok (.iload 5, 2) := by decide +kernel
theorem dX14_costOf_159 : decode cX14_costOf 159 = .ok (.invokeinterface 285 2, 5) := by decide +kernel
theorem dX14_costOf_164 : decode cX14_costOf 164 = .ok (.checkcast 77, 3) := by decide +kernel
theorem dX14_costOf_167 : decode cX14_costOf 167 = .ok (.invokevirtual 181, 3) := by decide +kernel
theorem dX14_costOf_170 : decode cX14_costOf 170 = .ok (.if_icmp .ne 7, 3) := by decide +kernel
theorem dX14_costOf_173 : decode cX14_costOf 173 = .ok (.iconst 0, 1) := by decide +kernel
theorem dX14_costOf_174 : decode cX14_costOf 174 = .ok (.goto 5, 3) := by decide +kernel
theorem dX14_costOf_177 : decode cX14_costOf 177 = .ok (.bipush 10, 2) := by decide +kernel
theorem dX14_costOf_179 : decode cX14_costOf 179 = .ok (.iadd, 1) := by decide +kernel
theorem dX14_costOf_180 : decode cX14_costOf 180 = .ok (.istore_n 2, 1) := by decide +kernel
theorem dX14_costOf_181 : decode cX14_costOf 181 = .ok (.iinc 5 1, 3) := by decide +kernel
theorem dX14_costOf_184 : decode cX14_costOf 184 = .ok (.goto (-73), 3) := by decide +kernel
theorem dX14_costOf_187 : decode cX14_costOf 187 = .ok (.iinc 3 1, 3) := by decide +kernel
theorem dX14_costOf_190 : decode cX14_costOf 190 = .ok (.goto (-101), 3) := by decide +kernel
theorem dX14_costOf_193 : decode cX14_costOf 193 = .ok (.iload_n 2, 1) := by decide +kernel
theorem dX14_costOf_194 : decode cX14_costOf 194 = .ok (.ireturn, 1) := by decide +kernel
set_option maxRecDepth 20000 in
theorem ggX14_book_X14_isOf : GoodIn wsX14_book wsX14_isOf := goodIn_r _ [7, 8, 9, 10, 11, 12, 13, 14, 15, 16, 17, 18, 19, 20, 6, 21, 604, 605, 606, 607, 608] (by decide +kernel) (by decide +kernel)
set_option maxRecDepth 20000 in
theorem gX14_book_X14_isOf : GoodIn wsX14_book (va_wsS RX14 85 yX14_isOf wsX14_isOf) := goodIn_app (goodIn_of _ (by decide +kernel)) ggX14_book_X14_isOf
set_option maxRecDepth 20000 in
theorem ggX14_book_X14_fails : GoodIn wsX14_book wsX14_fails := goodIn_r _ [25, 26, 586, 587, 588, 589, 590, 591] (by decide +kernel) (by decide +kernel)
set_option maxRecDepth 20000 in
theorem gX14_book_X14_fails : GoodIn wsX14_book (wsV RX14 42 RX14 yX14_fails wsX14_fails) := goodIn_app (goodIn_of _ (by decide +kernel)) ggX14_book_X14_fails
set_option maxRecDepth 20000 in
theorem ggX14_book_Jx4a65c_get_915e3 : GoodIn wsX14_book wsJx4a65c_get_915e3 := goodIn_r _ [30, 13, 31, 32, 33, 34, 35, 36, 37, 38, 39, 40, 41, 11, 42, 43, 604, 605, 606] (by decide +kernel) (by decide +kernel)
set_option maxRecDepth 20000 in
theorem gX14_book_Jx4a65c_get_915e3 : GoodIn wsX14_book (wsV RX14 89 RJx4a65c yJx4a65c_get_915e3 wsJx4a65c_get_915e3) := goodIn_app (goodIn_of _ (by decide +kernel)) ggX14_book_Jx4a65c_get_915e3
set_option maxRecDepth 20000 in
theorem ggX14_book_X14_casts : GoodIn wsX14_book wsX14_casts := goodIn_ca (goodIn_r _ [47, 48, 49, 50, 51, 52, 53, 54, 55, 56, 57, 58, 59, 60, 61, 62, 63, 64, 65, 66, 67, 68, 69, 70, 71, 72, 73, 74, 75, 76, 77, 78, 79, 80, 81, 11, 82, 83, 84, 85, 86, 87, 88, 89, 90, 91, 92, 93, 94, 95, 96, 97, 98, 99, 100, 101, 102, 103, 104, 105, 106, 107, 108, 109, 110, 111, 112, 113, 114, 115, 116, 117, 118, 119, 120, 121, 122, 28, 30, 13, 31, 32, 33, 34, 35, 36, 37, 38, 39, 40, 41, 42, 43, 123, 124, 16, 125, 126, 18, 127, 128, 129, 130, 131, 132, 27, 29, 133, 134, 135, 136, 137, 138, 139, 140, 141, 142, 143, 144, 10, 145, 12, 146, 147, 148, 6, 149, 150, 151, 152, 153, 154, 155, 156, 157, 158, 159, 160, 161, 162, 163, 164, 165, 1, 2, 166, 167, 168, 169, 170, 171, 172, 173, 174, 175, 176, 177, 178, 179, 180, 181, 182, 183, 184, 185, 186, 187, 188, 189, 190, 191, 192, 193, 194, 195, 196, 197, 198, 199, 200, 201, 202, 203, 204, 205, 206, 207, 208, 209, 210, 211, 212, 213, 214, 215, 216, 217, 218, 219, 220, 221, 222, 223, 224, 225, 226, 227, 228, 229, 230, 231, 232, 233, 234, 235, 236, 237, 238, 239, 240, 241, 242, 243, 244, 245, 246, 247, 248, 249, 250, 251, 252, 253, 254, 255, 256, 257, 258, 259, 260, 261, 15, 17, 262, 263, 264, 265, 266, 267, 268, 269, 270, 271, 272, 8, 9, 14, 273, 274, 275, 276, 277, 278, 279, 280, 281, 282, 283, 284, 285, 286, 287, 288, 289, 290, 291, 292, 293, 294, 295, 296, 297, 298, 299, 300, 301, 302, 303, 304, 305, 306, 307, 308, 309, 310, 311, 312, 313, 314, 315, 316, 317, 318, 319, 320, 321, 322, 323, 324, 325, 326, 327, 328, 329, 330, 331, 332, 333, 334, 335, 336, 337, 338, 339, 340, 341, 342, 343, 344, 345, 346, 347, 348, 349, 350, 351, 352, 353, 354, 355, 356, 357, 358, 359, 360, 361, 362, 363, 364, 365, 366, 367, 368, 369, 370, 371, 372, 373, 374, 375, 376, 377, 378, 379, 380, 381, 382, 383, 384, 385, 386, 387, 388, 389, 390, 391, 392, 393, 394, 395, 396, 397, 398, 399, 400, 401, 402, 403, 404, 405, 406, 407, 408, 409, 410, 411, 412, 413, 414, 415, 416, 417, 418, 419, 420, 421, 422, 423, 424, 425, 426, 427, 428, 429, 430, 431, 432, 433, 434, 435, 436, 437, 438, 439, 440, 441, 442, 443, 444, 445, 446, 447, 448, 449, 450, 451, 452, 453, 454, 455, 456, 457, 458, 459, 460, 461, 462, 463, 464, 465, 466, 467, 468, 469, 470, 471, 472, 473, 474, 475, 476, 477, 478, 479, 480, 481, 482, 483, 484, 485, 486, 487, 488, 489, 490, 491, 492, 493, 494, 495, 496, 497, 498, 499, 500, 501, 502, 503, 504, 505, 506, 507, 508, 509, 510, 511, 512, 513, 514, 515, 516, 517, 518, 519, 520, 521, 522, 523, 524, 525, 526, 527, 528, 529, 530, 531, 532, 533, 534, 535, 536, 537, 538, 539, 540, 541, 542, 543, 544, 545, 546, 547, 548, 549, 550, 551, 552, 553, 554, 555, 556, 557, 558, 559, 560, 561, 562, 563, 564, 565, 566, 567, 568, 569, 570, 571, 572, 573, 574, 592, 593, 594, 595, 596, 597, 598, 599, 600, 601, 602, 603, 586, 587, 588, 589, 590, 591, 609, 610, 611, 612, 613, 614, 615, 616, 617, 618, 619, 620, 621, 622, 623, 624, 625, 626, 627, 628, 629, 630, 631, 604, 605, 606, 632, 633, 634, 635, 607, 608, 636, 637, 638, 639, 640, 641, 642, 643, 644, 645, 646, 647, 648, 649, 650, 651, 652, 653, 654, 655, 656, 657, 658, 659, 660, 661, 662, 663, 664, 665, 666, 667] (by decide +kernel) (by decide +kernel)) (goodIn_sub (fun _ h => List.mem_cons_of_mem _ (List.mem_append_right _ h)) (by decide +kernel))
set_option maxRecDepth 20000 in
theorem gX14_book_X14_casts : GoodIn wsX14_book (wsV RX14 286 RX14 yX14_casts wsX14_casts) := goodIn_app (goodIn_of _ (by decide +kernel)) ggX14_book_X14_casts
set_option maxRecDepth 20000 in
theorem ggX14_book_X12_clear : GoodIn wsX14_book wsX12_clear := goodIn_r _ [73, 74, 75, 76, 77, 78, 592, 593, 594, 595, 596, 597, 598, 599, 600, 601, 602, 603] (by decide +kernel) (by decide +kernel)
set_option maxRecDepth 20000 in
theorem gX14_book_X12_clear : GoodIn wsX14_book (wsV RX14 260 RX12 yX12_clear wsX12_clear) := goodIn_app (goodIn_of _ (by decide +kernel)) ggX14_book_X12_clear
set_option maxRecDepth 20000 in
theorem ggX14_book_X14_costOf : GoodIn wsX14_book wsX14_costOf := goodIn_ca (goodIn_r _ [578, 3, 54, 55, 56, 579, 60, 62, 64, 51, 68, 580, 52, 50, 27, 28, 29, 11, 30, 13, 31, 32, 33, 34, 35, 36, 37, 38, 39, 40, 41, 42, 43, 144, 10, 145, 12, 180, 181, 182, 72, 183, 74, 184, 273, 274, 275, 136, 276, 277, 165, 278, 279, 167, 168, 169, 170, 171, 172, 173, 174, 175, 176, 177, 178, 179, 91, 92, 280, 281, 130, 282, 283, 284, 285, 286, 287, 288, 289, 132, 290, 291, 292, 293, 294, 295, 186, 187, 188, 189, 95, 190, 191, 192, 193, 194, 195, 196, 197, 198, 199, 200, 201, 202, 203, 204, 205, 206, 207, 208, 209, 210, 211, 212, 213, 214, 215, 216, 217, 218, 219, 220, 77, 221, 222, 223, 224, 225, 226, 227, 228, 229, 230, 231, 232, 233, 234, 235, 236, 237, 581, 122, 123, 124, 16, 125, 126, 18, 127, 128, 129, 131, 592, 593, 594, 595, 596, 597, 598, 599, 600, 601, 602, 603, 586, 587, 588, 589, 590, 591, 614, 615, 616, 617, 618, 619, 620, 621, 604, 605, 606, 609, 610, 611, 612, 613, 636, 637, 638, 639, 640, 607, 608] (by decide +kernel) (by decide +kernel)) (goodIn_sub (fun _ h => List.mem_cons_of_mem _ (List.mem_append_right _ h)) (by decide +kernel))
set_option maxRecDepth 20000 in
theorem gX14_book_X14_costOf : GoodIn wsX14_book (wsV RX14 289 RX14 yX14_costOf wsX14_costOf) := goodIn_app (goodIn_of _ (by decide +kernel)) ggX14_book_X14_costOf
set_option maxRecDepth 20000 in
theorem ggX14_book_X14_tells : GoodIn wsX14_book wsX14_tells := goodIn_r _ [585, 26, 586, 587, 588, 589, 590, 591] (by decide +kernel) (by decide +kernel)
set_option maxRecDepth 20000 in
theorem gX14_book_X14_tells : GoodIn wsX14_book (wsV RX14 56 RX14 yX14_tells wsX14_tells) := goodIn_app (goodIn_of _ (by decide +kernel)) ggX14_book_X14_tells
theorem dX14_book_0 : decode cX14_book 0 = .ok (.aload_n 0, 1) := by decide +kernel
theorem dX14_book_1 : decode cX14_book 1 = .ok (.getfield 25, 3) := by decide +kernel
theorem dX14_book_4 : decode cX14_book 4 = .ok (.iload_n 1, 1) := by decide +kernel
theorem dX14_book_5 : decode cX14_book 5 = .ok (.invokestatic 85, 3) := by decide +kernel
theorem dX14_book_8 : decode cX14_book 8 = .ok (.ifCond .ne 9, 3) := by decide +kernel
theorem dX14_book_11 : decode cX14_book 11 = .ok (.aload_n 0, 1) := by decide +kernel
theorem dX14_book_12 : decode cX14_book 12 = .ok (.iconst 1, 1) := by decide +kernel
theorem dX14_book_13 : decode cX14_book 13 = .ok (.invokevirtual 42, 3) := by decide +kernel
theorem dX14_book_16 : decode cX14_book 16 = .ok (.ireturn, 1) := by decide +kernel
theorem dX14_book_17 : decode cX14_book 17 = .ok (.aload_n 0, 1) := by decide +kernel
theorem dX14_book_18 : decode cX14_book 18 = .ok (.getfield 25, 3) := by decide +kernel
theorem dX14_book_21 : decode cX14_book 21 = .ok (.iload_n 1, 1) := by decide +kernel
theorem dX14_book_22 : decode cX14_book 22 = .ok (.invokevirtual 89, 3) := by decide +kernel
theorem dX14_book_25 : decode cX14_book 25 = .ok (.checkcast 73, 3) := by decide +kernel
theorem dX14_book_28 : decode cX14_book 28 = .ok (.astore_n 2, 1) := by decide +kernel
theorem dX14_book_29 : decode cX14_book 29 = .ok (.aload_n 2, 1) := by decide +kernel
theorem dX14_book_30 : decode cX14_book 30 = .ok (.getfield 191, 3) := by decide +kernel
theorem dX14_book_33 : decode cX14_book 33 = .ok (.ifCond .eq 9, 3) := by decide +kernel
theorem dX14_book_36 : decode cX14_book 36 = .ok (.aload_n 0, 1) := by decide +kernel
theorem dX14_book_37 : decode cX14_book 37 = .ok (.iconst 2, 1) := by decide +kernel
theorem dX14_book_38 : decode cX14_book 38 = .ok (.invokevirtual 42, 3) := by decide +kernel
theorem dX14_book_41 : decode cX14_book 41 = .ok (.ireturn, 1) := by decide +kernel
theorem dX14_book_42 : decode cX14_book 42 = .ok (.aload_n 0, 1) := by decide +kernel
theorem dX14_book_43 : decode cX14_book 43 = .ok (.aload_n 2, 1) := by decide +kernel
theorem dX14_book_44 : decode cX14_book 44 = .ok (.invokevirtual 286, 3) := by decide +kernel
theorem dX14_book_47 : decode cX14_book 47 = .ok (.ifCond .ne 13, 3) := by decide +kernel
theorem dX14_book_50 : decode cX14_book 50 = .ok (.aload_n 2, 1) := by decide +kernel
theorem dX14_book_51 : decode cX14_book 51 = .ok (.invokevirtual 260, 3) := by decide +kernel
theorem dX14_book_54 : decode cX14_book 54 = .ok (.aload_n 0, 1) := by decide +kernel
theorem dX14_book_55 : decode cX14_book 55 = .ok (.iconst 2, 1) := by decide +kernel
theorem dX14_book_56 : decode cX14_book 56 = .ok (.invokevirtual 42, 3) := by decide +kernel
theorem dX14_book_59 : decode cX14_book 59 = .ok (.ireturn, 1) := by decide +kernel
theorem dX14_book_60 : decode cX14_book 60 = .ok (.aload_n 2, 1) := by decide +kernel
theorem dX14_book_61 : decode cX14_book 61 = .ok (.iconst 1, 1) := by decide +kernel
theorem dX14_book_62 : decode cX14_book 62 = .ok (.putfield 191, 3) := by decide +kernel
theorem dX14_book_65 : decode cX14_book 65 = .ok (.aload_n 0, 1) := by decide +kernel
theorem dX14_book_66 : decode cX14_book 66 = .ok (.aload_n 0, 1) := by decide +kernel
theorem dX14_book_67 : decode cX14_book 67 = .ok (.aload_n 2, 1) := by decide +kernel
theorem dX14_book_68 : decode cX14_book 68 = .ok (.invokevirtual 289, 3) := by decide +kernel
theorem dX14_book_71 : decode cX14_book 71 = .ok (.invokevirtual 56, 3) := by decide +kernel
theorem dX14_book_74 : decode cX14_book 74 = .ok (.ireturn, 1) := by decide +kernel
set_option maxRecDepth 20000 in
theorem ggX14_unbook_X14_isOf : GoodIn wsX14_unbook wsX14_isOf := goodIn_r _ [9, 10, 11, 12, 13, 14, 15, 16, 17, 18, 19, 20, 21, 22, 8, 23, 209, 210, 211, 212, 213] (by decide +kernel) (by decide +kernel)
set_option maxRecDepth 20000 in
theorem gX14_unbook_X14_isOf : GoodIn wsX14_unbook (va_wsS RX14 85 yX14_isOf wsX14_isOf) := goodIn_app (goodIn_of _ (by decide +kernel)) ggX14_unbook_X14_isOf
set_option maxRecDepth 20000 in
theorem ggX14_unbook_X14_fails : GoodIn wsX14_unbook wsX14_fails := goodIn_r _ [27, 28, 191, 192, 193, 194, 195, 196] (by decide +kernel) (by decide +kernel)
set_option maxRecDepth 20000 in
theorem gX14_unbook_X14_fails : GoodIn wsX14_unbook (wsV RX14 42 RX14 yX14_fails wsX14_fails) := goodIn_app (goodIn_of _ (by decide +kernel)) ggX14_unbook_X14_fails
set_option maxRecDepth 20000 in
theorem ggX14_unbook_Jx4a65c_get_915e3 : GoodIn wsX14_unbook wsJx4a65c_get_915e3 := goodIn_r _ [32, 15, 33, 34, 35, 36, 37, 38, 39, 40, 41, 42, 43, 13, 44, 45, 209, 210, 211] (by decide +kernel) (by decide +kernel)
set_option maxRecDepth 20000 in
theorem gX14_unbook_Jx4a65c_get_915e3 : GoodIn wsX14_unbook (wsV RX14 89 RJx4a65c yJx4a65c_get_915e3 wsJx4a65c_get_915e3) := goodIn_app (goodIn_of _ (by decide +kernel)) ggX14_unbook_Jx4a65c_get_915e3
set_option maxRecDepth 20000 in
theorem ggX14_unbook_X14_costOf : GoodIn wsX14_unbook wsX14_costOf := goodIn_ca (goodIn_r _ [49, 3, 50, 51, 52, 53, 54, 55, 56, 57, 58, 59, 60, 61, 29, 30, 31, 13, 32, 15, 33, 34, 35, 36, 37, 38, 39, 40, 41, 42, 43, 44, 45, 62, 12, 63, 14, 64, 65, 66, 67, 68, 69, 70, 71, 72, 73, 74, 75, 76, 77, 78, 79, 80, 81, 82, 83, 84, 85, 86, 87, 88, 89, 90, 91, 92, 93, 94, 95, 96, 97, 98, 99, 100, 101, 102, 103, 104, 105, 106, 107, 108, 109, 110, 111, 112, 113, 114, 115, 116, 117, 118, 119, 120, 121, 122, 123, 124, 125, 126, 127, 128, 129, 130, 131, 132, 133, 134, 135, 136, 137, 138, 139, 140, 141, 142, 143, 144, 145, 146, 147, 148, 149, 150, 151, 152, 153, 154, 155, 156, 157, 158, 159, 160, 161, 162, 163, 164, 165, 166, 167, 168, 169, 170, 18, 171, 172, 20, 173, 174, 175, 176, 197, 198, 199, 200, 201, 202, 203, 204, 205, 206, 207, 208, 191, 192, 193, 194, 195, 196, 214, 215, 216, 217, 218, 219, 220, 221, 209, 210, 211, 222, 223, 224, 225, 226, 227, 228, 229, 230, 231, 212, 213] (by decide +kernel) (by decide +kernel)) (goodIn_sub (fun _ h => List.mem_cons_of_mem _ (List.mem_append_right _ h)) (by decide +kernel))
set_option maxRecDepth 20000 in
theorem gX14_unbook_X14_costOf : GoodIn wsX14_unbook (wsV RX14 289 RX14 yX14_costOf wsX14_costOf) := goodIn_app (goodIn_of _ (by decide +kernel)) ggX14_unbook_X14_costOf
set_option maxRecDepth 20000 in
theorem ggX14_unbook_X12_clear : GoodIn wsX14_unbook wsX12_clear := goodIn_r _ [180, 69, 181, 182, 149, 183, 197, 198, 199, 200, 201, 202, 203, 204, 205, 206, 207, 208] (by decide +kernel) (by decide +kernel)
set_option maxRecDepth 20000 in
theorem gX14_unbook_X12_clear : GoodIn wsX14_unbook (wsV RX14 260 RX12 yX12_clear wsX12_clear) := goodIn_app (goodIn_of _ (by decide +kernel)) ggX14_unbook_X12_clear
set_option maxRecDepth 20000 in
theorem ggX14_unbook_J7_fill_49daa : GoodIn wsX14_unbook wsJ7_fill_49daa := goodIn_r _ [186] (by decide +kernel) (by decide +kernel)
set_option maxRecDepth 20000 in
theorem gX14_unbook_J7_fill_49daa : GoodIn wsX14_unbook (va_wsS RX14 296 yJ7_fill_49daa wsJ7_fill_49daa) := goodIn_app (goodIn_of _ (by decide +kernel)) ggX14_unbook_J7_fill_49daa
set_option maxRecDepth 20000 in
theorem ggX14_unbook_X14_tells : GoodIn wsX14_unbook wsX14_tells := goodIn_r _ [190, 28, 191, 192, 193, 194, 195, 196] (by decide +kernel) (by decide +kernel)
set_option maxRecDepth 20000 in
theorem gX14_unbook_X14_tells : GoodIn wsX14_unbook (wsV RX14 56 RX14 yX14_tells wsX14_tells) := goodIn_app (goodIn_of _ (by decide +kernel)) ggX14_unbook_X14_tells
theorem dX14_unbook_0 : decode cX14_unbook 0 = .ok (.aload_n 0, 1) := by decide +kernel
theorem dX14_unbook_1 : decode cX14_unbook 1 = .ok (.getfield 25, 3) := by decide +kernel
theorem dX14_unbook_4 : decode cX14_unbook 4 = .ok (.iload_n 1, 1) := by decide +kernel
theorem dX14_unbook_5 : decode cX14_unbook 5 = .ok (.invokestatic 85, 3) := by decide +kernel
theorem dX14_unbook_8 : decode cX14_unbook 8 = .ok (.ifCond .ne 9, 3) := by decide +kernel
theorem dX14_unbook_11 : decode cX14_unbook 11 = .ok (.aload_n 0, 1) := by decide +kernel
theorem dX14_unbook_12 : decode cX14_unbook 12 = .ok (.iconst 1, 1) := by decide +kernel
theorem dX14_unbook_13 : decode cX14_unbook 13 = .ok (.invokevirtual 42, 3) := by decide +kernel
theorem dX14_unbook_16 : decode cX14_unbook 16 = .ok (.ireturn, 1) := by decide +kernel
theorem dX14_unbook_17 : decode cX14_unbook 17 = .ok (.aload_n 0, 1) := by decide +kernel
theorem dX14_unbook_18 : decode cX14_unbook 18 = .ok (.getfield 25, 3) := by decide +kernel
theorem dX14_unbook_21 : decode cX14_unbook 21 = .ok (.iload_n 1, 1) := by decide +kernel
theorem dX14_unbook_22 : decode cX14_unbook 22 = .ok (.invokevirtual 89, 3) := by decide +kernel
theorem dX14_unbook_25 : decode cX14_unbook 25 = .ok (.checkcast 73, 3) := by decide +kernel
theorem dX14_unbook_28 : decode cX14_unbook 28 = .ok (.astore_n 2, 1) := by decide +kernel
theorem dX14_unbook_29 : decode cX14_unbook 29 = .ok (.aload_n 2, 1) := by decide +kernel
theorem dX14_unbook_30 : decode cX14_unbook 30 = .ok (.getfield 191, 3) := by decide +kernel
theorem dX14_unbook_33 : decode cX14_unbook 33 = .ok (.ifCond .ne 9, 3) := by decide +kernel
theorem dX14_unbook_36 : decode cX14_unbook 36 = .ok (.aload_n 0, 1) := by decide +kernel
theorem dX14_unbook_37 : decode cX14_unbook 37 = .ok (.iconst 2, 1) := by decide +kernel
theorem dX14_unbook_38 : decode cX14_unbook 38 = .ok (.invokevirtual 42, 3) := by decide +kernel
theorem dX14_unbook_41 : decode cX14_unbook 41 = .ok (.ireturn, 1) := by decide +kernel
theorem dX14_unbook_42 : decode cX14_unbook 42 = .ok (.aload_n 0, 1) := by decide +kernel
theorem dX14_unbook_43 : decode cX14_unbook 43 = .ok (.aload_n 2, 1) := by decide +kernel
theorem dX14_unbook_44 : decode cX14_unbook 44 = .ok (.invokevirtual 289, 3) := by decide +kernel
theorem dX14_unbook_47 : decode cX14_unbook 47 = .ok (.istore_n 3, 1) := by decide +kernel
theorem dX14_unbook_48 : decode cX14_unbook 48 = .ok (.aload_n 2, 1) := by decide +kernel
theorem dX14_unbook_49 : decode cX14_unbook 49 = .ok (.iconst 0, 1) := by decide +kernel
theorem dX14_unbook_50 : decode cX14_unbook 50 = .ok (.putfield 191, 3) := by decide +kernel
theorem dX14_unbook_53 : decode cX14_unbook 53 = .ok (.aload_n 2, 1) := by decide +kernel
theorem dX14_unbook_54 : decode cX14_unbook 54 = .ok (.iconst (-1), 1) := by decide +kernel
theorem dX14_unbook_55 : decode cX14_unbook 55 = .ok (.putfield 293, 3) := by decide +kernel
theorem dX14_unbook_58 : decode cX14_unbook 58 = .ok (.aload_n 2, 1) := by decide +kernel
theorem dX14_unbook_59 : decode cX14_unbook 59 = .ok (.invokevirtual 260, 3) := by decide +kernel
theorem dX14_unbook_62 : decode cX14_unbook 62 = .ok (.aload_n 2, 1) := by decide +kernel
theorem dX14_unbook_63 : decode cX14_unbook 63 = .ok (.getfield 263, 3) := by decide +kernel
theorem dX14_unbook_66 : decode cX14_unbook 66 = .ok (.iconst 0, 1) := by decide +kernel
theorem dX14_unbook_67 : decode cX14_unbook 67 = .ok (.invokestatic 296, 3) := by decide +kernel
theorem dX14_unbook_70 : decode cX14_unbook 70 = .ok (.aload_n 0, 1) := by decide +kernel
theorem dX14_unbook_71 : decode cX14_unbook 71 = .ok (.iload_n 3, 1) := by decide +kernel
theorem dX14_unbook_72 : decode cX14_unbook 72 = .ok (.invokevirtual 56, 3) := by decide +kernel
theorem dX14_unbook_75 : decode cX14_unbook 75 = .ok (.ireturn, 1) := by decide +kernel
set_option maxRecDepth 20000 in
theorem ggX14_isBooked_X14_isOf : GoodIn wsX14_isBooked wsX14_isOf := goodIn_r _ [7, 8, 9, 10, 11, 12, 13, 14, 15, 16, 17, 18, 19, 20, 6, 21, 62, 63, 64, 65, 66] (by decide +kernel) (by decide +kernel)
set_option maxRecDepth 20000 in
theorem gX14_isBooked_X14_isOf : GoodIn wsX14_isBooked (va_wsS RX14 85 yX14_isOf wsX14_isOf) := goodIn_app (goodIn_of _ (by decide +kernel)) ggX14_isBooked_X14_isOf
set_option maxRecDepth 20000 in
theorem ggX14_isBooked_X14_failsIf : GoodIn wsX14_isBooked wsX14_failsIf := goodIn_r _ [25, 26, 44, 45, 46, 47, 48, 49] (by decide +kernel) (by decide +kernel)
set_option maxRecDepth 20000 in
theorem gX14_isBooked_X14_failsIf : GoodIn wsX14_isBooked (wsV RX14 105 RX14 yX14_failsIf wsX14_failsIf) := goodIn_app (goodIn_of _ (by decide +kernel)) ggX14_isBooked_X14_failsIf
set_option maxRecDepth 20000 in
theorem ggX14_isBooked_Jx4a65c_get_915e3 : GoodIn wsX14_isBooked wsJx4a65c_get_915e3 := goodIn_r _ [30, 13, 31, 32, 33, 34, 35, 36, 37, 38, 39, 40, 41, 11, 42, 43, 62, 63, 64] (by decide +kernel) (by decide +kernel)
set_option maxRecDepth 20000 in
theorem gX14_isBooked_Jx4a65c_get_915e3 : GoodIn wsX14_isBooked (wsV RX14 89 RJx4a65c yJx4a65c_get_915e3 wsJx4a65c_get_915e3) := goodIn_app (goodIn_of _ (by decide +kernel)) ggX14_isBooked_Jx4a65c_get_915e3
theorem dX14_isBooked_0 : decode cX14_isBooked 0 = .ok (.aload_n 0, 1) := by decide +kernel
theorem dX14_isBooked_1 : decode cX14_isBooked 1 = .ok (.aload_n 0, 1) := by decide +kernel
theorem dX14_isBooked_2 : decode cX14_isBooked 2 = .ok (.getfield 25, 3) := by decide +kernel
theorem dX14_isBooked_5 : decode cX14_isBooked 5 = .ok (.iload_n 1, 1) := by decide +kernel
theorem dX14_isBooked_6 : decode cX14_isBooked 6 = .ok (.invokestatic 85, 3) := by decide +kernel
theorem dX14_isBooked_9 : decode cX14_isBooked 9 = .ok (.ifCond .eq 7, 3) := by decide +kernel
theorem dX14_isBooked_12 : decode cX14_isBooked 12 = .ok (.iconst 0, 1) := by decide +kernel
theorem dX14_isBooked_13 : decode cX14_isBooked 13 = .ok (.goto 4, 3) := by decide +kernel
theorem dX14_isBooked_16 : decode cX14_isBooked 16 = .ok (.iconst 1, 1) := by decide +kernel
theorem dX14_isBooked_17 : decode cX14_isBooked 17 = .ok (.invokevirtual 105, 3) := by decide +kernel
theorem dX14_isBooked_20 : decode cX14_isBooked 20 = .ok (.ifCond .ne 24, 3) := by decide +kernel
theorem dX14_isBooked_23 : decode cX14_isBooked 23 = .ok (.aload_n 0, 1) := by decide +kernel
theorem dX14_isBooked_24 : decode cX14_isBooked 24 = .ok (.getfield 25, 3) := by decide +kernel
theorem dX14_isBooked_27 : decode cX14_isBooked 27 = .ok (.iload_n 1, 1) := by decide +kernel
theorem dX14_isBooked_28 : decode cX14_isBooked 28 = .ok (.invokevirtual 89, 3) := by decide +kernel
theorem dX14_isBooked_31 : decode cX14_isBooked 31 = .ok (.checkcast 73, 3) := by decide +kernel
theorem dX14_isBooked_34 : decode cX14_isBooked 34 = .ok (.getfield 191, 3) := by decide +kernel
theorem dX14_isBooked_37 : decode cX14_isBooked 37 = .ok (.ifCond .eq 7, 3) := by decide +kernel
theorem dX14_isBooked_40 : decode cX14_isBooked 40 = .ok (.iconst 1, 1) := by decide +kernel
theorem dX14_isBooked_41 : decode cX14_isBooked 41 = .ok (.goto 4, 3) := by decide +kernel
theorem dX14_isBooked_44 : decode cX14_isBooked 44 = .ok (.iconst 0, 1) := by decide +kernel
theorem dX14_isBooked_45 : decode cX14_isBooked 45 = .ok (.ireturn, 1) := by decide +kernel
set_option maxRecDepth 20000 in
theorem ggX14_standing_Jx4a65c_size_8abf5 : GoodIn wsX14_standing wsJx4a65c_size_8abf5 := goodIn_r _ [8, 9, 28, 29, 30] (by decide +kernel) (by decide +kernel)
set_option maxRecDepth 20000 in
theorem gX14_standing_Jx4a65c_size_8abf5 : GoodIn wsX14_standing (wsV RX14 46 RJx4a65c yJx4a65c_size_8abf5 wsJx4a65c_size_8abf5) := goodIn_app (goodIn_of _ (by decide +kernel)) ggX14_standing_Jx4a65c_size_8abf5
theorem dX14_standing_0 : decode cX14_standing 0 = .ok (.iconst 0, 1) := by decide +kernel
theorem dX14_standing_1 : decode cX14_standing 1 = .ok (.istore_n 2, 1) := by decide +kernel
theorem dX14_standing_2 : decode cX14_standing 2 = .ok (.iconst 0, 1) := by decide +kernel
theorem dX14_standing_3 : decode cX14_standing 3 = .ok (.istore_n 3, 1) := by decide +kernel
theorem dX14_standing_4 : decode cX14_standing 4 = .ok (.iload_n 3, 1) := by decide +kernel
theorem dX14_standing_5 : decode cX14_standing 5 = .ok (.aload_n 0, 1) := by decide +kernel
theorem dX14_standing_6 : decode cX14_standing 6 = .ok (.getfield 10, 3) := by decide +kernel
theorem dX14_standing_9 : decode cX14_standing 9 = .ok (.invokevirtual 46, 3) := by decide +kernel
theorem dX14_standing_12 : decode cX14_standing 12 = .ok (.if_icmp .ge 35, 3) := by decide +kernel
theorem dX14_standing_15 : decode cX14_standing 15 = .ok (.iload_n 2, 1) := by decide +kernel
theorem dX14_standing_16 : decode cX14_standing 16 = .ok (.aload_n 1, 1) := by decide +kernel
theorem dX14_standing_17 : decode cX14_standing 17 = .ok (.getfield 191, 3) := by decide +kernel
theorem dX14_standing_20 : decode cX14_standing 20 = .ok (.ifCond .eq 18, 3) := by decide +kernel
theorem dX14_standing_23 : decode cX14_standing 23 = .ok (.aload_n 1, 1) := by decide +kernel
theorem dX14_standing_24 : decode cX14_standing 24 = .ok (.getfield 237, 3) := by decide +kernel
theorem dX14_standing_27 : decode cX14_standing 27 = .ok (.iload_n 3, 1) := by decide +kernel
theorem dX14_standing_28 : decode cX14_standing 28 = .ok (.aaload, 1) := by decide +kernel
theorem dX14_standing_29 : decode cX14_standing 29 = .ok (.ifnull 9, 3) := by decide +kernel
theorem dX14_standing_32 : decode cX14_standing 32 = .ok (.iconst 1, 1) := by decide +kernel
theorem dX14_standing_33 : decode cX14_standing 33 = .ok (.iload_n 3, 1) := by decide +kernel
theorem dX14_standing_34 : decode cX14_standing 34 = .ok (.ishl, 1) := by decide +kernel
theorem dX14_standing_35 : decode cX14_standing 35 = .ok (.goto 4, 3) := by decide +kernel
theorem dX14_standing_38 : decode cX14_standing 38 = .ok (.iconst 0, 1) := by decide +kernel
theorem dX14_standing_39 : decode cX14_standing 39 = .ok (.ior, 1) := by decide +kernel
theorem dX14_standing_40 : decode cX14_standing 40 = .ok (.istore_n 2, 1) := by decide +kernel
theorem dX14_standing_41 : decode cX14_standing 41 = .ok (.iinc 3 1, 3) := by decide +kernel
theorem dX14_standing_44 : decode cX14_standing 44 = .ok (.goto (-40), 3) := by decide +kernel
theorem dX14_standing_47 : decode cX14_standing 47 = .ok (.iload_n 2, 1) := by decide +kernel
theorem dX14_standing_48 : decode cX14_standing 48 = .ok (.ireturn, 1) := by decide +kernel
set_option maxRecDepth 20000 in
theorem ggX14_away_X14_isOf : GoodIn wsX14_away wsX14_isOf := goodIn_r _ [9, 10, 11, 12, 13, 14, 15, 16, 17, 18, 19, 20, 21, 22, 8, 23, 601, 602, 603, 604, 605] (by decide +kernel) (by decide +kernel)
set_option maxRecDepth 20000 in
theorem gX14_away_X14_isOf : GoodIn wsX14_away (va_wsS RX14 85 yX14_isOf wsX14_isOf) := goodIn_app (goodIn_of _ (by decide +kernel)) ggX14_away_X14_isOf
set_option maxRecDepth 20000 in
theorem ggX14_away_X14_fails : GoodIn wsX14_away wsX14_fails := goodIn_r _ [27, 28, 583, 584, 585, 586, 587, 588] (by decide +kernel) (by decide +kernel)
set_option maxRecDepth 20000 in
theorem gX14_away_X14_fails : GoodIn wsX14_away (wsV RX14 42 RX14 yX14_fails wsX14_fails) := goodIn_app (goodIn_of _ (by decide +kernel)) ggX14_away_X14_fails
set_option maxRecDepth 20000 in
theorem ggX14_away_Jx4a65c_get_915e3 : GoodIn wsX14_away wsJx4a65c_get_915e3 := goodIn_r _ [32, 15, 33, 34, 35, 36, 37, 38, 39, 40, 41, 42, 43, 13, 44, 45, 601, 602, 603] (by decide +kernel) (by decide +kernel)
set_option maxRecDepth 20000 in
theorem gX14_away_Jx4a65c_get_915e3 : GoodIn wsX14_away (wsV RX14 89 RJx4a65c yJx4a65c_get_915e3 wsJx4a65c_get_915e3) := goodIn_app (goodIn_of _ (by decide +kernel)) ggX14_away_Jx4a65c_get_915e3
set_option maxRecDepth 20000 in
theorem ggX14_away_X14_casts : GoodIn wsX14_away wsX14_casts := goodIn_ca (goodIn_r _ [49, 50, 51, 52, 53, 54, 55, 56, 57, 58, 59, 60, 61, 2, 5, 62, 63, 64, 65, 66, 67, 68, 69, 70, 71, 72, 73, 74, 75, 76, 77, 78, 79, 80, 81, 13, 82, 83, 84, 85, 86, 87, 88, 89, 90, 91, 92, 93, 94, 95, 96, 97, 98, 99, 100, 101, 102, 103, 104, 105, 106, 107, 108, 109, 110, 111, 112, 113, 114, 115, 116, 117, 118, 119, 120, 121, 122, 30, 32, 15, 33, 34, 35, 36, 37, 38, 39, 40, 41, 42, 43, 44, 45, 123, 124, 18, 125, 126, 20, 127, 128, 129, 130, 131, 132, 29, 31, 133, 134, 135, 136, 137, 138, 139, 140, 141, 142, 143, 144, 12, 145, 14, 146, 147, 148, 8, 149, 150, 151, 152, 153, 154, 155, 156, 157, 158, 159, 160, 161, 162, 163, 164, 165, 1, 3, 166, 167, 168, 169, 170, 171, 172, 173, 174, 175, 176, 177, 178, 179, 180, 181, 182, 183, 184, 185, 186, 187, 188, 189, 190, 191, 192, 193, 194, 195, 196, 197, 198, 199, 200, 201, 202, 203, 204, 205, 206, 207, 208, 209, 210, 211, 212, 213, 214, 215, 216, 217, 218, 219, 220, 221, 222, 223, 224, 225, 226, 227, 228, 229, 230, 231, 232, 233, 234, 235, 236, 237, 238, 239, 240, 241, 242, 243, 244, 245, 246, 247, 248, 249, 250, 251, 252, 253, 254, 255, 256, 257, 258, 259, 260, 261, 17, 19, 262, 263, 264, 265, 266, 267, 268, 269, 270, 271, 272, 10, 11, 16, 273, 274, 275, 276, 277, 278, 279, 280, 281, 282, 283, 284, 285, 286, 287, 288, 289, 290, 291, 292, 293, 294, 295, 296, 297, 298, 299, 300, 301, 302, 303, 304, 305, 306, 307, 308, 309, 310, 311, 312, 313, 314, 315, 316, 317, 318, 319, 320, 321, 322, 323, 324, 325, 326, 327, 328, 329, 330, 331, 332, 333, 334, 335, 336, 337, 338, 339, 340, 341, 342, 343, 344, 345, 346, 347, 348, 349, 350, 351, 352, 353, 354, 355, 356, 357, 358, 359, 360, 361, 362, 363, 364, 365, 366, 367, 368, 369, 370, 371, 372, 373, 374, 375, 376, 377, 378, 379, 380, 381, 382, 383, 384, 385, 386, 387, 388, 389, 390, 391, 392, 393, 394, 395, 396, 397, 398, 399, 400, 401, 402, 403, 404, 405, 406, 407, 408, 409, 410, 411, 412, 413, 414, 415, 416, 417, 418, 419, 420, 421, 422, 423, 424, 425, 426, 427, 428, 429, 430, 431, 432, 433, 434, 435, 436, 437, 438, 439, 440, 441, 442, 443, 444, 445, 446, 447, 448, 449, 450, 451, 452, 453, 454, 455, 456, 457, 458, 459, 460, 461, 462, 463, 464, 465, 466, 467, 468, 469, 470, 471, 472, 473, 474, 475, 476, 477, 478, 479, 480, 481, 482, 483, 484, 485, 486, 487, 488, 489, 490, 491, 492, 493, 494, 495, 496, 497, 498, 499, 500, 501, 502, 503, 504, 505, 506, 507, 508, 509, 510, 511, 512, 513, 514, 515, 516, 517, 518, 519, 520, 521, 522, 523, 524, 525, 526, 527, 528, 529, 530, 531, 532, 533, 534, 535, 536, 537, 538, 539, 540, 541, 542, 543, 544, 545, 546, 547, 548, 549, 550, 551, 552, 553, 554, 555, 556, 557, 558, 559, 560, 561, 562, 563, 564, 565, 566, 567, 568, 569, 570, 571, 572, 573, 574, 589, 590, 591, 592, 593, 594, 595, 596, 597, 598, 599, 600, 583, 584, 585, 586, 587, 588, 606, 607, 608, 609, 610, 611, 612, 613, 614, 615, 616, 617, 618, 619, 620, 621, 622, 623, 624, 625, 626, 627, 628, 601, 602, 603, 629, 630, 631, 632, 604, 605, 633, 634, 635, 636, 637, 638, 639, 640, 641, 642, 643, 644, 645, 646, 647, 648, 649, 650, 651, 652, 653, 654, 655, 656, 657, 658, 659, 660, 661, 662, 663, 664] (by decide +kernel) (by decide +kernel)) (goodIn_sub (fun _ h => List.mem_cons_of_mem _ (List.mem_append_right _ h)) (by decide +kernel))
set_option maxRecDepth 20000 in
theorem gX14_away_X14_casts : GoodIn wsX14_away (wsV RX14 286 RX14 yX14_casts wsX14_casts) := goodIn_app (goodIn_of _ (by decide +kernel)) ggX14_away_X14_casts
set_option maxRecDepth 20000 in
theorem ggX14_away_X14_standing : GoodIn wsX14_away wsX14_standing := goodIn_r _ [578, 53, 4, 68, 144, 12, 145, 13, 14, 15, 583, 584, 585, 586, 587, 588, 589, 590, 591, 592, 593, 594, 595, 596, 597, 598, 599, 600, 601, 602, 603] (by decide +kernel) (by decide +kernel)
set_option maxRecDepth 20000 in
theorem gX14_away_X14_standing : GoodIn wsX14_away (wsV RX14 302 RX14 yX14_standing wsX14_standing) := goodIn_app (goodIn_of _ (by decide +kernel)) ggX14_away_X14_standing
set_option maxRecDepth 20000 in
theorem ggX14_away_X14_tells : GoodIn wsX14_away wsX14_tells := goodIn_r _ [582, 28, 583, 584, 585, 586, 587, 588] (by decide +kernel) (by decide +kernel)
set_option maxRecDepth 20000 in
theorem gX14_away_X14_tells : GoodIn wsX14_away (wsV RX14 56 RX14 yX14_tells wsX14_tells) := goodIn_app (goodIn_of _ (by decide +kernel)) ggX14_away_X14_tells
theorem dX14_away_0 : decode cX14_away 0 = .ok (.aload_n 0, 1) := by decide +kernel
theorem dX14_away_1 : decode cX14_away 1 = .ok (.getfield 25, 3) := by decide +kernel
theorem dX14_away_4 : decode cX14_away 4 = .ok (.iload_n 1, 1) := by decide +kernel
theorem dX14_away_5 : decode cX14_away 5 = .ok (.invokestatic 85, 3) := by decide +kernel
theorem dX14_away_8 : decode cX14_away 8 = .ok (.ifCond .eq 14, 3) := by decide +kernel
theorem dX14_away_11 : decode cX14_away 11 = .ok (.aload_n 0, 1) := by decide +kernel
theorem dX14_away_12 : decode cX14_away 12 = .ok (.getfield 16, 3) := by decide +kernel
theorem dX14_away_15 : decode cX14_away 15 = .ok (.iload_n 2, 1) := by decide +kernel
theorem dX14_away_16 : decode cX14_away 16 = .ok (.invokestatic 85, 3) := by decide +kernel
theorem dX14_away_19 : decode cX14_away 19 = .ok (.ifCond .ne 9, 3) := by decide +kernel
theorem dX14_away_22 : decode cX14_away 22 = .ok (.aload_n 0, 1) := by decide +kernel
theorem dX14_away_23 : decode cX14_away 23 = .ok (.iconst 1, 1) := by decide +kernel
theorem dX14_away_24 : decode cX14_away 24 = .ok (.invokevirtual 42, 3) := by decide +kernel
theorem dX14_away_27 : decode cX14_away 27 = .ok (.ireturn, 1) := by decide +kernel
theorem dX14_away_28 : decode cX14_away 28 = .ok (.aload_n 0, 1) := by decide +kernel
theorem dX14_away_29 : decode cX14_away 29 = .ok (.getfield 25, 3) := by decide +kernel
theorem dX14_away_32 : decode cX14_away 32 = .ok (.iload_n 1, 1) := by decide +kernel
theorem dX14_away_33 : decode cX14_away 33 = .ok (.invokevirtual 89, 3) := by decide +kernel
theorem dX14_away_36 : decode cX14_away 36 = .ok (.checkcast 73, 3) := by decide +kernel
theorem dX14_away_39 : decode cX14_away 39 = .ok (.astore_n 3, 1) := by decide +kernel
theorem dX14_away_40 : decode cX14_away 40 = .ok (.aload_n 3, 1) := by decide +kernel
theorem dX14_away_41 : decode cX14_away 41 = .ok (.getfield 191, 3) := by decide +kernel
theorem dX14_away_44 : decode cX14_away 44 = .ok (.ifCond .eq 12, 3) := by decide +kernel
theorem dX14_away_47 : decode cX14_away 47 = .ok (.aload_n 3, 1) := by decide +kernel
theorem dX14_away_48 : decode cX14_away 48 = .ok (.getfield 263, 3) := by decide +kernel
theorem dX14_away_51 : decode cX14_away 51 = .ok (.iload_n 2, 1) := by decide +kernel
theorem dX14_away_52 : decode cX14_away 52 = .ok (.baload, 1) := by decide +kernel
theorem dX14_away_53 : decode cX14_away 53 = .ok (.ifCond .eq 9, 3) := by decide +kernel
theorem dX14_away_56 : decode cX14_away 56 = .ok (.aload_n 0, 1) := by decide +kernel
theorem dX14_away_57 : decode cX14_away 57 = .ok (.iconst 2, 1) := by decide +kernel
theorem dX14_away_58 : decode cX14_away 58 = .ok (.invokevirtual 42, 3) := by decide +kernel
theorem dX14_away_61 : decode cX14_away 61 = .ok (.ireturn, 1) := by decide +kernel
theorem dX14_away_62 : decode cX14_away 62 = .ok (.aload_n 3, 1) := by decide +kernel
theorem dX14_away_63 : decode cX14_away 63 = .ok (.getfield 263, 3) := by decide +kernel
theorem dX14_away_66 : decode cX14_away 66 = .ok (.iload_n 2, 1) := by decide +kernel
theorem dX14_away_67 : decode cX14_away 67 = .ok (.iconst 1, 1) := by decide +kernel
theorem dX14_away_68 : decode cX14_away 68 = .ok (.bastore, 1) := by decide +kernel
theorem dX14_away_69 : decode cX14_away 69 = .ok (.aload_n 0, 1) := by decide +kernel
theorem dX14_away_70 : decode cX14_away 70 = .ok (.aload_n 3, 1) := by decide +kernel
theorem dX14_away_71 : decode cX14_away 71 = .ok (.invokevirtual 286, 3) := by decide +kernel
theorem dX14_away_74 : decode cX14_away 74 = .ok (.pop, 1) := by decide +kernel
theorem dX14_away_75 : decode cX14_away 75 = .ok (.aload_n 0, 1) := by decide +kernel
theorem dX14_away_76 : decode cX14_away 76 = .ok (.aload_n 0, 1) := by decide +kernel
theorem dX14_away_77 : decode cX14_away 77 = .ok (.aload_n 3, 1) := by decide +kernel
theorem dX14_away_78 : decode cX14_away 78 = .ok (.invokevirtual 302, 3) := by decide +kernel
theorem dX14_away_81 : decode cX14_away 81 = .ok (.invokevirtual 56, 3) := by decide +kernel
theorem dX14_away_84 : decode cX14_away 84 = .ok (.ireturn, 1) := by decide +kernel
set_option maxRecDepth 20000 in
theorem ggX14_stands_X14_isOf : GoodIn wsX14_stands wsX14_isOf := goodIn_r _ [7, 8, 9, 10, 11, 12, 13, 14, 15, 16, 17, 18, 19, 20, 6, 21, 58, 59, 60, 61, 62] (by decide +kernel) (by decide +kernel)
set_option maxRecDepth 20000 in
theorem gX14_stands_X14_isOf : GoodIn wsX14_stands (va_wsS RX14 85 yX14_isOf wsX14_isOf) := goodIn_app (goodIn_of _ (by decide +kernel)) ggX14_stands_X14_isOf
set_option maxRecDepth 20000 in
theorem ggX14_stands_X14_failsIf : GoodIn wsX14_stands wsX14_failsIf := goodIn_r _ [25, 26, 52, 53, 54, 55, 56, 57] (by decide +kernel) (by decide +kernel)
set_option maxRecDepth 20000 in
theorem gX14_stands_X14_failsIf : GoodIn wsX14_stands (wsV RX14 105 RX14 yX14_failsIf wsX14_failsIf) := goodIn_app (goodIn_of _ (by decide +kernel)) ggX14_stands_X14_failsIf
set_option maxRecDepth 20000 in
theorem ggX14_stands_Jx4a65c_get_915e3 : GoodIn wsX14_stands wsJx4a65c_get_915e3 := goodIn_r _ [30, 13, 31, 32, 33, 34, 35, 36, 37, 38, 39, 40, 41, 11, 42, 43, 58, 59, 60] (by decide +kernel) (by decide +kernel)
set_option maxRecDepth 20000 in
theorem gX14_stands_Jx4a65c_get_915e3 : GoodIn wsX14_stands (wsV RX14 89 RJx4a65c yJx4a65c_get_915e3 wsJx4a65c_get_915e3) := goodIn_app (goodIn_of _ (by decide +kernel)) ggX14_stands_Jx4a65c_get_915e3
set_option maxRecDepth 20000 in
theorem ggX14_stands_X14_standing : GoodIn wsX14_stands wsX14_standing := goodIn_r _ [47, 2, 48, 49, 50, 10, 51, 11, 12, 13, 52, 53, 54, 55, 56, 57, 63, 64, 65, 66, 67, 68, 69, 70, 71, 72, 73, 74, 58, 59, 60] (by decide +kernel) (by decide +kernel)
set_option maxRecDepth 20000 in
theorem gX14_stands_X14_standing : GoodIn wsX14_stands (wsV RX14 302 RX14 yX14_standing wsX14_standing) := goodIn_app (goodIn_of _ (by decide +kernel)) ggX14_stands_X14_standing
theorem dX14_stands_0 : decode cX14_stands 0 = .ok (.aload_n 0, 1) := by decide +kernel
theorem dX14_stands_1 : decode cX14_stands 1 = .ok (.aload_n 0, 1) := by decide +kernel
theorem dX14_stands_2 : decode cX14_stands 2 = .ok (.getfield 25, 3) := by decide +kernel
theorem dX14_stands_5 : decode cX14_stands 5 = .ok (.iload_n 1, 1) := by decide +kernel
theorem dX14_stands_6 : decode cX14_stands 6 = .ok (.invokestatic 85, 3) := by decide +kernel
theorem dX14_stands_9 : decode cX14_stands 9 = .ok (.ifCond .eq 18, 3) := by decide +kernel
theorem dX14_stands_12 : decode cX14_stands 12 = .ok (.aload_n 0, 1) := by decide +kernel
theorem dX14_stands_13 : decode cX14_stands 13 = .ok (.getfield 10, 3) := by decide +kernel
theorem dX14_stands_16 : decode cX14_stands 16 = .ok (.iload_n 2, 1) := by decide +kernel
theorem dX14_stands_17 : decode cX14_stands 17 = .ok (.invokestatic 85, 3) := by decide +kernel
theorem dX14_stands_20 : decode cX14_stands 20 = .ok (.ifCond .eq 7, 3) := by decide +kernel
theorem dX14_stands_23 : decode cX14_stands 23 = .ok (.iconst 0, 1) := by decide +kernel
theorem dX14_stands_24 : decode cX14_stands 24 = .ok (.goto 4, 3) := by decide +kernel
theorem dX14_stands_27 : decode cX14_stands 27 = .ok (.iconst 1, 1) := by decide +kernel
theorem dX14_stands_28 : decode cX14_stands 28 = .ok (.invokevirtual 105, 3) := by decide +kernel
theorem dX14_stands_31 : decode cX14_stands 31 = .ok (.ifCond .ne 30, 3) := by decide +kernel
theorem dX14_stands_34 : decode cX14_stands 34 = .ok (.aload_n 0, 1) := by decide +kernel
theorem dX14_stands_35 : decode cX14_stands 35 = .ok (.aload_n 0, 1) := by decide +kernel
theorem dX14_stands_36 : decode cX14_stands 36 = .ok (.getfield 25, 3) := by decide +kernel
theorem dX14_stands_39 : decode cX14_stands 39 = .ok (.iload_n 1, 1) := by decide +kernel
theorem dX14_stands_40 : decode cX14_stands 40 = .ok (.invokevirtual 89, 3) := by decide +kernel
theorem dX14_stands_43 : decode cX14_stands 43 = .ok (.checkcast 73, 3) := by decide +kernel
theorem dX14_stands_46 : decode cX14_stands 46 = .ok (.invokevirtual 302, 3) := by decide +kernel
theorem dX14_stands_49 : decode cX14_stands 49 = .ok (.iload_n 2, 1) := by decide +kernel
theorem dX14_stands_50 : decode cX14_stands 50 = .ok (.ishr, 1) := by decide +kernel
theorem dX14_stands_51 : decode cX14_stands 51 = .ok (.iconst 1, 1) := by decide +kernel
theorem dX14_stands_52 : decode cX14_stands 52 = .ok (.iand, 1) := by decide +kernel
theorem dX14_stands_53 : decode cX14_stands 53 = .ok (.iconst 1, 1) := by decide +kernel
theorem dX14_stands_54 : decode cX14_stands 54 = .ok (.if_icmp .ne 7, 3) := by decide +kernel
theorem dX14_stands_57 : decode cX14_stands 57 = .ok (.iconst 1, 1) := by decide +kernel
theorem dX14_stands_58 : decode cX14_stands 58 = .ok (.goto 4, 3) := by decide +kernel
theorem dX14_stands_61 : decode cX14_stands 61 = .ok (.iconst 0, 1) := by decide +kernel
theorem dX14_stands_62 : decode cX14_stands 62 = .ok (.ireturn, 1) := by decide +kernel
set_option maxRecDepth 20000 in
theorem ggX14_castAt_X14_isOf : GoodIn wsX14_castAt wsX14_isOf := goodIn_r _ [9, 10, 11, 12, 13, 14, 15, 16, 17, 18, 19, 20, 21, 22, 8, 23, 68, 69, 70, 71, 72] (by decide +kernel) (by decide +kernel)
set_option maxRecDepth 20000 in
theorem gX14_castAt_X14_isOf : GoodIn wsX14_castAt (va_wsS RX14 85 yX14_isOf wsX14_isOf) := goodIn_app (goodIn_of _ (by decide +kernel)) ggX14_castAt_X14_isOf
set_option maxRecDepth 20000 in
theorem ggX14_castAt_X14_fails : GoodIn wsX14_castAt wsX14_fails := goodIn_r _ [27, 28, 50, 51, 52, 53, 54, 55] (by decide +kernel) (by decide +kernel)
set_option maxRecDepth 20000 in
theorem gX14_castAt_X14_fails : GoodIn wsX14_castAt (wsV RX14 42 RX14 yX14_fails wsX14_fails) := goodIn_app (goodIn_of _ (by decide +kernel)) ggX14_castAt_X14_fails
set_option maxRecDepth 20000 in
theorem ggX14_castAt_Jx4a65c_get_915e3 : GoodIn wsX14_castAt wsJx4a65c_get_915e3 := goodIn_r _ [32, 15, 33, 34, 35, 36, 37, 38, 39, 40, 41, 42, 43, 13, 44, 45, 68, 69, 70] (by decide +kernel) (by decide +kernel)
set_option maxRecDepth 20000 in
theorem gX14_castAt_Jx4a65c_get_915e3 : GoodIn wsX14_castAt (wsV RX14 89 RJx4a65c yJx4a65c_get_915e3 wsJx4a65c_get_915e3) := goodIn_app (goodIn_of _ (by decide +kernel)) ggX14_castAt_Jx4a65c_get_915e3
set_option maxRecDepth 20000 in
theorem ggX14_castAt_X14_in : GoodIn wsX14_castAt wsX14_in := goodIn_r _ [23] (by decide +kernel) (by decide +kernel)
set_option maxRecDepth 20000 in
theorem gX14_castAt_X14_in : GoodIn wsX14_castAt (va_wsS RX14 38 yX14_in wsX14_in) := goodIn_app (goodIn_of _ (by decide +kernel)) ggX14_castAt_X14_in
set_option maxRecDepth 20000 in
theorem ggX14_castAt_X14_tells : GoodIn wsX14_castAt wsX14_tells := goodIn_r _ [49, 28, 50, 51, 52, 53, 54, 55] (by decide +kernel) (by decide +kernel)
set_option maxRecDepth 20000 in
theorem gX14_castAt_X14_tells : GoodIn wsX14_castAt (wsV RX14 56 RX14 yX14_tells wsX14_tells) := goodIn_app (goodIn_of _ (by decide +kernel)) ggX14_castAt_X14_tells
theorem dX14_castAt_0 : decode cX14_castAt 0 = .ok (.aload_n 0, 1) := by decide +kernel
theorem dX14_castAt_1 : decode cX14_castAt 1 = .ok (.getfield 25, 3) := by decide +kernel
theorem dX14_castAt_4 : decode cX14_castAt 4 = .ok (.iload_n 1, 1) := by decide +kernel
theorem dX14_castAt_5 : decode cX14_castAt 5 = .ok (.invokestatic 85, 3) := by decide +kernel
theorem dX14_castAt_8 : decode cX14_castAt 8 = .ok (.ifCond .eq 14, 3) := by decide +kernel
theorem dX14_castAt_11 : decode cX14_castAt 11 = .ok (.aload_n 0, 1) := by decide +kernel
theorem dX14_castAt_12 : decode cX14_castAt 12 = .ok (.getfield 10, 3) := by decide +kernel
theorem dX14_castAt_15 : decode cX14_castAt 15 = .ok (.iload_n 2, 1) := by decide +kernel
theorem dX14_castAt_16 : decode cX14_castAt 16 = .ok (.invokestatic 85, 3) := by decide +kernel
theorem dX14_castAt_19 : decode cX14_castAt 19 = .ok (.ifCond .ne 9, 3) := by decide +kernel
theorem dX14_castAt_22 : decode cX14_castAt 22 = .ok (.aload_n 0, 1) := by decide +kernel
theorem dX14_castAt_23 : decode cX14_castAt 23 = .ok (.iconst 1, 1) := by decide +kernel
theorem dX14_castAt_24 : decode cX14_castAt 24 = .ok (.invokevirtual 42, 3) := by decide +kernel
theorem dX14_castAt_27 : decode cX14_castAt 27 = .ok (.ireturn, 1) := by decide +kernel
theorem dX14_castAt_28 : decode cX14_castAt 28 = .ok (.aload_n 0, 1) := by decide +kernel
theorem dX14_castAt_29 : decode cX14_castAt 29 = .ok (.getfield 25, 3) := by decide +kernel
theorem dX14_castAt_32 : decode cX14_castAt 32 = .ok (.iload_n 1, 1) := by decide +kernel
theorem dX14_castAt_33 : decode cX14_castAt 33 = .ok (.invokevirtual 89, 3) := by decide +kernel
theorem dX14_castAt_36 : decode cX14_castAt 36 = .ok (.checkcast 73, 3) := by decide +kernel
theorem dX14_castAt_39 : decode cX14_castAt 39 = .ok (.astore 4, 2) := by decide +kernel
theorem dX14_castAt_41 : decode cX14_castAt 41 = .ok (.aload 4, 2) := by decide +kernel
theorem dX14_castAt_43 : decode cX14_castAt 43 = .ok (.getfield 191, 3) := by decide +kernel
theorem dX14_castAt_46 : decode cX14_castAt 46 = .ok (.ifCond .eq 13, 3) := by decide +kernel
theorem dX14_castAt_49 : decode cX14_castAt 49 = .ok (.aload 4, 2) := by decide +kernel
theorem dX14_castAt_51 : decode cX14_castAt 51 = .ok (.getfield 237, 3) := by decide +kernel
theorem dX14_castAt_54 : decode cX14_castAt 54 = .ok (.iload_n 2, 1) := by decide +kernel
theorem dX14_castAt_55 : decode cX14_castAt 55 = .ok (.aaload, 1) := by decide +kernel
theorem dX14_castAt_56 : decode cX14_castAt 56 = .ok (.goto 4, 3) := by decide +kernel
theorem dX14_castAt_59 : decode cX14_castAt 59 = .ok (.aconst_null, 1) := by decide +kernel
theorem dX14_castAt_60 : decode cX14_castAt 60 = .ok (.astore 5, 2) := by decide +kernel
theorem dX14_castAt_62 : decode cX14_castAt 62 = .ok (.aload 5, 2) := by decide +kernel
theorem dX14_castAt_64 : decode cX14_castAt 64 = .ok (.ifnull 16, 3) := by decide +kernel
theorem dX14_castAt_67 : decode cX14_castAt 67 = .ok (.iload_n 3, 1) := by decide +kernel
theorem dX14_castAt_68 : decode cX14_castAt 68 = .ok (.iconst 0, 1) := by decide +kernel
theorem dX14_castAt_69 : decode cX14_castAt 69 = .ok (.aload 5, 2) := by decide +kernel
theorem dX14_castAt_71 : decode cX14_castAt 71 = .ok (.arraylength, 1) := by decide +kernel
theorem dX14_castAt_72 : decode cX14_castAt 72 = .ok (.iconst 1, 1) := by decide +kernel
theorem dX14_castAt_73 : decode cX14_castAt 73 = .ok (.isub, 1) := by decide +kernel
theorem dX14_castAt_74 : decode cX14_castAt 74 = .ok (.invokestatic 38, 3) := by decide +kernel
theorem dX14_castAt_77 : decode cX14_castAt 77 = .ok (.ifCond .ne 11, 3) := by decide +kernel
theorem dX14_castAt_80 : decode cX14_castAt 80 = .ok (.aload_n 0, 1) := by decide +kernel
theorem dX14_castAt_81 : decode cX14_castAt 81 = .ok (.iconst 2, 1) := by decide +kernel
theorem dX14_castAt_82 : decode cX14_castAt 82 = .ok (.invokevirtual 42, 3) := by decide +kernel
theorem dX14_castAt_85 : decode cX14_castAt 85 = .ok (.goto 11, 3) := by decide +kernel
theorem dX14_castAt_88 : decode cX14_castAt 88 = .ok (.aload_n 0, 1) := by decide +kernel
theorem dX14_castAt_89 : decode cX14_castAt 89 = .ok (.aload 5, 2) := by decide +kernel
theorem dX14_castAt_91 : decode cX14_castAt 91 = .ok (.iload_n 3, 1) := by decide +kernel
theorem dX14_castAt_92 : decode cX14_castAt 92 = .ok (.iaload, 1) := by decide +kernel
theorem dX14_castAt_93 : decode cX14_castAt 93 = .ok (.invokevirtual 56, 3) := by decide +kernel
theorem dX14_castAt_96 : decode cX14_castAt 96 = .ok (.ireturn, 1) := by decide +kernel
set_option maxRecDepth 20000 in
theorem ggX14_cost_X14_isOf : GoodIn wsX14_cost wsX14_isOf := goodIn_r _ [6, 7, 8, 9, 10, 11, 12, 13, 14, 15, 16, 17, 18, 19, 5, 20, 185, 186, 187, 188, 189] (by decide +kernel) (by decide +kernel)
set_option maxRecDepth 20000 in
theorem gX14_cost_X14_isOf : GoodIn wsX14_cost (va_wsS RX14 85 yX14_isOf wsX14_isOf) := goodIn_app (goodIn_of _ (by decide +kernel)) ggX14_cost_X14_isOf
set_option maxRecDepth 20000 in
theorem ggX14_cost_Jx4a65c_get_915e3 : GoodIn wsX14_cost wsJx4a65c_get_915e3 := goodIn_r _ [24, 12, 25, 26, 27, 28, 29, 30, 31, 32, 33, 34, 35, 10, 36, 37, 185, 186, 187] (by decide +kernel) (by decide +kernel)
set_option maxRecDepth 20000 in
theorem gX14_cost_Jx4a65c_get_915e3 : GoodIn wsX14_cost (wsV RX14 89 RJx4a65c yJx4a65c_get_915e3 wsJx4a65c_get_915e3) := goodIn_app (goodIn_of _ (by decide +kernel)) ggX14_cost_Jx4a65c_get_915e3
set_option maxRecDepth 20000 in
theorem ggX14_cost_X14_costOf : GoodIn wsX14_cost wsX14_costOf := goodIn_ca (goodIn_r _ [41, 42, 43, 44, 45, 46, 47, 48, 49, 50, 51, 52, 53, 54, 21, 22, 23, 10, 24, 12, 25, 26, 27, 28, 29, 30, 31, 32, 33, 34, 35, 36, 37, 55, 9, 56, 11, 57, 58, 59, 60, 61, 62, 63, 64, 65, 66, 67, 68, 69, 70, 71, 72, 73, 74, 75, 76, 77, 78, 79, 80, 81, 82, 83, 84, 85, 86, 87, 88, 89, 90, 91, 92, 93, 94, 95, 96, 97, 98, 99, 100, 101, 102, 103, 104, 105, 106, 107, 108, 109, 110, 111, 112, 113, 114, 115, 116, 117, 118, 119, 120, 121, 122, 123, 124, 125, 126, 127, 128, 129, 130, 131, 132, 133, 134, 135, 136, 137, 138, 139, 140, 141, 142, 143, 144, 145, 146, 147, 148, 149, 150, 151, 152, 153, 154, 155, 156, 157, 158, 159, 160, 161, 162, 163, 15, 164, 165, 17, 166, 167, 168, 169, 190, 191, 192, 193, 194, 195, 196, 197, 198, 199, 200, 201, 179, 180, 181, 182, 183, 184, 202, 203, 204, 205, 206, 207, 208, 209, 185, 186, 187, 210, 211, 212, 213, 214, 215, 216, 217, 218, 219, 188, 189] (by decide +kernel) (by decide +kernel)) (goodIn_sub (fun _ h => List.mem_cons_of_mem _ (List.mem_append_right _ h)) (by decide +kernel))
set_option maxRecDepth 20000 in
theorem gX14_cost_X14_costOf : GoodIn wsX14_cost (wsV RX14 289 RX14 yX14_costOf wsX14_costOf) := goodIn_app (goodIn_of _ (by decide +kernel)) ggX14_cost_X14_costOf
set_option maxRecDepth 20000 in
theorem ggX14_cost_X14_tells : GoodIn wsX14_cost wsX14_tells := goodIn_r _ [173, 174, 179, 180, 181, 182, 183, 184] (by decide +kernel) (by decide +kernel)
set_option maxRecDepth 20000 in
theorem gX14_cost_X14_tells : GoodIn wsX14_cost (wsV RX14 56 RX14 yX14_tells wsX14_tells) := goodIn_app (goodIn_of _ (by decide +kernel)) ggX14_cost_X14_tells
set_option maxRecDepth 20000 in
theorem ggX14_cost_X14_fails : GoodIn wsX14_cost wsX14_fails := goodIn_r _ [178, 174, 179, 180, 181, 182, 183, 184] (by decide +kernel) (by decide +kernel)
set_option maxRecDepth 20000 in
theorem gX14_cost_X14_fails : GoodIn wsX14_cost (wsV RX14 42 RX14 yX14_fails wsX14_fails) := goodIn_app (goodIn_of _ (by decide +kernel)) ggX14_cost_X14_fails
theorem dX14_cost_0 : decode cX14_cost 0 = .ok (.aload_n 0, 1) := by decide +kernel
theorem dX14_cost_1 : decode cX14_cost 1 = .ok (.getfield 25, 3) := by decide +kernel
theorem dX14_cost_4 : decode cX14_cost 4 = .ok (.iload_n 1, 1) := by decide +kernel
theorem dX14_cost_5 : decode cX14_cost 5 = .ok (.invokestatic 85, 3) := by decide +kernel
theorem dX14_cost_8 : decode cX14_cost 8 = .ok (.ifCond .eq 25, 3) := by decide +kernel
theorem dX14_cost_11 : decode cX14_cost 11 = .ok (.aload_n 0, 1) := by decide +kernel
theorem dX14_cost_12 : decode cX14_cost 12 = .ok (.aload_n 0, 1) := by decide +kernel
theorem dX14_cost_13 : decode cX14_cost 13 = .ok (.aload_n 0, 1) := by decide +kernel
theorem dX14_cost_14 : decode cX14_cost 14 = .ok (.getfield 25, 3) := by decide +kernel
theorem dX14_cost_17 : decode cX14_cost 17 = .ok (.iload_n 1, 1) := by decide +kernel
theorem dX14_cost_18 : decode cX14_cost 18 = .ok (.invokevirtual 89, 3) := by decide +kernel
theorem dX14_cost_21 : decode cX14_cost 21 = .ok (.checkcast 73, 3) := by decide +kernel
theorem dX14_cost_24 : decode cX14_cost 24 = .ok (.invokevirtual 289, 3) := by decide +kernel
theorem dX14_cost_27 : decode cX14_cost 27 = .ok (.invokevirtual 56, 3) := by decide +kernel
theorem dX14_cost_30 : decode cX14_cost 30 = .ok (.goto 8, 3) := by decide +kernel
theorem dX14_cost_33 : decode cX14_cost 33 = .ok (.aload_n 0, 1) := by decide +kernel
theorem dX14_cost_34 : decode cX14_cost 34 = .ok (.iconst 1, 1) := by decide +kernel
theorem dX14_cost_35 : decode cX14_cost 35 = .ok (.invokevirtual 42, 3) := by decide +kernel
theorem dX14_cost_38 : decode cX14_cost 38 = .ok (.ireturn, 1) := by decide +kernel
set_option maxRecDepth 20000 in
theorem ggX14_isFree_X14_isOf : GoodIn wsX14_isFree wsX14_isOf := goodIn_r _ [7, 8, 9, 10, 11, 12, 13, 14, 15, 16, 17, 18, 19, 20, 6, 21, 231, 232, 233, 234, 235] (by decide +kernel) (by decide +kernel)
set_option maxRecDepth 20000 in
theorem gX14_isFree_X14_isOf : GoodIn wsX14_isFree (va_wsS RX14 85 yX14_isOf wsX14_isOf) := goodIn_app (goodIn_of _ (by decide +kernel)) ggX14_isFree_X14_isOf
set_option maxRecDepth 20000 in
theorem ggX14_isFree_X14_failsIf : GoodIn wsX14_isFree wsX14_failsIf := goodIn_r _ [25, 26, 225, 226, 227, 228, 229, 230] (by decide +kernel) (by decide +kernel)
set_option maxRecDepth 20000 in
theorem gX14_isFree_X14_failsIf : GoodIn wsX14_isFree (wsV RX14 105 RX14 yX14_failsIf wsX14_failsIf) := goodIn_app (goodIn_of _ (by decide +kernel)) ggX14_isFree_X14_failsIf
set_option maxRecDepth 20000 in
theorem ggX14_isFree_Jx4a65c_get_915e3 : GoodIn wsX14_isFree wsJx4a65c_get_915e3 := goodIn_r _ [30, 13, 31, 32, 33, 34, 35, 36, 37, 38, 39, 40, 41, 11, 42, 43, 231, 232, 233] (by decide +kernel) (by decide +kernel)
set_option maxRecDepth 20000 in
theorem gX14_isFree_Jx4a65c_get_915e3 : GoodIn wsX14_isFree (wsV RX14 89 RJx4a65c yJx4a65c_get_915e3 wsJx4a65c_get_915e3) := goodIn_app (goodIn_of _ (by decide +kernel)) ggX14_isFree_Jx4a65c_get_915e3
set_option maxRecDepth 20000 in
theorem ggX14_isFree_X14_free : GoodIn wsX14_isFree wsX14_free := goodIn_ca (goodIn_r _ [47, 1, 48, 49, 27, 28, 29, 11, 30, 13, 31, 32, 33, 34, 35, 36, 37, 38, 39, 40, 41, 42, 43, 50, 51, 52, 53, 54, 55, 56, 57, 58, 59, 60, 61, 62, 63, 64, 65, 66, 67, 68, 69, 70, 71, 72, 73, 74, 75, 76, 77, 78, 79, 80, 81, 82, 83, 84, 85, 86, 87, 88, 89, 90, 91, 92, 93, 94, 95, 96, 97, 98, 99, 100, 101, 102, 16, 103, 104, 18, 105, 106, 107, 6, 108, 109, 110, 2, 3, 111, 112, 113, 114, 115, 116, 117, 118, 119, 120, 121, 122, 123, 124, 125, 126, 127, 128, 129, 130, 131, 132, 133, 134, 135, 136, 137, 138, 139, 140, 141, 142, 143, 144, 145, 146, 147, 148, 149, 150, 151, 152, 153, 154, 155, 156, 157, 158, 159, 160, 161, 162, 163, 164, 165, 166, 167, 168, 169, 170, 171, 172, 173, 174, 175, 176, 177, 178, 179, 180, 181, 182, 183, 184, 185, 186, 187, 188, 189, 190, 191, 192, 193, 194, 195, 196, 197, 198, 199, 200, 201, 202, 203, 204, 205, 206, 207, 208, 209, 210, 211, 212, 213, 15, 17, 214, 215, 216, 217, 218, 219, 220, 221, 222, 223, 224, 225, 226, 227, 228, 229, 230, 236, 237, 238, 239, 240, 241, 242, 243, 244, 245, 246, 247, 231, 232, 233, 248, 249, 250, 251, 252, 253, 254, 255, 256, 257, 258, 259, 260, 234, 235, 261, 262, 263, 264] (by decide +kernel) (by decide +kernel)) (goodIn_sub (fun _ h => List.mem_cons_of_mem _ (List.mem_append_right _ h)) (by decide +kernel))
set_option maxRecDepth 20000 in
theorem gX14_isFree_X14_free : GoodIn wsX14_isFree (wsV RX14 266 RX14 yX14_free wsX14_free) := goodIn_app (goodIn_of _ (by decide +kernel)) ggX14_isFree_X14_free
theorem dX14_isFree_0 : decode cX14_isFree 0 = .ok (.aload_n 0, 1) := by decide +kernel
theorem dX14_isFree_1 : decode cX14_isFree 1 = .ok (.aload_n 0, 1) := by decide +kernel
theorem dX14_isFree_2 : decode cX14_isFree 2 = .ok (.getfield 16, 3) := by decide +kernel
theorem dX14_isFree_5 : decode cX14_isFree 5 = .ok (.iload_n 1, 1) := by decide +kernel
theorem dX14_isFree_6 : decode cX14_isFree 6 = .ok (.invokestatic 85, 3) := by decide +kernel
theorem dX14_isFree_9 : decode cX14_isFree 9 = .ok (.ifCond .eq 18, 3) := by decide +kernel
theorem dX14_isFree_12 : decode cX14_isFree 12 = .ok (.aload_n 0, 1) := by decide +kernel
theorem dX14_isFree_13 : decode cX14_isFree 13 = .ok (.getfield 25, 3) := by decide +kernel
theorem dX14_isFree_16 : decode cX14_isFree 16 = .ok (.iload_n 2, 1) := by decide +kernel
theorem dX14_isFree_17 : decode cX14_isFree 17 = .ok (.invokestatic 85, 3) := by decide +kernel
theorem dX14_isFree_20 : decode cX14_isFree 20 = .ok (.ifCond .eq 7, 3) := by decide +kernel
theorem dX14_isFree_23 : decode cX14_isFree 23 = .ok (.iconst 0, 1) := by decide +kernel
theorem dX14_isFree_24 : decode cX14_isFree 24 = .ok (.goto 4, 3) := by decide +kernel
theorem dX14_isFree_27 : decode cX14_isFree 27 = .ok (.iconst 1, 1) := by decide +kernel
theorem dX14_isFree_28 : decode cX14_isFree 28 = .ok (.invokevirtual 105, 3) := by decide +kernel
theorem dX14_isFree_31 : decode cX14_isFree 31 = .ok (.ifCond .ne 26, 3) := by decide +kernel
theorem dX14_isFree_34 : decode cX14_isFree 34 = .ok (.aload_n 0, 1) := by decide +kernel
theorem dX14_isFree_35 : decode cX14_isFree 35 = .ok (.iload_n 1, 1) := by decide +kernel
theorem dX14_isFree_36 : decode cX14_isFree 36 = .ok (.aload_n 0, 1) := by decide +kernel
theorem dX14_isFree_37 : decode cX14_isFree 37 = .ok (.getfield 25, 3) := by decide +kernel
theorem dX14_isFree_40 : decode cX14_isFree 40 = .ok (.iload_n 2, 1) := by decide +kernel
theorem dX14_isFree_41 : decode cX14_isFree 41 = .ok (.invokevirtual 89, 3) := by decide +kernel
theorem dX14_isFree_44 : decode cX14_isFree 44 = .ok (.checkcast 73, 3) := by decide +kernel
theorem dX14_isFree_47 : decode cX14_isFree 47 = .ok (.invokevirtual 266, 3) := by decide +kernel
theorem dX14_isFree_50 : decode cX14_isFree 50 = .ok (.ifCond .eq 7, 3) := by decide +kernel
theorem dX14_isFree_53 : decode cX14_isFree 53 = .ok (.iconst 1, 1) := by decide +kernel
theorem dX14_isFree_54 : decode cX14_isFree 54 = .ok (.goto 4, 3) := by decide +kernel
theorem dX14_isFree_57 : decode cX14_isFree 57 = .ok (.iconst 0, 1) := by decide +kernel
theorem dX14_isFree_58 : decode cX14_isFree 58 = .ok (.ireturn, 1) := by decide +kernel
set_option maxRecDepth 20000 in
theorem ggX14_services_X14_isOf : GoodIn wsX14_services wsX14_isOf := goodIn_r _ [5, 6, 7, 8, 9, 10, 11, 12, 13, 14, 15, 16, 17, 18, 4, 19, 181, 182, 183, 184, 185] (by decide +kernel) (by decide +kernel)
set_option maxRecDepth 20000 in
theorem gX14_services_X14_isOf : GoodIn wsX14_services (va_wsS RX14 85 yX14_isOf wsX14_isOf) := goodIn_app (goodIn_of _ (by decide +kernel)) ggX14_services_X14_isOf
set_option maxRecDepth 20000 in
theorem ggX14_services_X14_booked : GoodIn wsX14_services wsX14_booked := goodIn_ca (goodIn_r _ [23, 24, 25, 9, 26, 27, 28, 29, 30, 31, 32, 33, 34, 35, 36, 37, 38, 39, 40, 41, 42, 43, 44, 45, 46, 47, 48, 49, 50, 51, 52, 53, 54, 55, 56, 57, 58, 59, 60, 61, 62, 63, 64, 65, 66, 67, 68, 69, 70, 71, 72, 73, 74, 75, 76, 77, 78, 79, 80, 81, 82, 83, 84, 85, 86, 87, 88, 11, 89, 90, 91, 92, 93, 94, 95, 96, 97, 98, 99, 100, 101, 102, 14, 103, 104, 16, 105, 106, 107, 108, 109, 110, 111, 112, 113, 114, 115, 116, 117, 118, 119, 120, 121, 122, 123, 124, 125, 126, 127, 128, 129, 130, 131, 132, 133, 134, 135, 136, 137, 138, 139, 140, 141, 142, 143, 144, 145, 146, 147, 148, 149, 150, 151, 152, 153, 154, 155, 156, 157, 158, 159, 160, 161, 162, 163, 164, 165, 181, 182, 183, 175, 176, 177, 178, 179, 180, 186, 187, 188, 189, 190, 191, 192, 193, 184, 185, 194, 195, 196, 197, 198, 199, 200, 201, 202, 203, 204, 205, 206, 207, 208, 209] (by decide +kernel) (by decide +kernel)) (goodIn_sub (fun _ h => List.mem_cons_of_mem _ (List.mem_append_right _ h)) (by decide +kernel))
set_option maxRecDepth 20000 in
theorem gX14_services_X14_booked : GoodIn wsX14_services (wsV RX14 251 RX14 yX14_booked wsX14_booked) := goodIn_app (goodIn_of _ (by decide +kernel)) ggX14_services_X14_booked
set_option maxRecDepth 20000 in
theorem ggX14_services_Jx4a65c_size_8abf5 : GoodIn wsX14_services wsJx4a65c_size_8abf5 := goodIn_r _ [10, 11, 181, 182, 183] (by decide +kernel) (by decide +kernel)
set_option maxRecDepth 20000 in
theorem gX14_services_Jx4a65c_size_8abf5_f32Jx4a65c : GoodIn wsX14_services (va_wsF RX14 32 RJx4a65c ⟨"java/util/List", "size", "()I"⟩ yJx4a65c_size_8abf5 wsJx4a65c_size_8abf5) := goodIn_app (goodIn_of _ (by decide +kernel)) ggX14_services_Jx4a65c_size_8abf5
set_option maxRecDepth 20000 in
theorem ggX14_services_Jx6a02c_size_8abf5 : GoodIn wsX14_services wsJx6a02c_size_8abf5 := goodIn_r _ [15, 16, 184, 185] (by decide +kernel) (by decide +kernel)
set_option maxRecDepth 20000 in
theorem gX14_services_Jx6a02c_size_8abf5_f32Jx6a02c : GoodIn wsX14_services (va_wsF RX14 32 RJx6a02c ⟨"java/util/List", "size", "()I"⟩ yJx6a02c_size_8abf5 wsJx6a02c_size_8abf5) := goodIn_app (goodIn_of _ (by decide +kernel)) ggX14_services_Jx6a02c_size_8abf5
set_option maxRecDepth 20000 in
theorem ggX14_services_X14_tells : GoodIn wsX14_services wsX14_tells := goodIn_r _ [169, 170, 175, 176, 177, 178, 179, 180] (by decide +kernel) (by decide +kernel)
set_option maxRecDepth 20000 in
theorem gX14_services_X14_tells : GoodIn wsX14_services (wsV RX14 56 RX14 yX14_tells wsX14_tells) := goodIn_app (goodIn_of _ (by decide +kernel)) ggX14_services_X14_tells
set_option maxRecDepth 20000 in
theorem ggX14_services_X14_fails : GoodIn wsX14_services wsX14_fails := goodIn_r _ [174, 170, 175, 176, 177, 178, 179, 180] (by decide +kernel) (by decide +kernel)
set_option maxRecDepth 20000 in
theorem gX14_services_X14_fails : GoodIn wsX14_services (wsV RX14 42 RX14 yX14_fails wsX14_fails) := goodIn_app (goodIn_of _ (by decide +kernel)) ggX14_services_X14_fails
theorem dX14_services_0 : decode cX14_services 0 = .ok (.aload_n 0, 1) := by decide +kernel
theorem dX14_services_1 : decode cX14_services 1 = .ok (.getfield 16, 3) := by decide +kernel
theorem dX14_services_4 : decode cX14_services 4 = .ok (.iload_n 1, 1) := by decide +kernel
theorem dX14_services_5 : decode cX14_services 5 = .ok (.invokestatic 85, 3) := by decide +kernel
theorem dX14_services_8 : decode cX14_services 8 = .ok (.ifCond .eq 21, 3) := by decide +kernel
theorem dX14_services_11 : decode cX14_services 11 = .ok (.aload_n 0, 1) := by decide +kernel
theorem dX14_services_12 : decode cX14_services 12 = .ok (.aload_n 0, 1) := by decide +kernel
theorem dX14_services_13 : decode cX14_services 13 = .ok (.iload_n 1, 1) := by decide +kernel
theorem dX14_services_14 : decode cX14_services 14 = .ok (.aconst_null, 1) := by decide +kernel
theorem dX14_services_15 : decode cX14_services 15 = .ok (.invokevirtual 251, 3) := by decide +kernel
theorem dX14_services_18 : decode cX14_services 18 = .ok (.invokeinterface 32 1, 5) := by decide +kernel
theorem dX14_services_23 : decode cX14_services 23 = .ok (.invokevirtual 56, 3) := by decide +kernel
theorem dX14_services_26 : decode cX14_services 26 = .ok (.goto 8, 3) := by decide +kernel
theorem dX14_services_29 : decode cX14_services 29 = .ok (.aload_n 0, 1) := by decide +kernel
theorem dX14_services_30 : decode cX14_services 30 = .ok (.iconst 1, 1) := by decide +kernel
theorem dX14_services_31 : decode cX14_services 31 = .ok (.invokevirtual 42, 3) := by decide +kernel
theorem dX14_services_34 : decode cX14_services 34 = .ok (.ireturn, 1) := by decide +kernel
set_option maxRecDepth 20000 in
theorem ggX14_waits_Jx4a65c_size_8abf5 : GoodIn wsX14_waits wsJx4a65c_size_8abf5 := goodIn_r _ [11, 12, 72, 73, 74] (by decide +kernel) (by decide +kernel)
set_option maxRecDepth 20000 in
theorem gX14_waits_Jx4a65c_size_8abf5 : GoodIn wsX14_waits (wsV RX14 46 RJx4a65c yJx4a65c_size_8abf5 wsJx4a65c_size_8abf5) := goodIn_app (goodIn_of _ (by decide +kernel)) ggX14_waits_Jx4a65c_size_8abf5
set_option maxRecDepth 20000 in
theorem gX14_waits_Jx4a65c_size_8abf5_f32Jx4a65c : GoodIn wsX14_waits (va_wsF RX14 32 RJx4a65c ⟨"java/util/List", "size", "()I"⟩ yJx4a65c_size_8abf5 wsJx4a65c_size_8abf5) := goodIn_app (goodIn_of _ (by decide +kernel)) ggX14_waits_Jx4a65c_size_8abf5
set_option maxRecDepth 20000 in
theorem ggX14_waits_Jx6a02c_size_8abf5 : GoodIn wsX14_waits wsJx6a02c_size_8abf5 := goodIn_r _ [18, 19, 75, 76] (by decide +kernel) (by decide +kernel)
set_option maxRecDepth 20000 in
theorem gX14_waits_Jx6a02c_size_8abf5_f32Jx6a02c : GoodIn wsX14_waits (va_wsF RX14 32 RJx6a02c ⟨"java/util/List", "size", "()I"⟩ yJx6a02c_size_8abf5 wsJx6a02c_size_8abf5) := goodIn_app (goodIn_of _ (by decide +kernel)) ggX14_waits_Jx6a02c_size_8abf5
set_option maxRecDepth 20000 in
theorem ggX14_waits_Jx4a65c_get_915e3 : GoodIn wsX14_waits wsJx4a65c_get_915e3 := goodIn_r _ [23, 12, 24, 25, 26, 27, 28, 29, 30, 31, 32, 33, 34, 10, 35, 36, 72, 73, 74] (by decide +kernel) (by decide +kernel)
set_option maxRecDepth 20000 in
theorem gX14_waits_Jx4a65c_get_915e3_f285Jx4a65c : GoodIn wsX14_waits (va_wsF RX14 285 RJx4a65c ⟨"java/util/List", "get", "(I)Ljava/lang/Object;"⟩ yJx4a65c_get_915e3 wsJx4a65c_get_915e3) := goodIn_app (goodIn_of _ (by decide +kernel)) ggX14_waits_Jx4a65c_get_915e3
set_option maxRecDepth 20000 in
theorem ggX14_waits_Jx6a02c_get_915e3 : GoodIn wsX14_waits wsJx6a02c_get_915e3 := goodIn_r _ [39, 40, 19, 75, 76] (by decide +kernel) (by decide +kernel)
set_option maxRecDepth 20000 in
theorem gX14_waits_Jx6a02c_get_915e3_f285Jx6a02c : GoodIn wsX14_waits (va_wsF RX14 285 RJx6a02c ⟨"java/util/List", "get", "(I)Ljava/lang/Object;"⟩ yJx6a02c_get_915e3 wsJx6a02c_get_915e3) := goodIn_app (goodIn_of _ (by decide +kernel)) ggX14_waits_Jx6a02c_get_915e3
set_option maxRecDepth 20000 in
theorem ggX14_waits_J6_intValue_8abf5 : GoodIn wsX14_waits wsJ6_intValue_8abf5 := goodIn_r _ [45, 46, 77] (by decide +kernel) (by decide +kernel)
set_option maxRecDepth 20000 in
theorem gX14_waits_J6_intValue_8abf5 : GoodIn wsX14_waits (wsV RX14 181 RJ6 yJ6_intValue_8abf5 wsJ6_intValue_8abf5) := goodIn_app (goodIn_of _ (by decide +kernel)) ggX14_waits_J6_intValue_8abf5
set_option maxRecDepth 20000 in
theorem gX14_waits_Jx4a65c_get_915e3 : GoodIn wsX14_waits (wsV RX14 89 RJx4a65c yJx4a65c_get_915e3 wsJx4a65c_get_915e3) := goodIn_app (goodIn_of _ (by decide +kernel)) ggX14_waits_Jx4a65c_get_915e3
theorem dX14_waits_0 : decode cX14_waits 0 = .ok (.iconst 0, 1) := by decide +kernel
theorem dX14_waits_1 : decode cX14_waits 1 = .ok (.istore_n 3, 1) := by decide +kernel
theorem dX14_waits_2 : decode cX14_waits 2 = .ok (.iconst 0, 1) := by decide +kernel
theorem dX14_waits_3 : decode cX14_waits 3 = .ok (.istore 4, 2) := by decide +kernel
theorem dX14_waits_5 : decode cX14_waits 5 = .ok (.iload 4, 2) := by decide +kernel
theorem dX14_waits_7 : decode cX14_waits 7 = .ok (.aload_n 0, 1) := by decide +kernel
theorem dX14_waits_8 : decode cX14_waits 8 = .ok (.getfield 16, 3) := by decide +kernel
theorem dX14_waits_11 : decode cX14_waits 11 = .ok (.invokevirtual 46, 3) := by decide +kernel
theorem dX14_waits_14 : decode cX14_waits 14 = .ok (.if_icmp .ge 249, 3) := by decide +kernel
theorem dX14_waits_17 : decode cX14_waits 17 = .ok (.iconst (-1), 1) := by decide +kernel
theorem dX14_waits_18 : decode cX14_waits 18 = .ok (.istore 5, 2) := by decide +kernel
theorem dX14_waits_20 : decode cX14_waits 20 = .ok (.iconst (-1), 1) := by decide +kernel
theorem dX14_waits_21 : decode cX14_waits 21 = .ok (.istore 6, 2) := by decide +kernel
theorem dX14_waits_23 : decode cX14_waits 23 = .ok (.iconst 0, 1) := by decide +kernel
theorem dX14_waits_24 : decode cX14_waits 24 = .ok (.istore 7, 2) := by decide +kernel
theorem dX14_waits_26 : decode cX14_waits 26 = .ok (.iconst 0, 1) := by decide +kernel
theorem dX14_waits_27 : decode cX14_waits 27 = .ok (.istore 8, 2) := by decide +kernel
theorem dX14_waits_29 : decode cX14_waits 29 = .ok (.iconst 0, 1) := by decide +kernel
theorem dX14_waits_30 : decode cX14_waits 30 = .ok (.istore 9, 2) := by decide +kernel
theorem dX14_waits_32 : decode cX14_waits 32 = .ok (.iload 9, 2) := by decide +kernel
theorem dX14_waits_34 : decode cX14_waits 34 = .ok (.aload_n 2, 1) := by decide +kernel
theorem dX14_waits_35 : decode cX14_waits 35 = .ok (.invokeinterface 32 1, 5) := by decide +kernel
theorem dX14_waits_40 : decode cX14_waits 40 = .ok (.if_icmp .ge 155, 3) := by decide +kernel
theorem dX14_waits_43 : decode cX14_waits 43 = .ok (.iconst 0, 1) := by decide +kernel
theorem dX14_waits_44 : decode cX14_waits 44 = .ok (.istore 10, 2) := by decide +kernel
theorem dX14_waits_46 : decode cX14_waits 46 = .ok (.aload_n 1, 1) := by decide +kernel
theorem dX14_waits_47 : decode cX14_waits 47 = .ok (.getfield 237, 3) := by decide +kernel
theorem dX14_waits_50 : decode cX14_waits 50 = .ok (.aload_n 2, 1) := by decide +kernel
theorem dX14_waits_51 : decode cX14_waits 51 = .ok (.iload 9, 2) := by decide +kernel
theorem dX14_waits_53 : decode cX14_waits 53 = .ok (.invokeinterface 285 2, 5) := by decide +kernel
theorem dX14_waits_58 : decode cX14_waits 58 = .ok (.checkcast 77, 3) := by decide +kernel
theorem dX14_waits_61 : decode cX14_waits 61 = .ok (.invokevirtual 181, 3) := by decide +kernel
theorem dX14_waits_64 : decode cX14_waits 64 = .ok (.aaload, 1) := by decide +kernel
theorem dX14_waits_65 : decode cX14_waits 65 = .ok (.astore 11, 2) := by decide +kernel
theorem dX14_waits_67 : decode cX14_waits 67 = .ok (.aload 11, 2) := by decide +kernel
theorem dX14_waits_69 : decode cX14_waits 69 = .ok (.arraylength, 1) := by decide +kernel
theorem dX14_waits_70 : decode cX14_waits 70 = .ok (.istore 12, 2) := by decide +kernel
theorem dX14_waits_72 : decode cX14_waits 72 = .ok (.iconst 0, 1) := by decide +kernel
theorem dX14_waits_73 : decode cX14_waits 73 = .ok (.istore 13, 2) := by decide +kernel
theorem dX14_waits_75 : decode cX14_waits 75 = .ok (.iload 13, 2) := by decide +kernel
theorem dX14_waits_77 : decode cX14_waits 77 = .ok (.iload 12, 2) := by decide +kernel
theorem dX14_waits_79 : decode cX14_waits 79 = .ok (.if_icmp .ge 35, 3) := by decide +kernel
theorem dX14_waits_82 : decode cX14_waits 82 = .ok (.aload 11, 2) := by decide +kernel
theorem dX14_waits_84 : decode cX14_waits 84 = .ok (.iload 13, 2) := by decide +kernel
theorem dX14_waits_86 : decode cX14_waits 86 = .ok (.iaload, 1) := by decide +kernel
theorem dX14_waits_87 : decode cX14_waits 87 = .ok (.istore 14, 2) := by decide +kernel
theorem dX14_waits_89 : decode cX14_waits 89 = .ok (.iload 10, 2) := by decide +kernel
theorem dX14_waits_91 : decode cX14_waits 91 = .ok (.ifCond .ne 10, 3) := by decide +kernel
theorem dX14_waits_94 : decode cX14_waits 94 = .ok (.iload 14, 2) := by decide +kernel
theorem dX14_waits_96 : decode cX14_waits 96 = .ok (.iload 4, 2) := by decide +kernel
theorem dX14_waits_98 : decode cX14_waits 98 = .ok (.if_icmp .ne 7, 3) := by decide +kernel
theorem dX14_waits_101 : decode cX14_waits 101 = .ok (.iconst 1, 1) := by decide +kernel
theorem dX14_waits_102 : decode cX14_waits 102 = .ok (.goto 4, 3) := by decide +kernel
theorem dX14_waits_105 : decode cX14_waits 105 = .ok (.iconst 0, 1) := by decide +kernel
theorem dX14_waits_106 : decode cX14_waits 106 = .ok (.istore 10, 2) := by decide +kernel
theorem dX14_waits_108 : decode cX14_waits 108 = .ok (.iinc 13 1, 3) := by decide +kernel
theorem dX14_waits_111 : decode cX14_waits 111 = .ok (.goto (-36), 3) := by decide +kernel
theorem dX14_waits_114 : decode cX14_waits 114 = .ok (.iload 10, 2) := by decide +kernel
theorem dX14_waits_116 : decode cX14_waits 116 = .ok (.ifCond .eq 14, 3) := by decide +kernel
theorem dX14_waits_119 : decode cX14_waits 119 = .ok (.iload 5, 2) := by decide +kernel
theorem dX14_waits_121 : decode cX14_waits 121 = .ok (.iconst (-1), 1) := by decide +kernel
theorem dX14_waits_122 : decode cX14_waits 122 = .ok (.if_icmp .ne 8, 3) := by decide +kernel
theorem dX14_waits_125 : decode cX14_waits 125 = .ok (.iload 9, 2) := by decide +kernel
theorem dX14_waits_127 : decode cX14_waits 127 = .ok (.goto 5, 3) := by decide +kernel
theorem dX14_waits_130 : decode cX14_waits 130 = .ok (.iload 5, 2) := by decide +kernel
theorem dX14_waits_132 : decode cX14_waits 132 = .ok (.istore 5, 2) := by decide +kernel
theorem dX14_waits_134 : decode cX14_waits 134 = .ok (.iload 10, 2) := by decide +kernel
theorem dX14_waits_136 : decode cX14_waits 136 = .ok (.ifCond .eq 8, 3) := by decide +kernel
theorem dX14_waits_139 : decode cX14_waits 139 = .ok (.iload 9, 2) := by decide +kernel
theorem dX14_waits_141 : decode cX14_waits 141 = .ok (.goto 5, 3) := by decide +kernel
theorem dX14_waits_144 : decode cX14_waits 144 = .ok (.iload 6, 2) := by decide +kernel
theorem dX14_waits_146 : decode cX14_waits 146 = .ok (.istore 6, 2) := by decide +kernel
theorem dX14_waits_148 : decode cX14_waits 148 = .ok (.iload 7, 2) := by decide +kernel
theorem dX14_waits_150 : decode cX14_waits 150 = .ok (.iload 10, 2) := by decide +kernel
theorem dX14_waits_152 : decode cX14_waits 152 = .ok (.ifCond .eq 33, 3) := by decide +kernel
theorem dX14_waits_155 : decode cX14_waits 155 = .ok (.aload_n 0, 1) := by decide +kernel
theorem dX14_waits_156 : decode cX14_waits 156 = .ok (.getfield 10, 3) := by decide +kernel
theorem dX14_waits_159 : decode cX14_waits 159 = .ok (.aload_n 2, 1) := by decide +kernel
theorem dX14_waits_160 : decode cX14_waits 160 = .ok (.iload 9, 2) := by decide +kernel
theorem dX14_waits_162 : decode cX14_waits 162 = .ok (.invokeinterface 285 2, 5) := by decide +kernel
theorem dX14_waits_167 : decode cX14_waits 167 = .ok (.checkcast 77, 3) := by decide +kernel
theorem dX14_waits_170 : decode cX14_waits 170 = .ok (.invokevirtual 181, 3) := by decide +kernel
theorem dX14_waits_173 : decode cX14_waits 173 = .ok (.invokevirtual 89, 3) := by decide +kernel
theorem dX14_waits_176 : decode cX14_waits 176 = .ok (.checkcast 47, 3) := by decide +kernel
theorem dX14_waits_179 : decode cX14_waits 179 = .ok (.getfield 184, 3) := by decide +kernel
theorem dX14_waits_182 : decode cX14_waits 182 = .ok (.goto 4, 3) := by decide +kernel
theorem dX14_waits_185 : decode cX14_waits 185 = .ok (.iconst 0, 1) := by decide +kernel
theorem dX14_waits_186 : decode cX14_waits 186 = .ok (.iadd, 1) := by decide +kernel
theorem dX14_waits_187 : decode cX14_waits 187 = .ok (.istore 7, 2) := by decide +kernel
theorem dX14_waits_189 : decode cX14_waits 189 = .ok (.iinc 9 1, 3) := by decide +kernel
theorem dX14_waits_192 : decode cX14_waits 192 = .ok (.goto (-160), 3) := by decide +kernel
theorem dX14_waits_195 : decode cX14_waits 195 = .ok (.iload 5, 2) := by decide +kernel
theorem dX14_waits_197 : decode cX14_waits 197 = .ok (.istore 9, 2) := by decide +kernel
theorem dX14_waits_199 : decode cX14_waits 199 = .ok (.iload 9, 2) := by decide +kernel
theorem dX14_waits_201 : decode cX14_waits 201 = .ok (.ifCond .lt 48, 3) := by decide +kernel
theorem dX14_waits_204 : decode cX14_waits 204 = .ok (.iload 9, 2) := by decide +kernel
theorem dX14_waits_206 : decode cX14_waits 206 = .ok (.iload 6, 2) := by decide +kernel
theorem dX14_waits_208 : decode cX14_waits 208 = .ok (.if_icmp .gt 41, 3) := by decide +kernel
theorem dX14_waits_211 : decode cX14_waits 211 = .ok (.iload 8, 2) := by decide +kernel
theorem dX14_waits_213 : decode cX14_waits 213 = .ok (.aload_n 0, 1) := by decide +kernel
theorem dX14_waits_214 : decode cX14_waits 214 = .ok (.getfield 10, 3) := by decide +kernel
theorem dX14_waits_217 : decode cX14_waits 217 = .ok (.aload_n 2, 1) := by decide +kernel
theorem dX14_waits_218 : decode cX14_waits 218 = .ok (.iload 9, 2) := by decide +kernel
theorem dX14_waits_220 : decode cX14_waits 220 = .ok (.invokeinterface 285 2, 5) := by decide +kernel
theorem dX14_waits_225 : decode cX14_waits 225 = .ok (.checkcast 77, 3) := by decide +kernel
theorem dX14_waits_228 : decode cX14_waits 228 = .ok (.invokevirtual 181, 3) := by decide +kernel
theorem dX14_waits_231 : decode cX14_waits 231 = .ok (.invokevirtual 89, 3) := by decide +kernel
theorem dX14_waits_234 : decode cX14_waits 234 = .ok (.checkcast 47, 3) := by decide +kernel
theorem dX14_waits_237 : decode cX14_waits 237 = .ok (.getfield 184, 3) := by decide +kernel
theorem dX14_waits_240 : decode cX14_waits 240 = .ok (.iadd, 1) := by decide +kernel
theorem dX14_waits_241 : decode cX14_waits 241 = .ok (.istore 8, 2) := by decide +kernel
theorem dX14_waits_243 : decode cX14_waits 243 = .ok (.iinc 9 1, 3) := by decide +kernel
theorem dX14_waits_246 : decode cX14_waits 246 = .ok (.goto (-47), 3) := by decide +kernel
theorem dX14_waits_249 : decode cX14_waits 249 = .ok (.iload_n 3, 1) := by decide +kernel
theorem dX14_waits_250 : decode cX14_waits 250 = .ok (.iload 8, 2) := by decide +kernel
theorem dX14_waits_252 : decode cX14_waits 252 = .ok (.iload 7, 2) := by decide +kernel
theorem dX14_waits_254 : decode cX14_waits 254 = .ok (.isub, 1) := by decide +kernel
theorem dX14_waits_255 : decode cX14_waits 255 = .ok (.iadd, 1) := by decide +kernel
theorem dX14_waits_256 : decode cX14_waits 256 = .ok (.istore_n 3, 1) := by decide +kernel
theorem dX14_waits_257 : decode cX14_waits 257 = .ok (.iinc 4 1, 3) := by decide +kernel
theorem dX14_waits_260 : decode cX14_waits 260 = .ok (.goto (-255), 3) := by decide +kernel
theorem dX14_waits_263 : decode cX14_waits 263 = .ok (.iload_n 3, 1) := by decide +kernel
theorem dX14_waits_264 : decode cX14_waits 264 = .ok (.ireturn, 1) := by decide +kernel
set_option maxRecDepth 20000 in
theorem ggX14_tries_Jx4a65c_isEmpty_aae02 : GoodIn wsX14_tries wsJx4a65c_isEmpty_aae02 := goodIn_r _ [8, 9, 167, 168, 169] (by decide +kernel) (by decide +kernel)
set_option maxRecDepth 20000 in
theorem gX14_tries_Jx4a65c_isEmpty_aae02_f305Jx4a65c : GoodIn wsX14_tries (va_wsF RX14 305 RJx4a65c ⟨"java/util/List", "isEmpty", "()Z"⟩ yJx4a65c_isEmpty_aae02 wsJx4a65c_isEmpty_aae02) := goodIn_app (goodIn_of _ (by decide +kernel)) ggX14_tries_Jx4a65c_isEmpty_aae02
set_option maxRecDepth 20000 in
theorem ggX14_tries_Jx6a02c_isEmpty_aae02 : GoodIn wsX14_tries wsJx6a02c_isEmpty_aae02 := goodIn_r _ [13] (by decide +kernel) (by decide +kernel)
set_option maxRecDepth 20000 in
theorem gX14_tries_Jx6a02c_isEmpty_aae02_f305Jx6a02c : GoodIn wsX14_tries (va_wsF RX14 305 RJx6a02c ⟨"java/util/List", "isEmpty", "()Z"⟩ yJx6a02c_isEmpty_aae02 wsJx6a02c_isEmpty_aae02) := goodIn_app (goodIn_of _ (by decide +kernel)) ggX14_tries_Jx6a02c_isEmpty_aae02
set_option maxRecDepth 20000 in
theorem gX14_tries_Jx4a65c_isEmpty_aae02 : GoodIn wsX14_tries (wsV RX14 308 RJx4a65c yJx4a65c_isEmpty_aae02 wsJx4a65c_isEmpty_aae02) := goodIn_app (goodIn_of _ (by decide +kernel)) ggX14_tries_Jx4a65c_isEmpty_aae02
set_option maxRecDepth 20000 in
theorem ggX14_tries_X14_waits : GoodIn wsX14_tries wsX14_waits := goodIn_ca (goodIn_r _ [20, 21, 22, 4, 23, 24, 25, 26, 27, 28, 3, 29, 9, 30, 31, 32, 33, 12, 34, 35, 36, 37, 38, 39, 40, 41, 42, 43, 44, 45, 46, 47, 48, 49, 50, 51, 52, 53, 54, 55, 56, 57, 58, 59, 60, 61, 62, 63, 64, 170, 171, 172, 173, 174, 175, 176, 177, 178, 179, 180, 181, 182, 183, 184, 185, 186, 187, 188, 189, 190, 191, 192, 167, 168, 169, 193, 194, 195] (by decide +kernel) (by decide +kernel)) (goodIn_sub (fun _ h => List.mem_cons_of_mem _ (List.mem_append_right _ h)) (by decide +kernel))
set_option maxRecDepth 20000 in
theorem gX14_tries_X14_waits : GoodIn wsX14_tries (wsV RX14 309 RX14 yX14_waits wsX14_waits) := goodIn_app (goodIn_of _ (by decide +kernel)) ggX14_tries_X14_waits
set_option maxRecDepth 20000 in
theorem ggX14_tries_Jx4a65c_clear_da8c8 : GoodIn wsX14_tries wsJx4a65c_clear_da8c8 := goodIn_r _ [68, 69, 70, 52, 9, 167, 168, 169] (by decide +kernel) (by decide +kernel)
set_option maxRecDepth 20000 in
theorem gX14_tries_Jx4a65c_clear_da8c8 : GoodIn wsX14_tries (wsV RX14 313 RJx4a65c yJx4a65c_clear_da8c8 wsJx4a65c_clear_da8c8) := goodIn_app (goodIn_of _ (by decide +kernel)) ggX14_tries_Jx4a65c_clear_da8c8
set_option maxRecDepth 20000 in
theorem ggX14_tries_Jx4a65c_addAll_f0b43 : GoodIn wsX14_tries wsJx4a65c_addAll_f0b43 := goodIn_r _ [74, 69, 70, 52, 9, 75, 76, 77, 78, 79, 80, 81, 3, 82, 83, 84, 85, 86, 87, 88, 89, 90, 91, 92, 93, 94, 95, 96, 97, 98, 99, 100, 101, 102, 12, 103, 35, 104, 56, 105, 106, 107, 108, 109, 110, 111, 112, 113, 114, 115, 116, 117, 118, 119, 120, 121, 122, 123, 124, 125, 167, 168, 169, 193, 194, 196, 197, 198, 199] (by decide +kernel) (by decide +kernel)
set_option maxRecDepth 20000 in
theorem gX14_tries_Jx4a65c_addAll_f0b43 : GoodIn wsX14_tries (wsV RX14 314 RJx4a65c yJx4a65c_addAll_f0b43 wsJx4a65c_addAll_f0b43) := goodIn_app (goodIn_of _ (by decide +kernel)) ggX14_tries_Jx4a65c_addAll_f0b43
set_option maxRecDepth 20000 in
theorem ggX14_tries_Jx4a65c_size_8abf5 : GoodIn wsX14_tries wsJx4a65c_size_8abf5 := goodIn_r _ [29, 9, 167, 168, 169] (by decide +kernel) (by decide +kernel)
set_option maxRecDepth 20000 in
theorem gX14_tries_Jx4a65c_size_8abf5_f32Jx4a65c : GoodIn wsX14_tries (va_wsF RX14 32 RJx4a65c ⟨"java/util/List", "size", "()I"⟩ yJx4a65c_size_8abf5 wsJx4a65c_size_8abf5) := goodIn_app (goodIn_of _ (by decide +kernel)) ggX14_tries_Jx4a65c_size_8abf5
set_option maxRecDepth 20000 in
theorem ggX14_tries_Jx6a02c_size_8abf5 : GoodIn wsX14_tries wsJx6a02c_size_8abf5 := goodIn_r _ [34, 35, 193, 194] (by decide +kernel) (by decide +kernel)
set_option maxRecDepth 20000 in
theorem gX14_tries_Jx6a02c_size_8abf5_f32Jx6a02c : GoodIn wsX14_tries (va_wsF RX14 32 RJx6a02c ⟨"java/util/List", "size", "()I"⟩ yJx6a02c_size_8abf5 wsJx6a02c_size_8abf5) := goodIn_app (goodIn_of _ (by decide +kernel)) ggX14_tries_Jx6a02c_size_8abf5
set_option maxRecDepth 20000 in
theorem ggX14_tries_Jx4a65c_init_4bcb3 : GoodIn wsX14_tries wsJx4a65c_init_4bcb3 := goodIn_r _ [128, 9, 52, 129, 130, 131, 132, 133, 134, 135, 136, 137, 138, 139, 140, 141, 142, 79, 80, 81, 3, 82, 83, 84, 85, 86, 87, 88, 89, 90, 91, 92, 93, 94, 95, 96, 97, 98, 99, 100, 76, 77, 78, 101, 102, 12, 103, 35, 104, 56, 143, 167, 168, 169, 193, 194] (by decide +kernel) (by decide +kernel)
set_option maxRecDepth 20000 in
theorem gX14_tries_Jx4a65c_init_4bcb3 : GoodIn wsX14_tries (wsJx4a65c_init_4bcb3) := ggX14_tries_Jx4a65c_init_4bcb3
set_option maxRecDepth 20000 in
theorem ggX14_tries_Jx4a65c_remove_915e3 : GoodIn wsX14_tries wsJx4a65c_remove_915e3 := goodIn_r _ [147, 9, 52, 40, 41, 42, 43, 44, 45, 46, 47, 148, 149, 150, 3, 151, 69, 70, 75, 76, 77, 78, 167, 168, 169] (by decide +kernel) (by decide +kernel)
set_option maxRecDepth 20000 in
theorem gX14_tries_Jx4a65c_remove_915e3 : GoodIn wsX14_tries (wsV RX14 208 RJx4a65c yJx4a65c_remove_915e3 wsJx4a65c_remove_915e3) := goodIn_app (goodIn_of _ (by decide +kernel)) ggX14_tries_Jx4a65c_remove_915e3
set_option maxRecDepth 20000 in
theorem ggX14_tries_Jx4a65c_add_9ea2d : GoodIn wsX14_tries wsJx4a65c_add_9ea2d := goodIn_r _ [155, 69, 70, 52, 9, 156, 157, 158, 3, 159, 160, 161, 162, 163, 105, 106, 107, 108, 109, 110, 111, 98, 112, 113, 114, 115, 116, 117, 118, 119, 120, 121, 122, 123, 124, 125, 83, 84, 85, 86, 87, 88, 89, 90, 91, 92, 93, 94, 95, 96, 97, 99, 100, 76, 77, 78, 167, 168, 169, 196, 197, 198, 199] (by decide +kernel) (by decide +kernel)
set_option maxRecDepth 20000 in
theorem gX14_tries_Jx4a65c_add_9ea2d : GoodIn wsX14_tries (wsV RX14 52 RJx4a65c yJx4a65c_add_9ea2d wsJx4a65c_add_9ea2d) := goodIn_app (goodIn_of _ (by decide +kernel)) ggX14_tries_Jx4a65c_add_9ea2d
set_option maxRecDepth 20000 in
theorem ggX14_tries_X14_tries : GoodIn wsX14_tries wsX14_tries := goodIn_ca (goodIn_r _ [0, 1, 2, 3, 4, 5, 6, 7, 8, 9, 10, 11, 12, 13, 14, 15, 16, 17, 18, 19, 20, 21, 22, 23, 24, 25, 26, 27, 28, 29, 30, 31, 32, 33, 34, 35, 36, 37, 38, 39, 40, 41, 42, 43, 44, 45, 46, 47, 48, 49, 50, 51, 52, 53, 54, 55, 56, 57, 58, 59, 60, 61, 62, 63, 64, 65, 66, 67, 68, 69, 70, 71, 72, 73, 74, 75, 76, 77, 78, 79, 80, 81, 82, 83, 84, 85, 86, 87, 88, 89, 90, 91, 92, 93, 94, 95, 96, 97, 98, 99, 100, 101, 102, 103, 104, 105, 106, 107, 108, 109, 110, 111, 112, 113, 114, 115, 116, 117, 118, 119, 120, 121, 122, 123, 124, 125, 126, 127, 128, 129, 130, 131, 132, 133, 134, 135, 136, 137, 138, 139, 140, 141, 142, 143, 144, 145, 146, 147, 148, 149, 150, 151, 152, 153, 154, 155, 156, 157, 158, 159, 160, 161, 162, 163, 164, 165, 166, 167, 168, 169, 170, 171, 172, 173, 174, 175, 176, 177, 178, 179, 180, 181, 182, 183, 184, 185, 186, 187, 188, 189, 190, 191, 192, 193, 194, 195, 196, 197, 198, 199] (by decide +kernel) (by decide +kernel)) (goodIn_sub (fun _ h => List.mem_cons_of_mem _ (List.mem_append_right _ h)) (by decide +kernel))
set_option maxRecDepth 20000 in
theorem gX14_tries_X14_tries : GoodIn wsX14_tries (wsV RX14 321 RX14 yX14_tries wsX14_tries) := goodIn_app (goodIn_of _ (by decide +kernel)) ggX14_tries_X14_tries
theorem dX14_tries_0 : decode cX14_tries 0 = .ok (.aload_n 3, 1) := by decide +kernel
theorem dX14_tries_1 : decode cX14_tries 1 = .ok (.invokeinterface 305 1, 5) := by decide +kernel
theorem dX14_tries_6 : decode cX14_tries 6 = .ok (.ifCond .eq 40, 3) := by decide +kernel
theorem dX14_tries_9 : decode cX14_tries 9 = .ok (.aload 4, 2) := by decide +kernel
theorem dX14_tries_11 : decode cX14_tries 11 = .ok (.invokevirtual 308, 3) := by decide +kernel
theorem dX14_tries_14 : decode cX14_tries 14 = .ok (.ifCond .ne 19, 3) := by decide +kernel
theorem dX14_tries_17 : decode cX14_tries 17 = .ok (.aload_n 0, 1) := by decide +kernel
theorem dX14_tries_18 : decode cX14_tries 18 = .ok (.aload_n 1, 1) := by decide +kernel
theorem dX14_tries_19 : decode cX14_tries 19 = .ok (.aload_n 2, 1) := by decide +kernel
theorem dX14_tries_20 : decode cX14_tries 20 = .ok (.invokevirtual 309, 3) := by decide +kernel
theorem dX14_tries_23 : decode cX14_tries 23 = .ok (.aload_n 0, 1) := by decide +kernel
theorem dX14_tries_24 : decode cX14_tries 24 = .ok (.aload_n 1, 1) := by decide +kernel
theorem dX14_tries_25 : decode cX14_tries 25 = .ok (.aload 4, 2) := by decide +kernel
theorem dX14_tries_27 : decode cX14_tries 27 = .ok (.invokevirtual 309, 3) := by decide +kernel
theorem dX14_tries_30 : decode cX14_tries 30 = .ok (.if_icmp .ge 15, 3) := by decide +kernel
theorem dX14_tries_33 : decode cX14_tries 33 = .ok (.aload 4, 2) := by decide +kernel
theorem dX14_tries_35 : decode cX14_tries 35 = .ok (.invokevirtual 313, 3) := by decide +kernel
theorem dX14_tries_38 : decode cX14_tries 38 = .ok (.aload 4, 2) := by decide +kernel
theorem dX14_tries_40 : decode cX14_tries 40 = .ok (.aload_n 2, 1) := by decide +kernel
theorem dX14_tries_41 : decode cX14_tries 41 = .ok (.invokevirtual 314, 3) := by decide +kernel
theorem dX14_tries_44 : decode cX14_tries 44 = .ok (.pop, 1) := by decide +kernel
theorem dX14_tries_45 : decode cX14_tries 45 = .ok (.return_, 1) := by decide +kernel
theorem dX14_tries_46 : decode cX14_tries 46 = .ok (.iconst 0, 1) := by decide +kernel
theorem dX14_tries_47 : decode cX14_tries 47 = .ok (.istore 5, 2) := by decide +kernel
theorem dX14_tries_49 : decode cX14_tries 49 = .ok (.iload 5, 2) := by decide +kernel
theorem dX14_tries_51 : decode cX14_tries 51 = .ok (.aload_n 3, 1) := by decide +kernel
theorem dX14_tries_52 : decode cX14_tries 52 = .ok (.invokeinterface 32 1, 5) := by decide +kernel
theorem dX14_tries_57 : decode cX14_tries 57 = .ok (.if_icmp .ge 56, 3) := by decide +kernel
theorem dX14_tries_60 : decode cX14_tries 60 = .ok (.new 7, 3) := by decide +kernel
theorem dX14_tries_63 : decode cX14_tries 63 = .ok (.dup, 1) := by decide +kernel
theorem dX14_tries_64 : decode cX14_tries 64 = .ok (.aload_n 2, 1) := by decide +kernel
theorem dX14_tries_65 : decode cX14_tries 65 = .ok (.invokespecial 318, 3) := by decide +kernel
theorem dX14_tries_68 : decode cX14_tries 68 = .ok (.astore 6, 2) := by decide +kernel
theorem dX14_tries_70 : decode cX14_tries 70 = .ok (.new 7, 3) := by decide +kernel
theorem dX14_tries_73 : decode cX14_tries 73 = .ok (.dup, 1) := by decide +kernel
theorem dX14_tries_74 : decode cX14_tries 74 = .ok (.aload_n 3, 1) := by decide +kernel
theorem dX14_tries_75 : decode cX14_tries 75 = .ok (.invokespecial 318, 3) := by decide +kernel
theorem dX14_tries_78 : decode cX14_tries 78 = .ok (.astore 7, 2) := by decide +kernel
theorem dX14_tries_80 : decode cX14_tries 80 = .ok (.aload 6, 2) := by decide +kernel
theorem dX14_tries_82 : decode cX14_tries 82 = .ok (.aload 7, 2) := by decide +kernel
theorem dX14_tries_84 : decode cX14_tries 84 = .ok (.iload 5, 2) := by decide +kernel
theorem dX14_tries_86 : decode cX14_tries 86 = .ok (.invokevirtual 208, 3) := by decide +kernel
theorem dX14_tries_89 : decode cX14_tries 89 = .ok (.checkcast 77, 3) := by decide +kernel
theorem dX14_tries_92 : decode cX14_tries 92 = .ok (.invokevirtual 52, 3) := by decide +kernel
theorem dX14_tries_95 : decode cX14_tries 95 = .ok (.pop, 1) := by decide +kernel
theorem dX14_tries_96 : decode cX14_tries 96 = .ok (.aload_n 0, 1) := by decide +kernel
theorem dX14_tries_97 : decode cX14_tries 97 = .ok (.aload_n 1, 1) := by decide +kernel
theorem dX14_tries_98 : decode cX14_tries 98 = .ok (.aload 6, 2) := by decide +kernel
theorem dX14_tries_100 : decode cX14_tries 100 = .ok (.aload 7, 2) := by decide +kernel
theorem dX14_tries_102 : decode cX14_tries 102 = .ok (.aload 4, 2) := by decide +kernel
theorem dX14_tries_104 : decode cX14_tries 104 = .ok (.invokevirtual 321, 3) := by decide +kernel
theorem dX14_tries_107 : decode cX14_tries 107 = .ok (.iinc 5 1, 3) := by decide +kernel
theorem dX14_tries_110 : decode cX14_tries 110 = .ok (.goto (-61), 3) := by decide +kernel
theorem dX14_tries_113 : decode cX14_tries 113 = .ok (.return_, 1) := by decide +kernel
set_option maxRecDepth 20000 in
theorem ggX14_called_Jx4a65c_init_da8c8 : GoodIn wsX14_called wsJx4a65c_init_da8c8 := goodIn_r _ [8, 9, 10, 11, 12, 13, 14, 15, 16, 17, 18, 19, 20, 21, 22, 186, 187, 188] (by decide +kernel) (by decide +kernel)
set_option maxRecDepth 20000 in
theorem gX14_called_Jx4a65c_init_da8c8 : GoodIn wsX14_called (wsJx4a65c_init_da8c8) := ggX14_called_Jx4a65c_init_da8c8
set_option maxRecDepth 20000 in
theorem ggX14_called_Jx4a65c_size_8abf5 : GoodIn wsX14_called wsJx4a65c_size_8abf5 := goodIn_r _ [26, 27, 186, 187, 188] (by decide +kernel) (by decide +kernel)
set_option maxRecDepth 20000 in
theorem gX14_called_Jx4a65c_size_8abf5 : GoodIn wsX14_called (wsV RX14 46 RJx4a65c yJx4a65c_size_8abf5 wsJx4a65c_size_8abf5) := goodIn_app (goodIn_of _ (by decide +kernel)) ggX14_called_Jx4a65c_size_8abf5
set_option maxRecDepth 20000 in
theorem ggX14_called_J6_valueOf_2dffe : GoodIn wsX14_called wsJ6_valueOf_2dffe := goodIn_r _ [31, 32, 33, 34, 35, 30, 36, 37, 38, 39, 40, 41, 42, 43, 44, 21, 22, 207] (by decide +kernel) (by decide +kernel)
set_option maxRecDepth 20000 in
theorem gX14_called_J6_valueOf_2dffe : GoodIn wsX14_called (va_wsS RX14 76 yJ6_valueOf_2dffe wsJ6_valueOf_2dffe) := goodIn_app (goodIn_of _ (by decide +kernel)) ggX14_called_J6_valueOf_2dffe
set_option maxRecDepth 20000 in
theorem ggX14_called_Jx4a65c_add_9ea2d : GoodIn wsX14_called wsJx4a65c_add_9ea2d := goodIn_r _ [48, 49, 50, 10, 27, 51, 52, 53, 3, 54, 55, 56, 57, 58, 59, 60, 61, 62, 9, 63, 64, 65, 66, 67, 68, 69, 70, 71, 72, 73, 74, 75, 76, 77, 78, 79, 80, 81, 82, 83, 84, 85, 86, 87, 88, 89, 90, 91, 92, 93, 94, 95, 96, 97, 98, 99, 186, 187, 188, 208, 209, 210, 211] (by decide +kernel) (by decide +kernel)
set_option maxRecDepth 20000 in
theorem gX14_called_Jx4a65c_add_9ea2d : GoodIn wsX14_called (wsV RX14 52 RJx4a65c yJx4a65c_add_9ea2d wsJx4a65c_add_9ea2d) := goodIn_app (goodIn_of _ (by decide +kernel)) ggX14_called_Jx4a65c_add_9ea2d
set_option maxRecDepth 20000 in
theorem ggX14_called_Jx4a65c_isEmpty_aae02 : GoodIn wsX14_called wsJx4a65c_isEmpty_aae02 := goodIn_r _ [103, 27, 186, 187, 188] (by decide +kernel) (by decide +kernel)
set_option maxRecDepth 20000 in
theorem gX14_called_Jx4a65c_isEmpty_aae02 : GoodIn wsX14_called (wsV RX14 308 RJx4a65c yJx4a65c_isEmpty_aae02 wsJx4a65c_isEmpty_aae02) := goodIn_app (goodIn_of _ (by decide +kernel)) ggX14_called_Jx4a65c_isEmpty_aae02
set_option maxRecDepth 20000 in
theorem ggX14_called_X14_tries : GoodIn wsX14_called wsX14_tries := goodIn_ca (goodIn_r _ [108, 1, 2, 3, 109, 110, 111, 101, 103, 27, 112, 113, 114, 115, 100, 102, 116, 117, 118, 107, 119, 120, 5, 4, 121, 122, 23, 24, 25, 26, 123, 124, 125, 126, 127, 128, 129, 130, 131, 132, 133, 134, 135, 136, 137, 138, 139, 140, 141, 142, 143, 144, 10, 145, 146, 147, 148, 149, 150, 151, 30, 152, 39, 153, 154, 155, 156, 157, 158, 49, 50, 159, 160, 161, 162, 163, 97, 98, 99, 164, 165, 166, 167, 80, 81, 82, 83, 84, 85, 86, 87, 88, 89, 90, 91, 92, 93, 94, 65, 95, 96, 168, 169, 170, 171, 59, 60, 61, 62, 9, 63, 64, 66, 67, 68, 69, 70, 71, 72, 73, 74, 75, 76, 77, 78, 79, 172, 173, 174, 175, 176, 11, 12, 13, 14, 15, 16, 17, 18, 19, 20, 21, 22, 177, 178, 179, 180, 181, 182, 183, 184, 185, 45, 46, 47, 48, 51, 52, 53, 54, 55, 56, 57, 58, 104, 105, 106, 186, 187, 188, 189, 190, 191, 192, 193, 194, 195, 196, 197, 198, 199, 200, 201, 202, 203, 204, 205, 206, 212, 213, 214, 215, 216, 217, 218, 207, 208, 209, 210, 211] (by decide +kernel) (by decide +kernel)) (goodIn_sub (fun _ h => List.mem_cons_of_mem _ (List.mem_append_right _ h)) (by decide +kernel))
set_option maxRecDepth 20000 in
theorem gX14_called_X14_tries : GoodIn wsX14_called (wsV RX14 321 RX14 yX14_tries wsX14_tries) := goodIn_app (goodIn_of _ (by decide +kernel)) ggX14_called_X14_tries
theorem dX14_called_0 : decode cX14_called 0 = .ok (.new 7, 3) := by decide +kernel
theorem dX14_called_3 : decode cX14_called 3 = .ok (.dup, 1) := by decide +kernel
theorem dX14_called_4 : decode cX14_called 4 = .ok (.invokespecial 9, 3) := by decide +kernel
theorem dX14_called_7 : decode cX14_called 7 = .ok (.astore_n 2, 1) := by decide +kernel
theorem dX14_called_8 : decode cX14_called 8 = .ok (.iconst 0, 1) := by decide +kernel
theorem dX14_called_9 : decode cX14_called 9 = .ok (.istore_n 3, 1) := by decide +kernel
theorem dX14_called_10 : decode cX14_called 10 = .ok (.iload_n 3, 1) := by decide +kernel
theorem dX14_called_11 : decode cX14_called 11 = .ok (.aload_n 0, 1) := by decide +kernel
theorem dX14_called_12 : decode cX14_called 12 = .ok (.getfield 10, 3) := by decide +kernel
theorem dX14_called_15 : decode cX14_called 15 = .ok (.invokevirtual 46, 3) := by decide +kernel
theorem dX14_called_18 : decode cX14_called 18 = .ok (.if_icmp .ge 27, 3) := by decide +kernel
theorem dX14_called_21 : decode cX14_called 21 = .ok (.aload_n 1, 1) := by decide +kernel
theorem dX14_called_22 : decode cX14_called 22 = .ok (.getfield 237, 3) := by decide +kernel
theorem dX14_called_25 : decode cX14_called 25 = .ok (.iload_n 3, 1) := by decide +kernel
theorem dX14_called_26 : decode cX14_called 26 = .ok (.aaload, 1) := by decide +kernel
theorem dX14_called_27 : decode cX14_called 27 = .ok (.ifnull 12, 3) := by decide +kernel
theorem dX14_called_30 : decode cX14_called 30 = .ok (.aload_n 2, 1) := by decide +kernel
theorem dX14_called_31 : decode cX14_called 31 = .ok (.iload_n 3, 1) := by decide +kernel
theorem dX14_called_32 : decode cX14_called 32 = .ok (.invokestatic 76, 3) := by decide +kernel
theorem dX14_called_35 : decode cX14_called 35 = .ok (.invokevirtual 52, 3) := by decide +kernel
theorem dX14_called_38 : decode cX14_called 38 = .ok (.pop, 1) := by decide +kernel
theorem dX14_called_39 : decode cX14_called 39 = .ok (.iinc 3 1, 3) := by decide +kernel
theorem dX14_called_42 : decode cX14_called 42 = .ok (.goto (-32), 3) := by decide +kernel
theorem dX14_called_45 : decode cX14_called 45 = .ok (.new 7, 3) := by decide +kernel
theorem dX14_called_48 : decode cX14_called 48 = .ok (.dup, 1) := by decide +kernel
theorem dX14_called_49 : decode cX14_called 49 = .ok (.invokespecial 9, 3) := by decide +kernel
theorem dX14_called_52 : decode cX14_called 52 = .ok (.astore_n 3, 1) := by decide +kernel
theorem dX14_called_53 : decode cX14_called 53 = .ok (.aload_n 2, 1) := by decide +kernel
theorem dX14_called_54 : decode cX14_called 54 = .ok (.invokevirtual 308, 3) := by decide +kernel
theorem dX14_called_57 : decode cX14_called 57 = .ok (.ifCond .ne 17, 3) := by decide +kernel
theorem dX14_called_60 : decode cX14_called 60 = .ok (.aload_n 0, 1) := by decide +kernel
theorem dX14_called_61 : decode cX14_called 61 = .ok (.aload_n 1, 1) := by decide +kernel
theorem dX14_called_62 : decode cX14_called 62 = .ok (.new 7, 3) := by decide +kernel
theorem dX14_called_65 : decode cX14_called 65 = .ok (.dup, 1) := by decide +kernel
theorem dX14_called_66 : decode cX14_called 66 = .ok (.invokespecial 9, 3) := by decide +kernel
theorem dX14_called_69 : decode cX14_called 69 = .ok (.aload_n 2, 1) := by decide +kernel
theorem dX14_called_70 : decode cX14_called 70 = .ok (.aload_n 3, 1) := by decide +kernel
theorem dX14_called_71 : decode cX14_called 71 = .ok (.invokevirtual 321, 3) := by decide +kernel
theorem dX14_called_74 : decode cX14_called 74 = .ok (.aload_n 3, 1) := by decide +kernel
theorem dX14_called_75 : decode cX14_called 75 = .ok (.areturn, 1) := by decide +kernel
set_option maxRecDepth 20000 in
theorem ggX14_callFailure_X14_isOf : GoodIn wsX14_callFailure wsX14_isOf := goodIn_r _ [8, 9, 10, 11, 12, 13, 14, 15, 16, 17, 18, 19, 20, 21, 7, 22, 58, 59, 60, 61, 62] (by decide +kernel) (by decide +kernel)
set_option maxRecDepth 20000 in
theorem gX14_callFailure_X14_isOf : GoodIn wsX14_callFailure (va_wsS RX14 85 yX14_isOf wsX14_isOf) := goodIn_app (goodIn_of _ (by decide +kernel)) ggX14_callFailure_X14_isOf
set_option maxRecDepth 20000 in
theorem ggX14_callFailure_Jx4a65c_get_915e3 : GoodIn wsX14_callFailure wsJx4a65c_get_915e3 := goodIn_r _ [26, 14, 27, 28, 29, 30, 31, 32, 33, 34, 35, 36, 37, 12, 38, 39, 58, 59, 60] (by decide +kernel) (by decide +kernel)
set_option maxRecDepth 20000 in
theorem gX14_callFailure_Jx4a65c_get_915e3 : GoodIn wsX14_callFailure (wsV RX14 89 RJx4a65c yJx4a65c_get_915e3 wsJx4a65c_get_915e3) := goodIn_app (goodIn_of _ (by decide +kernel)) ggX14_callFailure_Jx4a65c_get_915e3
theorem dX14_callFailure_0 : decode cX14_callFailure 0 = .ok (.aload_n 0, 1) := by decide +kernel
theorem dX14_callFailure_1 : decode cX14_callFailure 1 = .ok (.getfield 25, 3) := by decide +kernel
theorem dX14_callFailure_4 : decode cX14_callFailure 4 = .ok (.iload_n 1, 1) := by decide +kernel
theorem dX14_callFailure_5 : decode cX14_callFailure 5 = .ok (.invokestatic 85, 3) := by decide +kernel
theorem dX14_callFailure_8 : decode cX14_callFailure 8 = .ok (.ifCond .ne 7, 3) := by decide +kernel
theorem dX14_callFailure_11 : decode cX14_callFailure 11 = .ok (.iconst 1, 1) := by decide +kernel
theorem dX14_callFailure_12 : decode cX14_callFailure 12 = .ok (.goto 44, 3) := by decide +kernel
theorem dX14_callFailure_15 : decode cX14_callFailure 15 = .ok (.aload_n 0, 1) := by decide +kernel
theorem dX14_callFailure_16 : decode cX14_callFailure 16 = .ok (.getfield 25, 3) := by decide +kernel
theorem dX14_callFailure_19 : decode cX14_callFailure 19 = .ok (.iload_n 1, 1) := by decide +kernel
theorem dX14_callFailure_20 : decode cX14_callFailure 20 = .ok (.invokevirtual 89, 3) := by decide +kernel
theorem dX14_callFailure_23 : decode cX14_callFailure 23 = .ok (.checkcast 73, 3) := by decide +kernel
theorem dX14_callFailure_26 : decode cX14_callFailure 26 = .ok (.getfield 187, 3) := by decide +kernel
theorem dX14_callFailure_29 : decode cX14_callFailure 29 = .ok (.bipush 114, 2) := by decide +kernel
theorem dX14_callFailure_31 : decode cX14_callFailure 31 = .ok (.if_icmp .ne 24, 3) := by decide +kernel
theorem dX14_callFailure_34 : decode cX14_callFailure 34 = .ok (.aload_n 0, 1) := by decide +kernel
theorem dX14_callFailure_35 : decode cX14_callFailure 35 = .ok (.getfield 25, 3) := by decide +kernel
theorem dX14_callFailure_38 : decode cX14_callFailure 38 = .ok (.iload_n 1, 1) := by decide +kernel
theorem dX14_callFailure_39 : decode cX14_callFailure 39 = .ok (.invokevirtual 89, 3) := by decide +kernel
theorem dX14_callFailure_42 : decode cX14_callFailure 42 = .ok (.checkcast 73, 3) := by decide +kernel
theorem dX14_callFailure_45 : decode cX14_callFailure 45 = .ok (.getfield 191, 3) := by decide +kernel
theorem dX14_callFailure_48 : decode cX14_callFailure 48 = .ok (.ifCond .eq 7, 3) := by decide +kernel
theorem dX14_callFailure_51 : decode cX14_callFailure 51 = .ok (.iconst 0, 1) := by decide +kernel
theorem dX14_callFailure_52 : decode cX14_callFailure 52 = .ok (.goto 4, 3) := by decide +kernel
theorem dX14_callFailure_55 : decode cX14_callFailure 55 = .ok (.iconst 2, 1) := by decide +kernel
theorem dX14_callFailure_56 : decode cX14_callFailure 56 = .ok (.ireturn, 1) := by decide +kernel
set_option maxRecDepth 20000 in
theorem ggX14_callAt_X14_callFailure : GoodIn wsX14_callAt wsX14_callFailure := goodIn_r _ [8, 1, 2, 9, 10, 11, 12, 7, 13, 14, 15, 16, 17, 18, 19, 20, 21, 22, 23, 24, 25, 26, 27, 28, 29, 30, 31, 32, 33, 34, 35, 36, 37, 38, 39, 40, 41, 42, 43, 44, 217, 218, 219, 220, 221, 222, 223, 224, 225, 226, 227, 228, 229, 230, 231, 232, 233, 234, 235, 236, 237, 238, 239] (by decide +kernel) (by decide +kernel)
set_option maxRecDepth 20000 in
theorem gX14_callAt_X14_callFailure : GoodIn wsX14_callAt (wsV RX14 325 RX14 yX14_callFailure wsX14_callFailure) := goodIn_app (goodIn_of _ (by decide +kernel)) ggX14_callAt_X14_callFailure
set_option maxRecDepth 20000 in
theorem ggX14_callAt_X14_failsIf : GoodIn wsX14_callAt wsX14_failsIf := goodIn_r _ [48, 49, 217, 218, 219, 220, 221, 222] (by decide +kernel) (by decide +kernel)
set_option maxRecDepth 20000 in
theorem gX14_callAt_X14_failsIf : GoodIn wsX14_callAt (wsV RX14 105 RX14 yX14_failsIf wsX14_failsIf) := goodIn_app (goodIn_of _ (by decide +kernel)) ggX14_callAt_X14_failsIf
set_option maxRecDepth 20000 in
theorem ggX14_callAt_Jx4a65c_get_915e3 : GoodIn wsX14_callAt wsJx4a65c_get_915e3 := goodIn_r _ [31, 19, 32, 33, 34, 35, 36, 37, 38, 39, 40, 41, 42, 17, 43, 44, 235, 236, 237] (by decide +kernel) (by decide +kernel)
set_option maxRecDepth 20000 in
theorem gX14_callAt_Jx4a65c_get_915e3 : GoodIn wsX14_callAt (wsV RX14 89 RJx4a65c yJx4a65c_get_915e3 wsJx4a65c_get_915e3) := goodIn_app (goodIn_of _ (by decide +kernel)) ggX14_callAt_Jx4a65c_get_915e3
set_option maxRecDepth 20000 in
theorem ggX14_callAt_X14_called : GoodIn wsX14_callAt wsX14_called := goodIn_ca (goodIn_r _ [53, 54, 55, 17, 56, 57, 58, 59, 60, 61, 44, 62, 63, 64, 65, 66, 67, 68, 69, 70, 71, 72, 73, 74, 16, 75, 18, 19, 76, 77, 78, 79, 80, 81, 82, 83, 84, 85, 86, 87, 88, 89, 90, 91, 92, 93, 94, 95, 96, 97, 98, 99, 100, 101, 102, 103, 104, 105, 106, 107, 108, 109, 110, 111, 112, 113, 114, 115, 116, 117, 118, 119, 120, 121, 122, 123, 124, 125, 126, 127, 128, 129, 130, 131, 132, 133, 134, 135, 136, 137, 138, 139, 140, 141, 142, 143, 144, 145, 146, 147, 148, 149, 150, 151, 152, 153, 154, 7, 155, 3, 156, 157, 158, 159, 22, 160, 161, 162, 163, 164, 165, 166, 167, 14, 15, 20, 21, 23, 24, 168, 169, 29, 31, 32, 33, 34, 35, 36, 37, 38, 39, 40, 41, 42, 43, 170, 171, 172, 173, 174, 175, 176, 177, 28, 30, 178, 179, 180, 181, 182, 183, 184, 185, 186, 187, 188, 189, 190, 191, 192, 193, 194, 195, 196, 197, 198, 199, 200, 201, 202, 203, 204, 205, 206, 207, 208, 235, 236, 237, 217, 218, 219, 220, 221, 222, 223, 224, 225, 226, 227, 228, 229, 230, 231, 232, 233, 234, 240, 241, 242, 243, 244, 245, 246, 247, 248, 249, 238, 239] (by decide +kernel) (by decide +kernel)) (goodIn_sub (fun _ h => List.mem_cons_of_mem _ (List.mem_append_right _ h)) (by decide +kernel))
set_option maxRecDepth 20000 in
theorem gX14_callAt_X14_called : GoodIn wsX14_callAt (wsV RX14 328 RX14 yX14_called wsX14_called) := goodIn_app (goodIn_of _ (by decide +kernel)) ggX14_callAt_X14_called
set_option maxRecDepth 20000 in
theorem ggX14_callAt_X14_isOf : GoodIn wsX14_callAt wsX14_isOf := goodIn_r _ [13, 14, 15, 16, 17, 18, 19, 20, 21, 22, 23, 24, 25, 26, 7, 27, 235, 236, 237, 238, 239] (by decide +kernel) (by decide +kernel)
set_option maxRecDepth 20000 in
theorem gX14_callAt_X14_isOf : GoodIn wsX14_callAt (va_wsS RX14 85 yX14_isOf wsX14_isOf) := goodIn_app (goodIn_of _ (by decide +kernel)) ggX14_callAt_X14_isOf
set_option maxRecDepth 20000 in
theorem gX14_callAt_Jx4a65c_get_915e3_f285Jx4a65c : GoodIn wsX14_callAt (va_wsF RX14 285 RJx4a65c ⟨"java/util/List", "get", "(I)Ljava/lang/Object;"⟩ yJx4a65c_get_915e3 wsJx4a65c_get_915e3) := goodIn_app (goodIn_of _ (by decide +kernel)) ggX14_callAt_Jx4a65c_get_915e3
set_option maxRecDepth 20000 in
theorem ggX14_callAt_Jx6a02c_get_915e3 : GoodIn wsX14_callAt wsJx6a02c_get_915e3 := goodIn_r _ [172, 173, 24, 238, 239] (by decide +kernel) (by decide +kernel)
set_option maxRecDepth 20000 in
theorem gX14_callAt_Jx6a02c_get_915e3_f285Jx6a02c : GoodIn wsX14_callAt (va_wsF RX14 285 RJx6a02c ⟨"java/util/List", "get", "(I)Ljava/lang/Object;"⟩ yJx6a02c_get_915e3 wsJx6a02c_get_915e3) := goodIn_app (goodIn_of _ (by decide +kernel)) ggX14_callAt_Jx6a02c_get_915e3
set_option maxRecDepth 20000 in
theorem ggX14_callAt_J6_intValue_8abf5 : GoodIn wsX14_callAt wsJ6_intValue_8abf5 := goodIn_r _ [177, 87, 240] (by decide +kernel) (by decide +kernel)
set_option maxRecDepth 20000 in
theorem gX14_callAt_J6_intValue_8abf5 : GoodIn wsX14_callAt (wsV RX14 181 RJ6 yJ6_intValue_8abf5 wsJ6_intValue_8abf5) := goodIn_app (goodIn_of _ (by decide +kernel)) ggX14_callAt_J6_intValue_8abf5
set_option maxRecDepth 20000 in
theorem ggX14_callAt_X14_tells : GoodIn wsX14_callAt wsX14_tells := goodIn_r _ [212, 49, 217, 218, 219, 220, 221, 222] (by decide +kernel) (by decide +kernel)
set_option maxRecDepth 20000 in
theorem gX14_callAt_X14_tells : GoodIn wsX14_callAt (wsV RX14 56 RX14 yX14_tells wsX14_tells) := goodIn_app (goodIn_of _ (by decide +kernel)) ggX14_callAt_X14_tells
set_option maxRecDepth 20000 in
theorem ggX14_callAt_X14_fails : GoodIn wsX14_callAt wsX14_fails := goodIn_r _ [216, 49, 217, 218, 219, 220, 221, 222] (by decide +kernel) (by decide +kernel)
set_option maxRecDepth 20000 in
theorem gX14_callAt_X14_fails : GoodIn wsX14_callAt (wsV RX14 42 RX14 yX14_fails wsX14_fails) := goodIn_app (goodIn_of _ (by decide +kernel)) ggX14_callAt_X14_fails
theorem dX14_callAt_0 : decode cX14_callAt 0 = .ok (.aload_n 0, 1) := by decide +kernel
theorem dX14_callAt_1 : decode cX14_callAt 1 = .ok (.aload_n 0, 1) := by decide +kernel
theorem dX14_callAt_2 : decode cX14_callAt 2 = .ok (.iload_n 1, 1) := by decide +kernel
theorem dX14_callAt_3 : decode cX14_callAt 3 = .ok (.invokevirtual 325, 3) := by decide +kernel
theorem dX14_callAt_6 : decode cX14_callAt 6 = .ok (.invokevirtual 105, 3) := by decide +kernel
theorem dX14_callAt_9 : decode cX14_callAt 9 = .ok (.ifCond .eq 5, 3) := by decide +kernel
theorem dX14_callAt_12 : decode cX14_callAt 12 = .ok (.iconst 0, 1) := by decide +kernel
theorem dX14_callAt_13 : decode cX14_callAt 13 = .ok (.ireturn, 1) := by decide +kernel
theorem dX14_callAt_14 : decode cX14_callAt 14 = .ok (.aload_n 0, 1) := by decide +kernel
theorem dX14_callAt_15 : decode cX14_callAt 15 = .ok (.aload_n 0, 1) := by decide +kernel
theorem dX14_callAt_16 : decode cX14_callAt 16 = .ok (.getfield 25, 3) := by decide +kernel
theorem dX14_callAt_19 : decode cX14_callAt 19 = .ok (.iload_n 1, 1) := by decide +kernel
theorem dX14_callAt_20 : decode cX14_callAt 20 = .ok (.invokevirtual 89, 3) := by decide +kernel
theorem dX14_callAt_23 : decode cX14_callAt 23 = .ok (.checkcast 73, 3) := by decide +kernel
theorem dX14_callAt_26 : decode cX14_callAt 26 = .ok (.invokevirtual 328, 3) := by decide +kernel
theorem dX14_callAt_29 : decode cX14_callAt 29 = .ok (.astore_n 3, 1) := by decide +kernel
theorem dX14_callAt_30 : decode cX14_callAt 30 = .ok (.aload_n 3, 1) := by decide +kernel
theorem dX14_callAt_31 : decode cX14_callAt 31 = .ok (.iload_n 2, 1) := by decide +kernel
theorem dX14_callAt_32 : decode cX14_callAt 32 = .ok (.invokestatic 85, 3) := by decide +kernel
theorem dX14_callAt_35 : decode cX14_callAt 35 = .ok (.ifCond .eq 23, 3) := by decide +kernel
theorem dX14_callAt_38 : decode cX14_callAt 38 = .ok (.aload_n 0, 1) := by decide +kernel
theorem dX14_callAt_39 : decode cX14_callAt 39 = .ok (.aload_n 3, 1) := by decide +kernel
theorem dX14_callAt_40 : decode cX14_callAt 40 = .ok (.iload_n 2, 1) := by decide +kernel
theorem dX14_callAt_41 : decode cX14_callAt 41 = .ok (.invokeinterface 285 2, 5) := by decide +kernel
theorem dX14_callAt_46 : decode cX14_callAt 46 = .ok (.checkcast 77, 3) := by decide +kernel
theorem dX14_callAt_49 : decode cX14_callAt 49 = .ok (.invokevirtual 181, 3) := by decide +kernel
theorem dX14_callAt_52 : decode cX14_callAt 52 = .ok (.invokevirtual 56, 3) := by decide +kernel
theorem dX14_callAt_55 : decode cX14_callAt 55 = .ok (.goto 8, 3) := by decide +kernel
theorem dX14_callAt_58 : decode cX14_callAt 58 = .ok (.aload_n 0, 1) := by decide +kernel
theorem dX14_callAt_59 : decode cX14_callAt 59 = .ok (.iconst 3, 1) := by decide +kernel
theorem dX14_callAt_60 : decode cX14_callAt 60 = .ok (.invokevirtual 42, 3) := by decide +kernel
theorem dX14_callAt_63 : decode cX14_callAt 63 = .ok (.ireturn, 1) := by decide +kernel
set_option maxRecDepth 20000 in
theorem ggX14_waiting_X14_callFailure : GoodIn wsX14_waiting wsX14_callFailure := goodIn_r _ [7, 1, 2, 8, 9, 10, 11, 6, 12, 13, 14, 15, 16, 17, 18, 19, 20, 21, 22, 23, 24, 25, 26, 27, 28, 29, 30, 31, 32, 33, 34, 35, 36, 37, 38, 39, 40, 41, 42, 43, 209, 210, 211, 212, 213, 214, 215, 216, 217, 218, 219, 220, 221, 222, 223, 224, 225, 226, 227, 228, 229, 230, 231] (by decide +kernel) (by decide +kernel)
set_option maxRecDepth 20000 in
theorem gX14_waiting_X14_callFailure : GoodIn wsX14_waiting (wsV RX14 325 RX14 yX14_callFailure wsX14_callFailure) := goodIn_app (goodIn_of _ (by decide +kernel)) ggX14_waiting_X14_callFailure
set_option maxRecDepth 20000 in
theorem ggX14_waiting_X14_failsIf : GoodIn wsX14_waiting wsX14_failsIf := goodIn_r _ [47, 48, 209, 210, 211, 212, 213, 214] (by decide +kernel) (by decide +kernel)
set_option maxRecDepth 20000 in
theorem gX14_waiting_X14_failsIf : GoodIn wsX14_waiting (wsV RX14 105 RX14 yX14_failsIf wsX14_failsIf) := goodIn_app (goodIn_of _ (by decide +kernel)) ggX14_waiting_X14_failsIf
set_option maxRecDepth 20000 in
theorem ggX14_waiting_Jx4a65c_get_915e3 : GoodIn wsX14_waiting wsJx4a65c_get_915e3 := goodIn_r _ [30, 18, 31, 32, 33, 34, 35, 36, 37, 38, 39, 40, 41, 16, 42, 43, 227, 228, 229] (by decide +kernel) (by decide +kernel)
set_option maxRecDepth 20000 in
theorem gX14_waiting_Jx4a65c_get_915e3 : GoodIn wsX14_waiting (wsV RX14 89 RJx4a65c yJx4a65c_get_915e3 wsJx4a65c_get_915e3) := goodIn_app (goodIn_of _ (by decide +kernel)) ggX14_waiting_Jx4a65c_get_915e3
set_option maxRecDepth 20000 in
theorem ggX14_waiting_X14_called : GoodIn wsX14_waiting wsX14_called := goodIn_ca (goodIn_r _ [52, 53, 54, 16, 55, 56, 57, 58, 59, 60, 43, 61, 62, 63, 64, 65, 66, 67, 68, 69, 70, 71, 72, 73, 15, 74, 17, 18, 75, 76, 77, 78, 79, 80, 81, 82, 83, 84, 85, 86, 87, 88, 89, 90, 91, 92, 93, 94, 95, 96, 97, 98, 99, 100, 101, 102, 103, 104, 105, 106, 107, 108, 109, 110, 111, 112, 113, 114, 115, 116, 117, 118, 119, 120, 121, 122, 123, 124, 125, 126, 127, 128, 129, 130, 131, 132, 133, 134, 135, 136, 137, 138, 139, 140, 141, 142, 143, 144, 145, 146, 147, 148, 149, 150, 151, 152, 153, 6, 154, 155, 156, 157, 158, 159, 21, 160, 161, 162, 163, 164, 165, 166, 167, 13, 14, 19, 20, 22, 23, 168, 169, 28, 30, 31, 32, 33, 34, 35, 36, 37, 38, 39, 40, 41, 42, 170, 171, 172, 173, 174, 175, 176, 177, 27, 29, 178, 179, 180, 181, 182, 183, 184, 185, 186, 187, 188, 189, 190, 191, 192, 193, 194, 195, 196, 197, 198, 199, 200, 201, 202, 203, 204, 205, 206, 207, 208, 227, 228, 229, 209, 210, 211, 212, 213, 214, 215, 216, 217, 218, 219, 220, 221, 222, 223, 224, 225, 226, 232, 233, 234, 235, 236, 237, 238, 239, 240, 241, 230, 231] (by decide +kernel) (by decide +kernel)) (goodIn_sub (fun _ h => List.mem_cons_of_mem _ (List.mem_append_right _ h)) (by decide +kernel))
set_option maxRecDepth 20000 in
theorem gX14_waiting_X14_called : GoodIn wsX14_waiting (wsV RX14 328 RX14 yX14_called wsX14_called) := goodIn_app (goodIn_of _ (by decide +kernel)) ggX14_waiting_X14_called
set_option maxRecDepth 20000 in
theorem ggX14_waiting_X14_waits : GoodIn wsX14_waiting wsX14_waits := goodIn_ca (goodIn_r _ [164, 165, 56, 155, 55, 166, 167, 73, 15, 74, 16, 17, 18, 13, 14, 19, 20, 21, 22, 23, 168, 169, 28, 30, 31, 32, 33, 34, 35, 36, 37, 38, 39, 40, 41, 42, 43, 170, 171, 172, 173, 174, 175, 176, 77, 177, 86, 27, 29, 209, 210, 211, 212, 213, 214, 215, 216, 217, 218, 219, 220, 221, 222, 223, 224, 225, 226, 237, 238, 239, 240, 241, 227, 228, 229, 230, 231, 232] (by decide +kernel) (by decide +kernel)) (goodIn_sub (fun _ h => List.mem_cons_of_mem _ (List.mem_append_right _ h)) (by decide +kernel))
set_option maxRecDepth 20000 in
theorem gX14_waiting_X14_waits : GoodIn wsX14_waiting (wsV RX14 309 RX14 yX14_waits wsX14_waits) := goodIn_app (goodIn_of _ (by decide +kernel)) ggX14_waiting_X14_waits
theorem dX14_waiting_0 : decode cX14_waiting 0 = .ok (.aload_n 0, 1) := by decide +kernel
theorem dX14_waiting_1 : decode cX14_waiting 1 = .ok (.aload_n 0, 1) := by decide +kernel
theorem dX14_waiting_2 : decode cX14_waiting 2 = .ok (.iload_n 1, 1) := by decide +kernel
theorem dX14_waiting_3 : decode cX14_waiting 3 = .ok (.invokevirtual 325, 3) := by decide +kernel
theorem dX14_waiting_6 : decode cX14_waiting 6 = .ok (.invokevirtual 105, 3) := by decide +kernel
theorem dX14_waiting_9 : decode cX14_waiting 9 = .ok (.ifCond .eq 7, 3) := by decide +kernel
theorem dX14_waiting_12 : decode cX14_waiting 12 = .ok (.iconst 0, 1) := by decide +kernel
theorem dX14_waiting_13 : decode cX14_waiting 13 = .ok (.goto 33, 3) := by decide +kernel
theorem dX14_waiting_16 : decode cX14_waiting 16 = .ok (.aload_n 0, 1) := by decide +kernel
theorem dX14_waiting_17 : decode cX14_waiting 17 = .ok (.aload_n 0, 1) := by decide +kernel
theorem dX14_waiting_18 : decode cX14_waiting 18 = .ok (.getfield 25, 3) := by decide +kernel
theorem dX14_waiting_21 : decode cX14_waiting 21 = .ok (.iload_n 1, 1) := by decide +kernel
theorem dX14_waiting_22 : decode cX14_waiting 22 = .ok (.invokevirtual 89, 3) := by decide +kernel
theorem dX14_waiting_25 : decode cX14_waiting 25 = .ok (.checkcast 73, 3) := by decide +kernel
theorem dX14_waiting_28 : decode cX14_waiting 28 = .ok (.aload_n 0, 1) := by decide +kernel
theorem dX14_waiting_29 : decode cX14_waiting 29 = .ok (.aload_n 0, 1) := by decide +kernel
theorem dX14_waiting_30 : decode cX14_waiting 30 = .ok (.getfield 25, 3) := by decide +kernel
theorem dX14_waiting_33 : decode cX14_waiting 33 = .ok (.iload_n 1, 1) := by decide +kernel
theorem dX14_waiting_34 : decode cX14_waiting 34 = .ok (.invokevirtual 89, 3) := by decide +kernel
theorem dX14_waiting_37 : decode cX14_waiting 37 = .ok (.checkcast 73, 3) := by decide +kernel
theorem dX14_waiting_40 : decode cX14_waiting 40 = .ok (.invokevirtual 328, 3) := by decide +kernel
theorem dX14_waiting_43 : decode cX14_waiting 43 = .ok (.invokevirtual 309, 3) := by decide +kernel
theorem dX14_waiting_46 : decode cX14_waiting 46 = .ok (.ireturn, 1) := by decide +kernel
set_option maxRecDepth 20000 in
theorem ggX14_overtimeOf_Jx4a65c_size_8abf5 : GoodIn wsX14_overtimeOf wsJx4a65c_size_8abf5 := goodIn_r _ [14, 15, 63, 64, 65] (by decide +kernel) (by decide +kernel)
set_option maxRecDepth 20000 in
theorem gX14_overtimeOf_Jx4a65c_size_8abf5 : GoodIn wsX14_overtimeOf (wsV RX14 46 RJx4a65c yJx4a65c_size_8abf5 wsJx4a65c_size_8abf5) := goodIn_app (goodIn_of _ (by decide +kernel)) ggX14_overtimeOf_Jx4a65c_size_8abf5
set_option maxRecDepth 20000 in
theorem ggX14_overtimeOf_X12_has : GoodIn wsX14_overtimeOf wsX12_has := goodIn_ca (goodIn_r _ [20, 21, 22, 40, 41, 42, 43, 44, 45, 46, 47, 48, 49, 50, 51] (by decide +kernel) (by decide +kernel)) (goodIn_sub (fun _ h => List.mem_cons_of_mem _ (List.mem_append_right _ h)) (by decide +kernel))
set_option maxRecDepth 20000 in
theorem gX14_overtimeOf_X12_has : GoodIn wsX14_overtimeOf (wsV RX14 126 RX12 yX12_has wsX12_has) := goodIn_app (goodIn_of _ (by decide +kernel)) ggX14_overtimeOf_X12_has
set_option maxRecDepth 20000 in
theorem ggX14_overtimeOf_Jx4a65c_get_915e3 : GoodIn wsX14_overtimeOf wsJx4a65c_get_915e3 := goodIn_r _ [26, 15, 27, 28, 29, 30, 31, 32, 33, 34, 35, 36, 37, 13, 38, 39, 63, 64, 65] (by decide +kernel) (by decide +kernel)
set_option maxRecDepth 20000 in
theorem gX14_overtimeOf_Jx4a65c_get_915e3 : GoodIn wsX14_overtimeOf (wsV RX14 89 RJx4a65c yJx4a65c_get_915e3 wsJx4a65c_get_915e3) := goodIn_app (goodIn_of _ (by decide +kernel)) ggX14_overtimeOf_Jx4a65c_get_915e3
theorem dX14_overtimeOf_0 : decode cX14_overtimeOf 0 = .ok (.iconst 0, 1) := by decide +kernel
theorem dX14_overtimeOf_1 : decode cX14_overtimeOf 1 = .ok (.aload_n 1, 1) := by decide +kernel
theorem dX14_overtimeOf_2 : decode cX14_overtimeOf 2 = .ok (.getfield 293, 3) := by decide +kernel
theorem dX14_overtimeOf_5 : decode cX14_overtimeOf 5 = .ok (.iconst (-1), 1) := by decide +kernel
theorem dX14_overtimeOf_6 : decode cX14_overtimeOf 6 = .ok (.if_icmp .ne 10, 3) := by decide +kernel
theorem dX14_overtimeOf_9 : decode cX14_overtimeOf 9 = .ok (.aload_n 1, 1) := by decide +kernel
theorem dX14_overtimeOf_10 : decode cX14_overtimeOf 10 = .ok (.getfield 194, 3) := by decide +kernel
theorem dX14_overtimeOf_13 : decode cX14_overtimeOf 13 = .ok (.goto 7, 3) := by decide +kernel
theorem dX14_overtimeOf_16 : decode cX14_overtimeOf 16 = .ok (.aload_n 1, 1) := by decide +kernel
theorem dX14_overtimeOf_17 : decode cX14_overtimeOf 17 = .ok (.getfield 293, 3) := by decide +kernel
theorem dX14_overtimeOf_20 : decode cX14_overtimeOf 20 = .ok (.bipush 10, 2) := by decide +kernel
theorem dX14_overtimeOf_22 : decode cX14_overtimeOf 22 = .ok (.isub, 1) := by decide +kernel
theorem dX14_overtimeOf_23 : decode cX14_overtimeOf 23 = .ok (.invokestatic 245, 3) := by decide +kernel
theorem dX14_overtimeOf_26 : decode cX14_overtimeOf 26 = .ok (.istore_n 2, 1) := by decide +kernel
theorem dX14_overtimeOf_27 : decode cX14_overtimeOf 27 = .ok (.iconst 0, 1) := by decide +kernel
theorem dX14_overtimeOf_28 : decode cX14_overtimeOf 28 = .ok (.istore_n 3, 1) := by decide +kernel
theorem dX14_overtimeOf_29 : decode cX14_overtimeOf 29 = .ok (.iconst 0, 1) := by decide +kernel
theorem dX14_overtimeOf_30 : decode cX14_overtimeOf 30 = .ok (.istore 4, 2) := by decide +kernel
theorem dX14_overtimeOf_32 : decode cX14_overtimeOf 32 = .ok (.iload 4, 2) := by decide +kernel
theorem dX14_overtimeOf_34 : decode cX14_overtimeOf 34 = .ok (.aload_n 0, 1) := by decide +kernel
theorem dX14_overtimeOf_35 : decode cX14_overtimeOf 35 = .ok (.getfield 16, 3) := by decide +kernel
theorem dX14_overtimeOf_38 : decode cX14_overtimeOf 38 = .ok (.invokevirtual 46, 3) := by decide +kernel
theorem dX14_overtimeOf_41 : decode cX14_overtimeOf 41 = .ok (.if_icmp .ge 45, 3) := by decide +kernel
theorem dX14_overtimeOf_44 : decode cX14_overtimeOf 44 = .ok (.iload_n 3, 1) := by decide +kernel
theorem dX14_overtimeOf_45 : decode cX14_overtimeOf 45 = .ok (.aload_n 1, 1) := by decide +kernel
theorem dX14_overtimeOf_46 : decode cX14_overtimeOf 46 = .ok (.iload 4, 2) := by decide +kernel
theorem dX14_overtimeOf_48 : decode cX14_overtimeOf 48 = .ok (.invokevirtual 126, 3) := by decide +kernel
theorem dX14_overtimeOf_51 : decode cX14_overtimeOf 51 = .ok (.ifCond .eq 26, 3) := by decide +kernel
theorem dX14_overtimeOf_54 : decode cX14_overtimeOf 54 = .ok (.iload_n 2, 1) := by decide +kernel
theorem dX14_overtimeOf_55 : decode cX14_overtimeOf 55 = .ok (.aload_n 0, 1) := by decide +kernel
theorem dX14_overtimeOf_56 : decode cX14_overtimeOf 56 = .ok (.getfield 16, 3) := by decide +kernel
theorem dX14_overtimeOf_59 : decode cX14_overtimeOf 59 = .ok (.iload 4, 2) := by decide +kernel
theorem dX14_overtimeOf_61 : decode cX14_overtimeOf 61 = .ok (.invokevirtual 89, 3) := by decide +kernel
theorem dX14_overtimeOf_64 : decode cX14_overtimeOf 64 = .ok (.checkcast 121, 3) := by decide +kernel
theorem dX14_overtimeOf_67 : decode cX14_overtimeOf 67 = .ok (.getfield 270, 3) := by decide +kernel
theorem dX14_overtimeOf_70 : decode cX14_overtimeOf 70 = .ok (.bipush 10, 2) := by decide +kernel
theorem dX14_overtimeOf_72 : decode cX14_overtimeOf 72 = .ok (.idiv, 1) := by decide +kernel
theorem dX14_overtimeOf_73 : decode cX14_overtimeOf 73 = .ok (.imul, 1) := by decide +kernel
theorem dX14_overtimeOf_74 : decode cX14_overtimeOf 74 = .ok (.goto 4, 3) := by decide +kernel
theorem dX14_overtimeOf_77 : decode cX14_overtimeOf 77 = .ok (.iconst 0, 1) := by decide +kernel
theorem dX14_overtimeOf_78 : decode cX14_overtimeOf 78 = .ok (.iadd, 1) := by decide +kernel
theorem dX14_overtimeOf_79 : decode cX14_overtimeOf 79 = .ok (.istore_n 3, 1) := by decide +kernel
theorem dX14_overtimeOf_80 : decode cX14_overtimeOf 80 = .ok (.iinc 4 1, 3) := by decide +kernel
theorem dX14_overtimeOf_83 : decode cX14_overtimeOf 83 = .ok (.goto (-51), 3) := by decide +kernel
theorem dX14_overtimeOf_86 : decode cX14_overtimeOf 86 = .ok (.iload_n 3, 1) := by decide +kernel
theorem dX14_overtimeOf_87 : decode cX14_overtimeOf 87 = .ok (.ireturn, 1) := by decide +kernel
set_option maxRecDepth 20000 in
theorem ggX14_ran_X14_isOf : GoodIn wsX14_ran wsX14_isOf := goodIn_r _ [8, 9, 10, 11, 12, 13, 14, 15, 16, 17, 18, 19, 20, 21, 7, 22, 88, 89, 90, 91, 92] (by decide +kernel) (by decide +kernel)
set_option maxRecDepth 20000 in
theorem gX14_ran_X14_isOf : GoodIn wsX14_ran (va_wsS RX14 85 yX14_isOf wsX14_isOf) := goodIn_app (goodIn_of _ (by decide +kernel)) ggX14_ran_X14_isOf
set_option maxRecDepth 20000 in
theorem ggX14_ran_X14_fails : GoodIn wsX14_ran wsX14_fails := goodIn_r _ [26, 27, 70, 71, 72, 73, 74, 75] (by decide +kernel) (by decide +kernel)
set_option maxRecDepth 20000 in
theorem gX14_ran_X14_fails : GoodIn wsX14_ran (wsV RX14 42 RX14 yX14_fails wsX14_fails) := goodIn_app (goodIn_of _ (by decide +kernel)) ggX14_ran_X14_fails
set_option maxRecDepth 20000 in
theorem ggX14_ran_X14_in : GoodIn wsX14_ran wsX14_in := goodIn_r _ [22] (by decide +kernel) (by decide +kernel)
set_option maxRecDepth 20000 in
theorem gX14_ran_X14_in : GoodIn wsX14_ran (va_wsS RX14 38 yX14_in wsX14_in) := goodIn_app (goodIn_of _ (by decide +kernel)) ggX14_ran_X14_in
set_option maxRecDepth 20000 in
theorem ggX14_ran_Jx4a65c_get_915e3 : GoodIn wsX14_ran wsJx4a65c_get_915e3 := goodIn_r _ [31, 14, 32, 33, 34, 35, 36, 37, 38, 39, 40, 41, 42, 12, 43, 44, 88, 89, 90] (by decide +kernel) (by decide +kernel)
set_option maxRecDepth 20000 in
theorem gX14_ran_Jx4a65c_get_915e3 : GoodIn wsX14_ran (wsV RX14 89 RJx4a65c yJx4a65c_get_915e3 wsJx4a65c_get_915e3) := goodIn_app (goodIn_of _ (by decide +kernel)) ggX14_ran_Jx4a65c_get_915e3
set_option maxRecDepth 20000 in
theorem ggX14_ran_X14_overtimeOf : GoodIn wsX14_ran wsX14_overtimeOf := goodIn_ca (goodIn_r _ [48, 4, 49, 50, 51, 52, 53, 54, 55, 56, 57, 11, 58, 12, 13, 14, 59, 60, 61, 62, 63, 64, 65, 28, 29, 30, 31, 32, 33, 34, 35, 36, 37, 38, 39, 40, 41, 42, 43, 44, 76, 77, 78, 79, 80, 81, 82, 83, 84, 85, 86, 87, 70, 71, 72, 73, 74, 75, 93, 94, 95, 96, 97, 88, 89, 90] (by decide +kernel) (by decide +kernel)) (goodIn_sub (fun _ h => List.mem_cons_of_mem _ (List.mem_append_right _ h)) (by decide +kernel))
set_option maxRecDepth 20000 in
theorem gX14_ran_X14_overtimeOf : GoodIn wsX14_ran (wsV RX14 332 RX14 yX14_overtimeOf wsX14_overtimeOf) := goodIn_app (goodIn_of _ (by decide +kernel)) ggX14_ran_X14_overtimeOf
set_option maxRecDepth 20000 in
theorem ggX14_ran_X14_tells : GoodIn wsX14_ran wsX14_tells := goodIn_r _ [69, 27, 70, 71, 72, 73, 74, 75] (by decide +kernel) (by decide +kernel)
set_option maxRecDepth 20000 in
theorem gX14_ran_X14_tells : GoodIn wsX14_ran (wsV RX14 56 RX14 yX14_tells wsX14_tells) := goodIn_app (goodIn_of _ (by decide +kernel)) ggX14_ran_X14_tells
theorem dX14_ran_0 : decode cX14_ran 0 = .ok (.aload_n 0, 1) := by decide +kernel
theorem dX14_ran_1 : decode cX14_ran 1 = .ok (.getfield 25, 3) := by decide +kernel
theorem dX14_ran_4 : decode cX14_ran 4 = .ok (.iload_n 1, 1) := by decide +kernel
theorem dX14_ran_5 : decode cX14_ran 5 = .ok (.invokestatic 85, 3) := by decide +kernel
theorem dX14_ran_8 : decode cX14_ran 8 = .ok (.ifCond .ne 9, 3) := by decide +kernel
theorem dX14_ran_11 : decode cX14_ran 11 = .ok (.aload_n 0, 1) := by decide +kernel
theorem dX14_ran_12 : decode cX14_ran 12 = .ok (.iconst 1, 1) := by decide +kernel
theorem dX14_ran_13 : decode cX14_ran 13 = .ok (.invokevirtual 42, 3) := by decide +kernel
theorem dX14_ran_16 : decode cX14_ran 16 = .ok (.ireturn, 1) := by decide +kernel
theorem dX14_ran_17 : decode cX14_ran 17 = .ok (.iload_n 2, 1) := by decide +kernel
theorem dX14_ran_18 : decode cX14_ran 18 = .ok (.iconst 4, 1) := by decide +kernel
theorem dX14_ran_19 : decode cX14_ran 19 = .ok (.bipush 32, 2) := by decide +kernel
theorem dX14_ran_21 : decode cX14_ran 21 = .ok (.invokestatic 38, 3) := by decide +kernel
theorem dX14_ran_24 : decode cX14_ran 24 = .ok (.ifCond .ne 9, 3) := by decide +kernel
theorem dX14_ran_27 : decode cX14_ran 27 = .ok (.aload_n 0, 1) := by decide +kernel
theorem dX14_ran_28 : decode cX14_ran 28 = .ok (.iconst 2, 1) := by decide +kernel
theorem dX14_ran_29 : decode cX14_ran 29 = .ok (.invokevirtual 42, 3) := by decide +kernel
theorem dX14_ran_32 : decode cX14_ran 32 = .ok (.ireturn, 1) := by decide +kernel
theorem dX14_ran_33 : decode cX14_ran 33 = .ok (.aload_n 0, 1) := by decide +kernel
theorem dX14_ran_34 : decode cX14_ran 34 = .ok (.getfield 25, 3) := by decide +kernel
theorem dX14_ran_37 : decode cX14_ran 37 = .ok (.iload_n 1, 1) := by decide +kernel
theorem dX14_ran_38 : decode cX14_ran 38 = .ok (.invokevirtual 89, 3) := by decide +kernel
theorem dX14_ran_41 : decode cX14_ran 41 = .ok (.checkcast 73, 3) := by decide +kernel
theorem dX14_ran_44 : decode cX14_ran 44 = .ok (.getfield 191, 3) := by decide +kernel
theorem dX14_ran_47 : decode cX14_ran 47 = .ok (.ifCond .ne 9, 3) := by decide +kernel
theorem dX14_ran_50 : decode cX14_ran 50 = .ok (.aload_n 0, 1) := by decide +kernel
theorem dX14_ran_51 : decode cX14_ran 51 = .ok (.iconst 3, 1) := by decide +kernel
theorem dX14_ran_52 : decode cX14_ran 52 = .ok (.invokevirtual 42, 3) := by decide +kernel
theorem dX14_ran_55 : decode cX14_ran 55 = .ok (.ireturn, 1) := by decide +kernel
theorem dX14_ran_56 : decode cX14_ran 56 = .ok (.aload_n 0, 1) := by decide +kernel
theorem dX14_ran_57 : decode cX14_ran 57 = .ok (.getfield 25, 3) := by decide +kernel
theorem dX14_ran_60 : decode cX14_ran 60 = .ok (.iload_n 1, 1) := by decide +kernel
theorem dX14_ran_61 : decode cX14_ran 61 = .ok (.invokevirtual 89, 3) := by decide +kernel
theorem dX14_ran_64 : decode cX14_ran 64 = .ok (.checkcast 73, 3) := by decide +kernel
theorem dX14_ran_67 : decode cX14_ran 67 = .ok (.iload_n 2, 1) := by decide +kernel
theorem dX14_ran_68 : decode cX14_ran 68 = .ok (.putfield 293, 3) := by decide +kernel
theorem dX14_ran_71 : decode cX14_ran 71 = .ok (.aload_n 0, 1) := by decide +kernel
theorem dX14_ran_72 : decode cX14_ran 72 = .ok (.aload_n 0, 1) := by decide +kernel
theorem dX14_ran_73 : decode cX14_ran 73 = .ok (.aload_n 0, 1) := by decide +kernel
theorem dX14_ran_74 : decode cX14_ran 74 = .ok (.getfield 25, 3) := by decide +kernel
theorem dX14_ran_77 : decode cX14_ran 77 = .ok (.iload_n 1, 1) := by decide +kernel
theorem dX14_ran_78 : decode cX14_ran 78 = .ok (.invokevirtual 89, 3) := by decide +kernel
theorem dX14_ran_81 : decode cX14_ran 81 = .ok (.checkcast 73, 3) := by decide +kernel
theorem dX14_ran_84 : decode cX14_ran 84 = .ok (.invokevirtual 332, 3) := by decide +kernel
theorem dX14_ran_87 : decode cX14_ran 87 = .ok (.invokevirtual 56, 3) := by decide +kernel
theorem dX14_ran_90 : decode cX14_ran 90 = .ok (.ireturn, 1) := by decide +kernel
set_option maxRecDepth 20000 in
theorem ggX14_overtime_X14_isOf : GoodIn wsX14_overtime wsX14_isOf := goodIn_r _ [6, 7, 8, 9, 10, 11, 12, 13, 14, 15, 16, 17, 18, 19, 5, 20, 75, 76, 77, 78, 79] (by decide +kernel) (by decide +kernel)
set_option maxRecDepth 20000 in
theorem gX14_overtime_X14_isOf : GoodIn wsX14_overtime (va_wsS RX14 85 yX14_isOf wsX14_isOf) := goodIn_app (goodIn_of _ (by decide +kernel)) ggX14_overtime_X14_isOf
set_option maxRecDepth 20000 in
theorem ggX14_overtime_Jx4a65c_get_915e3 : GoodIn wsX14_overtime wsJx4a65c_get_915e3 := goodIn_r _ [24, 12, 25, 26, 27, 28, 29, 30, 31, 32, 33, 34, 35, 10, 36, 37, 75, 76, 77] (by decide +kernel) (by decide +kernel)
set_option maxRecDepth 20000 in
theorem gX14_overtime_Jx4a65c_get_915e3 : GoodIn wsX14_overtime (wsV RX14 89 RJx4a65c yJx4a65c_get_915e3 wsJx4a65c_get_915e3) := goodIn_app (goodIn_of _ (by decide +kernel)) ggX14_overtime_Jx4a65c_get_915e3
set_option maxRecDepth 20000 in
theorem ggX14_overtime_X14_overtimeOf : GoodIn wsX14_overtime wsX14_overtimeOf := goodIn_ca (goodIn_r _ [41, 42, 43, 44, 45, 46, 47, 48, 49, 50, 51, 9, 52, 10, 11, 12, 53, 54, 55, 56, 57, 58, 59, 21, 22, 23, 24, 25, 26, 27, 28, 29, 30, 31, 32, 33, 34, 35, 36, 37, 80, 81, 82, 83, 84, 85, 86, 87, 88, 89, 90, 91, 69, 70, 71, 72, 73, 74, 92, 93, 94, 95, 96, 75, 76, 77] (by decide +kernel) (by decide +kernel)) (goodIn_sub (fun _ h => List.mem_cons_of_mem _ (List.mem_append_right _ h)) (by decide +kernel))
set_option maxRecDepth 20000 in
theorem gX14_overtime_X14_overtimeOf : GoodIn wsX14_overtime (wsV RX14 332 RX14 yX14_overtimeOf wsX14_overtimeOf) := goodIn_app (goodIn_of _ (by decide +kernel)) ggX14_overtime_X14_overtimeOf
set_option maxRecDepth 20000 in
theorem ggX14_overtime_X14_tells : GoodIn wsX14_overtime wsX14_tells := goodIn_r _ [63, 64, 69, 70, 71, 72, 73, 74] (by decide +kernel) (by decide +kernel)
set_option maxRecDepth 20000 in
theorem gX14_overtime_X14_tells : GoodIn wsX14_overtime (wsV RX14 56 RX14 yX14_tells wsX14_tells) := goodIn_app (goodIn_of _ (by decide +kernel)) ggX14_overtime_X14_tells
set_option maxRecDepth 20000 in
theorem ggX14_overtime_X14_fails : GoodIn wsX14_overtime wsX14_fails := goodIn_r _ [68, 64, 69, 70, 71, 72, 73, 74] (by decide +kernel) (by decide +kernel)
set_option maxRecDepth 20000 in
theorem gX14_overtime_X14_fails : GoodIn wsX14_overtime (wsV RX14 42 RX14 yX14_fails wsX14_fails) := goodIn_app (goodIn_of _ (by decide +kernel)) ggX14_overtime_X14_fails
theorem dX14_overtime_0 : decode cX14_overtime 0 = .ok (.aload_n 0, 1) := by decide +kernel
theorem dX14_overtime_1 : decode cX14_overtime 1 = .ok (.getfield 25, 3) := by decide +kernel
theorem dX14_overtime_4 : decode cX14_overtime 4 = .ok (.iload_n 1, 1) := by decide +kernel
theorem dX14_overtime_5 : decode cX14_overtime 5 = .ok (.invokestatic 85, 3) := by decide +kernel
theorem dX14_overtime_8 : decode cX14_overtime 8 = .ok (.ifCond .eq 25, 3) := by decide +kernel
theorem dX14_overtime_11 : decode cX14_overtime 11 = .ok (.aload_n 0, 1) := by decide +kernel
theorem dX14_overtime_12 : decode cX14_overtime 12 = .ok (.aload_n 0, 1) := by decide +kernel
theorem dX14_overtime_13 : decode cX14_overtime 13 = .ok (.aload_n 0, 1) := by decide +kernel
theorem dX14_overtime_14 : decode cX14_overtime 14 = .ok (.getfield 25, 3) := by decide +kernel
theorem dX14_overtime_17 : decode cX14_overtime 17 = .ok (.iload_n 1, 1) := by decide +kernel
theorem dX14_overtime_18 : decode cX14_overtime 18 = .ok (.invokevirtual 89, 3) := by decide +kernel
theorem dX14_overtime_21 : decode cX14_overtime 21 = .ok (.checkcast 73, 3) := by decide +kernel
theorem dX14_overtime_24 : decode cX14_overtime 24 = .ok (.invokevirtual 332, 3) := by decide +kernel
theorem dX14_overtime_27 : decode cX14_overtime 27 = .ok (.invokevirtual 56, 3) := by decide +kernel
theorem dX14_overtime_30 : decode cX14_overtime 30 = .ok (.goto 8, 3) := by decide +kernel
theorem dX14_overtime_33 : decode cX14_overtime 33 = .ok (.aload_n 0, 1) := by decide +kernel
theorem dX14_overtime_34 : decode cX14_overtime 34 = .ok (.iconst 1, 1) := by decide +kernel
theorem dX14_overtime_35 : decode cX14_overtime 35 = .ok (.invokevirtual 42, 3) := by decide +kernel
theorem dX14_overtime_38 : decode cX14_overtime 38 = .ok (.ireturn, 1) := by decide +kernel
set_option maxRecDepth 20000 in
theorem ggX14_lastPlayed_X14_isOf : GoodIn wsX14_lastPlayed wsX14_isOf := goodIn_r _ [13, 14, 15, 16, 17, 18, 19, 20, 21, 22, 23, 24, 25, 26, 12, 27, 126, 127, 128, 129, 130] (by decide +kernel) (by decide +kernel)
set_option maxRecDepth 20000 in
theorem gX14_lastPlayed_X14_isOf : GoodIn wsX14_lastPlayed (va_wsS RX14 85 yX14_isOf wsX14_isOf) := goodIn_app (goodIn_of _ (by decide +kernel)) ggX14_lastPlayed_X14_isOf
set_option maxRecDepth 20000 in
theorem ggX14_lastPlayed_X14_fails : GoodIn wsX14_lastPlayed wsX14_fails := goodIn_r _ [31, 32, 108, 109, 110, 111, 112, 113] (by decide +kernel) (by decide +kernel)
set_option maxRecDepth 20000 in
theorem gX14_lastPlayed_X14_fails : GoodIn wsX14_lastPlayed (wsV RX14 42 RX14 yX14_fails wsX14_fails) := goodIn_app (goodIn_of _ (by decide +kernel)) ggX14_lastPlayed_X14_fails
set_option maxRecDepth 20000 in
theorem ggX14_lastPlayed_Jx4a65c_iterator_32c93 : GoodIn wsX14_lastPlayed wsJx4a65c_iterator_32c93 := goodIn_r _ [36, 37, 38, 39, 40, 41, 42, 43, 44, 45, 46, 47, 48, 49, 50, 131, 132, 133, 134, 126, 127, 128] (by decide +kernel) (by decide +kernel)
set_option maxRecDepth 20000 in
theorem gX14_lastPlayed_Jx4a65c_iterator_32c93 : GoodIn wsX14_lastPlayed (wsV RX14 59 RJx4a65c yJx4a65c_iterator_32c93 wsJx4a65c_iterator_32c93) := goodIn_app (goodIn_of _ (by decide +kernel)) ggX14_lastPlayed_Jx4a65c_iterator_32c93
set_option maxRecDepth 20000 in
theorem ggX14_lastPlayed_Jx35411_hasNext_aae02 : GoodIn wsX14_lastPlayed wsJx35411_hasNext_aae02 := goodIn_r _ [54, 55, 43, 131, 132, 133, 134, 126, 127, 128] (by decide +kernel) (by decide +kernel)
set_option maxRecDepth 20000 in
theorem gX14_lastPlayed_Jx35411_hasNext_aae02_f63Jx35411 : GoodIn wsX14_lastPlayed (va_wsF RX14 63 RJx35411 ⟨"java/util/Iterator", "hasNext", "()Z"⟩ yJx35411_hasNext_aae02 wsJx35411_hasNext_aae02) := goodIn_app (goodIn_of _ (by decide +kernel)) ggX14_lastPlayed_Jx35411_hasNext_aae02
set_option maxRecDepth 20000 in
theorem ggX14_lastPlayed_Jx95556_hasNext_aae02 : GoodIn wsX14_lastPlayed wsJx95556_hasNext_aae02 := goodIn_r _ [59, 60, 61, 135, 136, 137, 138] (by decide +kernel) (by decide +kernel)
set_option maxRecDepth 20000 in
theorem gX14_lastPlayed_Jx95556_hasNext_aae02_f63Jx95556 : GoodIn wsX14_lastPlayed (va_wsF RX14 63 RJx95556 ⟨"java/util/Iterator", "hasNext", "()Z"⟩ yJx95556_hasNext_aae02 wsJx95556_hasNext_aae02) := goodIn_app (goodIn_of _ (by decide +kernel)) ggX14_lastPlayed_Jx95556_hasNext_aae02
set_option maxRecDepth 20000 in
theorem ggX14_lastPlayed_Jx35411_next_0502b : GoodIn wsX14_lastPlayed wsJx35411_next_0502b := goodIn_r _ [65, 55, 43, 66, 47, 67, 68, 69, 39, 70, 48, 49, 50, 131, 132, 133, 134, 126, 127, 128] (by decide +kernel) (by decide +kernel)
set_option maxRecDepth 20000 in
theorem gX14_lastPlayed_Jx35411_next_0502b_f69Jx35411 : GoodIn wsX14_lastPlayed (va_wsF RX14 69 RJx35411 ⟨"java/util/Iterator", "next", "()Ljava/lang/Object;"⟩ yJx35411_next_0502b wsJx35411_next_0502b) := goodIn_app (goodIn_of _ (by decide +kernel)) ggX14_lastPlayed_Jx35411_next_0502b
set_option maxRecDepth 20000 in
theorem ggX14_lastPlayed_Jx95556_next_0502b : GoodIn wsX14_lastPlayed wsJx95556_next_0502b := goodIn_r _ [73, 60, 74, 75, 76, 77, 17, 78, 19, 79, 80, 81, 82, 83, 84, 85, 86, 87, 88, 89, 90, 91, 92, 93, 22, 94, 95, 24, 135, 136, 137, 138, 126, 127, 128, 129, 130] (by decide +kernel) (by decide +kernel)
set_option maxRecDepth 20000 in
theorem gX14_lastPlayed_Jx95556_next_0502b_f69Jx95556 : GoodIn wsX14_lastPlayed (va_wsF RX14 69 RJx95556 ⟨"java/util/Iterator", "next", "()Ljava/lang/Object;"⟩ yJx95556_next_0502b wsJx95556_next_0502b) := goodIn_app (goodIn_of _ (by decide +kernel)) ggX14_lastPlayed_Jx95556_next_0502b
set_option maxRecDepth 20000 in
theorem ggX14_lastPlayed_X14_standing : GoodIn wsX14_lastPlayed wsX14_standing := goodIn_r _ [99, 1, 100, 101, 102, 16, 103, 17, 18, 19, 108, 109, 110, 111, 112, 113, 114, 115, 116, 117, 118, 119, 120, 121, 122, 123, 124, 125, 126, 127, 128] (by decide +kernel) (by decide +kernel)
set_option maxRecDepth 20000 in
theorem gX14_lastPlayed_X14_standing : GoodIn wsX14_lastPlayed (wsV RX14 302 RX14 yX14_standing wsX14_standing) := goodIn_app (goodIn_of _ (by decide +kernel)) ggX14_lastPlayed_X14_standing
set_option maxRecDepth 20000 in
theorem ggX14_lastPlayed_X14_tells : GoodIn wsX14_lastPlayed wsX14_tells := goodIn_r _ [107, 32, 108, 109, 110, 111, 112, 113] (by decide +kernel) (by decide +kernel)
set_option maxRecDepth 20000 in
theorem gX14_lastPlayed_X14_tells : GoodIn wsX14_lastPlayed (wsV RX14 56 RX14 yX14_tells wsX14_tells) := goodIn_app (goodIn_of _ (by decide +kernel)) ggX14_lastPlayed_X14_tells
theorem dX14_lastPlayed_0 : decode cX14_lastPlayed 0 = .ok (.aload_n 0, 1) := by decide +kernel
theorem dX14_lastPlayed_1 : decode cX14_lastPlayed 1 = .ok (.getfield 10, 3) := by decide +kernel
theorem dX14_lastPlayed_4 : decode cX14_lastPlayed 4 = .ok (.iload_n 1, 1) := by decide +kernel
theorem dX14_lastPlayed_5 : decode cX14_lastPlayed 5 = .ok (.invokestatic 85, 3) := by decide +kernel
theorem dX14_lastPlayed_8 : decode cX14_lastPlayed 8 = .ok (.ifCond .ne 9, 3) := by decide +kernel
theorem dX14_lastPlayed_11 : decode cX14_lastPlayed 11 = .ok (.aload_n 0, 1) := by decide +kernel
theorem dX14_lastPlayed_12 : decode cX14_lastPlayed 12 = .ok (.iconst 1, 1) := by decide +kernel
theorem dX14_lastPlayed_13 : decode cX14_lastPlayed 13 = .ok (.invokevirtual 42, 3) := by decide +kernel
theorem dX14_lastPlayed_16 : decode cX14_lastPlayed 16 = .ok (.ireturn, 1) := by decide +kernel
theorem dX14_lastPlayed_17 : decode cX14_lastPlayed 17 = .ok (.iconst (-1), 1) := by decide +kernel
theorem dX14_lastPlayed_18 : decode cX14_lastPlayed 18 = .ok (.istore_n 2, 1) := by decide +kernel
theorem dX14_lastPlayed_19 : decode cX14_lastPlayed 19 = .ok (.aload_n 0, 1) := by decide +kernel
theorem dX14_lastPlayed_20 : decode cX14_lastPlayed 20 = .ok (.getfield 25, 3) := by decide +kernel
theorem dX14_lastPlayed_23 : decode cX14_lastPlayed 23 = .ok (.invokevirtual 59, 3) := by decide +kernel
theorem dX14_lastPlayed_26 : decode cX14_lastPlayed 26 = .ok (.astore_n 3, 1) := by decide +kernel
theorem dX14_lastPlayed_27 : decode cX14_lastPlayed 27 = .ok (.aload_n 3, 1) := by decide +kernel
theorem dX14_lastPlayed_28 : decode cX14_lastPlayed 28 = .ok (.invokeinterface 63 1, 5) := by decide +kernel
theorem dX14_lastPlayed_33 : decode cX14_lastPlayed 33 = .ok (.ifCond .eq 55, 3) := by decide +kernel
theorem dX14_lastPlayed_36 : decode cX14_lastPlayed 36 = .ok (.aload_n 3, 1) := by decide +kernel
theorem dX14_lastPlayed_37 : decode cX14_lastPlayed 37 = .ok (.invokeinterface 69 1, 5) := by decide +kernel
theorem dX14_lastPlayed_42 : decode cX14_lastPlayed 42 = .ok (.checkcast 73, 3) := by decide +kernel
theorem dX14_lastPlayed_45 : decode cX14_lastPlayed 45 = .ok (.astore 4, 2) := by decide +kernel
theorem dX14_lastPlayed_47 : decode cX14_lastPlayed 47 = .ok (.aload 4, 2) := by decide +kernel
theorem dX14_lastPlayed_49 : decode cX14_lastPlayed 49 = .ok (.getfield 187, 3) := by decide +kernel
theorem dX14_lastPlayed_52 : decode cX14_lastPlayed 52 = .ok (.bipush 99, 2) := by decide +kernel
theorem dX14_lastPlayed_54 : decode cX14_lastPlayed 54 = .ok (.if_icmp .ne 29, 3) := by decide +kernel
theorem dX14_lastPlayed_57 : decode cX14_lastPlayed 57 = .ok (.aload_n 0, 1) := by decide +kernel
theorem dX14_lastPlayed_58 : decode cX14_lastPlayed 58 = .ok (.aload 4, 2) := by decide +kernel
theorem dX14_lastPlayed_60 : decode cX14_lastPlayed 60 = .ok (.invokevirtual 302, 3) := by decide +kernel
theorem dX14_lastPlayed_63 : decode cX14_lastPlayed 63 = .ok (.iload_n 1, 1) := by decide +kernel
theorem dX14_lastPlayed_64 : decode cX14_lastPlayed 64 = .ok (.ishr, 1) := by decide +kernel
theorem dX14_lastPlayed_65 : decode cX14_lastPlayed 65 = .ok (.iconst 1, 1) := by decide +kernel
theorem dX14_lastPlayed_66 : decode cX14_lastPlayed 66 = .ok (.iand, 1) := by decide +kernel
theorem dX14_lastPlayed_67 : decode cX14_lastPlayed 67 = .ok (.iconst 1, 1) := by decide +kernel
theorem dX14_lastPlayed_68 : decode cX14_lastPlayed 68 = .ok (.if_icmp .ne 15, 3) := by decide +kernel
theorem dX14_lastPlayed_71 : decode cX14_lastPlayed 71 = .ok (.iload_n 2, 1) := by decide +kernel
theorem dX14_lastPlayed_72 : decode cX14_lastPlayed 72 = .ok (.aload 4, 2) := by decide +kernel
theorem dX14_lastPlayed_74 : decode cX14_lastPlayed 74 = .ok (.getfield 129, 3) := by decide +kernel
theorem dX14_lastPlayed_77 : decode cX14_lastPlayed 77 = .ok (.invokestatic 245, 3) := by decide +kernel
theorem dX14_lastPlayed_80 : decode cX14_lastPlayed 80 = .ok (.goto 4, 3) := by decide +kernel
theorem dX14_lastPlayed_83 : decode cX14_lastPlayed 83 = .ok (.iload_n 2, 1) := by decide +kernel
theorem dX14_lastPlayed_84 : decode cX14_lastPlayed 84 = .ok (.istore_n 2, 1) := by decide +kernel
theorem dX14_lastPlayed_85 : decode cX14_lastPlayed 85 = .ok (.goto (-58), 3) := by decide +kernel
theorem dX14_lastPlayed_88 : decode cX14_lastPlayed 88 = .ok (.iload_n 2, 1) := by decide +kernel
theorem dX14_lastPlayed_89 : decode cX14_lastPlayed 89 = .ok (.iconst (-1), 1) := by decide +kernel
theorem dX14_lastPlayed_90 : decode cX14_lastPlayed 90 = .ok (.if_icmp .ne 11, 3) := by decide +kernel
theorem dX14_lastPlayed_93 : decode cX14_lastPlayed 93 = .ok (.aload_n 0, 1) := by decide +kernel
theorem dX14_lastPlayed_94 : decode cX14_lastPlayed 94 = .ok (.iconst 2, 1) := by decide +kernel
theorem dX14_lastPlayed_95 : decode cX14_lastPlayed 95 = .ok (.invokevirtual 42, 3) := by decide +kernel
theorem dX14_lastPlayed_98 : decode cX14_lastPlayed 98 = .ok (.goto 8, 3) := by decide +kernel
theorem dX14_lastPlayed_101 : decode cX14_lastPlayed 101 = .ok (.aload_n 0, 1) := by decide +kernel
theorem dX14_lastPlayed_102 : decode cX14_lastPlayed 102 = .ok (.iload_n 2, 1) := by decide +kernel
theorem dX14_lastPlayed_103 : decode cX14_lastPlayed 103 = .ok (.invokevirtual 56, 3) := by decide +kernel
theorem dX14_lastPlayed_106 : decode cX14_lastPlayed 106 = .ok (.ireturn, 1) := by decide +kernel
set_option maxRecDepth 20000 in
theorem ggX14_howOften_X14_isOf : GoodIn wsX14_howOften wsX14_isOf := goodIn_r _ [11, 12, 13, 14, 15, 16, 17, 18, 19, 20, 21, 22, 23, 24, 10, 25, 116, 117, 118, 119, 120] (by decide +kernel) (by decide +kernel)
set_option maxRecDepth 20000 in
theorem gX14_howOften_X14_isOf : GoodIn wsX14_howOften (va_wsS RX14 85 yX14_isOf wsX14_isOf) := goodIn_app (goodIn_of _ (by decide +kernel)) ggX14_howOften_X14_isOf
set_option maxRecDepth 20000 in
theorem ggX14_howOften_X14_fails : GoodIn wsX14_howOften wsX14_fails := goodIn_r _ [29, 30, 98, 99, 100, 101, 102, 103] (by decide +kernel) (by decide +kernel)
set_option maxRecDepth 20000 in
theorem gX14_howOften_X14_fails : GoodIn wsX14_howOften (wsV RX14 42 RX14 yX14_fails wsX14_fails) := goodIn_app (goodIn_of _ (by decide +kernel)) ggX14_howOften_X14_fails
set_option maxRecDepth 20000 in
theorem ggX14_howOften_Jx4a65c_iterator_32c93 : GoodIn wsX14_howOften wsJx4a65c_iterator_32c93 := goodIn_r _ [34, 35, 36, 37, 38, 39, 40, 41, 42, 43, 44, 45, 46, 47, 48, 121, 122, 123, 124, 116, 117, 118] (by decide +kernel) (by decide +kernel)
set_option maxRecDepth 20000 in
theorem gX14_howOften_Jx4a65c_iterator_32c93 : GoodIn wsX14_howOften (wsV RX14 59 RJx4a65c yJx4a65c_iterator_32c93 wsJx4a65c_iterator_32c93) := goodIn_app (goodIn_of _ (by decide +kernel)) ggX14_howOften_Jx4a65c_iterator_32c93
set_option maxRecDepth 20000 in
theorem ggX14_howOften_Jx35411_hasNext_aae02 : GoodIn wsX14_howOften wsJx35411_hasNext_aae02 := goodIn_r _ [52, 53, 41, 121, 122, 123, 124, 116, 117, 118] (by decide +kernel) (by decide +kernel)
set_option maxRecDepth 20000 in
theorem gX14_howOften_Jx35411_hasNext_aae02_f63Jx35411 : GoodIn wsX14_howOften (va_wsF RX14 63 RJx35411 ⟨"java/util/Iterator", "hasNext", "()Z"⟩ yJx35411_hasNext_aae02 wsJx35411_hasNext_aae02) := goodIn_app (goodIn_of _ (by decide +kernel)) ggX14_howOften_Jx35411_hasNext_aae02
set_option maxRecDepth 20000 in
theorem ggX14_howOften_Jx95556_hasNext_aae02 : GoodIn wsX14_howOften wsJx95556_hasNext_aae02 := goodIn_r _ [57, 58, 59, 125, 126, 127, 128] (by decide +kernel) (by decide +kernel)
set_option maxRecDepth 20000 in
theorem gX14_howOften_Jx95556_hasNext_aae02_f63Jx95556 : GoodIn wsX14_howOften (va_wsF RX14 63 RJx95556 ⟨"java/util/Iterator", "hasNext", "()Z"⟩ yJx95556_hasNext_aae02 wsJx95556_hasNext_aae02) := goodIn_app (goodIn_of _ (by decide +kernel)) ggX14_howOften_Jx95556_hasNext_aae02
set_option maxRecDepth 20000 in
theorem ggX14_howOften_Jx35411_next_0502b : GoodIn wsX14_howOften wsJx35411_next_0502b := goodIn_r _ [63, 53, 41, 64, 45, 65, 66, 67, 37, 68, 46, 47, 48, 121, 122, 123, 124, 116, 117, 118] (by decide +kernel) (by decide +kernel)
set_option maxRecDepth 20000 in
theorem gX14_howOften_Jx35411_next_0502b_f69Jx35411 : GoodIn wsX14_howOften (va_wsF RX14 69 RJx35411 ⟨"java/util/Iterator", "next", "()Ljava/lang/Object;"⟩ yJx35411_next_0502b wsJx35411_next_0502b) := goodIn_app (goodIn_of _ (by decide +kernel)) ggX14_howOften_Jx35411_next_0502b
set_option maxRecDepth 20000 in
theorem ggX14_howOften_Jx95556_next_0502b : GoodIn wsX14_howOften wsJx95556_next_0502b := goodIn_r _ [71, 58, 72, 73, 74, 75, 15, 76, 17, 77, 78, 79, 80, 81, 82, 83, 84, 85, 86, 87, 88, 89, 90, 91, 20, 92, 93, 22, 125, 126, 127, 128, 116, 117, 118, 119, 120] (by decide +kernel) (by decide +kernel)
set_option maxRecDepth 20000 in
theorem gX14_howOften_Jx95556_next_0502b_f69Jx95556 : GoodIn wsX14_howOften (va_wsF RX14 69 RJx95556 ⟨"java/util/Iterator", "next", "()Ljava/lang/Object;"⟩ yJx95556_next_0502b wsJx95556_next_0502b) := goodIn_app (goodIn_of _ (by decide +kernel)) ggX14_howOften_Jx95556_next_0502b
set_option maxRecDepth 20000 in
theorem ggX14_howOften_X14_tells : GoodIn wsX14_howOften wsX14_tells := goodIn_r _ [97, 30, 98, 99, 100, 101, 102, 103] (by decide +kernel) (by decide +kernel)
set_option maxRecDepth 20000 in
theorem gX14_howOften_X14_tells : GoodIn wsX14_howOften (wsV RX14 56 RX14 yX14_tells wsX14_tells) := goodIn_app (goodIn_of _ (by decide +kernel)) ggX14_howOften_X14_tells
theorem dX14_howOften_0 : decode cX14_howOften 0 = .ok (.aload_n 0, 1) := by decide +kernel
theorem dX14_howOften_1 : decode cX14_howOften 1 = .ok (.getfield 16, 3) := by decide +kernel
theorem dX14_howOften_4 : decode cX14_howOften 4 = .ok (.iload_n 1, 1) := by decide +kernel
theorem dX14_howOften_5 : decode cX14_howOften 5 = .ok (.invokestatic 85, 3) := by decide +kernel
theorem dX14_howOften_8 : decode cX14_howOften 8 = .ok (.ifCond .eq 14, 3) := by decide +kernel
theorem dX14_howOften_11 : decode cX14_howOften 11 = .ok (.aload_n 0, 1) := by decide +kernel
theorem dX14_howOften_12 : decode cX14_howOften 12 = .ok (.getfield 10, 3) := by decide +kernel
theorem dX14_howOften_15 : decode cX14_howOften 15 = .ok (.iload_n 2, 1) := by decide +kernel
theorem dX14_howOften_16 : decode cX14_howOften 16 = .ok (.invokestatic 85, 3) := by decide +kernel
theorem dX14_howOften_19 : decode cX14_howOften 19 = .ok (.ifCond .ne 9, 3) := by decide +kernel
theorem dX14_howOften_22 : decode cX14_howOften 22 = .ok (.aload_n 0, 1) := by decide +kernel
theorem dX14_howOften_23 : decode cX14_howOften 23 = .ok (.iconst 1, 1) := by decide +kernel
theorem dX14_howOften_24 : decode cX14_howOften 24 = .ok (.invokevirtual 42, 3) := by decide +kernel
theorem dX14_howOften_27 : decode cX14_howOften 27 = .ok (.ireturn, 1) := by decide +kernel
theorem dX14_howOften_28 : decode cX14_howOften 28 = .ok (.iconst 0, 1) := by decide +kernel
theorem dX14_howOften_29 : decode cX14_howOften 29 = .ok (.istore_n 3, 1) := by decide +kernel
theorem dX14_howOften_30 : decode cX14_howOften 30 = .ok (.aload_n 0, 1) := by decide +kernel
theorem dX14_howOften_31 : decode cX14_howOften 31 = .ok (.getfield 25, 3) := by decide +kernel
theorem dX14_howOften_34 : decode cX14_howOften 34 = .ok (.invokevirtual 59, 3) := by decide +kernel
theorem dX14_howOften_37 : decode cX14_howOften 37 = .ok (.astore 4, 2) := by decide +kernel
theorem dX14_howOften_39 : decode cX14_howOften 39 = .ok (.aload 4, 2) := by decide +kernel
theorem dX14_howOften_41 : decode cX14_howOften 41 = .ok (.invokeinterface 63 1, 5) := by decide +kernel
theorem dX14_howOften_46 : decode cX14_howOften 46 = .ok (.ifCond .eq 108, 3) := by decide +kernel
theorem dX14_howOften_49 : decode cX14_howOften 49 = .ok (.aload 4, 2) := by decide +kernel
theorem dX14_howOften_51 : decode cX14_howOften 51 = .ok (.invokeinterface 69 1, 5) := by decide +kernel
theorem dX14_howOften_56 : decode cX14_howOften 56 = .ok (.checkcast 73, 3) := by decide +kernel
theorem dX14_howOften_59 : decode cX14_howOften 59 = .ok (.astore 5, 2) := by decide +kernel
theorem dX14_howOften_61 : decode cX14_howOften 61 = .ok (.iconst 0, 1) := by decide +kernel
theorem dX14_howOften_62 : decode cX14_howOften 62 = .ok (.istore 6, 2) := by decide +kernel
theorem dX14_howOften_64 : decode cX14_howOften 64 = .ok (.aload 5, 2) := by decide +kernel
theorem dX14_howOften_66 : decode cX14_howOften 66 = .ok (.getfield 187, 3) := by decide +kernel
theorem dX14_howOften_69 : decode cX14_howOften 69 = .ok (.bipush 99, 2) := by decide +kernel
theorem dX14_howOften_71 : decode cX14_howOften 71 = .ok (.if_icmp .ne 21, 3) := by decide +kernel
theorem dX14_howOften_74 : decode cX14_howOften 74 = .ok (.aload 5, 2) := by decide +kernel
theorem dX14_howOften_76 : decode cX14_howOften 76 = .ok (.getfield 191, 3) := by decide +kernel
theorem dX14_howOften_79 : decode cX14_howOften 79 = .ok (.ifCond .eq 13, 3) := by decide +kernel
theorem dX14_howOften_82 : decode cX14_howOften 82 = .ok (.aload 5, 2) := by decide +kernel
theorem dX14_howOften_84 : decode cX14_howOften 84 = .ok (.getfield 237, 3) := by decide +kernel
theorem dX14_howOften_87 : decode cX14_howOften 87 = .ok (.iload_n 2, 1) := by decide +kernel
theorem dX14_howOften_88 : decode cX14_howOften 88 = .ok (.aaload, 1) := by decide +kernel
theorem dX14_howOften_89 : decode cX14_howOften 89 = .ok (.goto 4, 3) := by decide +kernel
theorem dX14_howOften_92 : decode cX14_howOften 92 = .ok (.aconst_null, 1) := by decide +kernel
theorem dX14_howOften_93 : decode cX14_howOften 93 = .ok (.astore 7, 2) := by decide +kernel
theorem dX14_howOften_95 : decode cX14_howOften 95 = .ok (.iconst 0, 1) := by decide +kernel
theorem dX14_howOften_96 : decode cX14_howOften 96 = .ok (.istore 8, 2) := by decide +kernel
theorem dX14_howOften_98 : decode cX14_howOften 98 = .ok (.aload 7, 2) := by decide +kernel
theorem dX14_howOften_100 : decode cX14_howOften 100 = .ok (.ifnull 38, 3) := by decide +kernel
theorem dX14_howOften_103 : decode cX14_howOften 103 = .ok (.iload 8, 2) := by decide +kernel
theorem dX14_howOften_105 : decode cX14_howOften 105 = .ok (.aload 7, 2) := by decide +kernel
theorem dX14_howOften_107 : decode cX14_howOften 107 = .ok (.arraylength, 1) := by decide +kernel
theorem dX14_howOften_108 : decode cX14_howOften 108 = .ok (.if_icmp .ge 30, 3) := by decide +kernel
theorem dX14_howOften_111 : decode cX14_howOften 111 = .ok (.iload 6, 2) := by decide +kernel
theorem dX14_howOften_113 : decode cX14_howOften 113 = .ok (.ifCond .ne 12, 3) := by decide +kernel
theorem dX14_howOften_116 : decode cX14_howOften 116 = .ok (.aload 7, 2) := by decide +kernel
theorem dX14_howOften_118 : decode cX14_howOften 118 = .ok (.iload 8, 2) := by decide +kernel
theorem dX14_howOften_120 : decode cX14_howOften 120 = .ok (.iaload, 1) := by decide +kernel
theorem dX14_howOften_121 : decode cX14_howOften 121 = .ok (.iload_n 1, 1) := by decide +kernel
theorem dX14_howOften_122 : decode cX14_howOften 122 = .ok (.if_icmp .ne 7, 3) := by decide +kernel
theorem dX14_howOften_125 : decode cX14_howOften 125 = .ok (.iconst 1, 1) := by decide +kernel
theorem dX14_howOften_126 : decode cX14_howOften 126 = .ok (.goto 4, 3) := by decide +kernel
theorem dX14_howOften_129 : decode cX14_howOften 129 = .ok (.iconst 0, 1) := by decide +kernel
theorem dX14_howOften_130 : decode cX14_howOften 130 = .ok (.istore 6, 2) := by decide +kernel
theorem dX14_howOften_132 : decode cX14_howOften 132 = .ok (.iinc 8 1, 3) := by decide +kernel
theorem dX14_howOften_135 : decode cX14_howOften 135 = .ok (.goto (-37), 3) := by decide +kernel
theorem dX14_howOften_138 : decode cX14_howOften 138 = .ok (.iload_n 3, 1) := by decide +kernel
theorem dX14_howOften_139 : decode cX14_howOften 139 = .ok (.iload 6, 2) := by decide +kernel
theorem dX14_howOften_141 : decode cX14_howOften 141 = .ok (.ifCond .eq 7, 3) := by decide +kernel
theorem dX14_howOften_144 : decode cX14_howOften 144 = .ok (.iconst 1, 1) := by decide +kernel
theorem dX14_howOften_145 : decode cX14_howOften 145 = .ok (.goto 4, 3) := by decide +kernel
theorem dX14_howOften_148 : decode cX14_howOften 148 = .ok (.iconst 0, 1) := by decide +kernel
theorem dX14_howOften_149 : decode cX14_howOften 149 = .ok (.iadd, 1) := by decide +kernel
theorem dX14_howOften_150 : decode cX14_howOften 150 = .ok (.istore_n 3, 1) := by decide +kernel
theorem dX14_howOften_151 : decode cX14_howOften 151 = .ok (.goto (-112), 3) := by decide +kernel
theorem dX14_howOften_154 : decode cX14_howOften 154 = .ok (.aload_n 0, 1) := by decide +kernel
theorem dX14_howOften_155 : decode cX14_howOften 155 = .ok (.iload_n 3, 1) := by decide +kernel
theorem dX14_howOften_156 : decode cX14_howOften 156 = .ok (.invokevirtual 56, 3) := by decide +kernel
theorem dX14_howOften_159 : decode cX14_howOften 159 = .ok (.ireturn, 1) := by decide +kernel
set_option maxRecDepth 20000 in
theorem ggX14_total_Jx4a65c_iterator_32c93 : GoodIn wsX14_total wsJx4a65c_iterator_32c93 := goodIn_r _ [11, 12, 13, 14, 15, 16, 17, 18, 19, 20, 21, 22, 23, 24, 25, 224, 225, 226, 227, 228, 229, 230] (by decide +kernel) (by decide +kernel)
set_option maxRecDepth 20000 in
theorem gX14_total_Jx4a65c_iterator_32c93 : GoodIn wsX14_total (wsV RX14 59 RJx4a65c yJx4a65c_iterator_32c93 wsJx4a65c_iterator_32c93) := goodIn_app (goodIn_of _ (by decide +kernel)) ggX14_total_Jx4a65c_iterator_32c93
set_option maxRecDepth 20000 in
theorem ggX14_total_Jx35411_hasNext_aae02 : GoodIn wsX14_total wsJx35411_hasNext_aae02 := goodIn_r _ [29, 30, 18, 224, 225, 226, 227, 228, 229, 230] (by decide +kernel) (by decide +kernel)
set_option maxRecDepth 20000 in
theorem gX14_total_Jx35411_hasNext_aae02_f63Jx35411 : GoodIn wsX14_total (va_wsF RX14 63 RJx35411 ⟨"java/util/Iterator", "hasNext", "()Z"⟩ yJx35411_hasNext_aae02 wsJx35411_hasNext_aae02) := goodIn_app (goodIn_of _ (by decide +kernel)) ggX14_total_Jx35411_hasNext_aae02
set_option maxRecDepth 20000 in
theorem ggX14_total_Jx95556_hasNext_aae02 : GoodIn wsX14_total wsJx95556_hasNext_aae02 := goodIn_r _ [34, 35, 36, 231, 232, 233, 234] (by decide +kernel) (by decide +kernel)
set_option maxRecDepth 20000 in
theorem gX14_total_Jx95556_hasNext_aae02_f63Jx95556 : GoodIn wsX14_total (va_wsF RX14 63 RJx95556 ⟨"java/util/Iterator", "hasNext", "()Z"⟩ yJx95556_hasNext_aae02 wsJx95556_hasNext_aae02) := goodIn_app (goodIn_of _ (by decide +kernel)) ggX14_total_Jx95556_hasNext_aae02
set_option maxRecDepth 20000 in
theorem ggX14_total_Jx35411_next_0502b : GoodIn wsX14_total wsJx35411_next_0502b := goodIn_r _ [40, 30, 18, 41, 22, 42, 43, 44, 14, 45, 23, 24, 25, 224, 225, 226, 227, 228, 229, 230] (by decide +kernel) (by decide +kernel)
set_option maxRecDepth 20000 in
theorem gX14_total_Jx35411_next_0502b_f69Jx35411 : GoodIn wsX14_total (va_wsF RX14 69 RJx35411 ⟨"java/util/Iterator", "next", "()Ljava/lang/Object;"⟩ yJx35411_next_0502b wsJx35411_next_0502b) := goodIn_app (goodIn_of _ (by decide +kernel)) ggX14_total_Jx35411_next_0502b
set_option maxRecDepth 20000 in
theorem ggX14_total_Jx95556_next_0502b : GoodIn wsX14_total wsJx95556_next_0502b := goodIn_r _ [48, 35, 49, 50, 51, 52, 10, 53, 54, 55, 56, 57, 58, 59, 60, 61, 62, 63, 64, 65, 66, 67, 68, 69, 70, 71, 72, 73, 231, 232, 233, 234, 228, 229, 230, 235, 236] (by decide +kernel) (by decide +kernel)
set_option maxRecDepth 20000 in
theorem gX14_total_Jx95556_next_0502b_f69Jx95556 : GoodIn wsX14_total (va_wsF RX14 69 RJx95556 ⟨"java/util/Iterator", "next", "()Ljava/lang/Object;"⟩ yJx95556_next_0502b wsJx95556_next_0502b) := goodIn_app (goodIn_of _ (by decide +kernel)) ggX14_total_Jx95556_next_0502b
set_option maxRecDepth 20000 in
theorem ggX14_total_X14_costOf : GoodIn wsX14_total wsX14_costOf := goodIn_ca (goodIn_r _ [78, 79, 80, 81, 82, 83, 84, 85, 86, 3, 87, 88, 4, 89, 90, 52, 91, 10, 53, 54, 55, 56, 57, 58, 59, 60, 61, 62, 63, 64, 65, 66, 67, 92, 93, 94, 95, 96, 97, 98, 99, 100, 101, 102, 103, 104, 105, 106, 107, 108, 109, 110, 111, 112, 113, 114, 115, 116, 117, 118, 119, 120, 121, 122, 123, 124, 20, 21, 125, 126, 127, 128, 129, 130, 131, 132, 133, 134, 135, 136, 137, 138, 139, 140, 141, 142, 143, 144, 145, 146, 24, 147, 148, 149, 150, 151, 152, 153, 154, 155, 156, 157, 158, 159, 160, 161, 162, 163, 164, 165, 166, 167, 168, 169, 170, 171, 172, 173, 174, 175, 176, 177, 178, 179, 180, 181, 182, 183, 184, 185, 186, 187, 188, 189, 190, 191, 192, 193, 194, 195, 196, 51, 68, 69, 70, 71, 72, 73, 197, 198, 199, 200, 237, 238, 239, 240, 241, 242, 243, 244, 245, 246, 247, 248, 213, 214, 215, 216, 217, 218, 249, 250, 251, 252, 253, 254, 255, 256, 228, 229, 230, 219, 220, 221, 222, 223, 257, 258, 259, 260, 261, 235, 236] (by decide +kernel) (by decide +kernel)) (goodIn_sub (fun _ h => List.mem_cons_of_mem _ (List.mem_append_right _ h)) (by decide +kernel))
set_option maxRecDepth 20000 in
theorem gX14_total_X14_costOf : GoodIn wsX14_total (wsV RX14 289 RX14 yX14_costOf wsX14_costOf) := goodIn_app (goodIn_of _ (by decide +kernel)) ggX14_total_X14_costOf
set_option maxRecDepth 20000 in
theorem ggX14_total_X14_overtimeOf : GoodIn wsX14_total wsX14_overtimeOf := goodIn_ca (goodIn_r _ [204, 205, 206, 207, 160, 161, 162, 84, 85, 86, 92, 93, 94, 10, 95, 54, 96, 97, 98, 99, 100, 101, 102, 90, 52, 91, 53, 55, 56, 57, 58, 59, 60, 61, 62, 63, 64, 65, 66, 67, 237, 238, 239, 240, 241, 242, 243, 244, 245, 246, 247, 248, 213, 214, 215, 216, 217, 218, 252, 253, 254, 255, 256, 228, 229, 230] (by decide +kernel) (by decide +kernel)) (goodIn_sub (fun _ h => List.mem_cons_of_mem _ (List.mem_append_right _ h)) (by decide +kernel))
set_option maxRecDepth 20000 in
theorem gX14_total_X14_overtimeOf : GoodIn wsX14_total (wsV RX14 332 RX14 yX14_overtimeOf wsX14_overtimeOf) := goodIn_app (goodIn_of _ (by decide +kernel)) ggX14_total_X14_overtimeOf
set_option maxRecDepth 20000 in
theorem ggX14_total_X14_tells : GoodIn wsX14_total wsX14_tells := goodIn_r _ [211, 212, 213, 214, 215, 216, 217, 218] (by decide +kernel) (by decide +kernel)
set_option maxRecDepth 20000 in
theorem gX14_total_X14_tells : GoodIn wsX14_total (wsV RX14 56 RX14 yX14_tells wsX14_tells) := goodIn_app (goodIn_of _ (by decide +kernel)) ggX14_total_X14_tells
theorem dX14_total_0 : decode cX14_total 0 = .ok (.iconst 0, 1) := by decide +kernel
theorem dX14_total_1 : decode cX14_total 1 = .ok (.istore_n 1, 1) := by decide +kernel
theorem dX14_total_2 : decode cX14_total 2 = .ok (.aload_n 0, 1) := by decide +kernel
theorem dX14_total_3 : decode cX14_total 3 = .ok (.getfield 25, 3) := by decide +kernel
theorem dX14_total_6 : decode cX14_total 6 = .ok (.invokevirtual 59, 3) := by decide +kernel
theorem dX14_total_9 : decode cX14_total 9 = .ok (.astore_n 2, 1) := by decide +kernel
theorem dX14_total_10 : decode cX14_total 10 = .ok (.aload_n 2, 1) := by decide +kernel
theorem dX14_total_11 : decode cX14_total 11 = .ok (.invokeinterface 63 1, 5) := by decide +kernel
theorem dX14_total_16 : decode cX14_total 16 = .ok (.ifCond .eq 30, 3) := by decide +kernel
theorem dX14_total_19 : decode cX14_total 19 = .ok (.aload_n 2, 1) := by decide +kernel
theorem dX14_total_20 : decode cX14_total 20 = .ok (.invokeinterface 69 1, 5) := by decide +kernel
theorem dX14_total_25 : decode cX14_total 25 = .ok (.checkcast 73, 3) := by decide +kernel
theorem dX14_total_28 : decode cX14_total 28 = .ok (.astore_n 3, 1) := by decide +kernel
theorem dX14_total_29 : decode cX14_total 29 = .ok (.iload_n 1, 1) := by decide +kernel
theorem dX14_total_30 : decode cX14_total 30 = .ok (.aload_n 0, 1) := by decide +kernel
theorem dX14_total_31 : decode cX14_total 31 = .ok (.aload_n 3, 1) := by decide +kernel
theorem dX14_total_32 : decode cX14_total 32 = .ok (.invokevirtual 289, 3) := by decide +kernel
theorem dX14_total_35 : decode cX14_total 35 = .ok (.aload_n 0, 1) := by decide +kernel
theorem dX14_total_36 : decode cX14_total 36 = .ok (.aload_n 3, 1) := by decide +kernel
theorem dX14_total_37 : decode cX14_total 37 = .ok (.invokevirtual 332, 3) := by decide +kernel
theorem dX14_total_40 : decode cX14_total 40 = .ok (.iadd, 1) := by decide +kernel
theorem dX14_total_41 : decode cX14_total 41 = .ok (.iadd, 1) := by decide +kernel
theorem dX14_total_42 : decode cX14_total 42 = .ok (.istore_n 1, 1) := by decide +kernel
theorem dX14_total_43 : decode cX14_total 43 = .ok (.goto (-33), 3) := by decide +kernel
theorem dX14_total_46 : decode cX14_total 46 = .ok (.aload_n 0, 1) := by decide +kernel
theorem dX14_total_47 : decode cX14_total 47 = .ok (.getfield 10, 3) := by decide +kernel
theorem dX14_total_50 : decode cX14_total 50 = .ok (.invokevirtual 59, 3) := by decide +kernel
theorem dX14_total_53 : decode cX14_total 53 = .ok (.astore_n 2, 1) := by decide +kernel
theorem dX14_total_54 : decode cX14_total 54 = .ok (.aload_n 2, 1) := by decide +kernel
theorem dX14_total_55 : decode cX14_total 55 = .ok (.invokeinterface 63 1, 5) := by decide +kernel
theorem dX14_total_60 : decode cX14_total 60 = .ok (.ifCond .eq 62, 3) := by decide +kernel
theorem dX14_total_63 : decode cX14_total 63 = .ok (.aload_n 2, 1) := by decide +kernel
theorem dX14_total_64 : decode cX14_total 64 = .ok (.invokeinterface 69 1, 5) := by decide +kernel
theorem dX14_total_69 : decode cX14_total 69 = .ok (.checkcast 47, 3) := by decide +kernel
theorem dX14_total_72 : decode cX14_total 72 = .ok (.astore_n 3, 1) := by decide +kernel
theorem dX14_total_73 : decode cX14_total 73 = .ok (.aload_n 3, 1) := by decide +kernel
theorem dX14_total_74 : decode cX14_total 74 = .ok (.getfield 115, 3) := by decide +kernel
theorem dX14_total_77 : decode cX14_total 77 = .ok (.invokevirtual 59, 3) := by decide +kernel
theorem dX14_total_80 : decode cX14_total 80 = .ok (.astore 4, 2) := by decide +kernel
theorem dX14_total_82 : decode cX14_total 82 = .ok (.aload 4, 2) := by decide +kernel
theorem dX14_total_84 : decode cX14_total 84 = .ok (.invokeinterface 63 1, 5) := by decide +kernel
theorem dX14_total_89 : decode cX14_total 89 = .ok (.ifCond .eq 30, 3) := by decide +kernel
theorem dX14_total_92 : decode cX14_total 92 = .ok (.aload 4, 2) := by decide +kernel
theorem dX14_total_94 : decode cX14_total 94 = .ok (.invokeinterface 69 1, 5) := by decide +kernel
theorem dX14_total_99 : decode cX14_total 99 = .ok (.checkcast 335, 3) := by decide +kernel
theorem dX14_total_102 : decode cX14_total 102 = .ok (.astore 5, 2) := by decide +kernel
theorem dX14_total_104 : decode cX14_total 104 = .ok (.iload_n 1, 1) := by decide +kernel
theorem dX14_total_105 : decode cX14_total 105 = .ok (.aload 5, 2) := by decide +kernel
theorem dX14_total_107 : decode cX14_total 107 = .ok (.iconst 1, 1) := by decide +kernel
theorem dX14_total_108 : decode cX14_total 108 = .ok (.iaload, 1) := by decide +kernel
theorem dX14_total_109 : decode cX14_total 109 = .ok (.aload 5, 2) := by decide +kernel
theorem dX14_total_111 : decode cX14_total 111 = .ok (.iconst 2, 1) := by decide +kernel
theorem dX14_total_112 : decode cX14_total 112 = .ok (.iaload, 1) := by decide +kernel
theorem dX14_total_113 : decode cX14_total 113 = .ok (.imul, 1) := by decide +kernel
theorem dX14_total_114 : decode cX14_total 114 = .ok (.iadd, 1) := by decide +kernel
theorem dX14_total_115 : decode cX14_total 115 = .ok (.istore_n 1, 1) := by decide +kernel
theorem dX14_total_116 : decode cX14_total 116 = .ok (.goto (-34), 3) := by decide +kernel
theorem dX14_total_119 : decode cX14_total 119 = .ok (.goto (-65), 3) := by decide +kernel
theorem dX14_total_122 : decode cX14_total 122 = .ok (.aload_n 0, 1) := by decide +kernel
theorem dX14_total_123 : decode cX14_total 123 = .ok (.iload_n 1, 1) := by decide +kernel
theorem dX14_total_124 : decode cX14_total 124 = .ok (.invokevirtual 56, 3) := by decide +kernel
theorem dX14_total_127 : decode cX14_total 127 = .ok (.ireturn, 1) := by decide +kernel
set_option maxRecDepth 20000 in
theorem ggX14_rehearsed_X14_isOf : GoodIn wsX14_rehearsed wsX14_isOf := goodIn_r _ [10, 11, 12, 13, 14, 15, 16, 17, 18, 19, 20, 21, 22, 23, 9, 24, 130, 131, 132, 133, 134] (by decide +kernel) (by decide +kernel)
set_option maxRecDepth 20000 in
theorem gX14_rehearsed_X14_isOf : GoodIn wsX14_rehearsed (va_wsS RX14 85 yX14_isOf wsX14_isOf) := goodIn_app (goodIn_of _ (by decide +kernel)) ggX14_rehearsed_X14_isOf
set_option maxRecDepth 20000 in
theorem ggX14_rehearsed_X14_fails : GoodIn wsX14_rehearsed wsX14_fails := goodIn_r _ [28, 29, 107, 108, 109, 110, 111, 112] (by decide +kernel) (by decide +kernel)
set_option maxRecDepth 20000 in
theorem gX14_rehearsed_X14_fails : GoodIn wsX14_rehearsed (wsV RX14 42 RX14 yX14_fails wsX14_fails) := goodIn_app (goodIn_of _ (by decide +kernel)) ggX14_rehearsed_X14_fails
set_option maxRecDepth 20000 in
theorem ggX14_rehearsed_Jx4a65c_iterator_32c93 : GoodIn wsX14_rehearsed wsJx4a65c_iterator_32c93 := goodIn_r _ [33, 34, 35, 36, 37, 38, 39, 40, 41, 42, 43, 44, 45, 46, 47, 135, 136, 137, 138, 130, 131, 132] (by decide +kernel) (by decide +kernel)
set_option maxRecDepth 20000 in
theorem gX14_rehearsed_Jx4a65c_iterator_32c93 : GoodIn wsX14_rehearsed (wsV RX14 59 RJx4a65c yJx4a65c_iterator_32c93 wsJx4a65c_iterator_32c93) := goodIn_app (goodIn_of _ (by decide +kernel)) ggX14_rehearsed_Jx4a65c_iterator_32c93
set_option maxRecDepth 20000 in
theorem ggX14_rehearsed_Jx35411_hasNext_aae02 : GoodIn wsX14_rehearsed wsJx35411_hasNext_aae02 := goodIn_r _ [51, 52, 40, 135, 136, 137, 138, 130, 131, 132] (by decide +kernel) (by decide +kernel)
set_option maxRecDepth 20000 in
theorem gX14_rehearsed_Jx35411_hasNext_aae02_f63Jx35411 : GoodIn wsX14_rehearsed (va_wsF RX14 63 RJx35411 ⟨"java/util/Iterator", "hasNext", "()Z"⟩ yJx35411_hasNext_aae02 wsJx35411_hasNext_aae02) := goodIn_app (goodIn_of _ (by decide +kernel)) ggX14_rehearsed_Jx35411_hasNext_aae02
set_option maxRecDepth 20000 in
theorem ggX14_rehearsed_Jx95556_hasNext_aae02 : GoodIn wsX14_rehearsed wsJx95556_hasNext_aae02 := goodIn_r _ [56, 57, 58, 139, 140, 141, 142] (by decide +kernel) (by decide +kernel)
set_option maxRecDepth 20000 in
theorem gX14_rehearsed_Jx95556_hasNext_aae02_f63Jx95556 : GoodIn wsX14_rehearsed (va_wsF RX14 63 RJx95556 ⟨"java/util/Iterator", "hasNext", "()Z"⟩ yJx95556_hasNext_aae02 wsJx95556_hasNext_aae02) := goodIn_app (goodIn_of _ (by decide +kernel)) ggX14_rehearsed_Jx95556_hasNext_aae02
set_option maxRecDepth 20000 in
theorem ggX14_rehearsed_Jx35411_next_0502b : GoodIn wsX14_rehearsed wsJx35411_next_0502b := goodIn_r _ [62, 52, 40, 63, 44, 64, 65, 66, 36, 67, 45, 46, 47, 135, 136, 137, 138, 130, 131, 132] (by decide +kernel) (by decide +kernel)
set_option maxRecDepth 20000 in
theorem gX14_rehearsed_Jx35411_next_0502b_f69Jx35411 : GoodIn wsX14_rehearsed (va_wsF RX14 69 RJx35411 ⟨"java/util/Iterator", "next", "()Ljava/lang/Object;"⟩ yJx35411_next_0502b wsJx35411_next_0502b) := goodIn_app (goodIn_of _ (by decide +kernel)) ggX14_rehearsed_Jx35411_next_0502b
set_option maxRecDepth 20000 in
theorem ggX14_rehearsed_Jx95556_next_0502b : GoodIn wsX14_rehearsed wsJx95556_next_0502b := goodIn_r _ [70, 57, 71, 72, 73, 74, 14, 75, 16, 76, 77, 78, 79, 80, 81, 82, 83, 84, 85, 86, 87, 88, 89, 90, 19, 91, 92, 21, 139, 140, 141, 142, 130, 131, 132, 133, 134] (by decide +kernel) (by decide +kernel)
set_option maxRecDepth 20000 in
theorem gX14_rehearsed_Jx95556_next_0502b_f69Jx95556 : GoodIn wsX14_rehearsed (va_wsF RX14 69 RJx95556 ⟨"java/util/Iterator", "next", "()Ljava/lang/Object;"⟩ yJx95556_next_0502b wsJx95556_next_0502b) := goodIn_app (goodIn_of _ (by decide +kernel)) ggX14_rehearsed_Jx95556_next_0502b
set_option maxRecDepth 20000 in
theorem ggX14_rehearsed_X14_standing : GoodIn wsX14_rehearsed wsX14_standing := goodIn_r _ [96, 1, 97, 98, 99, 13, 100, 14, 15, 16, 107, 108, 109, 110, 111, 112, 113, 114, 115, 116, 117, 118, 119, 120, 121, 122, 123, 124, 130, 131, 132] (by decide +kernel) (by decide +kernel)
set_option maxRecDepth 20000 in
theorem gX14_rehearsed_X14_standing : GoodIn wsX14_rehearsed (wsV RX14 302 RX14 yX14_standing wsX14_standing) := goodIn_app (goodIn_of _ (by decide +kernel)) ggX14_rehearsed_X14_standing
set_option maxRecDepth 20000 in
theorem ggX14_rehearsed_Jx4a65c_get_915e3 : GoodIn wsX14_rehearsed wsJx4a65c_get_915e3 := goodIn_r _ [75, 16, 76, 77, 78, 79, 80, 81, 82, 83, 84, 85, 86, 14, 87, 88, 130, 131, 132] (by decide +kernel) (by decide +kernel)
set_option maxRecDepth 20000 in
theorem gX14_rehearsed_Jx4a65c_get_915e3 : GoodIn wsX14_rehearsed (wsV RX14 89 RJx4a65c yJx4a65c_get_915e3 wsJx4a65c_get_915e3) := goodIn_app (goodIn_of _ (by decide +kernel)) ggX14_rehearsed_Jx4a65c_get_915e3
set_option maxRecDepth 20000 in
theorem ggX14_rehearsed_X14_tells : GoodIn wsX14_rehearsed wsX14_tells := goodIn_r _ [106, 29, 107, 108, 109, 110, 111, 112] (by decide +kernel) (by decide +kernel)
set_option maxRecDepth 20000 in
theorem gX14_rehearsed_X14_tells : GoodIn wsX14_rehearsed (wsV RX14 56 RX14 yX14_tells wsX14_tells) := goodIn_app (goodIn_of _ (by decide +kernel)) ggX14_rehearsed_X14_tells
theorem dX14_rehearsed_0 : decode cX14_rehearsed 0 = .ok (.aload_n 0, 1) := by decide +kernel
theorem dX14_rehearsed_1 : decode cX14_rehearsed 1 = .ok (.getfield 10, 3) := by decide +kernel
theorem dX14_rehearsed_4 : decode cX14_rehearsed 4 = .ok (.iload_n 1, 1) := by decide +kernel
theorem dX14_rehearsed_5 : decode cX14_rehearsed 5 = .ok (.invokestatic 85, 3) := by decide +kernel
theorem dX14_rehearsed_8 : decode cX14_rehearsed 8 = .ok (.ifCond .ne 9, 3) := by decide +kernel
theorem dX14_rehearsed_11 : decode cX14_rehearsed 11 = .ok (.aload_n 0, 1) := by decide +kernel
theorem dX14_rehearsed_12 : decode cX14_rehearsed 12 = .ok (.iconst 1, 1) := by decide +kernel
theorem dX14_rehearsed_13 : decode cX14_rehearsed 13 = .ok (.invokevirtual 42, 3) := by decide +kernel
theorem dX14_rehearsed_16 : decode cX14_rehearsed 16 = .ok (.ireturn, 1) := by decide +kernel
theorem dX14_rehearsed_17 : decode cX14_rehearsed 17 = .ok (.iconst 0, 1) := by decide +kernel
theorem dX14_rehearsed_18 : decode cX14_rehearsed 18 = .ok (.istore_n 2, 1) := by decide +kernel
theorem dX14_rehearsed_19 : decode cX14_rehearsed 19 = .ok (.aload_n 0, 1) := by decide +kernel
theorem dX14_rehearsed_20 : decode cX14_rehearsed 20 = .ok (.getfield 25, 3) := by decide +kernel
theorem dX14_rehearsed_23 : decode cX14_rehearsed 23 = .ok (.invokevirtual 59, 3) := by decide +kernel
theorem dX14_rehearsed_26 : decode cX14_rehearsed 26 = .ok (.astore_n 3, 1) := by decide +kernel
theorem dX14_rehearsed_27 : decode cX14_rehearsed 27 = .ok (.aload_n 3, 1) := by decide +kernel
theorem dX14_rehearsed_28 : decode cX14_rehearsed 28 = .ok (.invokeinterface 63 1, 5) := by decide +kernel
theorem dX14_rehearsed_33 : decode cX14_rehearsed 33 = .ok (.ifCond .eq 62, 3) := by decide +kernel
theorem dX14_rehearsed_36 : decode cX14_rehearsed 36 = .ok (.aload_n 3, 1) := by decide +kernel
theorem dX14_rehearsed_37 : decode cX14_rehearsed 37 = .ok (.invokeinterface 69 1, 5) := by decide +kernel
theorem dX14_rehearsed_42 : decode cX14_rehearsed 42 = .ok (.checkcast 73, 3) := by decide +kernel
theorem dX14_rehearsed_45 : decode cX14_rehearsed 45 = .ok (.astore 4, 2) := by decide +kernel
theorem dX14_rehearsed_47 : decode cX14_rehearsed 47 = .ok (.iload_n 2, 1) := by decide +kernel
theorem dX14_rehearsed_48 : decode cX14_rehearsed 48 = .ok (.aload 4, 2) := by decide +kernel
theorem dX14_rehearsed_50 : decode cX14_rehearsed 50 = .ok (.getfield 187, 3) := by decide +kernel
theorem dX14_rehearsed_53 : decode cX14_rehearsed 53 = .ok (.bipush 114, 2) := by decide +kernel
theorem dX14_rehearsed_55 : decode cX14_rehearsed 55 = .ok (.if_icmp .ne 34, 3) := by decide +kernel
theorem dX14_rehearsed_58 : decode cX14_rehearsed 58 = .ok (.aload_n 0, 1) := by decide +kernel
theorem dX14_rehearsed_59 : decode cX14_rehearsed 59 = .ok (.aload 4, 2) := by decide +kernel
theorem dX14_rehearsed_61 : decode cX14_rehearsed 61 = .ok (.invokevirtual 302, 3) := by decide +kernel
theorem dX14_rehearsed_64 : decode cX14_rehearsed 64 = .ok (.iload_n 1, 1) := by decide +kernel
theorem dX14_rehearsed_65 : decode cX14_rehearsed 65 = .ok (.ishr, 1) := by decide +kernel
theorem dX14_rehearsed_66 : decode cX14_rehearsed 66 = .ok (.iconst 1, 1) := by decide +kernel
theorem dX14_rehearsed_67 : decode cX14_rehearsed 67 = .ok (.iand, 1) := by decide +kernel
theorem dX14_rehearsed_68 : decode cX14_rehearsed 68 = .ok (.iconst 1, 1) := by decide +kernel
theorem dX14_rehearsed_69 : decode cX14_rehearsed 69 = .ok (.if_icmp .ne 20, 3) := by decide +kernel
theorem dX14_rehearsed_72 : decode cX14_rehearsed 72 = .ok (.aload_n 0, 1) := by decide +kernel
theorem dX14_rehearsed_73 : decode cX14_rehearsed 73 = .ok (.getfield 10, 3) := by decide +kernel
theorem dX14_rehearsed_76 : decode cX14_rehearsed 76 = .ok (.iload_n 1, 1) := by decide +kernel
theorem dX14_rehearsed_77 : decode cX14_rehearsed 77 = .ok (.invokevirtual 89, 3) := by decide +kernel
theorem dX14_rehearsed_80 : decode cX14_rehearsed 80 = .ok (.checkcast 47, 3) := by decide +kernel
theorem dX14_rehearsed_83 : decode cX14_rehearsed 83 = .ok (.getfield 184, 3) := by decide +kernel
theorem dX14_rehearsed_86 : decode cX14_rehearsed 86 = .ok (.goto 4, 3) := by decide +kernel
theorem dX14_rehearsed_89 : decode cX14_rehearsed 89 = .ok (.iconst 0, 1) := by decide +kernel
theorem dX14_rehearsed_90 : decode cX14_rehearsed 90 = .ok (.iadd, 1) := by decide +kernel
theorem dX14_rehearsed_91 : decode cX14_rehearsed 91 = .ok (.istore_n 2, 1) := by decide +kernel
theorem dX14_rehearsed_92 : decode cX14_rehearsed 92 = .ok (.goto (-65), 3) := by decide +kernel
theorem dX14_rehearsed_95 : decode cX14_rehearsed 95 = .ok (.aload_n 0, 1) := by decide +kernel
theorem dX14_rehearsed_96 : decode cX14_rehearsed 96 = .ok (.iload_n 2, 1) := by decide +kernel
theorem dX14_rehearsed_97 : decode cX14_rehearsed 97 = .ok (.invokevirtual 56, 3) := by decide +kernel
theorem dX14_rehearsed_100 : decode cX14_rehearsed 100 = .ok (.ireturn, 1) := by decide +kernel
set_option maxRecDepth 20000 in
theorem ggX14_checksum_Jx4a65c_iterator_32c93 : GoodIn wsX14_checksum wsJx4a65c_iterator_32c93 := goodIn_r _ [11, 12, 13, 14, 15, 16, 17, 18, 19, 20, 21, 22, 23, 24, 25, 253, 254, 255, 256, 257, 258, 259] (by decide +kernel) (by decide +kernel)
set_option maxRecDepth 20000 in
theorem gX14_checksum_Jx4a65c_iterator_32c93 : GoodIn wsX14_checksum (wsV RX14 59 RJx4a65c yJx4a65c_iterator_32c93 wsJx4a65c_iterator_32c93) := goodIn_app (goodIn_of _ (by decide +kernel)) ggX14_checksum_Jx4a65c_iterator_32c93
set_option maxRecDepth 20000 in
theorem ggX14_checksum_Jx35411_hasNext_aae02 : GoodIn wsX14_checksum wsJx35411_hasNext_aae02 := goodIn_r _ [29, 30, 18, 253, 254, 255, 256, 257, 258, 259] (by decide +kernel) (by decide +kernel)
set_option maxRecDepth 20000 in
theorem gX14_checksum_Jx35411_hasNext_aae02_f63Jx35411 : GoodIn wsX14_checksum (va_wsF RX14 63 RJx35411 ⟨"java/util/Iterator", "hasNext", "()Z"⟩ yJx35411_hasNext_aae02 wsJx35411_hasNext_aae02) := goodIn_app (goodIn_of _ (by decide +kernel)) ggX14_checksum_Jx35411_hasNext_aae02
set_option maxRecDepth 20000 in
theorem ggX14_checksum_Jx95556_hasNext_aae02 : GoodIn wsX14_checksum wsJx95556_hasNext_aae02 := goodIn_r _ [34, 35, 36, 260, 261, 262, 263] (by decide +kernel) (by decide +kernel)
set_option maxRecDepth 20000 in
theorem gX14_checksum_Jx95556_hasNext_aae02_f63Jx95556 : GoodIn wsX14_checksum (va_wsF RX14 63 RJx95556 ⟨"java/util/Iterator", "hasNext", "()Z"⟩ yJx95556_hasNext_aae02 wsJx95556_hasNext_aae02) := goodIn_app (goodIn_of _ (by decide +kernel)) ggX14_checksum_Jx95556_hasNext_aae02
set_option maxRecDepth 20000 in
theorem ggX14_checksum_Jx35411_next_0502b : GoodIn wsX14_checksum wsJx35411_next_0502b := goodIn_r _ [40, 30, 18, 41, 22, 42, 43, 44, 14, 45, 23, 24, 25, 253, 254, 255, 256, 257, 258, 259] (by decide +kernel) (by decide +kernel)
set_option maxRecDepth 20000 in
theorem gX14_checksum_Jx35411_next_0502b_f69Jx35411 : GoodIn wsX14_checksum (va_wsF RX14 69 RJx35411 ⟨"java/util/Iterator", "next", "()Ljava/lang/Object;"⟩ yJx35411_next_0502b wsJx35411_next_0502b) := goodIn_app (goodIn_of _ (by decide +kernel)) ggX14_checksum_Jx35411_next_0502b
set_option maxRecDepth 20000 in
theorem ggX14_checksum_Jx95556_next_0502b : GoodIn wsX14_checksum wsJx95556_next_0502b := goodIn_r _ [48, 35, 49, 50, 51, 52, 10, 53, 54, 55, 56, 57, 58, 59, 60, 61, 62, 63, 64, 65, 66, 67, 68, 69, 70, 71, 72, 73, 260, 261, 262, 263, 257, 258, 259, 264, 265] (by decide +kernel) (by decide +kernel)
set_option maxRecDepth 20000 in
theorem gX14_checksum_Jx95556_next_0502b_f69Jx95556 : GoodIn wsX14_checksum (va_wsF RX14 69 RJx95556 ⟨"java/util/Iterator", "next", "()Ljava/lang/Object;"⟩ yJx95556_next_0502b wsJx95556_next_0502b) := goodIn_app (goodIn_of _ (by decide +kernel)) ggX14_checksum_Jx95556_next_0502b
set_option maxRecDepth 20000 in
theorem ggX14_checksum_X14_costOf : GoodIn wsX14_checksum wsX14_costOf := goodIn_ca (goodIn_r _ [78, 79, 5, 80, 81, 82, 6, 83, 84, 85, 86, 87, 88, 89, 90, 52, 91, 10, 53, 54, 55, 56, 57, 58, 59, 60, 61, 62, 63, 64, 65, 66, 67, 92, 93, 94, 95, 96, 97, 98, 99, 100, 101, 102, 103, 104, 105, 106, 107, 108, 109, 110, 111, 112, 113, 114, 115, 116, 117, 118, 119, 120, 121, 122, 123, 124, 20, 21, 125, 126, 127, 128, 129, 130, 131, 132, 133, 134, 135, 136, 137, 138, 139, 140, 141, 142, 143, 144, 145, 146, 24, 147, 148, 149, 150, 151, 152, 153, 154, 155, 156, 157, 158, 159, 160, 161, 162, 163, 164, 165, 166, 167, 168, 169, 170, 171, 172, 173, 174, 175, 176, 177, 178, 179, 180, 181, 182, 183, 184, 185, 186, 187, 188, 189, 190, 191, 192, 193, 194, 195, 196, 51, 68, 69, 70, 71, 72, 73, 197, 198, 199, 200, 241, 242, 243, 244, 245, 246, 247, 248, 249, 250, 251, 252, 235, 236, 237, 238, 239, 240, 266, 267, 268, 269, 270, 271, 272, 273, 257, 258, 259, 274, 275, 276, 277, 278, 279, 280, 281, 282, 283, 264, 265] (by decide +kernel) (by decide +kernel)) (goodIn_sub (fun _ h => List.mem_cons_of_mem _ (List.mem_append_right _ h)) (by decide +kernel))
set_option maxRecDepth 20000 in
theorem gX14_checksum_X14_costOf : GoodIn wsX14_checksum (wsV RX14 289 RX14 yX14_costOf wsX14_costOf) := goodIn_app (goodIn_of _ (by decide +kernel)) ggX14_checksum_X14_costOf
set_option maxRecDepth 20000 in
theorem ggX14_checksum_X14_standing : GoodIn wsX14_checksum wsX14_standing := goodIn_r _ [204, 85, 79, 86, 92, 93, 94, 10, 95, 54, 235, 236, 237, 238, 239, 240, 241, 242, 243, 244, 245, 246, 247, 248, 249, 250, 251, 252, 257, 258, 259] (by decide +kernel) (by decide +kernel)
set_option maxRecDepth 20000 in
theorem gX14_checksum_X14_standing : GoodIn wsX14_checksum (wsV RX14 302 RX14 yX14_standing wsX14_standing) := goodIn_app (goodIn_of _ (by decide +kernel)) ggX14_checksum_X14_standing
set_option maxRecDepth 20000 in
theorem ggX14_checksum_Jx4a65c_size_8abf5 : GoodIn wsX14_checksum wsJx4a65c_size_8abf5 := goodIn_r _ [95, 54, 257, 258, 259] (by decide +kernel) (by decide +kernel)
set_option maxRecDepth 20000 in
theorem gX14_checksum_Jx4a65c_size_8abf5 : GoodIn wsX14_checksum (wsV RX14 46 RJx4a65c yJx4a65c_size_8abf5 wsJx4a65c_size_8abf5) := goodIn_app (goodIn_of _ (by decide +kernel)) ggX14_checksum_Jx4a65c_size_8abf5
set_option maxRecDepth 20000 in
theorem ggX14_checksum_X14_booked : GoodIn wsX14_checksum wsX14_booked := goodIn_ca (goodIn_r _ [208, 209, 109, 10, 2, 3, 210, 112, 113, 114, 67, 115, 116, 117, 118, 119, 120, 121, 122, 123, 124, 20, 21, 7, 8, 9, 11, 12, 13, 14, 15, 16, 17, 18, 19, 22, 23, 24, 25, 26, 27, 28, 29, 30, 31, 32, 33, 34, 35, 36, 37, 38, 39, 40, 41, 42, 43, 44, 45, 46, 47, 48, 49, 50, 51, 52, 53, 54, 55, 56, 57, 58, 59, 60, 61, 62, 63, 64, 65, 66, 68, 69, 70, 71, 72, 73, 96, 97, 98, 99, 100, 101, 102, 211, 143, 144, 145, 146, 147, 148, 149, 150, 151, 152, 153, 154, 155, 156, 157, 158, 159, 160, 161, 162, 163, 164, 165, 166, 167, 168, 169, 170, 171, 172, 173, 174, 175, 176, 177, 178, 179, 180, 181, 182, 183, 184, 185, 186, 187, 188, 189, 190, 191, 192, 193, 194, 195, 257, 258, 259, 235, 236, 237, 238, 239, 240, 253, 254, 255, 256, 260, 261, 262, 263, 264, 265, 241, 242, 243, 244, 245, 246, 247, 248, 249, 250, 251, 252, 280, 281, 282, 283] (by decide +kernel) (by decide +kernel)) (goodIn_sub (fun _ h => List.mem_cons_of_mem _ (List.mem_append_right _ h)) (by decide +kernel))
set_option maxRecDepth 20000 in
theorem gX14_checksum_X14_booked : GoodIn wsX14_checksum (wsV RX14 251 RX14 yX14_booked wsX14_booked) := goodIn_app (goodIn_of _ (by decide +kernel)) ggX14_checksum_X14_booked
set_option maxRecDepth 20000 in
theorem gX14_checksum_Jx4a65c_size_8abf5_f32Jx4a65c : GoodIn wsX14_checksum (va_wsF RX14 32 RJx4a65c ⟨"java/util/List", "size", "()I"⟩ yJx4a65c_size_8abf5 wsJx4a65c_size_8abf5) := goodIn_app (goodIn_of _ (by decide +kernel)) ggX14_checksum_Jx4a65c_size_8abf5
set_option maxRecDepth 20000 in
theorem ggX14_checksum_Jx6a02c_size_8abf5 : GoodIn wsX14_checksum wsJx6a02c_size_8abf5 := goodIn_r _ [216, 73, 264, 265] (by decide +kernel) (by decide +kernel)
set_option maxRecDepth 20000 in
theorem gX14_checksum_Jx6a02c_size_8abf5_f32Jx6a02c : GoodIn wsX14_checksum (va_wsF RX14 32 RJx6a02c ⟨"java/util/List", "size", "()I"⟩ yJx6a02c_size_8abf5 wsJx6a02c_size_8abf5) := goodIn_app (goodIn_of _ (by decide +kernel)) ggX14_checksum_Jx6a02c_size_8abf5
set_option maxRecDepth 20000 in
theorem ggX14_checksum_X14_total : GoodIn wsX14_checksum wsX14_total := goodIn_ca (goodIn_r _ [220, 2, 3, 85, 88, 221, 222, 7, 8, 9, 10, 11, 12, 13, 14, 15, 16, 17, 18, 19, 20, 21, 22, 23, 24, 25, 26, 27, 28, 29, 30, 31, 32, 33, 34, 35, 36, 37, 38, 39, 40, 41, 42, 43, 44, 45, 46, 47, 48, 49, 50, 51, 52, 53, 54, 55, 56, 57, 58, 59, 60, 61, 62, 63, 64, 65, 66, 67, 68, 69, 70, 71, 72, 73, 74, 75, 76, 77, 78, 79, 5, 80, 81, 82, 6, 83, 84, 86, 87, 89, 90, 91, 92, 93, 94, 95, 96, 97, 98, 99, 100, 101, 102, 103, 104, 105, 106, 107, 108, 109, 110, 111, 112, 113, 114, 115, 116, 117, 118, 119, 120, 121, 122, 123, 124, 125, 126, 127, 128, 129, 130, 131, 132, 133, 134, 135, 136, 137, 138, 139, 140, 141, 142, 143, 144, 145, 146, 147, 148, 149, 150, 151, 152, 153, 154, 155, 156, 157, 158, 159, 160, 161, 162, 163, 164, 165, 166, 167, 168, 169, 170, 171, 172, 173, 174, 175, 176, 177, 178, 179, 180, 181, 182, 183, 184, 185, 186, 187, 188, 189, 190, 191, 192, 193, 194, 195, 196, 197, 198, 199, 200, 223, 224, 225, 226, 227, 228, 229, 230, 231, 232, 233, 234, 235, 236, 237, 238, 239, 240, 274, 275, 276, 277, 278, 253, 254, 255, 256, 257, 258, 259, 260, 261, 262, 263, 264, 265, 241, 242, 243, 244, 245, 246, 247, 248, 249, 250, 251, 252, 266, 267, 268, 269, 270, 271, 272, 273, 279, 280, 281, 282, 283] (by decide +kernel) (by decide +kernel)) (goodIn_sub (fun _ h => List.mem_cons_of_mem _ (List.mem_append_right _ h)) (by decide +kernel))
set_option maxRecDepth 20000 in
theorem gX14_checksum_X14_total : GoodIn wsX14_checksum (wsV RX14 340 RX14 yX14_total wsX14_total) := goodIn_app (goodIn_of _ (by decide +kernel)) ggX14_checksum_X14_total
theorem dX14_checksum_0 : decode cX14_checksum 0 = .ok (.ldc2_w 336, 3) := by decide +kernel
theorem dX14_checksum_3 : decode cX14_checksum 3 = .ok (.lstore_n 1, 1) := by decide +kernel
theorem dX14_checksum_4 : decode cX14_checksum 4 = .ok (.aload_n 0, 1) := by decide +kernel
theorem dX14_checksum_5 : decode cX14_checksum 5 = .ok (.getfield 25, 3) := by decide +kernel
theorem dX14_checksum_8 : decode cX14_checksum 8 = .ok (.invokevirtual 59, 3) := by decide +kernel
theorem dX14_checksum_11 : decode cX14_checksum 11 = .ok (.astore_n 3, 1) := by decide +kernel
theorem dX14_checksum_12 : decode cX14_checksum 12 = .ok (.aload_n 3, 1) := by decide +kernel
theorem dX14_checksum_13 : decode cX14_checksum 13 = .ok (.invokeinterface 63 1, 5) := by decide +kernel
theorem dX14_checksum_18 : decode cX14_checksum 18 = .ok (.ifCond .eq 54, 3) := by decide +kernel
theorem dX14_checksum_21 : decode cX14_checksum 21 = .ok (.aload_n 3, 1) := by decide +kernel
theorem dX14_checksum_22 : decode cX14_checksum 22 = .ok (.invokeinterface 69 1, 5) := by decide +kernel
theorem dX14_checksum_27 : decode cX14_checksum 27 = .ok (.checkcast 73, 3) := by decide +kernel
theorem dX14_checksum_30 : decode cX14_checksum 30 = .ok (.astore 4, 2) := by decide +kernel
theorem dX14_checksum_32 : decode cX14_checksum 32 = .ok (.ldc2_w 338, 3) := by decide +kernel
theorem dX14_checksum_35 : decode cX14_checksum 35 = .ok (.ldc2_w 338, 3) := by decide +kernel
theorem dX14_checksum_38 : decode cX14_checksum 38 = .ok (.ldc2_w 338, 3) := by decide +kernel
theorem dX14_checksum_41 : decode cX14_checksum 41 = .ok (.lload_n 1, 1) := by decide +kernel
theorem dX14_checksum_42 : decode cX14_checksum 42 = .ok (.lmul, 1) := by decide +kernel
theorem dX14_checksum_43 : decode cX14_checksum 43 = .ok (.aload_n 0, 1) := by decide +kernel
theorem dX14_checksum_44 : decode cX14_checksum 44 = .ok (.aload 4, 2) := by decide +kernel
theorem dX14_checksum_46 : decode cX14_checksum 46 = .ok (.invokevirtual 289, 3) := by decide +kernel
theorem dX14_checksum_49 : decode cX14_checksum 49 = .ok (.i2l, 1) := by decide +kernel
theorem dX14_checksum_50 : decode cX14_checksum 50 = .ok (.ladd, 1) := by decide +kernel
theorem dX14_checksum_51 : decode cX14_checksum 51 = .ok (.lmul, 1) := by decide +kernel
theorem dX14_checksum_52 : decode cX14_checksum 52 = .ok (.aload_n 0, 1) := by decide +kernel
theorem dX14_checksum_53 : decode cX14_checksum 53 = .ok (.aload 4, 2) := by decide +kernel
theorem dX14_checksum_55 : decode cX14_checksum 55 = .ok (.invokevirtual 302, 3) := by decide +kernel
theorem dX14_checksum_58 : decode cX14_checksum 58 = .ok (.i2l, 1) := by decide +kernel
theorem dX14_checksum_59 : decode cX14_checksum 59 = .ok (.ladd, 1) := by decide +kernel
theorem dX14_checksum_60 : decode cX14_checksum 60 = .ok (.lmul, 1) := by decide +kernel
theorem dX14_checksum_61 : decode cX14_checksum 61 = .ok (.aload 4, 2) := by decide +kernel
theorem dX14_checksum_63 : decode cX14_checksum 63 = .ok (.getfield 227, 3) := by decide +kernel
theorem dX14_checksum_66 : decode cX14_checksum 66 = .ok (.i2l, 1) := by decide +kernel
theorem dX14_checksum_67 : decode cX14_checksum 67 = .ok (.ladd, 1) := by decide +kernel
theorem dX14_checksum_68 : decode cX14_checksum 68 = .ok (.lstore_n 1, 1) := by decide +kernel
theorem dX14_checksum_69 : decode cX14_checksum 69 = .ok (.goto (-57), 3) := by decide +kernel
theorem dX14_checksum_72 : decode cX14_checksum 72 = .ok (.iconst 0, 1) := by decide +kernel
theorem dX14_checksum_73 : decode cX14_checksum 73 = .ok (.istore_n 3, 1) := by decide +kernel
theorem dX14_checksum_74 : decode cX14_checksum 74 = .ok (.iload_n 3, 1) := by decide +kernel
theorem dX14_checksum_75 : decode cX14_checksum 75 = .ok (.aload_n 0, 1) := by decide +kernel
theorem dX14_checksum_76 : decode cX14_checksum 76 = .ok (.getfield 16, 3) := by decide +kernel
theorem dX14_checksum_79 : decode cX14_checksum 79 = .ok (.invokevirtual 46, 3) := by decide +kernel
theorem dX14_checksum_82 : decode cX14_checksum 82 = .ok (.if_icmp .ge 28, 3) := by decide +kernel
theorem dX14_checksum_85 : decode cX14_checksum 85 = .ok (.ldc2_w 338, 3) := by decide +kernel
theorem dX14_checksum_88 : decode cX14_checksum 88 = .ok (.lload_n 1, 1) := by decide +kernel
theorem dX14_checksum_89 : decode cX14_checksum 89 = .ok (.lmul, 1) := by decide +kernel
theorem dX14_checksum_90 : decode cX14_checksum 90 = .ok (.aload_n 0, 1) := by decide +kernel
theorem dX14_checksum_91 : decode cX14_checksum 91 = .ok (.iload_n 3, 1) := by decide +kernel
theorem dX14_checksum_92 : decode cX14_checksum 92 = .ok (.aconst_null, 1) := by decide +kernel
theorem dX14_checksum_93 : decode cX14_checksum 93 = .ok (.invokevirtual 251, 3) := by decide +kernel
theorem dX14_checksum_96 : decode cX14_checksum 96 = .ok (.invokeinterface 32 1, 5) := by decide +kernel
theorem dX14_checksum_101 : decode cX14_checksum 101 = .ok (.i2l, 1) := by decide +kernel
theorem dX14_checksum_102 : decode cX14_checksum 102 = .ok (.ladd, 1) := by decide +kernel
theorem dX14_checksum_103 : decode cX14_checksum 103 = .ok (.lstore_n 1, 1) := by decide +kernel
theorem dX14_checksum_104 : decode cX14_checksum 104 = .ok (.iinc 3 1, 3) := by decide +kernel
theorem dX14_checksum_107 : decode cX14_checksum 107 = .ok (.goto (-33), 3) := by decide +kernel
theorem dX14_checksum_110 : decode cX14_checksum 110 = .ok (.ldc2_w 338, 3) := by decide +kernel
theorem dX14_checksum_113 : decode cX14_checksum 113 = .ok (.lload_n 1, 1) := by decide +kernel
theorem dX14_checksum_114 : decode cX14_checksum 114 = .ok (.lmul, 1) := by decide +kernel
theorem dX14_checksum_115 : decode cX14_checksum 115 = .ok (.aload_n 0, 1) := by decide +kernel
theorem dX14_checksum_116 : decode cX14_checksum 116 = .ok (.invokevirtual 340, 3) := by decide +kernel
theorem dX14_checksum_119 : decode cX14_checksum 119 = .ok (.i2l, 1) := by decide +kernel
theorem dX14_checksum_120 : decode cX14_checksum 120 = .ok (.ladd, 1) := by decide +kernel
theorem dX14_checksum_121 : decode cX14_checksum 121 = .ok (.lreturn, 1) := by decide +kernel
set_option maxRecDepth 20000 in
theorem ggX14_bookedShare_Jx4a65c_isEmpty_aae02 : GoodIn wsX14_bookedShare wsJx4a65c_isEmpty_aae02 := goodIn_r _ [9, 10, 98, 99, 100] (by decide +kernel) (by decide +kernel)
set_option maxRecDepth 20000 in
theorem gX14_bookedShare_Jx4a65c_isEmpty_aae02 : GoodIn wsX14_bookedShare (wsV RX14 308 RJx4a65c yJx4a65c_isEmpty_aae02 wsJx4a65c_isEmpty_aae02) := goodIn_app (goodIn_of _ (by decide +kernel)) ggX14_bookedShare_Jx4a65c_isEmpty_aae02
set_option maxRecDepth 20000 in
theorem ggX14_bookedShare_Jx4a65c_iterator_32c93 : GoodIn wsX14_bookedShare wsJx4a65c_iterator_32c93 := goodIn_r _ [14, 15, 16, 17, 18, 19, 20, 21, 22, 23, 24, 25, 26, 27, 28, 101, 102, 103, 104, 98, 99, 100] (by decide +kernel) (by decide +kernel)
set_option maxRecDepth 20000 in
theorem gX14_bookedShare_Jx4a65c_iterator_32c93 : GoodIn wsX14_bookedShare (wsV RX14 59 RJx4a65c yJx4a65c_iterator_32c93 wsJx4a65c_iterator_32c93) := goodIn_app (goodIn_of _ (by decide +kernel)) ggX14_bookedShare_Jx4a65c_iterator_32c93
set_option maxRecDepth 20000 in
theorem ggX14_bookedShare_Jx35411_hasNext_aae02 : GoodIn wsX14_bookedShare wsJx35411_hasNext_aae02 := goodIn_r _ [32, 33, 21, 101, 102, 103, 104, 98, 99, 100] (by decide +kernel) (by decide +kernel)
set_option maxRecDepth 20000 in
theorem gX14_bookedShare_Jx35411_hasNext_aae02_f63Jx35411 : GoodIn wsX14_bookedShare (va_wsF RX14 63 RJx35411 ⟨"java/util/Iterator", "hasNext", "()Z"⟩ yJx35411_hasNext_aae02 wsJx35411_hasNext_aae02) := goodIn_app (goodIn_of _ (by decide +kernel)) ggX14_bookedShare_Jx35411_hasNext_aae02
set_option maxRecDepth 20000 in
theorem ggX14_bookedShare_Jx95556_hasNext_aae02 : GoodIn wsX14_bookedShare wsJx95556_hasNext_aae02 := goodIn_r _ [37, 38, 39, 105, 106, 107, 108] (by decide +kernel) (by decide +kernel)
set_option maxRecDepth 20000 in
theorem gX14_bookedShare_Jx95556_hasNext_aae02_f63Jx95556 : GoodIn wsX14_bookedShare (va_wsF RX14 63 RJx95556 ⟨"java/util/Iterator", "hasNext", "()Z"⟩ yJx95556_hasNext_aae02 wsJx95556_hasNext_aae02) := goodIn_app (goodIn_of _ (by decide +kernel)) ggX14_bookedShare_Jx95556_hasNext_aae02
set_option maxRecDepth 20000 in
theorem ggX14_bookedShare_Jx35411_next_0502b : GoodIn wsX14_bookedShare wsJx35411_next_0502b := goodIn_r _ [43, 33, 21, 44, 25, 45, 46, 47, 17, 48, 26, 27, 28, 101, 102, 103, 104, 98, 99, 100] (by decide +kernel) (by decide +kernel)
set_option maxRecDepth 20000 in
theorem gX14_bookedShare_Jx35411_next_0502b_f69Jx35411 : GoodIn wsX14_bookedShare (va_wsF RX14 69 RJx35411 ⟨"java/util/Iterator", "next", "()Ljava/lang/Object;"⟩ yJx35411_next_0502b wsJx35411_next_0502b) := goodIn_app (goodIn_of _ (by decide +kernel)) ggX14_bookedShare_Jx35411_next_0502b
set_option maxRecDepth 20000 in
theorem ggX14_bookedShare_Jx95556_next_0502b : GoodIn wsX14_bookedShare wsJx95556_next_0502b := goodIn_r _ [51, 38, 52, 53, 54, 55, 8, 56, 10, 57, 58, 59, 60, 61, 62, 63, 64, 65, 66, 67, 68, 69, 70, 71, 72, 73, 74, 75, 105, 106, 107, 108, 98, 99, 100, 109, 110] (by decide +kernel) (by decide +kernel)
set_option maxRecDepth 20000 in
theorem gX14_bookedShare_Jx95556_next_0502b_f69Jx95556 : GoodIn wsX14_bookedShare (va_wsF RX14 69 RJx95556 ⟨"java/util/Iterator", "next", "()Ljava/lang/Object;"⟩ yJx95556_next_0502b wsJx95556_next_0502b) := goodIn_app (goodIn_of _ (by decide +kernel)) ggX14_bookedShare_Jx95556_next_0502b
set_option maxRecDepth 20000 in
theorem ggX14_bookedShare_Jx4a65c_size_8abf5 : GoodIn wsX14_bookedShare wsJx4a65c_size_8abf5 := goodIn_r _ [79, 10, 98, 99, 100] (by decide +kernel) (by decide +kernel)
set_option maxRecDepth 20000 in
theorem gX14_bookedShare_Jx4a65c_size_8abf5 : GoodIn wsX14_bookedShare (wsV RX14 46 RJx4a65c yJx4a65c_size_8abf5 wsJx4a65c_size_8abf5) := goodIn_app (goodIn_of _ (by decide +kernel)) ggX14_bookedShare_Jx4a65c_size_8abf5
theorem dX14_bookedShare_0 : decode cX14_bookedShare 0 = .ok (.aload_n 0, 1) := by decide +kernel
theorem dX14_bookedShare_1 : decode cX14_bookedShare 1 = .ok (.aload_n 0, 1) := by decide +kernel
theorem dX14_bookedShare_2 : decode cX14_bookedShare 2 = .ok (.getfield 25, 3) := by decide +kernel
theorem dX14_bookedShare_5 : decode cX14_bookedShare 5 = .ok (.invokevirtual 308, 3) := by decide +kernel
theorem dX14_bookedShare_8 : decode cX14_bookedShare 8 = .ok (.ifCond .eq 7, 3) := by decide +kernel
theorem dX14_bookedShare_11 : decode cX14_bookedShare 11 = .ok (.iconst 1, 1) := by decide +kernel
theorem dX14_bookedShare_12 : decode cX14_bookedShare 12 = .ok (.goto 4, 3) := by decide +kernel
theorem dX14_bookedShare_15 : decode cX14_bookedShare 15 = .ok (.iconst 0, 1) := by decide +kernel
theorem dX14_bookedShare_16 : decode cX14_bookedShare 16 = .ok (.putfield 28, 3) := by decide +kernel
theorem dX14_bookedShare_19 : decode cX14_bookedShare 19 = .ok (.iconst 0, 1) := by decide +kernel
theorem dX14_bookedShare_20 : decode cX14_bookedShare 20 = .ok (.istore_n 1, 1) := by decide +kernel
theorem dX14_bookedShare_21 : decode cX14_bookedShare 21 = .ok (.aload_n 0, 1) := by decide +kernel
theorem dX14_bookedShare_22 : decode cX14_bookedShare 22 = .ok (.getfield 25, 3) := by decide +kernel
theorem dX14_bookedShare_25 : decode cX14_bookedShare 25 = .ok (.invokevirtual 59, 3) := by decide +kernel
theorem dX14_bookedShare_28 : decode cX14_bookedShare 28 = .ok (.astore_n 2, 1) := by decide +kernel
theorem dX14_bookedShare_29 : decode cX14_bookedShare 29 = .ok (.aload_n 2, 1) := by decide +kernel
theorem dX14_bookedShare_30 : decode cX14_bookedShare 30 = .ok (.invokeinterface 63 1, 5) := by decide +kernel
theorem dX14_bookedShare_35 : decode cX14_bookedShare 35 = .ok (.ifCond .eq 31, 3) := by decide +kernel
theorem dX14_bookedShare_38 : decode cX14_bookedShare 38 = .ok (.aload_n 2, 1) := by decide +kernel
theorem dX14_bookedShare_39 : decode cX14_bookedShare 39 = .ok (.invokeinterface 69 1, 5) := by decide +kernel
theorem dX14_bookedShare_44 : decode cX14_bookedShare 44 = .ok (.checkcast 73, 3) := by decide +kernel
theorem dX14_bookedShare_47 : decode cX14_bookedShare 47 = .ok (.astore_n 3, 1) := by decide +kernel
theorem dX14_bookedShare_48 : decode cX14_bookedShare 48 = .ok (.iload_n 1, 1) := by decide +kernel
theorem dX14_bookedShare_49 : decode cX14_bookedShare 49 = .ok (.aload_n 3, 1) := by decide +kernel
theorem dX14_bookedShare_50 : decode cX14_bookedShare 50 = .ok (.getfield 191, 3) := by decide +kernel
theorem dX14_bookedShare_53 : decode cX14_bookedShare 53 = .ok (.ifCond .eq 7, 3) := by decide +kernel
theorem dX14_bookedShare_56 : decode cX14_bookedShare 56 = .ok (.iconst 1, 1) := by decide +kernel
theorem dX14_bookedShare_57 : decode cX14_bookedShare 57 = .ok (.goto 4, 3) := by decide +kernel
theorem dX14_bookedShare_60 : decode cX14_bookedShare 60 = .ok (.iconst 0, 1) := by decide +kernel
theorem dX14_bookedShare_61 : decode cX14_bookedShare 61 = .ok (.iadd, 1) := by decide +kernel
theorem dX14_bookedShare_62 : decode cX14_bookedShare 62 = .ok (.istore_n 1, 1) := by decide +kernel
theorem dX14_bookedShare_63 : decode cX14_bookedShare 63 = .ok (.goto (-34), 3) := by decide +kernel
theorem dX14_bookedShare_66 : decode cX14_bookedShare 66 = .ok (.aload_n 0, 1) := by decide +kernel
theorem dX14_bookedShare_67 : decode cX14_bookedShare 67 = .ok (.getfield 28, 3) := by decide +kernel
theorem dX14_bookedShare_70 : decode cX14_bookedShare 70 = .ok (.ifCond .le 7, 3) := by decide +kernel
theorem dX14_bookedShare_73 : decode cX14_bookedShare 73 = .ok (.fconst 0, 1) := by decide +kernel
theorem dX14_bookedShare_74 : decode cX14_bookedShare 74 = .ok (.goto 14, 3) := by decide +kernel
theorem dX14_bookedShare_77 : decode cX14_bookedShare 77 = .ok (.iload_n 1, 1) := by decide +kernel
theorem dX14_bookedShare_78 : decode cX14_bookedShare 78 = .ok (.i2f, 1) := by decide +kernel
theorem dX14_bookedShare_79 : decode cX14_bookedShare 79 = .ok (.aload_n 0, 1) := by decide +kernel
theorem dX14_bookedShare_80 : decode cX14_bookedShare 80 = .ok (.getfield 25, 3) := by decide +kernel
theorem dX14_bookedShare_83 : decode cX14_bookedShare 83 = .ok (.invokevirtual 46, 3) := by decide +kernel
theorem dX14_bookedShare_86 : decode cX14_bookedShare 86 = .ok (.i2f, 1) := by decide +kernel
theorem dX14_bookedShare_87 : decode cX14_bookedShare 87 = .ok (.fdiv, 1) := by decide +kernel
theorem dX14_bookedShare_88 : decode cX14_bookedShare 88 = .ok (.freturn, 1) := by decide +kernel
set_option maxRecDepth 20000 in
theorem ggX14_meanServices_Jx4a65c_isEmpty_aae02 : GoodIn wsX14_meanServices wsJx4a65c_isEmpty_aae02 := goodIn_r _ [7, 8, 173, 174, 175] (by decide +kernel) (by decide +kernel)
set_option maxRecDepth 20000 in
theorem gX14_meanServices_Jx4a65c_isEmpty_aae02 : GoodIn wsX14_meanServices (wsV RX14 308 RJx4a65c yJx4a65c_isEmpty_aae02 wsJx4a65c_isEmpty_aae02) := goodIn_app (goodIn_of _ (by decide +kernel)) ggX14_meanServices_Jx4a65c_isEmpty_aae02
set_option maxRecDepth 20000 in
theorem ggX14_meanServices_Jx4a65c_size_8abf5 : GoodIn wsX14_meanServices wsJx4a65c_size_8abf5 := goodIn_r _ [12, 8, 173, 174, 175] (by decide +kernel) (by decide +kernel)
set_option maxRecDepth 20000 in
theorem gX14_meanServices_Jx4a65c_size_8abf5 : GoodIn wsX14_meanServices (wsV RX14 46 RJx4a65c yJx4a65c_size_8abf5 wsJx4a65c_size_8abf5) := goodIn_app (goodIn_of _ (by decide +kernel)) ggX14_meanServices_Jx4a65c_size_8abf5
set_option maxRecDepth 20000 in
theorem ggX14_meanServices_X14_booked : GoodIn wsX14_meanServices wsX14_booked := goodIn_ca (goodIn_r _ [17, 18, 19, 6, 20, 21, 22, 23, 24, 25, 26, 27, 28, 29, 30, 31, 32, 33, 34, 35, 36, 37, 38, 39, 40, 41, 42, 43, 44, 45, 46, 47, 48, 49, 50, 51, 52, 53, 54, 55, 56, 57, 58, 59, 60, 61, 62, 63, 64, 65, 66, 67, 68, 69, 70, 71, 72, 73, 74, 75, 76, 77, 78, 79, 80, 81, 82, 8, 83, 84, 85, 86, 87, 88, 89, 90, 91, 92, 93, 94, 95, 96, 97, 98, 99, 100, 101, 102, 103, 104, 105, 106, 107, 108, 109, 110, 111, 112, 113, 114, 115, 116, 117, 118, 119, 120, 121, 122, 123, 124, 125, 126, 127, 128, 129, 130, 131, 132, 133, 134, 135, 136, 137, 138, 139, 140, 141, 142, 143, 144, 145, 146, 147, 148, 149, 150, 151, 152, 153, 154, 155, 156, 157, 158, 159, 160, 161, 173, 174, 175, 167, 168, 169, 170, 171, 172, 176, 177, 178, 179, 180, 181, 182, 183, 184, 185, 186, 187, 188, 189, 190, 191, 192, 193, 194, 195, 196, 197, 198, 199, 200, 201] (by decide +kernel) (by decide +kernel)) (goodIn_sub (fun _ h => List.mem_cons_of_mem _ (List.mem_append_right _ h)) (by decide +kernel))
set_option maxRecDepth 20000 in
theorem gX14_meanServices_X14_booked : GoodIn wsX14_meanServices (wsV RX14 251 RX14 yX14_booked wsX14_booked) := goodIn_app (goodIn_of _ (by decide +kernel)) ggX14_meanServices_X14_booked
set_option maxRecDepth 20000 in
theorem gX14_meanServices_Jx4a65c_size_8abf5_f32Jx4a65c : GoodIn wsX14_meanServices (va_wsF RX14 32 RJx4a65c ⟨"java/util/List", "size", "()I"⟩ yJx4a65c_size_8abf5 wsJx4a65c_size_8abf5) := goodIn_app (goodIn_of _ (by decide +kernel)) ggX14_meanServices_Jx4a65c_size_8abf5
set_option maxRecDepth 20000 in
theorem ggX14_meanServices_Jx6a02c_size_8abf5 : GoodIn wsX14_meanServices wsJx6a02c_size_8abf5 := goodIn_r _ [166, 100, 184, 185] (by decide +kernel) (by decide +kernel)
set_option maxRecDepth 20000 in
theorem gX14_meanServices_Jx6a02c_size_8abf5_f32Jx6a02c : GoodIn wsX14_meanServices (va_wsF RX14 32 RJx6a02c ⟨"java/util/List", "size", "()I"⟩ yJx6a02c_size_8abf5 wsJx6a02c_size_8abf5) := goodIn_app (goodIn_of _ (by decide +kernel)) ggX14_meanServices_Jx6a02c_size_8abf5
theorem dX14_meanServices_0 : decode cX14_meanServices 0 = .ok (.aload_n 0, 1) := by decide +kernel
theorem dX14_meanServices_1 : decode cX14_meanServices 1 = .ok (.aload_n 0, 1) := by decide +kernel
theorem dX14_meanServices_2 : decode cX14_meanServices 2 = .ok (.getfield 16, 3) := by decide +kernel
theorem dX14_meanServices_5 : decode cX14_meanServices 5 = .ok (.invokevirtual 308, 3) := by decide +kernel
theorem dX14_meanServices_8 : decode cX14_meanServices 8 = .ok (.ifCond .eq 7, 3) := by decide +kernel
theorem dX14_meanServices_11 : decode cX14_meanServices 11 = .ok (.iconst 1, 1) := by decide +kernel
theorem dX14_meanServices_12 : decode cX14_meanServices 12 = .ok (.goto 4, 3) := by decide +kernel
theorem dX14_meanServices_15 : decode cX14_meanServices 15 = .ok (.iconst 0, 1) := by decide +kernel
theorem dX14_meanServices_16 : decode cX14_meanServices 16 = .ok (.putfield 28, 3) := by decide +kernel
theorem dX14_meanServices_19 : decode cX14_meanServices 19 = .ok (.iconst 0, 1) := by decide +kernel
theorem dX14_meanServices_20 : decode cX14_meanServices 20 = .ok (.istore_n 1, 1) := by decide +kernel
theorem dX14_meanServices_21 : decode cX14_meanServices 21 = .ok (.iconst 0, 1) := by decide +kernel
theorem dX14_meanServices_22 : decode cX14_meanServices 22 = .ok (.istore_n 2, 1) := by decide +kernel
theorem dX14_meanServices_23 : decode cX14_meanServices 23 = .ok (.iload_n 2, 1) := by decide +kernel
theorem dX14_meanServices_24 : decode cX14_meanServices 24 = .ok (.aload_n 0, 1) := by decide +kernel
theorem dX14_meanServices_25 : decode cX14_meanServices 25 = .ok (.getfield 16, 3) := by decide +kernel
theorem dX14_meanServices_28 : decode cX14_meanServices 28 = .ok (.invokevirtual 46, 3) := by decide +kernel
theorem dX14_meanServices_31 : decode cX14_meanServices 31 = .ok (.if_icmp .ge 23, 3) := by decide +kernel
theorem dX14_meanServices_34 : decode cX14_meanServices 34 = .ok (.iload_n 1, 1) := by decide +kernel
theorem dX14_meanServices_35 : decode cX14_meanServices 35 = .ok (.aload_n 0, 1) := by decide +kernel
theorem dX14_meanServices_36 : decode cX14_meanServices 36 = .ok (.iload_n 2, 1) := by decide +kernel
theorem dX14_meanServices_37 : decode cX14_meanServices 37 = .ok (.aconst_null, 1) := by decide +kernel
theorem dX14_meanServices_38 : decode cX14_meanServices 38 = .ok (.invokevirtual 251, 3) := by decide +kernel
theorem dX14_meanServices_41 : decode cX14_meanServices 41 = .ok (.invokeinterface 32 1, 5) := by decide +kernel
theorem dX14_meanServices_46 : decode cX14_meanServices 46 = .ok (.iadd, 1) := by decide +kernel
theorem dX14_meanServices_47 : decode cX14_meanServices 47 = .ok (.istore_n 1, 1) := by decide +kernel
theorem dX14_meanServices_48 : decode cX14_meanServices 48 = .ok (.iinc 2 1, 3) := by decide +kernel
theorem dX14_meanServices_51 : decode cX14_meanServices 51 = .ok (.goto (-28), 3) := by decide +kernel
theorem dX14_meanServices_54 : decode cX14_meanServices 54 = .ok (.aload_n 0, 1) := by decide +kernel
theorem dX14_meanServices_55 : decode cX14_meanServices 55 = .ok (.getfield 28, 3) := by decide +kernel
theorem dX14_meanServices_58 : decode cX14_meanServices 58 = .ok (.ifCond .le 7, 3) := by decide +kernel
theorem dX14_meanServices_61 : decode cX14_meanServices 61 = .ok (.dconst 0, 1) := by decide +kernel
theorem dX14_meanServices_62 : decode cX14_meanServices 62 = .ok (.goto 14, 3) := by decide +kernel
theorem dX14_meanServices_65 : decode cX14_meanServices 65 = .ok (.iload_n 1, 1) := by decide +kernel
theorem dX14_meanServices_66 : decode cX14_meanServices 66 = .ok (.i2d, 1) := by decide +kernel
theorem dX14_meanServices_67 : decode cX14_meanServices 67 = .ok (.aload_n 0, 1) := by decide +kernel
theorem dX14_meanServices_68 : decode cX14_meanServices 68 = .ok (.getfield 16, 3) := by decide +kernel
theorem dX14_meanServices_71 : decode cX14_meanServices 71 = .ok (.invokevirtual 46, 3) := by decide +kernel
theorem dX14_meanServices_74 : decode cX14_meanServices 74 = .ok (.i2d, 1) := by decide +kernel
theorem dX14_meanServices_75 : decode cX14_meanServices 75 = .ok (.ddiv, 1) := by decide +kernel
theorem dX14_meanServices_76 : decode cX14_meanServices 76 = .ok (.dreturn, 1) := by decide +kernel
theorem dX14_isSound_0 : decode cX14_isSound 0 = .ok (.aload_n 0, 1) := by decide +kernel
theorem dX14_isSound_1 : decode cX14_isSound 1 = .ok (.iconst 0, 1) := by decide +kernel
theorem dX14_isSound_2 : decode cX14_isSound 2 = .ok (.putfield 28, 3) := by decide +kernel
theorem dX14_isSound_5 : decode cX14_isSound 5 = .ok (.iconst 1, 1) := by decide +kernel
theorem dX14_isSound_6 : decode cX14_isSound 6 = .ok (.ireturn, 1) := by decide +kernel
theorem dX14_isSameRow_0 : decode cX14_isSameRow 0 = .ok (.aload_n 0, 1) := by decide +kernel
theorem dX14_isSameRow_1 : decode cX14_isSameRow 1 = .ok (.ifnull 14, 3) := by decide +kernel
theorem dX14_isSameRow_4 : decode cX14_isSameRow 4 = .ok (.aload_n 1, 1) := by decide +kernel
theorem dX14_isSameRow_5 : decode cX14_isSameRow 5 = .ok (.ifnull 10, 3) := by decide +kernel
theorem dX14_isSameRow_8 : decode cX14_isSameRow 8 = .ok (.aload_n 0, 1) := by decide +kernel
theorem dX14_isSameRow_9 : decode cX14_isSameRow 9 = .ok (.arraylength, 1) := by decide +kernel
theorem dX14_isSameRow_10 : decode cX14_isSameRow 10 = .ok (.aload_n 1, 1) := by decide +kernel
theorem dX14_isSameRow_11 : decode cX14_isSameRow 11 = .ok (.arraylength, 1) := by decide +kernel
theorem dX14_isSameRow_12 : decode cX14_isSameRow 12 = .ok (.if_icmp .eq 14, 3) := by decide +kernel
theorem dX14_isSameRow_15 : decode cX14_isSameRow 15 = .ok (.aload_n 0, 1) := by decide +kernel
theorem dX14_isSameRow_16 : decode cX14_isSameRow 16 = .ok (.aload_n 1, 1) := by decide +kernel
theorem dX14_isSameRow_17 : decode cX14_isSameRow 17 = .ok (.if_acmp .ne 7, 3) := by decide +kernel
theorem dX14_isSameRow_20 : decode cX14_isSameRow 20 = .ok (.iconst 1, 1) := by decide +kernel
theorem dX14_isSameRow_21 : decode cX14_isSameRow 21 = .ok (.goto 4, 3) := by decide +kernel
theorem dX14_isSameRow_24 : decode cX14_isSameRow 24 = .ok (.iconst 0, 1) := by decide +kernel
theorem dX14_isSameRow_25 : decode cX14_isSameRow 25 = .ok (.ireturn, 1) := by decide +kernel
theorem dX14_isSameRow_26 : decode cX14_isSameRow 26 = .ok (.iconst 0, 1) := by decide +kernel
theorem dX14_isSameRow_27 : decode cX14_isSameRow 27 = .ok (.istore_n 2, 1) := by decide +kernel
theorem dX14_isSameRow_28 : decode cX14_isSameRow 28 = .ok (.iload_n 2, 1) := by decide +kernel
theorem dX14_isSameRow_29 : decode cX14_isSameRow 29 = .ok (.aload_n 0, 1) := by decide +kernel
theorem dX14_isSameRow_30 : decode cX14_isSameRow 30 = .ok (.arraylength, 1) := by decide +kernel
theorem dX14_isSameRow_31 : decode cX14_isSameRow 31 = .ok (.if_icmp .ge 18, 3) := by decide +kernel
theorem dX14_isSameRow_34 : decode cX14_isSameRow 34 = .ok (.aload_n 0, 1) := by decide +kernel
theorem dX14_isSameRow_35 : decode cX14_isSameRow 35 = .ok (.iload_n 2, 1) := by decide +kernel
theorem dX14_isSameRow_36 : decode cX14_isSameRow 36 = .ok (.iaload, 1) := by decide +kernel
theorem dX14_isSameRow_37 : decode cX14_isSameRow 37 = .ok (.aload_n 1, 1) := by decide +kernel
theorem dX14_isSameRow_38 : decode cX14_isSameRow 38 = .ok (.iload_n 2, 1) := by decide +kernel
theorem dX14_isSameRow_39 : decode cX14_isSameRow 39 = .ok (.iaload, 1) := by decide +kernel
theorem dX14_isSameRow_40 : decode cX14_isSameRow 40 = .ok (.if_icmp .ne 9, 3) := by decide +kernel
theorem dX14_isSameRow_43 : decode cX14_isSameRow 43 = .ok (.iinc 2 1, 3) := by decide +kernel
theorem dX14_isSameRow_46 : decode cX14_isSameRow 46 = .ok (.goto (-18), 3) := by decide +kernel
theorem dX14_isSameRow_49 : decode cX14_isSameRow 49 = .ok (.iload_n 2, 1) := by decide +kernel
theorem dX14_isSameRow_50 : decode cX14_isSameRow 50 = .ok (.aload_n 0, 1) := by decide +kernel
theorem dX14_isSameRow_51 : decode cX14_isSameRow 51 = .ok (.arraylength, 1) := by decide +kernel
theorem dX14_isSameRow_52 : decode cX14_isSameRow 52 = .ok (.if_icmp .ne 7, 3) := by decide +kernel
theorem dX14_isSameRow_55 : decode cX14_isSameRow 55 = .ok (.iconst 1, 1) := by decide +kernel
theorem dX14_isSameRow_56 : decode cX14_isSameRow 56 = .ok (.goto 4, 3) := by decide +kernel
theorem dX14_isSameRow_59 : decode cX14_isSameRow 59 = .ok (.iconst 0, 1) := by decide +kernel
theorem dX14_isSameRow_60 : decode cX14_isSameRow 60 = .ok (.ireturn, 1) := by decide +kernel
theorem dJx00060_init_a7421_0 : decode cJx00060_init_a7421 0 = .ok (.aload_n 0, 1) := by decide +kernel
theorem dJx00060_init_a7421_1 : decode cJx00060_init_a7421 1 = .ok (.aload_n 1, 1) := by decide +kernel
theorem dJx00060_init_a7421_2 : decode cJx00060_init_a7421 2 = .ok (.invokespecial 7, 3) := by decide +kernel
theorem dJx00060_init_a7421_5 : decode cJx00060_init_a7421 5 = .ok (.return_, 1) := by decide +kernel
theorem dJ6_getChars_ba4f3_0 : decode cJ6_getChars_ba4f3 0 = .ok (.iload_n 1, 1) := by decide +kernel
theorem dJ6_getChars_ba4f3_1 : decode cJ6_getChars_ba4f3 1 = .ok (.istore 5, 2) := by decide +kernel
theorem dJ6_getChars_ba4f3_3 : decode cJ6_getChars_ba4f3 3 = .ok (.iload_n 0, 1) := by decide +kernel
theorem dJ6_getChars_ba4f3_4 : decode cJ6_getChars_ba4f3 4 = .ok (.ifCond .ge 7, 3) := by decide +kernel
theorem dJ6_getChars_ba4f3_7 : decode cJ6_getChars_ba4f3 7 = .ok (.iconst 1, 1) := by decide +kernel
theorem dJ6_getChars_ba4f3_8 : decode cJ6_getChars_ba4f3 8 = .ok (.goto 4, 3) := by decide +kernel
theorem dJ6_getChars_ba4f3_11 : decode cJ6_getChars_ba4f3 11 = .ok (.iconst 0, 1) := by decide +kernel
theorem dJ6_getChars_ba4f3_12 : decode cJ6_getChars_ba4f3 12 = .ok (.istore 6, 2) := by decide +kernel
theorem dJ6_getChars_ba4f3_14 : decode cJ6_getChars_ba4f3 14 = .ok (.iload 6, 2) := by decide +kernel
theorem dJ6_getChars_ba4f3_16 : decode cJ6_getChars_ba4f3 16 = .ok (.ifCond .ne 6, 3) := by decide +kernel
theorem dJ6_getChars_ba4f3_19 : decode cJ6_getChars_ba4f3 19 = .ok (.iload_n 0, 1) := by decide +kernel
theorem dJ6_getChars_ba4f3_20 : decode cJ6_getChars_ba4f3 20 = .ok (.ineg, 1) := by decide +kernel
theorem dJ6_getChars_ba4f3_21 : decode cJ6_getChars_ba4f3 21 = .ok (.istore_n 0, 1) := by decide +kernel
theorem dJ6_getChars_ba4f3_22 : decode cJ6_getChars_ba4f3 22 = .ok (.iload_n 0, 1) := by decide +kernel
theorem dJ6_getChars_ba4f3_23 : decode cJ6_getChars_ba4f3 23 = .ok (.bipush (-100), 2) := by decide +kernel
theorem dJ6_getChars_ba4f3_25 : decode cJ6_getChars_ba4f3 25 = .ok (.if_icmp .gt 47, 3) := by decide +kernel
theorem dJ6_getChars_ba4f3_28 : decode cJ6_getChars_ba4f3 28 = .ok (.iload_n 0, 1) := by decide +kernel
theorem dJ6_getChars_ba4f3_29 : decode cJ6_getChars_ba4f3 29 = .ok (.bipush 100, 2) := by decide +kernel
theorem dJ6_getChars_ba4f3_31 : decode cJ6_getChars_ba4f3 31 = .ok (.idiv, 1) := by decide +kernel
theorem dJ6_getChars_ba4f3_32 : decode cJ6_getChars_ba4f3 32 = .ok (.istore_n 3, 1) := by decide +kernel
theorem dJ6_getChars_ba4f3_33 : decode cJ6_getChars_ba4f3 33 = .ok (.iload_n 3, 1) := by decide +kernel
theorem dJ6_getChars_ba4f3_34 : decode cJ6_getChars_ba4f3 34 = .ok (.bipush 100, 2) := by decide +kernel
theorem dJ6_getChars_ba4f3_36 : decode cJ6_getChars_ba4f3 36 = .ok (.imul, 1) := by decide +kernel
theorem dJ6_getChars_ba4f3_37 : decode cJ6_getChars_ba4f3 37 = .ok (.iload_n 0, 1) := by decide +kernel
theorem dJ6_getChars_ba4f3_38 : decode cJ6_getChars_ba4f3 38 = .ok (.isub, 1) := by decide +kernel
theorem dJ6_getChars_ba4f3_39 : decode cJ6_getChars_ba4f3 39 = .ok (.istore 4, 2) := by decide +kernel
theorem dJ6_getChars_ba4f3_41 : decode cJ6_getChars_ba4f3 41 = .ok (.iload_n 3, 1) := by decide +kernel
theorem dJ6_getChars_ba4f3_42 : decode cJ6_getChars_ba4f3 42 = .ok (.istore_n 0, 1) := by decide +kernel
theorem dJ6_getChars_ba4f3_43 : decode cJ6_getChars_ba4f3 43 = .ok (.aload_n 2, 1) := by decide +kernel
theorem dJ6_getChars_ba4f3_44 : decode cJ6_getChars_ba4f3 44 = .ok (.iinc 5 (-1), 3) := by decide +kernel
theorem dJ6_getChars_ba4f3_47 : decode cJ6_getChars_ba4f3 47 = .ok (.iload 5, 2) := by decide +kernel
theorem dJ6_getChars_ba4f3_49 : decode cJ6_getChars_ba4f3 49 = .ok (.getstatic 83, 3) := by decide +kernel
theorem dJ6_getChars_ba4f3_52 : decode cJ6_getChars_ba4f3 52 = .ok (.iload 4, 2) := by decide +kernel
theorem dJ6_getChars_ba4f3_54 : decode cJ6_getChars_ba4f3 54 = .ok (.baload, 1) := by decide +kernel
theorem dJ6_getChars_ba4f3_55 : decode cJ6_getChars_ba4f3 55 = .ok (.bastore, 1) := by decide +kernel
theorem dJ6_getChars_ba4f3_56 : decode cJ6_getChars_ba4f3 56 = .ok (.aload_n 2, 1) := by decide +kernel
theorem dJ6_getChars_ba4f3_57 : decode cJ6_getChars_ba4f3 57 = .ok (.iinc 5 (-1), 3) := by decide +kernel
theorem dJ6_getChars_ba4f3_60 : decode cJ6_getChars_ba4f3 60 = .ok (.iload 5, 2) := by decide +kernel
theorem dJ6_getChars_ba4f3_62 : decode cJ6_getChars_ba4f3 62 = .ok (.getstatic 87, 3) := by decide +kernel
theorem dJ6_getChars_ba4f3_65 : decode cJ6_getChars_ba4f3 65 = .ok (.iload 4, 2) := by decide +kernel
theorem dJ6_getChars_ba4f3_67 : decode cJ6_getChars_ba4f3 67 = .ok (.baload, 1) := by decide +kernel
theorem dJ6_getChars_ba4f3_68 : decode cJ6_getChars_ba4f3 68 = .ok (.bastore, 1) := by decide +kernel
theorem dJ6_getChars_ba4f3_69 : decode cJ6_getChars_ba4f3 69 = .ok (.goto (-47), 3) := by decide +kernel
theorem dJ6_getChars_ba4f3_72 : decode cJ6_getChars_ba4f3 72 = .ok (.aload_n 2, 1) := by decide +kernel
theorem dJ6_getChars_ba4f3_73 : decode cJ6_getChars_ba4f3 73 = .ok (.iinc 5 (-1), 3) := by decide +kernel
theorem dJ6_getChars_ba4f3_76 : decode cJ6_getChars_ba4f3 76 = .ok (.iload 5, 2) := by decide +kernel
theorem dJ6_getChars_ba4f3_78 : decode cJ6_getChars_ba4f3 78 = .ok (.getstatic 83, 3) := by decide +kernel
theorem dJ6_getChars_ba4f3_81 : decode cJ6_getChars_ba4f3 81 = .ok (.iload_n 0, 1) := by decide +kernel
theorem dJ6_getChars_ba4f3_82 : decode cJ6_getChars_ba4f3 82 = .ok (.ineg, 1) := by decide +kernel
theorem dJ6_getChars_ba4f3_83 : decode cJ6_getChars_ba4f3 83 = .ok (.baload, 1) := by decide +kernel
theorem dJ6_getChars_ba4f3_84 : decode cJ6_getChars_ba4f3 84 = .ok (.bastore, 1) := by decide +kernel
theorem dJ6_getChars_ba4f3_85 : decode cJ6_getChars_ba4f3 85 = .ok (.iload_n 0, 1) := by decide +kernel
theorem dJ6_getChars_ba4f3_86 : decode cJ6_getChars_ba4f3 86 = .ok (.bipush (-9), 2) := by decide +kernel
theorem dJ6_getChars_ba4f3_88 : decode cJ6_getChars_ba4f3 88 = .ok (.if_icmp .ge 16, 3) := by decide +kernel
theorem dJ6_getChars_ba4f3_91 : decode cJ6_getChars_ba4f3 91 = .ok (.aload_n 2, 1) := by decide +kernel
theorem dJ6_getChars_ba4f3_92 : decode cJ6_getChars_ba4f3 92 = .ok (.iinc 5 (-1), 3) := by decide +kernel
theorem dJ6_getChars_ba4f3_95 : decode cJ6_getChars_ba4f3 95 = .ok (.iload 5, 2) := by decide +kernel
theorem dJ6_getChars_ba4f3_97 : decode cJ6_getChars_ba4f3 97 = .ok (.getstatic 87, 3) := by decide +kernel
theorem dJ6_getChars_ba4f3_100 : decode cJ6_getChars_ba4f3 100 = .ok (.iload_n 0, 1) := by decide +kernel
theorem dJ6_getChars_ba4f3_101 : decode cJ6_getChars_ba4f3 101 = .ok (.ineg, 1) := by decide +kernel
theorem dJ6_getChars_ba4f3_102 : decode cJ6_getChars_ba4f3 102 = .ok (.baload, 1) := by decide +kernel
theorem dJ6_getChars_ba4f3_103 : decode cJ6_getChars_ba4f3 103 = .ok (.bastore, 1) := by decide +kernel
theorem dJ6_getChars_ba4f3_104 : decode cJ6_getChars_ba4f3 104 = .ok (.iload 6, 2) := by decide +kernel
theorem dJ6_getChars_ba4f3_106 : decode cJ6_getChars_ba4f3 106 = .ok (.ifCond .eq 12, 3) := by decide +kernel
theorem dJ6_getChars_ba4f3_109 : decode cJ6_getChars_ba4f3 109 = .ok (.aload_n 2, 1) := by decide +kernel
theorem dJ6_getChars_ba4f3_110 : decode cJ6_getChars_ba4f3 110 = .ok (.iinc 5 (-1), 3) := by decide +kernel
theorem dJ6_getChars_ba4f3_113 : decode cJ6_getChars_ba4f3 113 = .ok (.iload 5, 2) := by decide +kernel
theorem dJ6_getChars_ba4f3_115 : decode cJ6_getChars_ba4f3 115 = .ok (.bipush 45, 2) := by decide +kernel
theorem dJ6_getChars_ba4f3_117 : decode cJ6_getChars_ba4f3 117 = .ok (.bastore, 1) := by decide +kernel
theorem dJ6_getChars_ba4f3_118 : decode cJ6_getChars_ba4f3 118 = .ok (.iload 5, 2) := by decide +kernel
theorem dJ6_getChars_ba4f3_120 : decode cJ6_getChars_ba4f3 120 = .ok (.ireturn, 1) := by decide +kernel
theorem dJ6_stringSize_0f7a4_0 : decode cJ6_stringSize_0f7a4 0 = .ok (.iconst 1, 1) := by decide +kernel
theorem dJ6_stringSize_0f7a4_1 : decode cJ6_stringSize_0f7a4 1 = .ok (.istore_n 1, 1) := by decide +kernel
theorem dJ6_stringSize_0f7a4_2 : decode cJ6_stringSize_0f7a4 2 = .ok (.iload_n 0, 1) := by decide +kernel
theorem dJ6_stringSize_0f7a4_3 : decode cJ6_stringSize_0f7a4 3 = .ok (.ifCond .lt 8, 3) := by decide +kernel
theorem dJ6_stringSize_0f7a4_6 : decode cJ6_stringSize_0f7a4 6 = .ok (.iconst 0, 1) := by decide +kernel
theorem dJ6_stringSize_0f7a4_7 : decode cJ6_stringSize_0f7a4 7 = .ok (.istore_n 1, 1) := by decide +kernel
theorem dJ6_stringSize_0f7a4_8 : decode cJ6_stringSize_0f7a4 8 = .ok (.iload_n 0, 1) := by decide +kernel
theorem dJ6_stringSize_0f7a4_9 : decode cJ6_stringSize_0f7a4 9 = .ok (.ineg, 1) := by decide +kernel
theorem dJ6_stringSize_0f7a4_10 : decode cJ6_stringSize_0f7a4 10 = .ok (.istore_n 0, 1) := by decide +kernel
theorem dJ6_stringSize_0f7a4_11 : decode cJ6_stringSize_0f7a4 11 = .ok (.bipush (-10), 2) := by decide +kernel
theorem dJ6_stringSize_0f7a4_13 : decode cJ6_stringSize_0f7a4 13 = .ok (.istore_n 2, 1) := by decide +kernel
theorem dJ6_stringSize_0f7a4_14 : decode cJ6_stringSize_0f7a4 14 = .ok (.iconst 1, 1) := by decide +kernel
theorem dJ6_stringSize_0f7a4_15 : decode cJ6_stringSize_0f7a4 15 = .ok (.istore_n 3, 1) := by decide +kernel
theorem dJ6_stringSize_0f7a4_16 : decode cJ6_stringSize_0f7a4 16 = .ok (.iload_n 3, 1) := by decide +kernel
theorem dJ6_stringSize_0f7a4_17 : decode cJ6_stringSize_0f7a4 17 = .ok (.bipush 10, 2) := by decide +kernel
theorem dJ6_stringSize_0f7a4_19 : decode cJ6_stringSize_0f7a4 19 = .ok (.if_icmp .ge 23, 3) := by decide +kernel
theorem dJ6_stringSize_0f7a4_22 : decode cJ6_stringSize_0f7a4 22 = .ok (.iload_n 0, 1) := by decide +kernel
theorem dJ6_stringSize_0f7a4_23 : decode cJ6_stringSize_0f7a4 23 = .ok (.iload_n 2, 1) := by decide +kernel
theorem dJ6_stringSize_0f7a4_24 : decode cJ6_stringSize_0f7a4 24 = .ok (.if_icmp .le 7, 3) := by decide +kernel
theorem dJ6_stringSize_0f7a4_27 : decode cJ6_stringSize_0f7a4 27 = .ok (.iload_n 3, 1) := by decide +kernel
theorem dJ6_stringSize_0f7a4_28 : decode cJ6_stringSize_0f7a4 28 = .ok (.iload_n 1, 1) := by decide +kernel
theorem dJ6_stringSize_0f7a4_29 : decode cJ6_stringSize_0f7a4 29 = .ok (.iadd, 1) := by decide +kernel
theorem dJ6_stringSize_0f7a4_30 : decode cJ6_stringSize_0f7a4 30 = .ok (.ireturn, 1) := by decide +kernel
theorem dJ6_stringSize_0f7a4_31 : decode cJ6_stringSize_0f7a4 31 = .ok (.bipush 10, 2) := by decide +kernel
theorem dJ6_stringSize_0f7a4_33 : decode cJ6_stringSize_0f7a4 33 = .ok (.iload_n 2, 1) := by decide +kernel
theorem dJ6_stringSize_0f7a4_34 : decode cJ6_stringSize_0f7a4 34 = .ok (.imul, 1) := by decide +kernel
theorem dJ6_stringSize_0f7a4_35 : decode cJ6_stringSize_0f7a4 35 = .ok (.istore_n 2, 1) := by decide +kernel
theorem dJ6_stringSize_0f7a4_36 : decode cJ6_stringSize_0f7a4 36 = .ok (.iinc 3 1, 3) := by decide +kernel
theorem dJ6_stringSize_0f7a4_39 : decode cJ6_stringSize_0f7a4 39 = .ok (.goto (-23), 3) := by decide +kernel
theorem dJ6_stringSize_0f7a4_42 : decode cJ6_stringSize_0f7a4 42 = .ok (.bipush 10, 2) := by decide +kernel
theorem dJ6_stringSize_0f7a4_44 : decode cJ6_stringSize_0f7a4 44 = .ok (.iload_n 1, 1) := by decide +kernel
theorem dJ6_stringSize_0f7a4_45 : decode cJ6_stringSize_0f7a4 45 = .ok (.iadd, 1) := by decide +kernel
theorem dJ6_stringSize_0f7a4_46 : decode cJ6_stringSize_0f7a4 46 = .ok (.ireturn, 1) := by decide +kernel
set_option maxRecDepth 20000 in
theorem ggJ6_valueOf_2dffe_J6_init_d00df : GoodIn wsJ6_valueOf_2dffe wsJ6_init_d00df := goodIn_r _ [8, 9, 10, 11, 12, 13, 14, 15, 16, 17] (by decide +kernel) (by decide +kernel)
set_option maxRecDepth 20000 in
theorem gJ6_valueOf_2dffe_J6_init_d00df : GoodIn wsJ6_valueOf_2dffe (wsJ6_init_d00df) := ggJ6_valueOf_2dffe_J6_init_d00df
theorem dJ6_valueOf_2dffe_0 : decode cJ6_valueOf_2dffe 0 = .ok (.iload_n 0, 1) := by decide +kernel
theorem dJ6_valueOf_2dffe_1 : decode cJ6_valueOf_2dffe 1 = .ok (.bipush (-128), 2) := by decide +kernel
theorem dJ6_valueOf_2dffe_3 : decode cJ6_valueOf_2dffe 3 = .ok (.if_icmp .lt 20, 3) := by decide +kernel
theorem dJ6_valueOf_2dffe_6 : decode cJ6_valueOf_2dffe 6 = .ok (.iload_n 0, 1) := by decide +kernel
theorem dJ6_valueOf_2dffe_7 : decode cJ6_valueOf_2dffe 7 = .ok (.getstatic 191, 3) := by decide +kernel
theorem dJ6_valueOf_2dffe_10 : decode cJ6_valueOf_2dffe 10 = .ok (.if_icmp .gt 13, 3) := by decide +kernel
theorem dJ6_valueOf_2dffe_13 : decode cJ6_valueOf_2dffe 13 = .ok (.getstatic 195, 3) := by decide +kernel
theorem dJ6_valueOf_2dffe_16 : decode cJ6_valueOf_2dffe 16 = .ok (.iload_n 0, 1) := by decide +kernel
theorem dJ6_valueOf_2dffe_17 : decode cJ6_valueOf_2dffe 17 = .ok (.sipush 128, 3) := by decide +kernel
theorem dJ6_valueOf_2dffe_20 : decode cJ6_valueOf_2dffe 20 = .ok (.iadd, 1) := by decide +kernel
theorem dJ6_valueOf_2dffe_21 : decode cJ6_valueOf_2dffe 21 = .ok (.aaload, 1) := by decide +kernel
theorem dJ6_valueOf_2dffe_22 : decode cJ6_valueOf_2dffe 22 = .ok (.areturn, 1) := by decide +kernel
theorem dJ6_valueOf_2dffe_23 : decode cJ6_valueOf_2dffe 23 = .ok (.new 1, 3) := by decide +kernel
theorem dJ6_valueOf_2dffe_26 : decode cJ6_valueOf_2dffe 26 = .ok (.dup, 1) := by decide +kernel
theorem dJ6_valueOf_2dffe_27 : decode cJ6_valueOf_2dffe 27 = .ok (.iload_n 0, 1) := by decide +kernel
theorem dJ6_valueOf_2dffe_28 : decode cJ6_valueOf_2dffe 28 = .ok (.invokespecial 199, 3) := by decide +kernel
theorem dJ6_valueOf_2dffe_31 : decode cJ6_valueOf_2dffe 31 = .ok (.areturn, 1) := by decide +kernel
set_option maxRecDepth 20000 in
theorem ggJ6_init_d00df_Jxd2413_init_da8c8 : GoodIn wsJ6_init_d00df wsJxd2413_init_da8c8 := goodIn_r _ [5, 6, 7, 8] (by decide +kernel) (by decide +kernel)
set_option maxRecDepth 20000 in
theorem gJ6_init_d00df_Jxd2413_init_da8c8 : GoodIn wsJ6_init_d00df (wsJxd2413_init_da8c8) := ggJ6_init_d00df_Jxd2413_init_da8c8
theorem dJ6_init_d00df_0 : decode cJ6_init_d00df 0 = .ok (.aload_n 0, 1) := by decide +kernel
theorem dJ6_init_d00df_1 : decode cJ6_init_d00df 1 = .ok (.invokespecial 202, 3) := by decide +kernel
theorem dJ6_init_d00df_4 : decode cJ6_init_d00df 4 = .ok (.aload_n 0, 1) := by decide +kernel
theorem dJ6_init_d00df_5 : decode cJ6_init_d00df 5 = .ok (.iload_n 1, 1) := by decide +kernel
theorem dJ6_init_d00df_6 : decode cJ6_init_d00df 6 = .ok (.putfield 205, 3) := by decide +kernel
theorem dJ6_init_d00df_9 : decode cJ6_init_d00df 9 = .ok (.return_, 1) := by decide +kernel
theorem dJ6_intValue_8abf5_0 : decode cJ6_intValue_8abf5 0 = .ok (.aload_n 0, 1) := by decide +kernel
theorem dJ6_intValue_8abf5_1 : decode cJ6_intValue_8abf5 1 = .ok (.getfield 205, 3) := by decide +kernel
theorem dJ6_intValue_8abf5_4 : decode cJ6_intValue_8abf5 4 = .ok (.ireturn, 1) := by decide +kernel
set_option maxRecDepth 20000 in
theorem ggJ6_hashCode_8abf5_J6_hashCode_0f7a4 : GoodIn wsJ6_hashCode_8abf5 wsJ6_hashCode_0f7a4 := goodIn_r _ [5] (by decide +kernel) (by decide +kernel)
set_option maxRecDepth 20000 in
theorem gJ6_hashCode_8abf5_J6_hashCode_0f7a4 : GoodIn wsJ6_hashCode_8abf5 (va_wsS RJ6 208 yJ6_hashCode_0f7a4 wsJ6_hashCode_0f7a4) := goodIn_app (goodIn_of _ (by decide +kernel)) ggJ6_hashCode_8abf5_J6_hashCode_0f7a4
theorem dJ6_hashCode_8abf5_0 : decode cJ6_hashCode_8abf5 0 = .ok (.aload_n 0, 1) := by decide +kernel
theorem dJ6_hashCode_8abf5_1 : decode cJ6_hashCode_8abf5 1 = .ok (.getfield 205, 3) := by decide +kernel
theorem dJ6_hashCode_8abf5_4 : decode cJ6_hashCode_8abf5 4 = .ok (.invokestatic 208, 3) := by decide +kernel
theorem dJ6_hashCode_8abf5_7 : decode cJ6_hashCode_8abf5 7 = .ok (.ireturn, 1) := by decide +kernel
theorem dJ6_hashCode_0f7a4_0 : decode cJ6_hashCode_0f7a4 0 = .ok (.iload_n 0, 1) := by decide +kernel
theorem dJ6_hashCode_0f7a4_1 : decode cJ6_hashCode_0f7a4 1 = .ok (.ireturn, 1) := by decide +kernel
set_option maxRecDepth 20000 in
theorem ggJ6_equals_9ea2d_J6_intValue_8abf5 : GoodIn wsJ6_equals_9ea2d wsJ6_intValue_8abf5 := goodIn_r _ [7, 2, 8] (by decide +kernel) (by decide +kernel)
set_option maxRecDepth 20000 in
theorem gJ6_equals_9ea2d_J6_intValue_8abf5 : GoodIn wsJ6_equals_9ea2d (wsV RJ6 211 RJ6 yJ6_intValue_8abf5 wsJ6_intValue_8abf5) := goodIn_app (goodIn_of _ (by decide +kernel)) ggJ6_equals_9ea2d_J6_intValue_8abf5
theorem dJ6_equals_9ea2d_0 : decode cJ6_equals_9ea2d 0 = .ok (.aload_n 1, 1) := by decide +kernel
theorem dJ6_equals_9ea2d_1 : decode cJ6_equals_9ea2d 1 = .ok (.instanceof 1, 3) := by decide +kernel
theorem dJ6_equals_9ea2d_4 : decode cJ6_equals_9ea2d 4 = .ok (.ifCond .eq 23, 3) := by decide +kernel
theorem dJ6_equals_9ea2d_7 : decode cJ6_equals_9ea2d 7 = .ok (.aload_n 0, 1) := by decide +kernel
theorem dJ6_equals_9ea2d_8 : decode cJ6_equals_9ea2d 8 = .ok (.getfield 205, 3) := by decide +kernel
theorem dJ6_equals_9ea2d_11 : decode cJ6_equals_9ea2d 11 = .ok (.aload_n 1, 1) := by decide +kernel
theorem dJ6_equals_9ea2d_12 : decode cJ6_equals_9ea2d 12 = .ok (.checkcast 1, 3) := by decide +kernel
theorem dJ6_equals_9ea2d_15 : decode cJ6_equals_9ea2d 15 = .ok (.invokevirtual 211, 3) := by decide +kernel
theorem dJ6_equals_9ea2d_18 : decode cJ6_equals_9ea2d 18 = .ok (.if_icmp .ne 7, 3) := by decide +kernel
theorem dJ6_equals_9ea2d_21 : decode cJ6_equals_9ea2d 21 = .ok (.iconst 1, 1) := by decide +kernel
theorem dJ6_equals_9ea2d_22 : decode cJ6_equals_9ea2d 22 = .ok (.goto 4, 3) := by decide +kernel
theorem dJ6_equals_9ea2d_25 : decode cJ6_equals_9ea2d 25 = .ok (.iconst 0, 1) := by decide +kernel
theorem dJ6_equals_9ea2d_26 : decode cJ6_equals_9ea2d 26 = .ok (.ireturn, 1) := by decide +kernel
theorem dJ6_equals_9ea2d_27 : decode cJ6_equals_9ea2d 27 = .ok (.iconst 0, 1) := by decide +kernel
theorem dJ6_equals_9ea2d_28 : decode cJ6_equals_9ea2d 28 = .ok (.ireturn, 1) := by decide +kernel
set_option maxRecDepth 20000 in
theorem ggJ6_compareTo_e8194_J6_compare_7cf53 : GoodIn wsJ6_compareTo_e8194 wsJ6_compare_7cf53 := goodIn_r _ [5] (by decide +kernel) (by decide +kernel)
set_option maxRecDepth 20000 in
theorem gJ6_compareTo_e8194_J6_compare_7cf53 : GoodIn wsJ6_compareTo_e8194 (va_wsS RJ6 259 yJ6_compare_7cf53 wsJ6_compare_7cf53) := goodIn_app (goodIn_of _ (by decide +kernel)) ggJ6_compareTo_e8194_J6_compare_7cf53
theorem dJ6_compareTo_e8194_0 : decode cJ6_compareTo_e8194 0 = .ok (.aload_n 0, 1) := by decide +kernel
theorem dJ6_compareTo_e8194_1 : decode cJ6_compareTo_e8194 1 = .ok (.getfield 205, 3) := by decide +kernel
theorem dJ6_compareTo_e8194_4 : decode cJ6_compareTo_e8194 4 = .ok (.aload_n 1, 1) := by decide +kernel
theorem dJ6_compareTo_e8194_5 : decode cJ6_compareTo_e8194 5 = .ok (.getfield 205, 3) := by decide +kernel
theorem dJ6_compareTo_e8194_8 : decode cJ6_compareTo_e8194 8 = .ok (.invokestatic 259, 3) := by decide +kernel
theorem dJ6_compareTo_e8194_11 : decode cJ6_compareTo_e8194 11 = .ok (.ireturn, 1) := by decide +kernel
theorem dJ6_compare_7cf53_0 : decode cJ6_compare_7cf53 0 = .ok (.iload_n 0, 1) := by decide +kernel
theorem dJ6_compare_7cf53_1 : decode cJ6_compare_7cf53 1 = .ok (.iload_n 1, 1) := by decide +kernel
theorem dJ6_compare_7cf53_2 : decode cJ6_compare_7cf53 2 = .ok (.if_icmp .ge 7, 3) := by decide +kernel
theorem dJ6_compare_7cf53_5 : decode cJ6_compare_7cf53 5 = .ok (.iconst (-1), 1) := by decide +kernel
theorem dJ6_compare_7cf53_6 : decode cJ6_compare_7cf53 6 = .ok (.goto 13, 3) := by decide +kernel
theorem dJ6_compare_7cf53_9 : decode cJ6_compare_7cf53 9 = .ok (.iload_n 0, 1) := by decide +kernel
theorem dJ6_compare_7cf53_10 : decode cJ6_compare_7cf53 10 = .ok (.iload_n 1, 1) := by decide +kernel
theorem dJ6_compare_7cf53_11 : decode cJ6_compare_7cf53 11 = .ok (.if_icmp .ne 7, 3) := by decide +kernel
theorem dJ6_compare_7cf53_14 : decode cJ6_compare_7cf53 14 = .ok (.iconst 0, 1) := by decide +kernel
theorem dJ6_compare_7cf53_15 : decode cJ6_compare_7cf53 15 = .ok (.goto 4, 3) := by decide +kernel
theorem dJ6_compare_7cf53_18 : decode cJ6_compare_7cf53 18 = .ok (.iconst 1, 1) := by decide +kernel
theorem dJ6_compare_7cf53_19 : decode cJ6_compare_7cf53 19 = .ok (.ireturn, 1) := by decide +kernel
theorem dJ6_numberOfLeadingZeros_0f7a4_0 : decode cJ6_numberOfLeadingZeros_0f7a4 0 = .ok (.iload_n 0, 1) := by decide +kernel
theorem dJ6_numberOfLeadingZeros_0f7a4_1 : decode cJ6_numberOfLeadingZeros_0f7a4 1 = .ok (.ifCond .gt 14, 3) := by decide +kernel
theorem dJ6_numberOfLeadingZeros_0f7a4_4 : decode cJ6_numberOfLeadingZeros_0f7a4 4 = .ok (.iload_n 0, 1) := by decide +kernel
theorem dJ6_numberOfLeadingZeros_0f7a4_5 : decode cJ6_numberOfLeadingZeros_0f7a4 5 = .ok (.ifCond .ne 8, 3) := by decide +kernel
theorem dJ6_numberOfLeadingZeros_0f7a4_8 : decode cJ6_numberOfLeadingZeros_0f7a4 8 = .ok (.bipush 32, 2) := by decide +kernel
theorem dJ6_numberOfLeadingZeros_0f7a4_10 : decode cJ6_numberOfLeadingZeros_0f7a4 10 = .ok (.goto 4, 3) := by decide +kernel
theorem dJ6_numberOfLeadingZeros_0f7a4_13 : decode cJ6_numberOfLeadingZeros_0f7a4 13 = .ok (.iconst 0, 1) := by decide +kernel
theorem dJ6_numberOfLeadingZeros_0f7a4_14 : decode cJ6_numberOfLeadingZeros_0f7a4 14 = .ok (.ireturn, 1) := by decide +kernel
theorem dJ6_numberOfLeadingZeros_0f7a4_15 : decode cJ6_numberOfLeadingZeros_0f7a4 15 = .ok (.bipush 31, 2) := by decide +kernel
theorem dJ6_numberOfLeadingZeros_0f7a4_17 : decode cJ6_numberOfLeadingZeros_0f7a4 17 = .ok (.istore_n 1, 1) := by decide +kernel
theorem dJ6_numberOfLeadingZeros_0f7a4_18 : decode cJ6_numberOfLeadingZeros_0f7a4 18 = .ok (.iload_n 0, 1) := by decide +kernel
theorem dJ6_numberOfLeadingZeros_0f7a4_19 : decode cJ6_numberOfLeadingZeros_0f7a4 19 = .ok (.ldc_w 264, 3) := by decide +kernel
theorem dJ6_numberOfLeadingZeros_0f7a4_22 : decode cJ6_numberOfLeadingZeros_0f7a4 22 = .ok (.if_icmp .lt 11, 3) := by decide +kernel
theorem dJ6_numberOfLeadingZeros_0f7a4_25 : decode cJ6_numberOfLeadingZeros_0f7a4 25 = .ok (.iinc 1 (-16), 3) := by decide +kernel
theorem dJ6_numberOfLeadingZeros_0f7a4_28 : decode cJ6_numberOfLeadingZeros_0f7a4 28 = .ok (.iload_n 0, 1) := by decide +kernel
theorem dJ6_numberOfLeadingZeros_0f7a4_29 : decode cJ6_numberOfLeadingZeros_0f7a4 29 = .ok (.bipush 16, 2) := by decide +kernel
theorem dJ6_numberOfLeadingZeros_0f7a4_31 : decode cJ6_numberOfLeadingZeros_0f7a4 31 = .ok (.iushr, 1) := by decide +kernel
theorem dJ6_numberOfLeadingZeros_0f7a4_32 : decode cJ6_numberOfLeadingZeros_0f7a4 32 = .ok (.istore_n 0, 1) := by decide +kernel
theorem dJ6_numberOfLeadingZeros_0f7a4_33 : decode cJ6_numberOfLeadingZeros_0f7a4 33 = .ok (.iload_n 0, 1) := by decide +kernel
theorem dJ6_numberOfLeadingZeros_0f7a4_34 : decode cJ6_numberOfLeadingZeros_0f7a4 34 = .ok (.sipush 256, 3) := by decide +kernel
theorem dJ6_numberOfLeadingZeros_0f7a4_37 : decode cJ6_numberOfLeadingZeros_0f7a4 37 = .ok (.if_icmp .lt 11, 3) := by decide +kernel
theorem dJ6_numberOfLeadingZeros_0f7a4_40 : decode cJ6_numberOfLeadingZeros_0f7a4 40 = .ok (.iinc 1 (-8), 3) := by decide +kernel
theorem dJ6_numberOfLeadingZeros_0f7a4_43 : decode cJ6_numberOfLeadingZeros_0f7a4 43 = .ok (.iload_n 0, 1) := by decide +kernel
theorem dJ6_numberOfLeadingZeros_0f7a4_44 : decode cJ6_numberOfLeadingZeros_0f7a4 44 = .ok (.bipush 8, 2) := by decide +kernel
theorem dJ6_numberOfLeadingZeros_0f7a4_46 : decode cJ6_numberOfLeadingZeros_0f7a4 46 = .ok (.iushr, 1) := by decide +kernel
theorem dJ6_numberOfLeadingZeros_0f7a4_47 : decode cJ6_numberOfLeadingZeros_0f7a4 47 = .ok (.istore_n 0, 1) := by decide +kernel
theorem dJ6_numberOfLeadingZeros_0f7a4_48 : decode cJ6_numberOfLeadingZeros_0f7a4 48 = .ok (.iload_n 0, 1) := by decide +kernel
theorem dJ6_numberOfLeadingZeros_0f7a4_49 : decode cJ6_numberOfLeadingZeros_0f7a4 49 = .ok (.bipush 16, 2) := by decide +kernel
theorem dJ6_numberOfLeadingZeros_0f7a4_51 : decode cJ6_numberOfLeadingZeros_0f7a4 51 = .ok (.if_icmp .lt 10, 3) := by decide +kernel
theorem dJ6_numberOfLeadingZeros_0f7a4_54 : decode cJ6_numberOfLeadingZeros_0f7a4 54 = .ok (.iinc 1 (-4), 3) := by decide +kernel
theorem dJ6_numberOfLeadingZeros_0f7a4_57 : decode cJ6_numberOfLeadingZeros_0f7a4 57 = .ok (.iload_n 0, 1) := by decide +kernel
theorem dJ6_numberOfLeadingZeros_0f7a4_58 : decode cJ6_numberOfLeadingZeros_0f7a4 58 = .ok (.iconst 4, 1) := by decide +kernel
theorem dJ6_numberOfLeadingZeros_0f7a4_59 : decode cJ6_numberOfLeadingZeros_0f7a4 59 = .ok (.iushr, 1) := by decide +kernel
theorem dJ6_numberOfLeadingZeros_0f7a4_60 : decode cJ6_numberOfLeadingZeros_0f7a4 60 = .ok (.istore_n 0, 1) := by decide +kernel
theorem dJ6_numberOfLeadingZeros_0f7a4_61 : decode cJ6_numberOfLeadingZeros_0f7a4 61 = .ok (.iload_n 0, 1) := by decide +kernel
theorem dJ6_numberOfLeadingZeros_0f7a4_62 : decode cJ6_numberOfLeadingZeros_0f7a4 62 = .ok (.iconst 4, 1) := by decide +kernel
theorem dJ6_numberOfLeadingZeros_0f7a4_63 : decode cJ6_numberOfLeadingZeros_0f7a4 63 = .ok (.if_icmp .lt 10, 3) := by decide +kernel
theorem dJ6_numberOfLeadingZeros_0f7a4_66 : decode cJ6_numberOfLeadingZeros_0f7a4 66 = .ok (.iinc 1 (-2), 3) := by decide +kernel
theorem dJ6_numberOfLeadingZeros_0f7a4_69 : decode cJ6_numberOfLeadingZeros_0f7a4 69 = .ok (.iload_n 0, 1) := by decide +kernel
theorem dJ6_numberOfLeadingZeros_0f7a4_70 : decode cJ6_numberOfLeadingZeros_0f7a4 70 = .ok (.iconst 2, 1) := by decide +kernel
theorem dJ6_numberOfLeadingZeros_0f7a4_71 : decode cJ6_numberOfLeadingZeros_0f7a4 71 = .ok (.iushr, 1) := by decide +kernel
theorem dJ6_numberOfLeadingZeros_0f7a4_72 : decode cJ6_numberOfLeadingZeros_0f7a4 72 = .ok (.istore_n 0, 1) := by decide +kernel
theorem dJ6_numberOfLeadingZeros_0f7a4_73 : decode cJ6_numberOfLeadingZeros_0f7a4 73 = .ok (.iload_n 1, 1) := by decide +kernel
theorem dJ6_numberOfLeadingZeros_0f7a4_74 : decode cJ6_numberOfLeadingZeros_0f7a4 74 = .ok (.iload_n 0, 1) := by decide +kernel
theorem dJ6_numberOfLeadingZeros_0f7a4_75 : decode cJ6_numberOfLeadingZeros_0f7a4 75 = .ok (.iconst 1, 1) := by decide +kernel
theorem dJ6_numberOfLeadingZeros_0f7a4_76 : decode cJ6_numberOfLeadingZeros_0f7a4 76 = .ok (.iushr, 1) := by decide +kernel
theorem dJ6_numberOfLeadingZeros_0f7a4_77 : decode cJ6_numberOfLeadingZeros_0f7a4 77 = .ok (.isub, 1) := by decide +kernel
theorem dJ6_numberOfLeadingZeros_0f7a4_78 : decode cJ6_numberOfLeadingZeros_0f7a4 78 = .ok (.ireturn, 1) := by decide +kernel
theorem dJ6_numberOfTrailingZeros_0f7a4_0 : decode cJ6_numberOfTrailingZeros_0f7a4 0 = .ok (.iload_n 0, 1) := by decide +kernel
theorem dJ6_numberOfTrailingZeros_0f7a4_1 : decode cJ6_numberOfTrailingZeros_0f7a4 1 = .ok (.iconst (-1), 1) := by decide +kernel
theorem dJ6_numberOfTrailingZeros_0f7a4_2 : decode cJ6_numberOfTrailingZeros_0f7a4 2 = .ok (.ixor, 1) := by decide +kernel
theorem dJ6_numberOfTrailingZeros_0f7a4_3 : decode cJ6_numberOfTrailingZeros_0f7a4 3 = .ok (.iload_n 0, 1) := by decide +kernel
theorem dJ6_numberOfTrailingZeros_0f7a4_4 : decode cJ6_numberOfTrailingZeros_0f7a4 4 = .ok (.iconst 1, 1) := by decide +kernel
theorem dJ6_numberOfTrailingZeros_0f7a4_5 : decode cJ6_numberOfTrailingZeros_0f7a4 5 = .ok (.isub, 1) := by decide +kernel
theorem dJ6_numberOfTrailingZeros_0f7a4_6 : decode cJ6_numberOfTrailingZeros_0f7a4 6 = .ok (.iand, 1) := by decide +kernel
theorem dJ6_numberOfTrailingZeros_0f7a4_7 : decode cJ6_numberOfTrailingZeros_0f7a4 7 = .ok (.istore_n 0, 1) := by decide +kernel
theorem dJ6_numberOfTrailingZeros_0f7a4_8 : decode cJ6_numberOfTrailingZeros_0f7a4 8 = .ok (.iload_n 0, 1) := by decide +kernel
theorem dJ6_numberOfTrailingZeros_0f7a4_9 : decode cJ6_numberOfTrailingZeros_0f7a4 9 = .ok (.ifCond .gt 8, 3) := by decide +kernel
theorem dJ6_numberOfTrailingZeros_0f7a4_12 : decode cJ6_numberOfTrailingZeros_0f7a4 12 = .ok (.iload_n 0, 1) := by decide +kernel
theorem dJ6_numberOfTrailingZeros_0f7a4_13 : decode cJ6_numberOfTrailingZeros_0f7a4 13 = .ok (.bipush 32, 2) := by decide +kernel
theorem dJ6_numberOfTrailingZeros_0f7a4_15 : decode cJ6_numberOfTrailingZeros_0f7a4 15 = .ok (.iand, 1) := by decide +kernel
theorem dJ6_numberOfTrailingZeros_0f7a4_16 : decode cJ6_numberOfTrailingZeros_0f7a4 16 = .ok (.ireturn, 1) := by decide +kernel
theorem dJ6_numberOfTrailingZeros_0f7a4_17 : decode cJ6_numberOfTrailingZeros_0f7a4 17 = .ok (.iconst 1, 1) := by decide +kernel
theorem dJ6_numberOfTrailingZeros_0f7a4_18 : decode cJ6_numberOfTrailingZeros_0f7a4 18 = .ok (.istore_n 1, 1) := by decide +kernel
theorem dJ6_numberOfTrailingZeros_0f7a4_19 : decode cJ6_numberOfTrailingZeros_0f7a4 19 = .ok (.iload_n 0, 1) := by decide +kernel
theorem dJ6_numberOfTrailingZeros_0f7a4_20 : decode cJ6_numberOfTrailingZeros_0f7a4 20 = .ok (.ldc_w 264, 3) := by decide +kernel
theorem dJ6_numberOfTrailingZeros_0f7a4_23 : decode cJ6_numberOfTrailingZeros_0f7a4 23 = .ok (.if_icmp .le 11, 3) := by decide +kernel
theorem dJ6_numberOfTrailingZeros_0f7a4_26 : decode cJ6_numberOfTrailingZeros_0f7a4 26 = .ok (.iinc 1 16, 3) := by decide +kernel
theorem dJ6_numberOfTrailingZeros_0f7a4_29 : decode cJ6_numberOfTrailingZeros_0f7a4 29 = .ok (.iload_n 0, 1) := by decide +kernel
theorem dJ6_numberOfTrailingZeros_0f7a4_30 : decode cJ6_numberOfTrailingZeros_0f7a4 30 = .ok (.bipush 16, 2) := by decide +kernel
theorem dJ6_numberOfTrailingZeros_0f7a4_32 : decode cJ6_numberOfTrailingZeros_0f7a4 32 = .ok (.iushr, 1) := by decide +kernel
theorem dJ6_numberOfTrailingZeros_0f7a4_33 : decode cJ6_numberOfTrailingZeros_0f7a4 33 = .ok (.istore_n 0, 1) := by decide +kernel
theorem dJ6_numberOfTrailingZeros_0f7a4_34 : decode cJ6_numberOfTrailingZeros_0f7a4 34 = .ok (.iload_n 0, 1) := by decide +kernel
theorem dJ6_numberOfTrailingZeros_0f7a4_35 : decode cJ6_numberOfTrailingZeros_0f7a4 35 = .ok (.sipush 256, 3) := by decide +kernel
theorem dJ6_numberOfTrailingZeros_0f7a4_38 : decode cJ6_numberOfTrailingZeros_0f7a4 38 = .ok (.if_icmp .le 11, 3) := by decide +kernel
theorem dJ6_numberOfTrailingZeros_0f7a4_41 : decode cJ6_numberOfTrailingZeros_0f7a4 41 = .ok (.iinc 1 8, 3) := by decide +kernel
theorem dJ6_numberOfTrailingZeros_0f7a4_44 : decode cJ6_numberOfTrailingZeros_0f7a4 44 = .ok (.iload_n 0, 1) := by decide +kernel
theorem dJ6_numberOfTrailingZeros_0f7a4_45 : decode cJ6_numberOfTrailingZeros_0f7a4 45 = .ok (.bipush 8, 2) := by decide +kernel
theorem dJ6_numberOfTrailingZeros_0f7a4_47 : decode cJ6_numberOfTrailingZeros_0f7a4 47 = .ok (.iushr, 1) := by decide +kernel
theorem dJ6_numberOfTrailingZeros_0f7a4_48 : decode cJ6_numberOfTrailingZeros_0f7a4 48 = .ok (.istore_n 0, 1) := by decide +kernel
theorem dJ6_numberOfTrailingZeros_0f7a4_49 : decode cJ6_numberOfTrailingZeros_0f7a4 49 = .ok (.iload_n 0, 1) := by decide +kernel
theorem dJ6_numberOfTrailingZeros_0f7a4_50 : decode cJ6_numberOfTrailingZeros_0f7a4 50 = .ok (.bipush 16, 2) := by decide +kernel
theorem dJ6_numberOfTrailingZeros_0f7a4_52 : decode cJ6_numberOfTrailingZeros_0f7a4 52 = .ok (.if_icmp .le 10, 3) := by decide +kernel
theorem dJ6_numberOfTrailingZeros_0f7a4_55 : decode cJ6_numberOfTrailingZeros_0f7a4 55 = .ok (.iinc 1 4, 3) := by decide +kernel
theorem dJ6_numberOfTrailingZeros_0f7a4_58 : decode cJ6_numberOfTrailingZeros_0f7a4 58 = .ok (.iload_n 0, 1) := by decide +kernel
theorem dJ6_numberOfTrailingZeros_0f7a4_59 : decode cJ6_numberOfTrailingZeros_0f7a4 59 = .ok (.iconst 4, 1) := by decide +kernel
theorem dJ6_numberOfTrailingZeros_0f7a4_60 : decode cJ6_numberOfTrailingZeros_0f7a4 60 = .ok (.iushr, 1) := by decide +kernel
theorem dJ6_numberOfTrailingZeros_0f7a4_61 : decode cJ6_numberOfTrailingZeros_0f7a4 61 = .ok (.istore_n 0, 1) := by decide +kernel
theorem dJ6_numberOfTrailingZeros_0f7a4_62 : decode cJ6_numberOfTrailingZeros_0f7a4 62 = .ok (.iload_n 0, 1) := by decide +kernel
theorem dJ6_numberOfTrailingZeros_0f7a4_63 : decode cJ6_numberOfTrailingZeros_0f7a4 63 = .ok (.iconst 4, 1) := by decide +kernel
theorem dJ6_numberOfTrailingZeros_0f7a4_64 : decode cJ6_numberOfTrailingZeros_0f7a4 64 = .ok (.if_icmp .le 10, 3) := by decide +kernel
theorem dJ6_numberOfTrailingZeros_0f7a4_67 : decode cJ6_numberOfTrailingZeros_0f7a4 67 = .ok (.iinc 1 2, 3) := by decide +kernel
theorem dJ6_numberOfTrailingZeros_0f7a4_70 : decode cJ6_numberOfTrailingZeros_0f7a4 70 = .ok (.iload_n 0, 1) := by decide +kernel
theorem dJ6_numberOfTrailingZeros_0f7a4_71 : decode cJ6_numberOfTrailingZeros_0f7a4 71 = .ok (.iconst 2, 1) := by decide +kernel
theorem dJ6_numberOfTrailingZeros_0f7a4_72 : decode cJ6_numberOfTrailingZeros_0f7a4 72 = .ok (.iushr, 1) := by decide +kernel
theorem dJ6_numberOfTrailingZeros_0f7a4_73 : decode cJ6_numberOfTrailingZeros_0f7a4 73 = .ok (.istore_n 0, 1) := by decide +kernel
theorem dJ6_numberOfTrailingZeros_0f7a4_74 : decode cJ6_numberOfTrailingZeros_0f7a4 74 = .ok (.iload_n 1, 1) := by decide +kernel
theorem dJ6_numberOfTrailingZeros_0f7a4_75 : decode cJ6_numberOfTrailingZeros_0f7a4 75 = .ok (.iload_n 0, 1) := by decide +kernel
theorem dJ6_numberOfTrailingZeros_0f7a4_76 : decode cJ6_numberOfTrailingZeros_0f7a4 76 = .ok (.iconst 1, 1) := by decide +kernel
theorem dJ6_numberOfTrailingZeros_0f7a4_77 : decode cJ6_numberOfTrailingZeros_0f7a4 77 = .ok (.iushr, 1) := by decide +kernel
theorem dJ6_numberOfTrailingZeros_0f7a4_78 : decode cJ6_numberOfTrailingZeros_0f7a4 78 = .ok (.iadd, 1) := by decide +kernel
theorem dJ6_numberOfTrailingZeros_0f7a4_79 : decode cJ6_numberOfTrailingZeros_0f7a4 79 = .ok (.ireturn, 1) := by decide +kernel
theorem dJ6_bitCount_0f7a4_0 : decode cJ6_bitCount_0f7a4 0 = .ok (.iload_n 0, 1) := by decide +kernel
theorem dJ6_bitCount_0f7a4_1 : decode cJ6_bitCount_0f7a4 1 = .ok (.iload_n 0, 1) := by decide +kernel
theorem dJ6_bitCount_0f7a4_2 : decode cJ6_bitCount_0f7a4 2 = .ok (.iconst 1, 1) := by decide +kernel
theorem dJ6_bitCount_0f7a4_3 : decode cJ6_bitCount_0f7a4 3 = .ok (.iushr, 1) := by decide +kernel
theorem dJ6_bitCount_0f7a4_4 : decode cJ6_bitCount_0f7a4 4 = .ok (.ldc_w 265, 3) := by decide +kernel
theorem dJ6_bitCount_0f7a4_7 : decode cJ6_bitCount_0f7a4 7 = .ok (.iand, 1) := by decide +kernel
theorem dJ6_bitCount_0f7a4_8 : decode cJ6_bitCount_0f7a4 8 = .ok (.isub, 1) := by decide +kernel
theorem dJ6_bitCount_0f7a4_9 : decode cJ6_bitCount_0f7a4 9 = .ok (.istore_n 0, 1) := by decide +kernel
theorem dJ6_bitCount_0f7a4_10 : decode cJ6_bitCount_0f7a4 10 = .ok (.iload_n 0, 1) := by decide +kernel
theorem dJ6_bitCount_0f7a4_11 : decode cJ6_bitCount_0f7a4 11 = .ok (.ldc_w 266, 3) := by decide +kernel
theorem dJ6_bitCount_0f7a4_14 : decode cJ6_bitCount_0f7a4 14 = .ok (.iand, 1) := by decide +kernel
theorem dJ6_bitCount_0f7a4_15 : decode cJ6_bitCount_0f7a4 15 = .ok (.iload_n 0, 1) := by decide +kernel
theorem dJ6_bitCount_0f7a4_16 : decode cJ6_bitCount_0f7a4 16 = .ok (.iconst 2, 1) := by decide +kernel
theorem dJ6_bitCount_0f7a4_17 : decode cJ6_bitCount_0f7a4 17 = .ok (.iushr, 1) := by decide +kernel
theorem dJ6_bitCount_0f7a4_18 : decode cJ6_bitCount_0f7a4 18 = .ok (.ldc_w 266, 3) := by decide +kernel
theorem dJ6_bitCount_0f7a4_21 : decode cJ6_bitCount_0f7a4 21 = .ok (.iand, 1) := by decide +kernel
theorem dJ6_bitCount_0f7a4_22 : decode cJ6_bitCount_0f7a4 22 = .ok (.iadd, 1) := by decide +kernel
theorem dJ6_bitCount_0f7a4_23 : decode cJ6_bitCount_0f7a4 23 = .ok (.istore_n 0, 1) := by decide +kernel
theorem dJ6_bitCount_0f7a4_24 : decode cJ6_bitCount_0f7a4 24 = .ok (.iload_n 0, 1) := by decide +kernel
theorem dJ6_bitCount_0f7a4_25 : decode cJ6_bitCount_0f7a4 25 = .ok (.iload_n 0, 1) := by decide +kernel
theorem dJ6_bitCount_0f7a4_26 : decode cJ6_bitCount_0f7a4 26 = .ok (.iconst 4, 1) := by decide +kernel
theorem dJ6_bitCount_0f7a4_27 : decode cJ6_bitCount_0f7a4 27 = .ok (.iushr, 1) := by decide +kernel
theorem dJ6_bitCount_0f7a4_28 : decode cJ6_bitCount_0f7a4 28 = .ok (.iadd, 1) := by decide +kernel
theorem dJ6_bitCount_0f7a4_29 : decode cJ6_bitCount_0f7a4 29 = .ok (.ldc_w 267, 3) := by decide +kernel
theorem dJ6_bitCount_0f7a4_32 : decode cJ6_bitCount_0f7a4 32 = .ok (.iand, 1) := by decide +kernel
theorem dJ6_bitCount_0f7a4_33 : decode cJ6_bitCount_0f7a4 33 = .ok (.istore_n 0, 1) := by decide +kernel
theorem dJ6_bitCount_0f7a4_34 : decode cJ6_bitCount_0f7a4 34 = .ok (.iload_n 0, 1) := by decide +kernel
theorem dJ6_bitCount_0f7a4_35 : decode cJ6_bitCount_0f7a4 35 = .ok (.iload_n 0, 1) := by decide +kernel
theorem dJ6_bitCount_0f7a4_36 : decode cJ6_bitCount_0f7a4 36 = .ok (.bipush 8, 2) := by decide +kernel
theorem dJ6_bitCount_0f7a4_38 : decode cJ6_bitCount_0f7a4 38 = .ok (.iushr, 1) := by decide +kernel
theorem dJ6_bitCount_0f7a4_39 : decode cJ6_bitCount_0f7a4 39 = .ok (.iadd, 1) := by decide +kernel
theorem dJ6_bitCount_0f7a4_40 : decode cJ6_bitCount_0f7a4 40 = .ok (.istore_n 0, 1) := by decide +kernel
theorem dJ6_bitCount_0f7a4_41 : decode cJ6_bitCount_0f7a4 41 = .ok (.iload_n 0, 1) := by decide +kernel
theorem dJ6_bitCount_0f7a4_42 : decode cJ6_bitCount_0f7a4 42 = .ok (.iload_n 0, 1) := by decide +kernel
theorem dJ6_bitCount_0f7a4_43 : decode cJ6_bitCount_0f7a4 43 = .ok (.bipush 16, 2) := by decide +kernel
theorem dJ6_bitCount_0f7a4_45 : decode cJ6_bitCount_0f7a4 45 = .ok (.iushr, 1) := by decide +kernel
theorem dJ6_bitCount_0f7a4_46 : decode cJ6_bitCount_0f7a4 46 = .ok (.iadd, 1) := by decide +kernel
theorem dJ6_bitCount_0f7a4_47 : decode cJ6_bitCount_0f7a4 47 = .ok (.istore_n 0, 1) := by decide +kernel
theorem dJ6_bitCount_0f7a4_48 : decode cJ6_bitCount_0f7a4 48 = .ok (.iload_n 0, 1) := by decide +kernel
theorem dJ6_bitCount_0f7a4_49 : decode cJ6_bitCount_0f7a4 49 = .ok (.bipush 63, 2) := by decide +kernel
theorem dJ6_bitCount_0f7a4_51 : decode cJ6_bitCount_0f7a4 51 = .ok (.iand, 1) := by decide +kernel
theorem dJ6_bitCount_0f7a4_52 : decode cJ6_bitCount_0f7a4 52 = .ok (.ireturn, 1) := by decide +kernel
set_option maxRecDepth 20000 in
theorem ggJ6_compareTo_e47da_J6_compareTo_e8194 : GoodIn wsJ6_compareTo_e47da wsJ6_compareTo_e8194 := goodIn_r _ [6, 7, 8, 9, 5, 10, 11] (by decide +kernel) (by decide +kernel)
set_option maxRecDepth 20000 in
theorem gJ6_compareTo_e47da_J6_compareTo_e8194 : GoodIn wsJ6_compareTo_e47da (wsV RJ6 284 RJ6 yJ6_compareTo_e8194 wsJ6_compareTo_e8194) := goodIn_app (goodIn_of _ (by decide +kernel)) ggJ6_compareTo_e47da_J6_compareTo_e8194
theorem dJ6_compareTo_e47da_0 : decode cJ6_compareTo_e47da 0 = .ok (.aload_n 0, 1) := by decide +kernel
theorem dJ6_compareTo_e47da_1 : decode cJ6_compareTo_e47da 1 = .ok (.aload_n 1, 1) := by decide +kernel
theorem dJ6_compareTo_e47da_2 : decode cJ6_compareTo_e47da 2 = .ok (.checkcast 1, 3) := by decide +kernel
theorem dJ6_compareTo_e47da_5 : decode cJ6_compareTo_e47da 5 = .ok (.invokevirtual 284, 3) := by decide +kernel
theorem dJ6_compareTo_e47da_8 : decode cJ6_compareTo_e47da 8 = .ok (.ireturn, 1) := by decide +kernel
theorem dJ9_abs_0f7a4_0 : decode cJ9_abs_0f7a4 0 = .ok (.iload_n 0, 1) := by decide +kernel
theorem dJ9_abs_0f7a4_1 : decode cJ9_abs_0f7a4 1 = .ok (.ifCond .ge 8, 3) := by decide +kernel
theorem dJ9_abs_0f7a4_4 : decode cJ9_abs_0f7a4 4 = .ok (.iload_n 0, 1) := by decide +kernel
theorem dJ9_abs_0f7a4_5 : decode cJ9_abs_0f7a4 5 = .ok (.ineg, 1) := by decide +kernel
theorem dJ9_abs_0f7a4_6 : decode cJ9_abs_0f7a4 6 = .ok (.goto 4, 3) := by decide +kernel
theorem dJ9_abs_0f7a4_9 : decode cJ9_abs_0f7a4 9 = .ok (.iload_n 0, 1) := by decide +kernel
theorem dJ9_abs_0f7a4_10 : decode cJ9_abs_0f7a4 10 = .ok (.ireturn, 1) := by decide +kernel
theorem dJ9_max_7cf53_0 : decode cJ9_max_7cf53 0 = .ok (.iload_n 0, 1) := by decide +kernel
theorem dJ9_max_7cf53_1 : decode cJ9_max_7cf53 1 = .ok (.iload_n 1, 1) := by decide +kernel
theorem dJ9_max_7cf53_2 : decode cJ9_max_7cf53 2 = .ok (.if_icmp .lt 7, 3) := by decide +kernel
theorem dJ9_max_7cf53_5 : decode cJ9_max_7cf53 5 = .ok (.iload_n 0, 1) := by decide +kernel
theorem dJ9_max_7cf53_6 : decode cJ9_max_7cf53 6 = .ok (.goto 4, 3) := by decide +kernel
theorem dJ9_max_7cf53_9 : decode cJ9_max_7cf53 9 = .ok (.iload_n 1, 1) := by decide +kernel
theorem dJ9_max_7cf53_10 : decode cJ9_max_7cf53 10 = .ok (.ireturn, 1) := by decide +kernel
theorem dJ9_min_7cf53_0 : decode cJ9_min_7cf53 0 = .ok (.iload_n 0, 1) := by decide +kernel
theorem dJ9_min_7cf53_1 : decode cJ9_min_7cf53 1 = .ok (.iload_n 1, 1) := by decide +kernel
theorem dJ9_min_7cf53_2 : decode cJ9_min_7cf53 2 = .ok (.if_icmp .gt 7, 3) := by decide +kernel
theorem dJ9_min_7cf53_5 : decode cJ9_min_7cf53 5 = .ok (.iload_n 0, 1) := by decide +kernel
theorem dJ9_min_7cf53_6 : decode cJ9_min_7cf53 6 = .ok (.goto 4, 3) := by decide +kernel
theorem dJ9_min_7cf53_9 : decode cJ9_min_7cf53 9 = .ok (.iload_n 1, 1) := by decide +kernel
theorem dJ9_min_7cf53_10 : decode cJ9_min_7cf53 10 = .ok (.ireturn, 1) := by decide +kernel
theorem dJ9_min_f86c9_0 : decode cJ9_min_f86c9 0 = .ok (.lload_n 0, 1) := by decide +kernel
theorem dJ9_min_f86c9_1 : decode cJ9_min_f86c9 1 = .ok (.lload_n 2, 1) := by decide +kernel
theorem dJ9_min_f86c9_2 : decode cJ9_min_f86c9 2 = .ok (.lcmp, 1) := by decide +kernel
theorem dJ9_min_f86c9_3 : decode cJ9_min_f86c9 3 = .ok (.ifCond .gt 7, 3) := by decide +kernel
theorem dJ9_min_f86c9_6 : decode cJ9_min_f86c9 6 = .ok (.lload_n 0, 1) := by decide +kernel
theorem dJ9_min_f86c9_7 : decode cJ9_min_f86c9 7 = .ok (.goto 4, 3) := by decide +kernel
theorem dJ9_min_f86c9_10 : decode cJ9_min_f86c9 10 = .ok (.lload_n 2, 1) := by decide +kernel
theorem dJ9_min_f86c9_11 : decode cJ9_min_f86c9 11 = .ok (.lreturn, 1) := by decide +kernel
theorem dJxd2413_init_da8c8_0 : decode cJxd2413_init_da8c8 0 = .ok (.aload_n 0, 1) := by decide +kernel
theorem dJxd2413_init_da8c8_1 : decode cJxd2413_init_da8c8 1 = .ok (.invokespecial 1, 3) := by decide +kernel
theorem dJxd2413_init_da8c8_4 : decode cJxd2413_init_da8c8 4 = .ok (.return_, 1) := by decide +kernel
set_option maxRecDepth 20000 in
theorem ggJx0b718_getUTF16Char_3b067_J2_getChar_3b067 : GoodIn wsJx0b718_getUTF16Char_3b067 wsJ2_getChar_3b067 := goodIn_r _ [4, 5, 6, 7, 8, 9, 3, 10] (by decide +kernel) (by decide +kernel)
set_option maxRecDepth 20000 in
theorem gJx0b718_getUTF16Char_3b067_J2_getChar_3b067 : GoodIn wsJx0b718_getUTF16Char_3b067 (va_wsS RJx0b718 185 yJ2_getChar_3b067 wsJ2_getChar_3b067) := goodIn_app (goodIn_of _ (by decide +kernel)) ggJx0b718_getUTF16Char_3b067_J2_getChar_3b067
theorem dJx0b718_getUTF16Char_3b067_0 : decode cJx0b718_getUTF16Char_3b067 0 = .ok (.aload_n 1, 1) := by decide +kernel
theorem dJx0b718_getUTF16Char_3b067_1 : decode cJx0b718_getUTF16Char_3b067 1 = .ok (.iload_n 2, 1) := by decide +kernel
theorem dJx0b718_getUTF16Char_3b067_2 : decode cJx0b718_getUTF16Char_3b067 2 = .ok (.invokestatic 185, 3) := by decide +kernel
theorem dJx0b718_getUTF16Char_3b067_5 : decode cJx0b718_getUTF16Char_3b067 5 = .ok (.ireturn, 1) := by decide +kernel
theorem dJxa1e45_init_da8c8_0 : decode cJxa1e45_init_da8c8 0 = .ok (.aload_n 0, 1) := by decide +kernel
theorem dJxa1e45_init_da8c8_1 : decode cJxa1e45_init_da8c8 1 = .ok (.invokespecial 1, 3) := by decide +kernel
theorem dJxa1e45_init_da8c8_4 : decode cJxa1e45_init_da8c8 4 = .ok (.return_, 1) := by decide +kernel
set_option maxRecDepth 20000 in
theorem ggJxc12de_init_da8c8_Jxa1e45_init_da8c8 : GoodIn wsJxc12de_init_da8c8 wsJxa1e45_init_da8c8 := goodIn_r _ [5, 6, 7, 8] (by decide +kernel) (by decide +kernel)
set_option maxRecDepth 20000 in
theorem gJxc12de_init_da8c8_Jxa1e45_init_da8c8 : GoodIn wsJxc12de_init_da8c8 (wsJxa1e45_init_da8c8) := ggJxc12de_init_da8c8_Jxa1e45_init_da8c8
theorem dJxc12de_init_da8c8_0 : decode cJxc12de_init_da8c8 0 = .ok (.aload_n 0, 1) := by decide +kernel
theorem dJxc12de_init_da8c8_1 : decode cJxc12de_init_da8c8 1 = .ok (.invokespecial 1, 3) := by decide +kernel
theorem dJxc12de_init_da8c8_4 : decode cJxc12de_init_da8c8 4 = .ok (.aload_n 0, 1) := by decide +kernel
theorem dJxc12de_init_da8c8_5 : decode cJxc12de_init_da8c8 5 = .ok (.iconst 0, 1) := by decide +kernel
theorem dJxc12de_init_da8c8_6 : decode cJxc12de_init_da8c8 6 = .ok (.putfield 7, 3) := by decide +kernel
theorem dJxc12de_init_da8c8_9 : decode cJxc12de_init_da8c8 9 = .ok (.return_, 1) := by decide +kernel
theorem dX15_init_0 : decode cX15_init 0 = .ok (.aload_n 0, 1) := by decide +kernel
theorem dX15_init_1 : decode cX15_init 1 = .ok (.invokespecial 1, 3) := by decide +kernel
theorem dX15_init_4 : decode cX15_init 4 = .ok (.return_, 1) := by decide +kernel
theorem dJx35411_init_45d68_0 : decode cJx35411_init_45d68 0 = .ok (.aload_n 0, 1) := by decide +kernel
theorem dJx35411_init_45d68_1 : decode cJx35411_init_45d68 1 = .ok (.aload_n 1, 1) := by decide +kernel
theorem dJx35411_init_45d68_2 : decode cJx35411_init_45d68 2 = .ok (.putfield 1, 3) := by decide +kernel
theorem dJx35411_init_45d68_5 : decode cJx35411_init_45d68 5 = .ok (.aload_n 0, 1) := by decide +kernel
theorem dJx35411_init_45d68_6 : decode cJx35411_init_45d68 6 = .ok (.invokespecial 7, 3) := by decide +kernel
theorem dJx35411_init_45d68_9 : decode cJx35411_init_45d68 9 = .ok (.aload_n 0, 1) := by decide +kernel
theorem dJx35411_init_45d68_10 : decode cJx35411_init_45d68 10 = .ok (.iconst (-1), 1) := by decide +kernel
theorem dJx35411_init_45d68_11 : decode cJx35411_init_45d68 11 = .ok (.putfield 13, 3) := by decide +kernel
theorem dJx35411_init_45d68_14 : decode cJx35411_init_45d68 14 = .ok (.aload_n 0, 1) := by decide +kernel
theorem dJx35411_init_45d68_15 : decode cJx35411_init_45d68 15 = .ok (.aload_n 0, 1) := by decide +kernel
theorem dJx35411_init_45d68_16 : decode cJx35411_init_45d68 16 = .ok (.getfield 1, 3) := by decide +kernel
theorem dJx35411_init_45d68_19 : decode cJx35411_init_45d68 19 = .ok (.getfield 17, 3) := by decide +kernel
theorem dJx35411_init_45d68_22 : decode cJx35411_init_45d68 22 = .ok (.putfield 22, 3) := by decide +kernel
theorem dJx35411_init_45d68_25 : decode cJx35411_init_45d68 25 = .ok (.return_, 1) := by decide +kernel
theorem dJx35411_hasNext_aae02_0 : decode cJx35411_hasNext_aae02 0 = .ok (.aload_n 0, 1) := by decide +kernel
theorem dJx35411_hasNext_aae02_1 : decode cJx35411_hasNext_aae02 1 = .ok (.getfield 25, 3) := by decide +kernel
theorem dJx35411_hasNext_aae02_4 : decode cJx35411_hasNext_aae02 4 = .ok (.aload_n 0, 1) := by decide +kernel
theorem dJx35411_hasNext_aae02_5 : decode cJx35411_hasNext_aae02 5 = .ok (.getfield 1, 3) := by decide +kernel
theorem dJx35411_hasNext_aae02_8 : decode cJx35411_hasNext_aae02 8 = .ok (.getfield 28, 3) := by decide +kernel
theorem dJx35411_hasNext_aae02_11 : decode cJx35411_hasNext_aae02 11 = .ok (.if_icmp .eq 7, 3) := by decide +kernel
theorem dJx35411_hasNext_aae02_14 : decode cJx35411_hasNext_aae02 14 = .ok (.iconst 1, 1) := by decide +kernel
theorem dJx35411_hasNext_aae02_15 : decode cJx35411_hasNext_aae02 15 = .ok (.goto 4, 3) := by decide +kernel
theorem dJx35411_hasNext_aae02_18 : decode cJx35411_hasNext_aae02 18 = .ok (.iconst 0, 1) := by decide +kernel
theorem dJx35411_hasNext_aae02_19 : decode cJx35411_hasNext_aae02 19 = .ok (.ireturn, 1) := by decide +kernel
set_option maxRecDepth 20000 in
theorem ggJx35411_next_0502b_Jx35411_checkForComodification_da8c8 : GoodIn wsJx35411_next_0502b wsJx35411_checkForComodification_da8c8 := goodIn_r _ [9, 2, 10, 11, 12, 13, 14, 15, 16, 17, 18, 19] (by decide +kernel) (by decide +kernel)
set_option maxRecDepth 20000 in
theorem gJx35411_next_0502b_Jx35411_checkForComodification_da8c8 : GoodIn wsJx35411_next_0502b (wsV RJx35411 31 RJx35411 yJx35411_checkForComodification_da8c8 wsJx35411_checkForComodification_da8c8) := goodIn_app (goodIn_of _ (by decide +kernel)) ggJx35411_next_0502b_Jx35411_checkForComodification_da8c8
theorem dJx35411_next_0502b_0 : decode cJx35411_next_0502b 0 = .ok (.aload_n 0, 1) := by decide +kernel
theorem dJx35411_next_0502b_1 : decode cJx35411_next_0502b 1 = .ok (.invokevirtual 31, 3) := by decide +kernel
theorem dJx35411_next_0502b_4 : decode cJx35411_next_0502b 4 = .ok (.aload_n 0, 1) := by decide +kernel
theorem dJx35411_next_0502b_5 : decode cJx35411_next_0502b 5 = .ok (.getfield 25, 3) := by decide +kernel
theorem dJx35411_next_0502b_8 : decode cJx35411_next_0502b 8 = .ok (.istore_n 1, 1) := by decide +kernel
theorem dJx35411_next_0502b_9 : decode cJx35411_next_0502b 9 = .ok (.iload_n 1, 1) := by decide +kernel
theorem dJx35411_next_0502b_10 : decode cJx35411_next_0502b 10 = .ok (.aload_n 0, 1) := by decide +kernel
theorem dJx35411_next_0502b_11 : decode cJx35411_next_0502b 11 = .ok (.getfield 1, 3) := by decide +kernel
theorem dJx35411_next_0502b_14 : decode cJx35411_next_0502b 14 = .ok (.getfield 28, 3) := by decide +kernel
theorem dJx35411_next_0502b_17 : decode cJx35411_next_0502b 17 = .ok (.if_icmp .lt 11, 3) := by decide +kernel
theorem dJx35411_next_0502b_20 : decode cJx35411_next_0502b 20 = .ok (.new 34, 3) := by decide +kernel
theorem dJx35411_next_0502b_23 : decode cJx35411_next_0502b 23 = .ok (.dup, 1) := by decide +kernel
theorem dJx35411_next_0502b_24 : decode cJx35411_next_0502b 24 = .ok (.invokespecial 36, 3) := by decide +kernel
theorem dJx35411_next_0502b_27 : decode cJx35411_next_0502b 27 = .ok (.athrow, 1) := by decide +kernel
theorem dJx35411_next_0502b_28 : decode cJx35411_next_0502b 28 = .ok (.aload_n 0, 1) := by decide +kernel
theorem dJx35411_next_0502b_29 : decode cJx35411_next_0502b 29 = .ok (.getfield 1, 3) := by decide +kernel
theorem dJx35411_next_0502b_32 : decode cJx35411_next_0502b 32 = .ok (.getfield 37, 3) := by decide +kernel
theorem dJx35411_next_0502b_35 : decode cJx35411_next_0502b 35 = .ok (.astore_n 2, 1) := by decide +kernel
theorem dJx35411_next_0502b_36 : decode cJx35411_next_0502b 36 = .ok (.iload_n 1, 1) := by decide +kernel
theorem dJx35411_next_0502b_37 : decode cJx35411_next_0502b 37 = .ok (.aload_n 2, 1) := by decide +kernel
theorem dJx35411_next_0502b_38 : decode cJx35411_next_0502b 38 = .ok (.arraylength, 1) := by decide +kernel
theorem dJx35411_next_0502b_39 : decode cJx35411_next_0502b 39 = .ok (.if_icmp .lt 11, 3) := by decide +kernel
theorem dJx35411_next_0502b_42 : decode cJx35411_next_0502b 42 = .ok (.new 41, 3) := by decide +kernel
theorem dJx35411_next_0502b_45 : decode cJx35411_next_0502b 45 = .ok (.dup, 1) := by decide +kernel
theorem dJx35411_next_0502b_46 : decode cJx35411_next_0502b 46 = .ok (.invokespecial 43, 3) := by decide +kernel
theorem dJx35411_next_0502b_49 : decode cJx35411_next_0502b 49 = .ok (.athrow, 1) := by decide +kernel
theorem dJx35411_next_0502b_50 : decode cJx35411_next_0502b 50 = .ok (.aload_n 0, 1) := by decide +kernel
theorem dJx35411_next_0502b_51 : decode cJx35411_next_0502b 51 = .ok (.iload_n 1, 1) := by decide +kernel
theorem dJx35411_next_0502b_52 : decode cJx35411_next_0502b 52 = .ok (.iconst 1, 1) := by decide +kernel
theorem dJx35411_next_0502b_53 : decode cJx35411_next_0502b 53 = .ok (.iadd, 1) := by decide +kernel
theorem dJx35411_next_0502b_54 : decode cJx35411_next_0502b 54 = .ok (.putfield 25, 3) := by decide +kernel
theorem dJx35411_next_0502b_57 : decode cJx35411_next_0502b 57 = .ok (.aload_n 2, 1) := by decide +kernel
theorem dJx35411_next_0502b_58 : decode cJx35411_next_0502b 58 = .ok (.aload_n 0, 1) := by decide +kernel
theorem dJx35411_next_0502b_59 : decode cJx35411_next_0502b 59 = .ok (.iload_n 1, 1) := by decide +kernel
theorem dJx35411_next_0502b_60 : decode cJx35411_next_0502b 60 = .ok (.dup_x1, 1) := by decide +kernel
theorem dJx35411_next_0502b_61 : decode cJx35411_next_0502b 61 = .ok (.putfield 13, 3) := by decide +kernel
theorem dJx35411_next_0502b_64 : decode cJx35411_next_0502b 64 = .ok (.aaload, 1) := by decide +kernel
theorem dJx35411_next_0502b_65 : decode cJx35411_next_0502b 65 = .ok (.areturn, 1) := by decide +kernel
theorem dJx35411_checkForComodification_da8c8_0 : decode cJx35411_checkForComodification_da8c8 0 = .ok (.aload_n 0, 1) := by decide +kernel
theorem dJx35411_checkForComodification_da8c8_1 : decode cJx35411_checkForComodification_da8c8 1 = .ok (.getfield 1, 3) := by decide +kernel
theorem dJx35411_checkForComodification_da8c8_4 : decode cJx35411_checkForComodification_da8c8 4 = .ok (.getfield 17, 3) := by decide +kernel
theorem dJx35411_checkForComodification_da8c8_7 : decode cJx35411_checkForComodification_da8c8 7 = .ok (.aload_n 0, 1) := by decide +kernel
theorem dJx35411_checkForComodification_da8c8_8 : decode cJx35411_checkForComodification_da8c8 8 = .ok (.getfield 22, 3) := by decide +kernel
theorem dJx35411_checkForComodification_da8c8_11 : decode cJx35411_checkForComodification_da8c8 11 = .ok (.if_icmp .eq 11, 3) := by decide +kernel
theorem dJx35411_checkForComodification_da8c8_14 : decode cJx35411_checkForComodification_da8c8 14 = .ok (.new 41, 3) := by decide +kernel
theorem dJx35411_checkForComodification_da8c8_17 : decode cJx35411_checkForComodification_da8c8 17 = .ok (.dup, 1) := by decide +kernel
theorem dJx35411_checkForComodification_da8c8_18 : decode cJx35411_checkForComodification_da8c8 18 = .ok (.invokespecial 43, 3) := by decide +kernel
theorem dJx35411_checkForComodification_da8c8_21 : decode cJx35411_checkForComodification_da8c8 21 = .ok (.athrow, 1) := by decide +kernel
theorem dJx35411_checkForComodification_da8c8_22 : decode cJx35411_checkForComodification_da8c8 22 = .ok (.return_, 1) := by decide +kernel
set_option maxRecDepth 20000 in
theorem ggJx4a65c_init_da8c8_Jxc12de_init_da8c8 : GoodIn wsJx4a65c_init_da8c8 wsJxc12de_init_da8c8 := goodIn_r _ [6, 7, 8, 9, 10, 11, 12, 13, 14, 15, 16, 17] (by decide +kernel) (by decide +kernel)
set_option maxRecDepth 20000 in
theorem gJx4a65c_init_da8c8_Jxc12de_init_da8c8 : GoodIn wsJx4a65c_init_da8c8 (wsJxc12de_init_da8c8) := ggJx4a65c_init_da8c8_Jxc12de_init_da8c8
theorem dJx4a65c_init_da8c8_0 : decode cJx4a65c_init_da8c8 0 = .ok (.aload_n 0, 1) := by decide +kernel
theorem dJx4a65c_init_da8c8_1 : decode cJx4a65c_init_da8c8 1 = .ok (.invokespecial 1, 3) := by decide +kernel
theorem dJx4a65c_init_da8c8_4 : decode cJx4a65c_init_da8c8 4 = .ok (.aload_n 0, 1) := by decide +kernel
theorem dJx4a65c_init_da8c8_5 : decode cJx4a65c_init_da8c8 5 = .ok (.getstatic 39, 3) := by decide +kernel
theorem dJx4a65c_init_da8c8_8 : decode cJx4a65c_init_da8c8 8 = .ok (.putfield 9, 3) := by decide +kernel
theorem dJx4a65c_init_da8c8_11 : decode cJx4a65c_init_da8c8 11 = .ok (.return_, 1) := by decide +kernel
set_option maxRecDepth 20000 in
theorem ggJx4a65c_init_4bcb3_Jxc12de_init_da8c8 : GoodIn wsJx4a65c_init_4bcb3 wsJxc12de_init_da8c8 := goodIn_r _ [8, 9, 10, 11, 12, 13, 14, 15, 16, 51, 52, 53] (by decide +kernel) (by decide +kernel)
set_option maxRecDepth 20000 in
theorem gJx4a65c_init_4bcb3_Jxc12de_init_da8c8 : GoodIn wsJx4a65c_init_4bcb3 (wsJxc12de_init_da8c8) := ggJx4a65c_init_4bcb3_Jxc12de_init_da8c8
set_option maxRecDepth 20000 in
theorem ggJx4a65c_init_4bcb3_Jx4a65c_toArray_d5877 : GoodIn wsJx4a65c_init_4bcb3 wsJx4a65c_toArray_d5877 := goodIn_r _ [21, 2, 1, 22, 23, 24, 25, 26, 27, 28, 29, 30, 31, 32, 33, 34, 35, 36, 37, 38, 39, 40, 41, 42, 51, 52, 53] (by decide +kernel) (by decide +kernel)
set_option maxRecDepth 20000 in
theorem gJx4a65c_init_4bcb3_Jx4a65c_toArray_d5877_f42Jx4a65c : GoodIn wsJx4a65c_init_4bcb3 (va_wsF RJx4a65c 42 RJx4a65c ⟨"java/util/Collection", "toArray", "()[Ljava/lang/Object;"⟩ yJx4a65c_toArray_d5877 wsJx4a65c_toArray_d5877) := goodIn_app (goodIn_of _ (by decide +kernel)) ggJx4a65c_init_4bcb3_Jx4a65c_toArray_d5877
set_option maxRecDepth 20000 in
theorem ggJx4a65c_init_4bcb3_Jx6a02c_toArray_d5877 : GoodIn wsJx4a65c_init_4bcb3 wsJx6a02c_toArray_d5877 := goodIn_r _ [46, 47, 48, 49, 54, 55] (by decide +kernel) (by decide +kernel)
set_option maxRecDepth 20000 in
theorem gJx4a65c_init_4bcb3_Jx6a02c_toArray_d5877_f42Jx6a02c : GoodIn wsJx4a65c_init_4bcb3 (va_wsF RJx4a65c 42 RJx6a02c ⟨"java/util/Collection", "toArray", "()[Ljava/lang/Object;"⟩ yJx6a02c_toArray_d5877 wsJx6a02c_toArray_d5877) := goodIn_app (goodIn_of _ (by decide +kernel)) ggJx4a65c_init_4bcb3_Jx6a02c_toArray_d5877
set_option maxRecDepth 20000 in
theorem ggJx4a65c_init_4bcb3_J7_copyOf_6403c : GoodIn wsJx4a65c_init_4bcb3 wsJ7_copyOf_6403c := goodIn_r _ [32, 33, 34, 35, 36, 37, 38, 39, 40, 41, 42] (by decide +kernel) (by decide +kernel)
set_option maxRecDepth 20000 in
theorem gJx4a65c_init_4bcb3_J7_copyOf_6403c : GoodIn wsJx4a65c_init_4bcb3 (va_wsS RJx4a65c 57 yJ7_copyOf_6403c wsJ7_copyOf_6403c) := goodIn_app (goodIn_of _ (by decide +kernel)) ggJx4a65c_init_4bcb3_J7_copyOf_6403c
theorem dJx4a65c_init_4bcb3_0 : decode cJx4a65c_init_4bcb3 0 = .ok (.aload_n 0, 1) := by decide +kernel
theorem dJx4a65c_init_4bcb3_1 : decode cJx4a65c_init_4bcb3 1 = .ok (.invokespecial 1, 3) := by decide +kernel
theorem dJx4a65c_init_4bcb3_4 : decode cJx4a65c_init_4bcb3 4 = .ok (.aload_n 1, 1) := by decide +kernel
theorem dJx4a65c_init_4bcb3_5 : decode cJx4a65c_init_4bcb3 5 = .ok (.invokeinterface 42 1, 5) := by decide +kernel
theorem dJx4a65c_init_4bcb3_10 : decode cJx4a65c_init_4bcb3 10 = .ok (.astore_n 2, 1) := by decide +kernel
theorem dJx4a65c_init_4bcb3_11 : decode cJx4a65c_init_4bcb3 11 = .ok (.aload_n 0, 1) := by decide +kernel
theorem dJx4a65c_init_4bcb3_12 : decode cJx4a65c_init_4bcb3 12 = .ok (.aload_n 2, 1) := by decide +kernel
theorem dJx4a65c_init_4bcb3_13 : decode cJx4a65c_init_4bcb3 13 = .ok (.arraylength, 1) := by decide +kernel
theorem dJx4a65c_init_4bcb3_14 : decode cJx4a65c_init_4bcb3 14 = .ok (.dup_x1, 1) := by decide +kernel
theorem dJx4a65c_init_4bcb3_15 : decode cJx4a65c_init_4bcb3 15 = .ok (.putfield 48, 3) := by decide +kernel
theorem dJx4a65c_init_4bcb3_18 : decode cJx4a65c_init_4bcb3 18 = .ok (.ifCond .eq 39, 3) := by decide +kernel
theorem dJx4a65c_init_4bcb3_21 : decode cJx4a65c_init_4bcb3 21 = .ok (.aload_n 1, 1) := by decide +kernel
theorem dJx4a65c_init_4bcb3_22 : decode cJx4a65c_init_4bcb3 22 = .ok (.invokeinterface 52 1, 5) := by decide +kernel
theorem dJx4a65c_init_4bcb3_27 : decode cJx4a65c_init_4bcb3 27 = .ok (.ldc 10, 2) := by decide +kernel
theorem dJx4a65c_init_4bcb3_29 : decode cJx4a65c_init_4bcb3 29 = .ok (.if_acmp .ne 11, 3) := by decide +kernel
theorem dJx4a65c_init_4bcb3_32 : decode cJx4a65c_init_4bcb3 32 = .ok (.aload_n 0, 1) := by decide +kernel
theorem dJx4a65c_init_4bcb3_33 : decode cJx4a65c_init_4bcb3 33 = .ok (.aload_n 2, 1) := by decide +kernel
theorem dJx4a65c_init_4bcb3_34 : decode cJx4a65c_init_4bcb3 34 = .ok (.putfield 9, 3) := by decide +kernel
theorem dJx4a65c_init_4bcb3_37 : decode cJx4a65c_init_4bcb3 37 = .ok (.goto 27, 3) := by decide +kernel
theorem dJx4a65c_init_4bcb3_40 : decode cJx4a65c_init_4bcb3 40 = .ok (.aload_n 0, 1) := by decide +kernel
theorem dJx4a65c_init_4bcb3_41 : decode cJx4a65c_init_4bcb3 41 = .ok (.aload_n 2, 1) := by decide +kernel
theorem dJx4a65c_init_4bcb3_42 : decode cJx4a65c_init_4bcb3 42 = .ok (.aload_n 0, 1) := by decide +kernel
theorem dJx4a65c_init_4bcb3_43 : decode cJx4a65c_init_4bcb3 43 = .ok (.getfield 48, 3) := by decide +kernel
theorem dJx4a65c_init_4bcb3_46 : decode cJx4a65c_init_4bcb3 46 = .ok (.ldc 56, 2) := by decide +kernel
theorem dJx4a65c_init_4bcb3_48 : decode cJx4a65c_init_4bcb3 48 = .ok (.invokestatic 57, 3) := by decide +kernel
theorem dJx4a65c_init_4bcb3_51 : decode cJx4a65c_init_4bcb3 51 = .ok (.putfield 9, 3) := by decide +kernel
theorem dJx4a65c_init_4bcb3_54 : decode cJx4a65c_init_4bcb3 54 = .ok (.goto 10, 3) := by decide +kernel
theorem dJx4a65c_init_4bcb3_57 : decode cJx4a65c_init_4bcb3 57 = .ok (.aload_n 0, 1) := by decide +kernel
theorem dJx4a65c_init_4bcb3_58 : decode cJx4a65c_init_4bcb3 58 = .ok (.getstatic 15, 3) := by decide +kernel
theorem dJx4a65c_init_4bcb3_61 : decode cJx4a65c_init_4bcb3 61 = .ok (.putfield 9, 3) := by decide +kernel
theorem dJx4a65c_init_4bcb3_64 : decode cJx4a65c_init_4bcb3 64 = .ok (.return_, 1) := by decide +kernel
set_option maxRecDepth 20000 in
theorem ggJx4a65c_grow_92f84_J8_newLength_cabcc : GoodIn wsJx4a65c_grow_92f84 wsJ8_newLength_cabcc := goodIn_r _ [11, 12, 4, 5, 6, 13, 14, 15, 10, 16, 17, 18, 19, 43, 44, 45, 46] (by decide +kernel) (by decide +kernel)
set_option maxRecDepth 20000 in
theorem gJx4a65c_grow_92f84_J8_newLength_cabcc : GoodIn wsJx4a65c_grow_92f84 (va_wsS RJx4a65c 73 yJ8_newLength_cabcc wsJ8_newLength_cabcc) := goodIn_app (goodIn_of _ (by decide +kernel)) ggJx4a65c_grow_92f84_J8_newLength_cabcc
set_option maxRecDepth 20000 in
theorem ggJx4a65c_grow_92f84_J7_copyOf_1904c : GoodIn wsJx4a65c_grow_92f84 wsJ7_copyOf_1904c := goodIn_r _ [23, 24, 25, 26, 27, 28, 29, 22, 30, 31, 32, 33, 34, 5, 35, 36, 37, 38, 39] (by decide +kernel) (by decide +kernel)
set_option maxRecDepth 20000 in
theorem gJx4a65c_grow_92f84_J7_copyOf_1904c : GoodIn wsJx4a65c_grow_92f84 (va_wsS RJx4a65c 66 yJ7_copyOf_1904c wsJ7_copyOf_1904c) := goodIn_app (goodIn_of _ (by decide +kernel)) ggJx4a65c_grow_92f84_J7_copyOf_1904c
theorem dJx4a65c_grow_92f84_0 : decode cJx4a65c_grow_92f84 0 = .ok (.aload_n 0, 1) := by decide +kernel
theorem dJx4a65c_grow_92f84_1 : decode cJx4a65c_grow_92f84 1 = .ok (.getfield 9, 3) := by decide +kernel
theorem dJx4a65c_grow_92f84_4 : decode cJx4a65c_grow_92f84 4 = .ok (.arraylength, 1) := by decide +kernel
theorem dJx4a65c_grow_92f84_5 : decode cJx4a65c_grow_92f84 5 = .ok (.istore_n 2, 1) := by decide +kernel
theorem dJx4a65c_grow_92f84_6 : decode cJx4a65c_grow_92f84 6 = .ok (.iload_n 2, 1) := by decide +kernel
theorem dJx4a65c_grow_92f84_7 : decode cJx4a65c_grow_92f84 7 = .ok (.ifCond .gt 13, 3) := by decide +kernel
theorem dJx4a65c_grow_92f84_10 : decode cJx4a65c_grow_92f84 10 = .ok (.aload_n 0, 1) := by decide +kernel
theorem dJx4a65c_grow_92f84_11 : decode cJx4a65c_grow_92f84 11 = .ok (.getfield 9, 3) := by decide +kernel
theorem dJx4a65c_grow_92f84_14 : decode cJx4a65c_grow_92f84 14 = .ok (.getstatic 39, 3) := by decide +kernel
theorem dJx4a65c_grow_92f84_17 : decode cJx4a65c_grow_92f84 17 = .ok (.if_acmp .eq 28, 3) := by decide +kernel
theorem dJx4a65c_grow_92f84_20 : decode cJx4a65c_grow_92f84 20 = .ok (.iload_n 2, 1) := by decide +kernel
theorem dJx4a65c_grow_92f84_21 : decode cJx4a65c_grow_92f84 21 = .ok (.iload_n 1, 1) := by decide +kernel
theorem dJx4a65c_grow_92f84_22 : decode cJx4a65c_grow_92f84 22 = .ok (.iload_n 2, 1) := by decide +kernel
theorem dJx4a65c_grow_92f84_23 : decode cJx4a65c_grow_92f84 23 = .ok (.isub, 1) := by decide +kernel
theorem dJx4a65c_grow_92f84_24 : decode cJx4a65c_grow_92f84 24 = .ok (.iload_n 2, 1) := by decide +kernel
theorem dJx4a65c_grow_92f84_25 : decode cJx4a65c_grow_92f84 25 = .ok (.iconst 1, 1) := by decide +kernel
theorem dJx4a65c_grow_92f84_26 : decode cJx4a65c_grow_92f84 26 = .ok (.ishr, 1) := by decide +kernel
theorem dJx4a65c_grow_92f84_27 : decode cJx4a65c_grow_92f84 27 = .ok (.invokestatic 73, 3) := by decide +kernel
theorem dJx4a65c_grow_92f84_30 : decode cJx4a65c_grow_92f84 30 = .ok (.istore_n 3, 1) := by decide +kernel
theorem dJx4a65c_grow_92f84_31 : decode cJx4a65c_grow_92f84 31 = .ok (.aload_n 0, 1) := by decide +kernel
theorem dJx4a65c_grow_92f84_32 : decode cJx4a65c_grow_92f84 32 = .ok (.aload_n 0, 1) := by decide +kernel
theorem dJx4a65c_grow_92f84_33 : decode cJx4a65c_grow_92f84 33 = .ok (.getfield 9, 3) := by decide +kernel
theorem dJx4a65c_grow_92f84_36 : decode cJx4a65c_grow_92f84 36 = .ok (.iload_n 3, 1) := by decide +kernel
theorem dJx4a65c_grow_92f84_37 : decode cJx4a65c_grow_92f84 37 = .ok (.invokestatic 66, 3) := by decide +kernel
theorem dJx4a65c_grow_92f84_40 : decode cJx4a65c_grow_92f84 40 = .ok (.dup_x1, 1) := by decide +kernel
theorem dJx4a65c_grow_92f84_41 : decode cJx4a65c_grow_92f84 41 = .ok (.putfield 9, 3) := by decide +kernel
theorem dJx4a65c_grow_92f84_44 : decode cJx4a65c_grow_92f84 44 = .ok (.areturn, 1) := by decide +kernel
theorem dJx4a65c_grow_92f84_45 : decode cJx4a65c_grow_92f84 45 = .ok (.aload_n 0, 1) := by decide +kernel
theorem dJx4a65c_grow_92f84_46 : decode cJx4a65c_grow_92f84 46 = .ok (.bipush 10, 2) := by decide +kernel
theorem dJx4a65c_grow_92f84_48 : decode cJx4a65c_grow_92f84 48 = .ok (.iload_n 1, 1) := by decide +kernel
theorem dJx4a65c_grow_92f84_49 : decode cJx4a65c_grow_92f84 49 = .ok (.invokestatic 79, 3) := by decide +kernel
theorem dJx4a65c_grow_92f84_52 : decode cJx4a65c_grow_92f84 52 = .ok (.anewarray 7, 3) := by decide +kernel
theorem dJx4a65c_grow_92f84_55 : decode cJx4a65c_grow_92f84 55 = .ok (.dup_x1, 1) := by decide +kernel
theorem dJx4a65c_grow_92f84_56 : decode cJx4a65c_grow_92f84 56 = .ok (.putfield 9, 3) := by decide +kernel
theorem dJx4a65c_grow_92f84_59 : decode cJx4a65c_grow_92f84 59 = .ok (.areturn, 1) := by decide +kernel
set_option maxRecDepth 20000 in
theorem ggJx4a65c_grow_d5877_Jx4a65c_grow_92f84 : GoodIn wsJx4a65c_grow_d5877 wsJx4a65c_grow_92f84 := goodIn_r _ [6, 7, 8, 9, 10, 11, 12, 13, 14, 15, 16, 17, 18, 19, 20, 21, 22, 23, 24, 25, 26, 27, 28, 29, 30, 31, 32, 33, 34, 35, 36, 37, 38, 39, 40, 41, 42, 43, 44, 45, 46, 47, 48, 49, 50, 51, 52] (by decide +kernel) (by decide +kernel)
set_option maxRecDepth 20000 in
theorem gJx4a65c_grow_d5877_Jx4a65c_grow_92f84 : GoodIn wsJx4a65c_grow_d5877 (wsV RJx4a65c 69 RJx4a65c yJx4a65c_grow_92f84 wsJx4a65c_grow_92f84) := goodIn_app (goodIn_of _ (by decide +kernel)) ggJx4a65c_grow_d5877_Jx4a65c_grow_92f84
theorem dJx4a65c_grow_d5877_0 : decode cJx4a65c_grow_d5877 0 = .ok (.aload_n 0, 1) := by decide +kernel
theorem dJx4a65c_grow_d5877_1 : decode cJx4a65c_grow_d5877 1 = .ok (.aload_n 0, 1) := by decide +kernel
theorem dJx4a65c_grow_d5877_2 : decode cJx4a65c_grow_d5877 2 = .ok (.getfield 48, 3) := by decide +kernel
theorem dJx4a65c_grow_d5877_5 : decode cJx4a65c_grow_d5877 5 = .ok (.iconst 1, 1) := by decide +kernel
theorem dJx4a65c_grow_d5877_6 : decode cJx4a65c_grow_d5877 6 = .ok (.iadd, 1) := by decide +kernel
theorem dJx4a65c_grow_d5877_7 : decode cJx4a65c_grow_d5877 7 = .ok (.invokevirtual 69, 3) := by decide +kernel
theorem dJx4a65c_grow_d5877_10 : decode cJx4a65c_grow_d5877 10 = .ok (.areturn, 1) := by decide +kernel
theorem dJx4a65c_size_8abf5_0 : decode cJx4a65c_size_8abf5 0 = .ok (.aload_n 0, 1) := by decide +kernel
theorem dJx4a65c_size_8abf5_1 : decode cJx4a65c_size_8abf5 1 = .ok (.getfield 48, 3) := by decide +kernel
theorem dJx4a65c_size_8abf5_4 : decode cJx4a65c_size_8abf5 4 = .ok (.ireturn, 1) := by decide +kernel
theorem dJx4a65c_isEmpty_aae02_0 : decode cJx4a65c_isEmpty_aae02 0 = .ok (.aload_n 0, 1) := by decide +kernel
theorem dJx4a65c_isEmpty_aae02_1 : decode cJx4a65c_isEmpty_aae02 1 = .ok (.getfield 48, 3) := by decide +kernel
theorem dJx4a65c_isEmpty_aae02_4 : decode cJx4a65c_isEmpty_aae02 4 = .ok (.ifCond .ne 7, 3) := by decide +kernel
theorem dJx4a65c_isEmpty_aae02_7 : decode cJx4a65c_isEmpty_aae02 7 = .ok (.iconst 1, 1) := by decide +kernel
theorem dJx4a65c_isEmpty_aae02_8 : decode cJx4a65c_isEmpty_aae02 8 = .ok (.goto 4, 3) := by decide +kernel
theorem dJx4a65c_isEmpty_aae02_11 : decode cJx4a65c_isEmpty_aae02 11 = .ok (.iconst 0, 1) := by decide +kernel
theorem dJx4a65c_isEmpty_aae02_12 : decode cJx4a65c_isEmpty_aae02 12 = .ok (.ireturn, 1) := by decide +kernel
set_option maxRecDepth 20000 in
theorem ggJx4a65c_contains_9ea2d_Jx4a65c_indexOf_e47da : GoodIn wsJx4a65c_contains_9ea2d wsJx4a65c_indexOf_e47da := goodIn_r _ [5, 6, 7, 8, 9, 4, 10, 11, 12, 13, 14, 15, 16, 17, 18, 19, 20, 21, 22, 23, 24, 25, 26, 27, 28, 29, 30, 31, 32, 33, 34, 35, 36, 37, 38, 39, 40, 41, 42, 43] (by decide +kernel) (by decide +kernel)
set_option maxRecDepth 20000 in
theorem gJx4a65c_contains_9ea2d_Jx4a65c_indexOf_e47da : GoodIn wsJx4a65c_contains_9ea2d (wsV RJx4a65c 85 RJx4a65c yJx4a65c_indexOf_e47da wsJx4a65c_indexOf_e47da) := goodIn_app (goodIn_of _ (by decide +kernel)) ggJx4a65c_contains_9ea2d_Jx4a65c_indexOf_e47da
theorem dJx4a65c_contains_9ea2d_0 : decode cJx4a65c_contains_9ea2d 0 = .ok (.aload_n 0, 1) := by decide +kernel
theorem dJx4a65c_contains_9ea2d_1 : decode cJx4a65c_contains_9ea2d 1 = .ok (.aload_n 1, 1) := by decide +kernel
theorem dJx4a65c_contains_9ea2d_2 : decode cJx4a65c_contains_9ea2d 2 = .ok (.invokevirtual 85, 3) := by decide +kernel
theorem dJx4a65c_contains_9ea2d_5 : decode cJx4a65c_contains_9ea2d 5 = .ok (.ifCond .lt 7, 3) := by decide +kernel
theorem dJx4a65c_contains_9ea2d_8 : decode cJx4a65c_contains_9ea2d 8 = .ok (.iconst 1, 1) := by decide +kernel
theorem dJx4a65c_contains_9ea2d_9 : decode cJx4a65c_contains_9ea2d 9 = .ok (.goto 4, 3) := by decide +kernel
theorem dJx4a65c_contains_9ea2d_12 : decode cJx4a65c_contains_9ea2d 12 = .ok (.iconst 0, 1) := by decide +kernel
theorem dJx4a65c_contains_9ea2d_13 : decode cJx4a65c_contains_9ea2d 13 = .ok (.ireturn, 1) := by decide +kernel
set_option maxRecDepth 20000 in
theorem ggJx4a65c_indexOf_e47da_Jx4a65c_indexOfRange_bf822 : GoodIn wsJx4a65c_indexOf_e47da wsJx4a65c_indexOfRange_bf822 := goodIn_r _ [6, 7, 8, 9, 10, 11, 12, 13, 14, 15, 16, 17, 18, 19, 20, 21, 22, 23, 24, 25, 26, 27, 28, 29, 30, 31, 32, 33, 34, 35, 36, 37, 38, 39] (by decide +kernel) (by decide +kernel)
set_option maxRecDepth 20000 in
theorem gJx4a65c_indexOf_e47da_Jx4a65c_indexOfRange_bf822 : GoodIn wsJx4a65c_indexOf_e47da (wsV RJx4a65c 89 RJx4a65c yJx4a65c_indexOfRange_bf822 wsJx4a65c_indexOfRange_bf822) := goodIn_app (goodIn_of _ (by decide +kernel)) ggJx4a65c_indexOf_e47da_Jx4a65c_indexOfRange_bf822
theorem dJx4a65c_indexOf_e47da_0 : decode cJx4a65c_indexOf_e47da 0 = .ok (.aload_n 0, 1) := by decide +kernel
theorem dJx4a65c_indexOf_e47da_1 : decode cJx4a65c_indexOf_e47da 1 = .ok (.aload_n 1, 1) := by decide +kernel
theorem dJx4a65c_indexOf_e47da_2 : decode cJx4a65c_indexOf_e47da 2 = .ok (.iconst 0, 1) := by decide +kernel
theorem dJx4a65c_indexOf_e47da_3 : decode cJx4a65c_indexOf_e47da 3 = .ok (.aload_n 0, 1) := by decide +kernel
theorem dJx4a65c_indexOf_e47da_4 : decode cJx4a65c_indexOf_e47da 4 = .ok (.getfield 48, 3) := by decide +kernel
theorem dJx4a65c_indexOf_e47da_7 : decode cJx4a65c_indexOf_e47da 7 = .ok (.invokevirtual 89, 3) := by decide +kernel
theorem dJx4a65c_indexOf_e47da_10 : decode cJx4a65c_indexOf_e47da 10 = .ok (.ireturn, 1) := by decide +kernel
set_option maxRecDepth 20000 in
theorem ggJx4a65c_indexOfRange_bf822_J6_equals_9ea2d : GoodIn wsJx4a65c_indexOfRange_bf822 wsJ6_equals_9ea2d := goodIn_r _ [7, 8, 9, 10, 11, 12, 6, 13, 29] (by decide +kernel) (by decide +kernel)
set_option maxRecDepth 20000 in
theorem gJx4a65c_indexOfRange_bf822_J6_equals_9ea2d_u93J6 : GoodIn wsJx4a65c_indexOfRange_bf822 (va_wsU RJx4a65c 93 RJ6 "java/lang/Object" ⟨"java/lang/Object", "equals", "(Ljava/lang/Object;)Z"⟩ yJ6_equals_9ea2d wsJ6_equals_9ea2d) := goodIn_app (goodIn_of _ (by decide +kernel)) ggJx4a65c_indexOfRange_bf822_J6_equals_9ea2d
set_option maxRecDepth 20000 in
theorem ggJx4a65c_indexOfRange_bf822_J0_equals_9ea2d : GoodIn wsJx4a65c_indexOfRange_bf822 wsJ0_equals_9ea2d := goodIn_r _ [17, 18, 19, 20, 21, 22, 23, 24, 25, 30, 31, 32, 33] (by decide +kernel) (by decide +kernel)
set_option maxRecDepth 20000 in
theorem gJx4a65c_indexOfRange_bf822_J0_equals_9ea2d_u93J0 : GoodIn wsJx4a65c_indexOfRange_bf822 (va_wsU RJx4a65c 93 RJ0 "java/lang/Object" ⟨"java/lang/Object", "equals", "(Ljava/lang/Object;)Z"⟩ yJ0_equals_9ea2d wsJ0_equals_9ea2d) := goodIn_app (goodIn_of _ (by decide +kernel)) ggJx4a65c_indexOfRange_bf822_J0_equals_9ea2d
theorem dJx4a65c_indexOfRange_bf822_0 : decode cJx4a65c_indexOfRange_bf822 0 = .ok (.aload_n 0, 1) := by decide +kernel
theorem dJx4a65c_indexOfRange_bf822_1 : decode cJx4a65c_indexOfRange_bf822 1 = .ok (.getfield 9, 3) := by decide +kernel
theorem dJx4a65c_indexOfRange_bf822_4 : decode cJx4a65c_indexOfRange_bf822 4 = .ok (.astore 4, 2) := by decide +kernel
theorem dJx4a65c_indexOfRange_bf822_6 : decode cJx4a65c_indexOfRange_bf822 6 = .ok (.aload_n 1, 1) := by decide +kernel
theorem dJx4a65c_indexOfRange_bf822_7 : decode cJx4a65c_indexOfRange_bf822 7 = .ok (.ifnonnull 32, 3) := by decide +kernel
theorem dJx4a65c_indexOfRange_bf822_10 : decode cJx4a65c_indexOfRange_bf822 10 = .ok (.iload_n 2, 1) := by decide +kernel
theorem dJx4a65c_indexOfRange_bf822_11 : decode cJx4a65c_indexOfRange_bf822 11 = .ok (.istore 5, 2) := by decide +kernel
theorem dJx4a65c_indexOfRange_bf822_13 : decode cJx4a65c_indexOfRange_bf822 13 = .ok (.iload 5, 2) := by decide +kernel
theorem dJx4a65c_indexOfRange_bf822_15 : decode cJx4a65c_indexOfRange_bf822 15 = .ok (.iload_n 3, 1) := by decide +kernel
theorem dJx4a65c_indexOfRange_bf822_16 : decode cJx4a65c_indexOfRange_bf822 16 = .ok (.if_icmp .ge 20, 3) := by decide +kernel
theorem dJx4a65c_indexOfRange_bf822_19 : decode cJx4a65c_indexOfRange_bf822 19 = .ok (.aload 4, 2) := by decide +kernel
theorem dJx4a65c_indexOfRange_bf822_21 : decode cJx4a65c_indexOfRange_bf822 21 = .ok (.iload 5, 2) := by decide +kernel
theorem dJx4a65c_indexOfRange_bf822_23 : decode cJx4a65c_indexOfRange_bf822 23 = .ok (.aaload, 1) := by decide +kernel
theorem dJx4a65c_indexOfRange_bf822_24 : decode cJx4a65c_indexOfRange_bf822 24 = .ok (.ifnonnull 6, 3) := by decide +kernel
theorem dJx4a65c_indexOfRange_bf822_27 : decode cJx4a65c_indexOfRange_bf822 27 = .ok (.iload 5, 2) := by decide +kernel
theorem dJx4a65c_indexOfRange_bf822_29 : decode cJx4a65c_indexOfRange_bf822 29 = .ok (.ireturn, 1) := by decide +kernel
theorem dJx4a65c_indexOfRange_bf822_30 : decode cJx4a65c_indexOfRange_bf822 30 = .ok (.iinc 5 1, 3) := by decide +kernel
theorem dJx4a65c_indexOfRange_bf822_33 : decode cJx4a65c_indexOfRange_bf822 33 = .ok (.goto (-20), 3) := by decide +kernel
theorem dJx4a65c_indexOfRange_bf822_36 : decode cJx4a65c_indexOfRange_bf822 36 = .ok (.goto 33, 3) := by decide +kernel
theorem dJx4a65c_indexOfRange_bf822_39 : decode cJx4a65c_indexOfRange_bf822 39 = .ok (.iload_n 2, 1) := by decide +kernel
theorem dJx4a65c_indexOfRange_bf822_40 : decode cJx4a65c_indexOfRange_bf822 40 = .ok (.istore 5, 2) := by decide +kernel
theorem dJx4a65c_indexOfRange_bf822_42 : decode cJx4a65c_indexOfRange_bf822 42 = .ok (.iload 5, 2) := by decide +kernel
theorem dJx4a65c_indexOfRange_bf822_44 : decode cJx4a65c_indexOfRange_bf822 44 = .ok (.iload_n 3, 1) := by decide +kernel
theorem dJx4a65c_indexOfRange_bf822_45 : decode cJx4a65c_indexOfRange_bf822 45 = .ok (.if_icmp .ge 24, 3) := by decide +kernel
theorem dJx4a65c_indexOfRange_bf822_48 : decode cJx4a65c_indexOfRange_bf822 48 = .ok (.aload_n 1, 1) := by decide +kernel
theorem dJx4a65c_indexOfRange_bf822_49 : decode cJx4a65c_indexOfRange_bf822 49 = .ok (.aload 4, 2) := by decide +kernel
theorem dJx4a65c_indexOfRange_bf822_51 : decode cJx4a65c_indexOfRange_bf822 51 = .ok (.iload 5, 2) := by decide +kernel
theorem dJx4a65c_indexOfRange_bf822_53 : decode cJx4a65c_indexOfRange_bf822 53 = .ok (.aaload, 1) := by decide +kernel
theorem dJx4a65c_indexOfRange_bf822_54 : decode cJx4a65c_indexOfRange_bf822 54 = .ok (.invokevirtual 93, 3) := by decide +kernel
theorem dJx4a65c_indexOfRange_bf822_57 : decode cJx4a65c_indexOfRange_bf822 57 = .ok (.ifCond .eq 6, 3) := by decide +kernel
theorem dJx4a65c_indexOfRange_bf822_60 : decode cJx4a65c_indexOfRange_bf822 60 = .ok (.iload 5, 2) := by decide +kernel
theorem dJx4a65c_indexOfRange_bf822_62 : decode cJx4a65c_indexOfRange_bf822 62 = .ok (.ireturn, 1) := by decide +kernel
theorem dJx4a65c_indexOfRange_bf822_63 : decode cJx4a65c_indexOfRange_bf822 63 = .ok (.iinc 5 1, 3) := by decide +kernel
theorem dJx4a65c_indexOfRange_bf822_66 : decode cJx4a65c_indexOfRange_bf822 66 = .ok (.goto (-24), 3) := by decide +kernel
theorem dJx4a65c_indexOfRange_bf822_69 : decode cJx4a65c_indexOfRange_bf822 69 = .ok (.iconst (-1), 1) := by decide +kernel
theorem dJx4a65c_indexOfRange_bf822_70 : decode cJx4a65c_indexOfRange_bf822 70 = .ok (.ireturn, 1) := by decide +kernel
set_option maxRecDepth 20000 in
theorem ggJx4a65c_toArray_d5877_J7_copyOf_1904c : GoodIn wsJx4a65c_toArray_d5877 wsJ7_copyOf_1904c := goodIn_r _ [6, 7, 8, 9, 10, 11, 12, 5, 13, 14, 15, 16, 17, 18, 19, 20, 21, 22, 23] (by decide +kernel) (by decide +kernel)
set_option maxRecDepth 20000 in
theorem gJx4a65c_toArray_d5877_J7_copyOf_1904c : GoodIn wsJx4a65c_toArray_d5877 (va_wsS RJx4a65c 66 yJ7_copyOf_1904c wsJ7_copyOf_1904c) := goodIn_app (goodIn_of _ (by decide +kernel)) ggJx4a65c_toArray_d5877_J7_copyOf_1904c
theorem dJx4a65c_toArray_d5877_0 : decode cJx4a65c_toArray_d5877 0 = .ok (.aload_n 0, 1) := by decide +kernel
theorem dJx4a65c_toArray_d5877_1 : decode cJx4a65c_toArray_d5877 1 = .ok (.getfield 9, 3) := by decide +kernel
theorem dJx4a65c_toArray_d5877_4 : decode cJx4a65c_toArray_d5877 4 = .ok (.aload_n 0, 1) := by decide +kernel
theorem dJx4a65c_toArray_d5877_5 : decode cJx4a65c_toArray_d5877 5 = .ok (.getfield 48, 3) := by decide +kernel
theorem dJx4a65c_toArray_d5877_8 : decode cJx4a65c_toArray_d5877 8 = .ok (.invokestatic 66, 3) := by decide +kernel
theorem dJx4a65c_toArray_d5877_11 : decode cJx4a65c_toArray_d5877 11 = .ok (.areturn, 1) := by decide +kernel
theorem dJx4a65c_elementData_915e3_0 : decode cJx4a65c_elementData_915e3 0 = .ok (.aload_n 0, 1) := by decide +kernel
theorem dJx4a65c_elementData_915e3_1 : decode cJx4a65c_elementData_915e3 1 = .ok (.getfield 9, 3) := by decide +kernel
theorem dJx4a65c_elementData_915e3_4 : decode cJx4a65c_elementData_915e3 4 = .ok (.iload_n 1, 1) := by decide +kernel
theorem dJx4a65c_elementData_915e3_5 : decode cJx4a65c_elementData_915e3 5 = .ok (.aaload, 1) := by decide +kernel
theorem dJx4a65c_elementData_915e3_6 : decode cJx4a65c_elementData_915e3 6 = .ok (.areturn, 1) := by decide +kernel
set_option maxRecDepth 20000 in
theorem ggJx4a65c_get_915e3_J15_checkIndex_7cf53 : GoodIn wsJx4a65c_get_915e3 wsJ15_checkIndex_7cf53 := goodIn_r _ [5, 6, 7, 8, 9] (by decide +kernel) (by decide +kernel)
set_option maxRecDepth 20000 in
theorem gJx4a65c_get_915e3_J15_checkIndex_7cf53 : GoodIn wsJx4a65c_get_915e3 (va_wsS RJx4a65c 118 yJ15_checkIndex_7cf53 wsJ15_checkIndex_7cf53) := goodIn_app (goodIn_of _ (by decide +kernel)) ggJx4a65c_get_915e3_J15_checkIndex_7cf53
set_option maxRecDepth 20000 in
theorem ggJx4a65c_get_915e3_Jx4a65c_elementData_915e3 : GoodIn wsJx4a65c_get_915e3 wsJx4a65c_elementData_915e3 := goodIn_r _ [14, 15, 16, 17, 18] (by decide +kernel) (by decide +kernel)
set_option maxRecDepth 20000 in
theorem gJx4a65c_get_915e3_Jx4a65c_elementData_915e3 : GoodIn wsJx4a65c_get_915e3 (wsV RJx4a65c 123 RJx4a65c yJx4a65c_elementData_915e3 wsJx4a65c_elementData_915e3) := goodIn_app (goodIn_of _ (by decide +kernel)) ggJx4a65c_get_915e3_Jx4a65c_elementData_915e3
theorem dJx4a65c_get_915e3_0 : decode cJx4a65c_get_915e3 0 = .ok (.iload_n 1, 1) := by decide +kernel
theorem dJx4a65c_get_915e3_1 : decode cJx4a65c_get_915e3 1 = .ok (.aload_n 0, 1) := by decide +kernel
theorem dJx4a65c_get_915e3_2 : decode cJx4a65c_get_915e3 2 = .ok (.getfield 48, 3) := by decide +kernel
theorem dJx4a65c_get_915e3_5 : decode cJx4a65c_get_915e3 5 = .ok (.invokestatic 118, 3) := by decide +kernel
theorem dJx4a65c_get_915e3_8 : decode cJx4a65c_get_915e3 8 = .ok (.pop, 1) := by decide +kernel
theorem dJx4a65c_get_915e3_9 : decode cJx4a65c_get_915e3 9 = .ok (.aload_n 0, 1) := by decide +kernel
theorem dJx4a65c_get_915e3_10 : decode cJx4a65c_get_915e3 10 = .ok (.iload_n 1, 1) := by decide +kernel
theorem dJx4a65c_get_915e3_11 : decode cJx4a65c_get_915e3 11 = .ok (.invokevirtual 123, 3) := by decide +kernel
theorem dJx4a65c_get_915e3_14 : decode cJx4a65c_get_915e3 14 = .ok (.areturn, 1) := by decide +kernel
set_option maxRecDepth 20000 in
theorem ggJx4a65c_add_72be8_Jx4a65c_grow_d5877 : GoodIn wsJx4a65c_add_72be8 wsJx4a65c_grow_d5877 := goodIn_r _ [6, 1, 7, 8, 9, 5, 10, 11, 12, 13, 14, 15, 16, 17, 18, 19, 20, 21, 22, 23, 24, 25, 26, 27, 28, 29, 30, 31, 32, 33, 34, 35, 36, 37, 38, 39, 40, 41, 42, 43, 44, 45, 46, 47, 48, 49, 50, 51, 52, 53, 54, 55, 56] (by decide +kernel) (by decide +kernel)
set_option maxRecDepth 20000 in
theorem gJx4a65c_add_72be8_Jx4a65c_grow_d5877 : GoodIn wsJx4a65c_add_72be8 (wsV RJx4a65c 129 RJx4a65c yJx4a65c_grow_d5877 wsJx4a65c_grow_d5877) := goodIn_app (goodIn_of _ (by decide +kernel)) ggJx4a65c_add_72be8_Jx4a65c_grow_d5877
theorem dJx4a65c_add_72be8_0 : decode cJx4a65c_add_72be8 0 = .ok (.iload_n 3, 1) := by decide +kernel
theorem dJx4a65c_add_72be8_1 : decode cJx4a65c_add_72be8 1 = .ok (.aload_n 2, 1) := by decide +kernel
theorem dJx4a65c_add_72be8_2 : decode cJx4a65c_add_72be8 2 = .ok (.arraylength, 1) := by decide +kernel
theorem dJx4a65c_add_72be8_3 : decode cJx4a65c_add_72be8 3 = .ok (.if_icmp .ne 8, 3) := by decide +kernel
theorem dJx4a65c_add_72be8_6 : decode cJx4a65c_add_72be8 6 = .ok (.aload_n 0, 1) := by decide +kernel
theorem dJx4a65c_add_72be8_7 : decode cJx4a65c_add_72be8 7 = .ok (.invokevirtual 129, 3) := by decide +kernel
theorem dJx4a65c_add_72be8_10 : decode cJx4a65c_add_72be8 10 = .ok (.astore_n 2, 1) := by decide +kernel
theorem dJx4a65c_add_72be8_11 : decode cJx4a65c_add_72be8 11 = .ok (.aload_n 2, 1) := by decide +kernel
theorem dJx4a65c_add_72be8_12 : decode cJx4a65c_add_72be8 12 = .ok (.iload_n 3, 1) := by decide +kernel
theorem dJx4a65c_add_72be8_13 : decode cJx4a65c_add_72be8 13 = .ok (.aload_n 1, 1) := by decide +kernel
theorem dJx4a65c_add_72be8_14 : decode cJx4a65c_add_72be8 14 = .ok (.aastore, 1) := by decide +kernel
theorem dJx4a65c_add_72be8_15 : decode cJx4a65c_add_72be8 15 = .ok (.aload_n 0, 1) := by decide +kernel
theorem dJx4a65c_add_72be8_16 : decode cJx4a65c_add_72be8 16 = .ok (.iload_n 3, 1) := by decide +kernel
theorem dJx4a65c_add_72be8_17 : decode cJx4a65c_add_72be8 17 = .ok (.iconst 1, 1) := by decide +kernel
theorem dJx4a65c_add_72be8_18 : decode cJx4a65c_add_72be8 18 = .ok (.iadd, 1) := by decide +kernel
theorem dJx4a65c_add_72be8_19 : decode cJx4a65c_add_72be8 19 = .ok (.putfield 48, 3) := by decide +kernel
theorem dJx4a65c_add_72be8_22 : decode cJx4a65c_add_72be8 22 = .ok (.return_, 1) := by decide +kernel
set_option maxRecDepth 20000 in
theorem ggJx4a65c_add_9ea2d_Jx4a65c_add_72be8 : GoodIn wsJx4a65c_add_9ea2d wsJx4a65c_add_72be8 := goodIn_r _ [9, 4, 10, 11, 12, 8, 13, 14, 15, 16, 17, 3, 18, 19, 20, 21, 22, 23, 24, 25, 26, 27, 28, 29, 30, 31, 32, 33, 34, 35, 36, 37, 38, 39, 40, 41, 42, 43, 44, 45, 46, 47, 48, 49, 50, 51, 52, 53, 54, 55, 56, 57, 58, 59, 60, 61, 62] (by decide +kernel) (by decide +kernel)
set_option maxRecDepth 20000 in
theorem gJx4a65c_add_9ea2d_Jx4a65c_add_72be8 : GoodIn wsJx4a65c_add_9ea2d (wsV RJx4a65c 131 RJx4a65c yJx4a65c_add_72be8 wsJx4a65c_add_72be8) := goodIn_app (goodIn_of _ (by decide +kernel)) ggJx4a65c_add_9ea2d_Jx4a65c_add_72be8
theorem dJx4a65c_add_9ea2d_0 : decode cJx4a65c_add_9ea2d 0 = .ok (.aload_n 0, 1) := by decide +kernel
theorem dJx4a65c_add_9ea2d_1 : decode cJx4a65c_add_9ea2d 1 = .ok (.dup, 1) := by decide +kernel
theorem dJx4a65c_add_9ea2d_2 : decode cJx4a65c_add_9ea2d 2 = .ok (.getfield 63, 3) := by decide +kernel
theorem dJx4a65c_add_9ea2d_5 : decode cJx4a65c_add_9ea2d 5 = .ok (.iconst 1, 1) := by decide +kernel
theorem dJx4a65c_add_9ea2d_6 : decode cJx4a65c_add_9ea2d 6 = .ok (.iadd, 1) := by decide +kernel
theorem dJx4a65c_add_9ea2d_7 : decode cJx4a65c_add_9ea2d 7 = .ok (.putfield 63, 3) := by decide +kernel
theorem dJx4a65c_add_9ea2d_10 : decode cJx4a65c_add_9ea2d 10 = .ok (.aload_n 0, 1) := by decide +kernel
theorem dJx4a65c_add_9ea2d_11 : decode cJx4a65c_add_9ea2d 11 = .ok (.aload_n 1, 1) := by decide +kernel
theorem dJx4a65c_add_9ea2d_12 : decode cJx4a65c_add_9ea2d 12 = .ok (.aload_n 0, 1) := by decide +kernel
theorem dJx4a65c_add_9ea2d_13 : decode cJx4a65c_add_9ea2d 13 = .ok (.getfield 9, 3) := by decide +kernel
theorem dJx4a65c_add_9ea2d_16 : decode cJx4a65c_add_9ea2d 16 = .ok (.aload_n 0, 1) := by decide +kernel
theorem dJx4a65c_add_9ea2d_17 : decode cJx4a65c_add_9ea2d 17 = .ok (.getfield 48, 3) := by decide +kernel
theorem dJx4a65c_add_9ea2d_20 : decode cJx4a65c_add_9ea2d 20 = .ok (.invokevirtual 131, 3) := by decide +kernel
theorem dJx4a65c_add_9ea2d_23 : decode cJx4a65c_add_9ea2d 23 = .ok (.iconst 1, 1) := by decide +kernel
theorem dJx4a65c_add_9ea2d_24 : decode cJx4a65c_add_9ea2d 24 = .ok (.ireturn, 1) := by decide +kernel
set_option maxRecDepth 20000 in
theorem ggJx4a65c_remove_915e3_J15_checkIndex_7cf53 : GoodIn wsJx4a65c_remove_915e3 wsJ15_checkIndex_7cf53 := goodIn_r _ [6, 7, 8, 9, 10] (by decide +kernel) (by decide +kernel)
set_option maxRecDepth 20000 in
theorem gJx4a65c_remove_915e3_J15_checkIndex_7cf53 : GoodIn wsJx4a65c_remove_915e3 (va_wsS RJx4a65c 118 yJ15_checkIndex_7cf53 wsJ15_checkIndex_7cf53) := goodIn_app (goodIn_of _ (by decide +kernel)) ggJx4a65c_remove_915e3_J15_checkIndex_7cf53
set_option maxRecDepth 20000 in
theorem ggJx4a65c_remove_915e3_Jx4a65c_fastRemove_b59b0 : GoodIn wsJx4a65c_remove_915e3 wsJx4a65c_fastRemove_b59b0 := goodIn_r _ [15, 16, 17, 1, 18, 19, 20, 21, 22, 23, 24] (by decide +kernel) (by decide +kernel)
set_option maxRecDepth 20000 in
theorem gJx4a65c_remove_915e3_Jx4a65c_fastRemove_b59b0 : GoodIn wsJx4a65c_remove_915e3 (wsV RJx4a65c 144 RJx4a65c yJx4a65c_fastRemove_b59b0 wsJx4a65c_fastRemove_b59b0) := goodIn_app (goodIn_of _ (by decide +kernel)) ggJx4a65c_remove_915e3_Jx4a65c_fastRemove_b59b0
theorem dJx4a65c_remove_915e3_0 : decode cJx4a65c_remove_915e3 0 = .ok (.iload_n 1, 1) := by decide +kernel
theorem dJx4a65c_remove_915e3_1 : decode cJx4a65c_remove_915e3 1 = .ok (.aload_n 0, 1) := by decide +kernel
theorem dJx4a65c_remove_915e3_2 : decode cJx4a65c_remove_915e3 2 = .ok (.getfield 48, 3) := by decide +kernel
theorem dJx4a65c_remove_915e3_5 : decode cJx4a65c_remove_915e3 5 = .ok (.invokestatic 118, 3) := by decide +kernel
theorem dJx4a65c_remove_915e3_8 : decode cJx4a65c_remove_915e3 8 = .ok (.pop, 1) := by decide +kernel
theorem dJx4a65c_remove_915e3_9 : decode cJx4a65c_remove_915e3 9 = .ok (.aload_n 0, 1) := by decide +kernel
theorem dJx4a65c_remove_915e3_10 : decode cJx4a65c_remove_915e3 10 = .ok (.getfield 9, 3) := by decide +kernel
theorem dJx4a65c_remove_915e3_13 : decode cJx4a65c_remove_915e3 13 = .ok (.astore_n 2, 1) := by decide +kernel
theorem dJx4a65c_remove_915e3_14 : decode cJx4a65c_remove_915e3 14 = .ok (.aload_n 2, 1) := by decide +kernel
theorem dJx4a65c_remove_915e3_15 : decode cJx4a65c_remove_915e3 15 = .ok (.iload_n 1, 1) := by decide +kernel
theorem dJx4a65c_remove_915e3_16 : decode cJx4a65c_remove_915e3 16 = .ok (.aaload, 1) := by decide +kernel
theorem dJx4a65c_remove_915e3_17 : decode cJx4a65c_remove_915e3 17 = .ok (.astore_n 3, 1) := by decide +kernel
theorem dJx4a65c_remove_915e3_18 : decode cJx4a65c_remove_915e3 18 = .ok (.aload_n 0, 1) := by decide +kernel
theorem dJx4a65c_remove_915e3_19 : decode cJx4a65c_remove_915e3 19 = .ok (.aload_n 2, 1) := by decide +kernel
theorem dJx4a65c_remove_915e3_20 : decode cJx4a65c_remove_915e3 20 = .ok (.iload_n 1, 1) := by decide +kernel
theorem dJx4a65c_remove_915e3_21 : decode cJx4a65c_remove_915e3 21 = .ok (.invokevirtual 144, 3) := by decide +kernel
