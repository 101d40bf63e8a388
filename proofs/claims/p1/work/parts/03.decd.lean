theorem dJx4a65c_remove_915e3_24 : decode cJx4a65c_remove_915e3 24 = .ok (.aload_n 3, 1) := by decide +kernel
theorem dJx4a65c_remove_915e3_25 : decode cJx4a65c_remove_915e3 25 = .ok (.areturn, 1) := by decide +kernel
theorem dJx4a65c_fastRemove_b59b0_0 : decode cJx4a65c_fastRemove_b59b0 0 = .ok (.aload_n 0, 1) := by decide +kernel
theorem dJx4a65c_fastRemove_b59b0_1 : decode cJx4a65c_fastRemove_b59b0 1 = .ok (.dup, 1) := by decide +kernel
theorem dJx4a65c_fastRemove_b59b0_2 : decode cJx4a65c_fastRemove_b59b0 2 = .ok (.getfield 63, 3) := by decide +kernel
theorem dJx4a65c_fastRemove_b59b0_5 : decode cJx4a65c_fastRemove_b59b0 5 = .ok (.iconst 1, 1) := by decide +kernel
theorem dJx4a65c_fastRemove_b59b0_6 : decode cJx4a65c_fastRemove_b59b0 6 = .ok (.iadd, 1) := by decide +kernel
theorem dJx4a65c_fastRemove_b59b0_7 : decode cJx4a65c_fastRemove_b59b0 7 = .ok (.putfield 63, 3) := by decide +kernel
theorem dJx4a65c_fastRemove_b59b0_10 : decode cJx4a65c_fastRemove_b59b0 10 = .ok (.aload_n 0, 1) := by decide +kernel
theorem dJx4a65c_fastRemove_b59b0_11 : decode cJx4a65c_fastRemove_b59b0 11 = .ok (.getfield 48, 3) := by decide +kernel
theorem dJx4a65c_fastRemove_b59b0_14 : decode cJx4a65c_fastRemove_b59b0 14 = .ok (.iconst 1, 1) := by decide +kernel
theorem dJx4a65c_fastRemove_b59b0_15 : decode cJx4a65c_fastRemove_b59b0 15 = .ok (.isub, 1) := by decide +kernel
theorem dJx4a65c_fastRemove_b59b0_16 : decode cJx4a65c_fastRemove_b59b0 16 = .ok (.dup, 1) := by decide +kernel
theorem dJx4a65c_fastRemove_b59b0_17 : decode cJx4a65c_fastRemove_b59b0 17 = .ok (.istore_n 3, 1) := by decide +kernel
theorem dJx4a65c_fastRemove_b59b0_18 : decode cJx4a65c_fastRemove_b59b0 18 = .ok (.iload_n 2, 1) := by decide +kernel
theorem dJx4a65c_fastRemove_b59b0_19 : decode cJx4a65c_fastRemove_b59b0 19 = .ok (.if_icmp .le 15, 3) := by decide +kernel
theorem dJx4a65c_fastRemove_b59b0_22 : decode cJx4a65c_fastRemove_b59b0 22 = .ok (.aload_n 1, 1) := by decide +kernel
theorem dJx4a65c_fastRemove_b59b0_23 : decode cJx4a65c_fastRemove_b59b0 23 = .ok (.iload_n 2, 1) := by decide +kernel
theorem dJx4a65c_fastRemove_b59b0_24 : decode cJx4a65c_fastRemove_b59b0 24 = .ok (.iconst 1, 1) := by decide +kernel
theorem dJx4a65c_fastRemove_b59b0_25 : decode cJx4a65c_fastRemove_b59b0 25 = .ok (.iadd, 1) := by decide +kernel
theorem dJx4a65c_fastRemove_b59b0_26 : decode cJx4a65c_fastRemove_b59b0 26 = .ok (.aload_n 1, 1) := by decide +kernel
theorem dJx4a65c_fastRemove_b59b0_27 : decode cJx4a65c_fastRemove_b59b0 27 = .ok (.iload_n 2, 1) := by decide +kernel
theorem dJx4a65c_fastRemove_b59b0_28 : decode cJx4a65c_fastRemove_b59b0 28 = .ok (.iload_n 3, 1) := by decide +kernel
theorem dJx4a65c_fastRemove_b59b0_29 : decode cJx4a65c_fastRemove_b59b0 29 = .ok (.iload_n 2, 1) := by decide +kernel
theorem dJx4a65c_fastRemove_b59b0_30 : decode cJx4a65c_fastRemove_b59b0 30 = .ok (.isub, 1) := by decide +kernel
theorem dJx4a65c_fastRemove_b59b0_31 : decode cJx4a65c_fastRemove_b59b0 31 = .ok (.invokestatic 112, 3) := by decide +kernel
theorem dJx4a65c_fastRemove_b59b0_34 : decode cJx4a65c_fastRemove_b59b0 34 = .ok (.aload_n 1, 1) := by decide +kernel
theorem dJx4a65c_fastRemove_b59b0_35 : decode cJx4a65c_fastRemove_b59b0 35 = .ok (.aload_n 0, 1) := by decide +kernel
theorem dJx4a65c_fastRemove_b59b0_36 : decode cJx4a65c_fastRemove_b59b0 36 = .ok (.iload_n 3, 1) := by decide +kernel
theorem dJx4a65c_fastRemove_b59b0_37 : decode cJx4a65c_fastRemove_b59b0 37 = .ok (.dup_x1, 1) := by decide +kernel
theorem dJx4a65c_fastRemove_b59b0_38 : decode cJx4a65c_fastRemove_b59b0 38 = .ok (.putfield 48, 3) := by decide +kernel
theorem dJx4a65c_fastRemove_b59b0_41 : decode cJx4a65c_fastRemove_b59b0 41 = .ok (.aconst_null, 1) := by decide +kernel
theorem dJx4a65c_fastRemove_b59b0_42 : decode cJx4a65c_fastRemove_b59b0 42 = .ok (.aastore, 1) := by decide +kernel
theorem dJx4a65c_fastRemove_b59b0_43 : decode cJx4a65c_fastRemove_b59b0 43 = .ok (.return_, 1) := by decide +kernel
theorem dJx4a65c_clear_da8c8_0 : decode cJx4a65c_clear_da8c8 0 = .ok (.aload_n 0, 1) := by decide +kernel
theorem dJx4a65c_clear_da8c8_1 : decode cJx4a65c_clear_da8c8 1 = .ok (.dup, 1) := by decide +kernel
theorem dJx4a65c_clear_da8c8_2 : decode cJx4a65c_clear_da8c8 2 = .ok (.getfield 63, 3) := by decide +kernel
theorem dJx4a65c_clear_da8c8_5 : decode cJx4a65c_clear_da8c8 5 = .ok (.iconst 1, 1) := by decide +kernel
theorem dJx4a65c_clear_da8c8_6 : decode cJx4a65c_clear_da8c8 6 = .ok (.iadd, 1) := by decide +kernel
theorem dJx4a65c_clear_da8c8_7 : decode cJx4a65c_clear_da8c8 7 = .ok (.putfield 63, 3) := by decide +kernel
theorem dJx4a65c_clear_da8c8_10 : decode cJx4a65c_clear_da8c8 10 = .ok (.aload_n 0, 1) := by decide +kernel
theorem dJx4a65c_clear_da8c8_11 : decode cJx4a65c_clear_da8c8 11 = .ok (.getfield 9, 3) := by decide +kernel
theorem dJx4a65c_clear_da8c8_14 : decode cJx4a65c_clear_da8c8 14 = .ok (.astore_n 1, 1) := by decide +kernel
theorem dJx4a65c_clear_da8c8_15 : decode cJx4a65c_clear_da8c8 15 = .ok (.aload_n 0, 1) := by decide +kernel
theorem dJx4a65c_clear_da8c8_16 : decode cJx4a65c_clear_da8c8 16 = .ok (.getfield 48, 3) := by decide +kernel
theorem dJx4a65c_clear_da8c8_19 : decode cJx4a65c_clear_da8c8 19 = .ok (.istore_n 2, 1) := by decide +kernel
theorem dJx4a65c_clear_da8c8_20 : decode cJx4a65c_clear_da8c8 20 = .ok (.aload_n 0, 1) := by decide +kernel
theorem dJx4a65c_clear_da8c8_21 : decode cJx4a65c_clear_da8c8 21 = .ok (.iconst 0, 1) := by decide +kernel
theorem dJx4a65c_clear_da8c8_22 : decode cJx4a65c_clear_da8c8 22 = .ok (.dup_x1, 1) := by decide +kernel
theorem dJx4a65c_clear_da8c8_23 : decode cJx4a65c_clear_da8c8 23 = .ok (.putfield 48, 3) := by decide +kernel
theorem dJx4a65c_clear_da8c8_26 : decode cJx4a65c_clear_da8c8 26 = .ok (.istore_n 3, 1) := by decide +kernel
theorem dJx4a65c_clear_da8c8_27 : decode cJx4a65c_clear_da8c8 27 = .ok (.iload_n 3, 1) := by decide +kernel
theorem dJx4a65c_clear_da8c8_28 : decode cJx4a65c_clear_da8c8 28 = .ok (.iload_n 2, 1) := by decide +kernel
theorem dJx4a65c_clear_da8c8_29 : decode cJx4a65c_clear_da8c8 29 = .ok (.if_icmp .ge 13, 3) := by decide +kernel
theorem dJx4a65c_clear_da8c8_32 : decode cJx4a65c_clear_da8c8 32 = .ok (.aload_n 1, 1) := by decide +kernel
theorem dJx4a65c_clear_da8c8_33 : decode cJx4a65c_clear_da8c8 33 = .ok (.iload_n 3, 1) := by decide +kernel
theorem dJx4a65c_clear_da8c8_34 : decode cJx4a65c_clear_da8c8 34 = .ok (.aconst_null, 1) := by decide +kernel
theorem dJx4a65c_clear_da8c8_35 : decode cJx4a65c_clear_da8c8 35 = .ok (.aastore, 1) := by decide +kernel
theorem dJx4a65c_clear_da8c8_36 : decode cJx4a65c_clear_da8c8 36 = .ok (.iinc 3 1, 3) := by decide +kernel
theorem dJx4a65c_clear_da8c8_39 : decode cJx4a65c_clear_da8c8 39 = .ok (.goto (-12), 3) := by decide +kernel
theorem dJx4a65c_clear_da8c8_42 : decode cJx4a65c_clear_da8c8 42 = .ok (.return_, 1) := by decide +kernel
set_option maxRecDepth 20000 in
theorem ggJx4a65c_addAll_f0b43_Jx4a65c_toArray_d5877 : GoodIn wsJx4a65c_addAll_f0b43 wsJx4a65c_toArray_d5877 := goodIn_r _ [13, 3, 4, 14, 15, 16, 17, 18, 19, 20, 21, 22, 23, 24, 25, 26, 27, 28, 29, 30, 31, 6, 7, 8, 60, 61, 62] (by decide +kernel) (by decide +kernel)
set_option maxRecDepth 20000 in
theorem gJx4a65c_addAll_f0b43_Jx4a65c_toArray_d5877_f42Jx4a65c : GoodIn wsJx4a65c_addAll_f0b43 (va_wsF RJx4a65c 42 RJx4a65c ⟨"java/util/Collection", "toArray", "()[Ljava/lang/Object;"⟩ yJx4a65c_toArray_d5877 wsJx4a65c_toArray_d5877) := goodIn_app (goodIn_of _ (by decide +kernel)) ggJx4a65c_addAll_f0b43_Jx4a65c_toArray_d5877
set_option maxRecDepth 20000 in
theorem ggJx4a65c_addAll_f0b43_Jx6a02c_toArray_d5877 : GoodIn wsJx4a65c_addAll_f0b43 wsJx6a02c_toArray_d5877 := goodIn_r _ [35, 36, 37, 38, 63, 64] (by decide +kernel) (by decide +kernel)
set_option maxRecDepth 20000 in
theorem gJx4a65c_addAll_f0b43_Jx6a02c_toArray_d5877_f42Jx6a02c : GoodIn wsJx4a65c_addAll_f0b43 (va_wsF RJx4a65c 42 RJx6a02c ⟨"java/util/Collection", "toArray", "()[Ljava/lang/Object;"⟩ yJx6a02c_toArray_d5877 wsJx6a02c_toArray_d5877) := goodIn_app (goodIn_of _ (by decide +kernel)) ggJx4a65c_addAll_f0b43_Jx6a02c_toArray_d5877
set_option maxRecDepth 20000 in
theorem ggJx4a65c_addAll_f0b43_Jx4a65c_grow_92f84 : GoodIn wsJx4a65c_addAll_f0b43 wsJx4a65c_grow_92f84 := goodIn_r _ [42, 3, 43, 44, 45, 29, 46, 47, 48, 49, 50, 51, 52, 53, 54, 55, 56, 57, 58, 59, 14, 15, 16, 17, 18, 19, 20, 21, 22, 23, 24, 25, 26, 27, 28, 30, 31, 6, 7, 8, 60, 61, 62, 65, 66, 67, 68] (by decide +kernel) (by decide +kernel)
set_option maxRecDepth 20000 in
theorem gJx4a65c_addAll_f0b43_Jx4a65c_grow_92f84 : GoodIn wsJx4a65c_addAll_f0b43 (wsV RJx4a65c 69 RJx4a65c yJx4a65c_grow_92f84 wsJx4a65c_grow_92f84) := goodIn_app (goodIn_of _ (by decide +kernel)) ggJx4a65c_addAll_f0b43_Jx4a65c_grow_92f84
theorem dJx4a65c_addAll_f0b43_0 : decode cJx4a65c_addAll_f0b43 0 = .ok (.aload_n 1, 1) := by decide +kernel
theorem dJx4a65c_addAll_f0b43_1 : decode cJx4a65c_addAll_f0b43 1 = .ok (.invokeinterface 42 1, 5) := by decide +kernel
theorem dJx4a65c_addAll_f0b43_6 : decode cJx4a65c_addAll_f0b43 6 = .ok (.astore_n 2, 1) := by decide +kernel
theorem dJx4a65c_addAll_f0b43_7 : decode cJx4a65c_addAll_f0b43 7 = .ok (.aload_n 0, 1) := by decide +kernel
theorem dJx4a65c_addAll_f0b43_8 : decode cJx4a65c_addAll_f0b43 8 = .ok (.dup, 1) := by decide +kernel
theorem dJx4a65c_addAll_f0b43_9 : decode cJx4a65c_addAll_f0b43 9 = .ok (.getfield 63, 3) := by decide +kernel
theorem dJx4a65c_addAll_f0b43_12 : decode cJx4a65c_addAll_f0b43 12 = .ok (.iconst 1, 1) := by decide +kernel
theorem dJx4a65c_addAll_f0b43_13 : decode cJx4a65c_addAll_f0b43 13 = .ok (.iadd, 1) := by decide +kernel
theorem dJx4a65c_addAll_f0b43_14 : decode cJx4a65c_addAll_f0b43 14 = .ok (.putfield 63, 3) := by decide +kernel
theorem dJx4a65c_addAll_f0b43_17 : decode cJx4a65c_addAll_f0b43 17 = .ok (.aload_n 2, 1) := by decide +kernel
theorem dJx4a65c_addAll_f0b43_18 : decode cJx4a65c_addAll_f0b43 18 = .ok (.arraylength, 1) := by decide +kernel
theorem dJx4a65c_addAll_f0b43_19 : decode cJx4a65c_addAll_f0b43 19 = .ok (.istore_n 3, 1) := by decide +kernel
theorem dJx4a65c_addAll_f0b43_20 : decode cJx4a65c_addAll_f0b43 20 = .ok (.iload_n 3, 1) := by decide +kernel
theorem dJx4a65c_addAll_f0b43_21 : decode cJx4a65c_addAll_f0b43 21 = .ok (.ifCond .ne 5, 3) := by decide +kernel
theorem dJx4a65c_addAll_f0b43_24 : decode cJx4a65c_addAll_f0b43 24 = .ok (.iconst 0, 1) := by decide +kernel
theorem dJx4a65c_addAll_f0b43_25 : decode cJx4a65c_addAll_f0b43 25 = .ok (.ireturn, 1) := by decide +kernel
theorem dJx4a65c_addAll_f0b43_26 : decode cJx4a65c_addAll_f0b43 26 = .ok (.iload_n 3, 1) := by decide +kernel
theorem dJx4a65c_addAll_f0b43_27 : decode cJx4a65c_addAll_f0b43 27 = .ok (.aload_n 0, 1) := by decide +kernel
theorem dJx4a65c_addAll_f0b43_28 : decode cJx4a65c_addAll_f0b43 28 = .ok (.getfield 9, 3) := by decide +kernel
theorem dJx4a65c_addAll_f0b43_31 : decode cJx4a65c_addAll_f0b43 31 = .ok (.dup, 1) := by decide +kernel
theorem dJx4a65c_addAll_f0b43_32 : decode cJx4a65c_addAll_f0b43 32 = .ok (.astore 4, 2) := by decide +kernel
theorem dJx4a65c_addAll_f0b43_34 : decode cJx4a65c_addAll_f0b43 34 = .ok (.arraylength, 1) := by decide +kernel
theorem dJx4a65c_addAll_f0b43_35 : decode cJx4a65c_addAll_f0b43 35 = .ok (.aload_n 0, 1) := by decide +kernel
theorem dJx4a65c_addAll_f0b43_36 : decode cJx4a65c_addAll_f0b43 36 = .ok (.getfield 48, 3) := by decide +kernel
theorem dJx4a65c_addAll_f0b43_39 : decode cJx4a65c_addAll_f0b43 39 = .ok (.dup, 1) := by decide +kernel
theorem dJx4a65c_addAll_f0b43_40 : decode cJx4a65c_addAll_f0b43 40 = .ok (.istore 5, 2) := by decide +kernel
theorem dJx4a65c_addAll_f0b43_42 : decode cJx4a65c_addAll_f0b43 42 = .ok (.isub, 1) := by decide +kernel
theorem dJx4a65c_addAll_f0b43_43 : decode cJx4a65c_addAll_f0b43 43 = .ok (.if_icmp .le 13, 3) := by decide +kernel
theorem dJx4a65c_addAll_f0b43_46 : decode cJx4a65c_addAll_f0b43 46 = .ok (.aload_n 0, 1) := by decide +kernel
theorem dJx4a65c_addAll_f0b43_47 : decode cJx4a65c_addAll_f0b43 47 = .ok (.iload 5, 2) := by decide +kernel
theorem dJx4a65c_addAll_f0b43_49 : decode cJx4a65c_addAll_f0b43 49 = .ok (.iload_n 3, 1) := by decide +kernel
theorem dJx4a65c_addAll_f0b43_50 : decode cJx4a65c_addAll_f0b43 50 = .ok (.iadd, 1) := by decide +kernel
theorem dJx4a65c_addAll_f0b43_51 : decode cJx4a65c_addAll_f0b43 51 = .ok (.invokevirtual 69, 3) := by decide +kernel
theorem dJx4a65c_addAll_f0b43_54 : decode cJx4a65c_addAll_f0b43 54 = .ok (.astore 4, 2) := by decide +kernel
theorem dJx4a65c_addAll_f0b43_56 : decode cJx4a65c_addAll_f0b43 56 = .ok (.aload_n 2, 1) := by decide +kernel
theorem dJx4a65c_addAll_f0b43_57 : decode cJx4a65c_addAll_f0b43 57 = .ok (.iconst 0, 1) := by decide +kernel
theorem dJx4a65c_addAll_f0b43_58 : decode cJx4a65c_addAll_f0b43 58 = .ok (.aload 4, 2) := by decide +kernel
theorem dJx4a65c_addAll_f0b43_60 : decode cJx4a65c_addAll_f0b43 60 = .ok (.iload 5, 2) := by decide +kernel
theorem dJx4a65c_addAll_f0b43_62 : decode cJx4a65c_addAll_f0b43 62 = .ok (.iload_n 3, 1) := by decide +kernel
theorem dJx4a65c_addAll_f0b43_63 : decode cJx4a65c_addAll_f0b43 63 = .ok (.invokestatic 112, 3) := by decide +kernel
theorem dJx4a65c_addAll_f0b43_66 : decode cJx4a65c_addAll_f0b43 66 = .ok (.aload_n 0, 1) := by decide +kernel
theorem dJx4a65c_addAll_f0b43_67 : decode cJx4a65c_addAll_f0b43 67 = .ok (.iload 5, 2) := by decide +kernel
theorem dJx4a65c_addAll_f0b43_69 : decode cJx4a65c_addAll_f0b43 69 = .ok (.iload_n 3, 1) := by decide +kernel
theorem dJx4a65c_addAll_f0b43_70 : decode cJx4a65c_addAll_f0b43 70 = .ok (.iadd, 1) := by decide +kernel
theorem dJx4a65c_addAll_f0b43_71 : decode cJx4a65c_addAll_f0b43 71 = .ok (.putfield 48, 3) := by decide +kernel
theorem dJx4a65c_addAll_f0b43_74 : decode cJx4a65c_addAll_f0b43 74 = .ok (.iconst 1, 1) := by decide +kernel
theorem dJx4a65c_addAll_f0b43_75 : decode cJx4a65c_addAll_f0b43 75 = .ok (.ireturn, 1) := by decide +kernel
set_option maxRecDepth 20000 in
theorem ggJx4a65c_iterator_32c93_Jx35411_init_45d68 : GoodIn wsJx4a65c_iterator_32c93 wsJx35411_init_45d68 := goodIn_r _ [6, 7, 8, 9, 10, 11, 12, 13, 14, 15, 16, 17, 18, 19, 20, 21] (by decide +kernel) (by decide +kernel)
set_option maxRecDepth 20000 in
theorem gJx4a65c_iterator_32c93_Jx35411_init_45d68 : GoodIn wsJx4a65c_iterator_32c93 (wsJx35411_init_45d68) := ggJx4a65c_iterator_32c93_Jx35411_init_45d68
theorem dJx4a65c_iterator_32c93_0 : decode cJx4a65c_iterator_32c93 0 = .ok (.new 267, 3) := by decide +kernel
theorem dJx4a65c_iterator_32c93_3 : decode cJx4a65c_iterator_32c93 3 = .ok (.dup, 1) := by decide +kernel
theorem dJx4a65c_iterator_32c93_4 : decode cJx4a65c_iterator_32c93 4 = .ok (.aload_n 0, 1) := by decide +kernel
theorem dJx4a65c_iterator_32c93_5 : decode cJx4a65c_iterator_32c93 5 = .ok (.invokespecial 269, 3) := by decide +kernel
theorem dJx4a65c_iterator_32c93_8 : decode cJx4a65c_iterator_32c93 8 = .ok (.areturn, 1) := by decide +kernel
theorem dJ7_fill_49daa_0 : decode cJ7_fill_49daa 0 = .ok (.iconst 0, 1) := by decide +kernel
theorem dJ7_fill_49daa_1 : decode cJ7_fill_49daa 1 = .ok (.istore_n 2, 1) := by decide +kernel
theorem dJ7_fill_49daa_2 : decode cJ7_fill_49daa 2 = .ok (.aload_n 0, 1) := by decide +kernel
theorem dJ7_fill_49daa_3 : decode cJ7_fill_49daa 3 = .ok (.arraylength, 1) := by decide +kernel
theorem dJ7_fill_49daa_4 : decode cJ7_fill_49daa 4 = .ok (.istore_n 3, 1) := by decide +kernel
theorem dJ7_fill_49daa_5 : decode cJ7_fill_49daa 5 = .ok (.iload_n 2, 1) := by decide +kernel
theorem dJ7_fill_49daa_6 : decode cJ7_fill_49daa 6 = .ok (.iload_n 3, 1) := by decide +kernel
theorem dJ7_fill_49daa_7 : decode cJ7_fill_49daa 7 = .ok (.if_icmp .ge 13, 3) := by decide +kernel
theorem dJ7_fill_49daa_10 : decode cJ7_fill_49daa 10 = .ok (.aload_n 0, 1) := by decide +kernel
theorem dJ7_fill_49daa_11 : decode cJ7_fill_49daa 11 = .ok (.iload_n 2, 1) := by decide +kernel
theorem dJ7_fill_49daa_12 : decode cJ7_fill_49daa 12 = .ok (.iload_n 1, 1) := by decide +kernel
theorem dJ7_fill_49daa_13 : decode cJ7_fill_49daa 13 = .ok (.bastore, 1) := by decide +kernel
theorem dJ7_fill_49daa_14 : decode cJ7_fill_49daa 14 = .ok (.iinc 2 1, 3) := by decide +kernel
theorem dJ7_fill_49daa_17 : decode cJ7_fill_49daa 17 = .ok (.goto (-12), 3) := by decide +kernel
theorem dJ7_fill_49daa_20 : decode cJ7_fill_49daa 20 = .ok (.return_, 1) := by decide +kernel
theorem dJ7_fill_dc63a_0 : decode cJ7_fill_dc63a 0 = .ok (.iconst 0, 1) := by decide +kernel
theorem dJ7_fill_dc63a_1 : decode cJ7_fill_dc63a 1 = .ok (.istore_n 2, 1) := by decide +kernel
theorem dJ7_fill_dc63a_2 : decode cJ7_fill_dc63a 2 = .ok (.aload_n 0, 1) := by decide +kernel
theorem dJ7_fill_dc63a_3 : decode cJ7_fill_dc63a 3 = .ok (.arraylength, 1) := by decide +kernel
theorem dJ7_fill_dc63a_4 : decode cJ7_fill_dc63a 4 = .ok (.istore_n 3, 1) := by decide +kernel
theorem dJ7_fill_dc63a_5 : decode cJ7_fill_dc63a 5 = .ok (.iload_n 2, 1) := by decide +kernel
theorem dJ7_fill_dc63a_6 : decode cJ7_fill_dc63a 6 = .ok (.iload_n 3, 1) := by decide +kernel
theorem dJ7_fill_dc63a_7 : decode cJ7_fill_dc63a 7 = .ok (.if_icmp .ge 13, 3) := by decide +kernel
theorem dJ7_fill_dc63a_10 : decode cJ7_fill_dc63a 10 = .ok (.aload_n 0, 1) := by decide +kernel
theorem dJ7_fill_dc63a_11 : decode cJ7_fill_dc63a 11 = .ok (.iload_n 2, 1) := by decide +kernel
theorem dJ7_fill_dc63a_12 : decode cJ7_fill_dc63a 12 = .ok (.aload_n 1, 1) := by decide +kernel
theorem dJ7_fill_dc63a_13 : decode cJ7_fill_dc63a 13 = .ok (.aastore, 1) := by decide +kernel
theorem dJ7_fill_dc63a_14 : decode cJ7_fill_dc63a 14 = .ok (.iinc 2 1, 3) := by decide +kernel
theorem dJ7_fill_dc63a_17 : decode cJ7_fill_dc63a 17 = .ok (.goto (-12), 3) := by decide +kernel
theorem dJ7_fill_dc63a_20 : decode cJ7_fill_dc63a 20 = .ok (.return_, 1) := by decide +kernel
set_option maxRecDepth 20000 in
theorem ggJ7_copyOf_1904c_J7_copyOf_6403c : GoodIn wsJ7_copyOf_1904c wsJ7_copyOf_6403c := goodIn_r _ [8, 9, 10, 11, 12, 13, 14, 15, 16, 17, 18] (by decide +kernel) (by decide +kernel)
set_option maxRecDepth 20000 in
theorem gJ7_copyOf_1904c_J7_copyOf_6403c : GoodIn wsJ7_copyOf_1904c (va_wsS RJ7 300 yJ7_copyOf_6403c wsJ7_copyOf_6403c) := goodIn_app (goodIn_of _ (by decide +kernel)) ggJ7_copyOf_1904c_J7_copyOf_6403c
theorem dJ7_copyOf_1904c_0 : decode cJ7_copyOf_1904c 0 = .ok (.aload_n 0, 1) := by decide +kernel
theorem dJ7_copyOf_1904c_1 : decode cJ7_copyOf_1904c 1 = .ok (.iload_n 1, 1) := by decide +kernel
theorem dJ7_copyOf_1904c_2 : decode cJ7_copyOf_1904c 2 = .ok (.aload_n 0, 1) := by decide +kernel
theorem dJ7_copyOf_1904c_3 : decode cJ7_copyOf_1904c 3 = .ok (.invokevirtual 86, 3) := by decide +kernel
theorem dJ7_copyOf_1904c_6 : decode cJ7_copyOf_1904c 6 = .ok (.invokestatic 300, 3) := by decide +kernel
theorem dJ7_copyOf_1904c_9 : decode cJ7_copyOf_1904c 9 = .ok (.areturn, 1) := by decide +kernel
theorem dJ7_copyOf_6403c_0 : decode cJ7_copyOf_6403c 0 = .ok (.aload_n 2, 1) := by decide +kernel
theorem dJ7_copyOf_6403c_1 : decode cJ7_copyOf_6403c 1 = .ok (.ldc 110, 2) := by decide +kernel
theorem dJ7_copyOf_6403c_3 : decode cJ7_copyOf_6403c 3 = .ok (.if_acmp .ne 10, 3) := by decide +kernel
theorem dJ7_copyOf_6403c_6 : decode cJ7_copyOf_6403c 6 = .ok (.iload_n 1, 1) := by decide +kernel
theorem dJ7_copyOf_6403c_7 : decode cJ7_copyOf_6403c 7 = .ok (.anewarray 2, 3) := by decide +kernel
theorem dJ7_copyOf_6403c_10 : decode cJ7_copyOf_6403c 10 = .ok (.goto 14, 3) := by decide +kernel
theorem dJ7_copyOf_6403c_13 : decode cJ7_copyOf_6403c 13 = .ok (.aload_n 2, 1) := by decide +kernel
theorem dJ7_copyOf_6403c_14 : decode cJ7_copyOf_6403c 14 = .ok (.invokevirtual 90, 3) := by decide +kernel
theorem dJ7_copyOf_6403c_17 : decode cJ7_copyOf_6403c 17 = .ok (.iload_n 1, 1) := by decide +kernel
theorem dJ7_copyOf_6403c_18 : decode cJ7_copyOf_6403c 18 = .ok (.invokestatic 95, 3) := by decide +kernel
theorem dJ7_copyOf_6403c_21 : decode cJ7_copyOf_6403c 21 = .ok (.checkcast 110, 3) := by decide +kernel
theorem dJ7_copyOf_6403c_24 : decode cJ7_copyOf_6403c 24 = .ok (.astore_n 3, 1) := by decide +kernel
theorem dJ7_copyOf_6403c_25 : decode cJ7_copyOf_6403c 25 = .ok (.aload_n 0, 1) := by decide +kernel
theorem dJ7_copyOf_6403c_26 : decode cJ7_copyOf_6403c 26 = .ok (.iconst 0, 1) := by decide +kernel
theorem dJ7_copyOf_6403c_27 : decode cJ7_copyOf_6403c 27 = .ok (.aload_n 3, 1) := by decide +kernel
theorem dJ7_copyOf_6403c_28 : decode cJ7_copyOf_6403c 28 = .ok (.iconst 0, 1) := by decide +kernel
theorem dJ7_copyOf_6403c_29 : decode cJ7_copyOf_6403c 29 = .ok (.aload_n 0, 1) := by decide +kernel
theorem dJ7_copyOf_6403c_30 : decode cJ7_copyOf_6403c 30 = .ok (.arraylength, 1) := by decide +kernel
theorem dJ7_copyOf_6403c_31 : decode cJ7_copyOf_6403c 31 = .ok (.iload_n 1, 1) := by decide +kernel
theorem dJ7_copyOf_6403c_32 : decode cJ7_copyOf_6403c 32 = .ok (.invokestatic 304, 3) := by decide +kernel
theorem dJ7_copyOf_6403c_35 : decode cJ7_copyOf_6403c 35 = .ok (.invokestatic 150, 3) := by decide +kernel
theorem dJ7_copyOf_6403c_38 : decode cJ7_copyOf_6403c 38 = .ok (.aload_n 3, 1) := by decide +kernel
theorem dJ7_copyOf_6403c_39 : decode cJ7_copyOf_6403c 39 = .ok (.areturn, 1) := by decide +kernel
theorem dJ7_copyOf_9075b_0 : decode cJ7_copyOf_9075b 0 = .ok (.iload_n 1, 1) := by decide +kernel
theorem dJ7_copyOf_9075b_1 : decode cJ7_copyOf_9075b 1 = .ok (.aload_n 0, 1) := by decide +kernel
theorem dJ7_copyOf_9075b_2 : decode cJ7_copyOf_9075b 2 = .ok (.arraylength, 1) := by decide +kernel
theorem dJ7_copyOf_9075b_3 : decode cJ7_copyOf_9075b 3 = .ok (.if_icmp .ne 11, 3) := by decide +kernel
theorem dJ7_copyOf_9075b_6 : decode cJ7_copyOf_9075b 6 = .ok (.aload_n 0, 1) := by decide +kernel
theorem dJ7_copyOf_9075b_7 : decode cJ7_copyOf_9075b 7 = .ok (.invokevirtual 310, 3) := by decide +kernel
theorem dJ7_copyOf_9075b_10 : decode cJ7_copyOf_9075b 10 = .ok (.checkcast 311, 3) := by decide +kernel
theorem dJ7_copyOf_9075b_13 : decode cJ7_copyOf_9075b 13 = .ok (.areturn, 1) := by decide +kernel
theorem dJ7_copyOf_9075b_14 : decode cJ7_copyOf_9075b 14 = .ok (.iload_n 1, 1) := by decide +kernel
theorem dJ7_copyOf_9075b_15 : decode cJ7_copyOf_9075b 15 = .ok (.newarray .byte, 2) := by decide +kernel
theorem dJ7_copyOf_9075b_17 : decode cJ7_copyOf_9075b 17 = .ok (.astore_n 2, 1) := by decide +kernel
theorem dJ7_copyOf_9075b_18 : decode cJ7_copyOf_9075b 18 = .ok (.aload_n 0, 1) := by decide +kernel
theorem dJ7_copyOf_9075b_19 : decode cJ7_copyOf_9075b 19 = .ok (.iconst 0, 1) := by decide +kernel
theorem dJ7_copyOf_9075b_20 : decode cJ7_copyOf_9075b 20 = .ok (.aload_n 2, 1) := by decide +kernel
theorem dJ7_copyOf_9075b_21 : decode cJ7_copyOf_9075b 21 = .ok (.iconst 0, 1) := by decide +kernel
theorem dJ7_copyOf_9075b_22 : decode cJ7_copyOf_9075b 22 = .ok (.aload_n 0, 1) := by decide +kernel
theorem dJ7_copyOf_9075b_23 : decode cJ7_copyOf_9075b 23 = .ok (.arraylength, 1) := by decide +kernel
theorem dJ7_copyOf_9075b_24 : decode cJ7_copyOf_9075b 24 = .ok (.iload_n 1, 1) := by decide +kernel
theorem dJ7_copyOf_9075b_25 : decode cJ7_copyOf_9075b 25 = .ok (.invokestatic 304, 3) := by decide +kernel
theorem dJ7_copyOf_9075b_28 : decode cJ7_copyOf_9075b 28 = .ok (.invokestatic 150, 3) := by decide +kernel
theorem dJ7_copyOf_9075b_31 : decode cJ7_copyOf_9075b 31 = .ok (.aload_n 2, 1) := by decide +kernel
theorem dJ7_copyOf_9075b_32 : decode cJ7_copyOf_9075b 32 = .ok (.areturn, 1) := by decide +kernel
theorem dJ7_checkLength_df160_0 : decode cJ7_checkLength_df160 0 = .ok (.iload_n 1, 1) := by decide +kernel
theorem dJ7_checkLength_df160_1 : decode cJ7_checkLength_df160 1 = .ok (.iload_n 0, 1) := by decide +kernel
theorem dJ7_checkLength_df160_2 : decode cJ7_checkLength_df160 2 = .ok (.if_icmp .ge 35, 3) := by decide +kernel
theorem dJ7_checkLength_df160_5 : decode cJ7_checkLength_df160 5 = .ok (.new 43, 3) := by decide +kernel
theorem dJ7_checkLength_df160_8 : decode cJ7_checkLength_df160 8 = .ok (.dup, 1) := by decide +kernel
theorem dJ7_checkLength_df160_9 : decode cJ7_checkLength_df160 9 = .ok (.new 45, 3) := by decide +kernel
theorem dJ7_checkLength_df160_12 : decode cJ7_checkLength_df160 12 = .ok (.dup, 1) := by decide +kernel
theorem dJ7_checkLength_df160_13 : decode cJ7_checkLength_df160 13 = .ok (.invokespecial 47, 3) := by decide +kernel
theorem dJ7_checkLength_df160_16 : decode cJ7_checkLength_df160 16 = .ok (.iload_n 0, 1) := by decide +kernel
theorem dJ7_checkLength_df160_17 : decode cJ7_checkLength_df160 17 = .ok (.invokevirtual 54, 3) := by decide +kernel
theorem dJ7_checkLength_df160_20 : decode cJ7_checkLength_df160 20 = .ok (.ldc_w 337, 3) := by decide +kernel
theorem dJ7_checkLength_df160_23 : decode cJ7_checkLength_df160 23 = .ok (.invokevirtual 50, 3) := by decide +kernel
theorem dJ7_checkLength_df160_26 : decode cJ7_checkLength_df160 26 = .ok (.iload_n 1, 1) := by decide +kernel
theorem dJ7_checkLength_df160_27 : decode cJ7_checkLength_df160 27 = .ok (.invokevirtual 54, 3) := by decide +kernel
theorem dJ7_checkLength_df160_30 : decode cJ7_checkLength_df160 30 = .ok (.invokevirtual 61, 3) := by decide +kernel
theorem dJ7_checkLength_df160_33 : decode cJ7_checkLength_df160 33 = .ok (.invokespecial 65, 3) := by decide +kernel
theorem dJ7_checkLength_df160_36 : decode cJ7_checkLength_df160 36 = .ok (.athrow, 1) := by decide +kernel
theorem dJ7_checkLength_df160_37 : decode cJ7_checkLength_df160 37 = .ok (.return_, 1) := by decide +kernel
set_option maxRecDepth 20000 in
theorem ggJ7_copyOfRange_39247_J7_copyOfRangeByte_39247 : GoodIn wsJ7_copyOfRange_39247 wsJ7_copyOfRangeByte_39247 := goodIn_r _ [10, 11, 12, 13, 14, 15, 16, 17, 18, 19, 20, 21, 9, 22, 23, 24, 25, 26, 27, 28, 29] (by decide +kernel) (by decide +kernel)
set_option maxRecDepth 20000 in
theorem gJ7_copyOfRange_39247_J7_copyOfRangeByte_39247 : GoodIn wsJ7_copyOfRange_39247 (va_wsS RJ7 339 yJ7_copyOfRangeByte_39247 wsJ7_copyOfRangeByte_39247) := goodIn_app (goodIn_of _ (by decide +kernel)) ggJ7_copyOfRange_39247_J7_copyOfRangeByte_39247
theorem dJ7_copyOfRange_39247_0 : decode cJ7_copyOfRange_39247 0 = .ok (.iload_n 1, 1) := by decide +kernel
theorem dJ7_copyOfRange_39247_1 : decode cJ7_copyOfRange_39247 1 = .ok (.ifCond .ne 9, 3) := by decide +kernel
theorem dJ7_copyOfRange_39247_4 : decode cJ7_copyOfRange_39247 4 = .ok (.iload_n 2, 1) := by decide +kernel
theorem dJ7_copyOfRange_39247_5 : decode cJ7_copyOfRange_39247 5 = .ok (.aload_n 0, 1) := by decide +kernel
theorem dJ7_copyOfRange_39247_6 : decode cJ7_copyOfRange_39247 6 = .ok (.arraylength, 1) := by decide +kernel
theorem dJ7_copyOfRange_39247_7 : decode cJ7_copyOfRange_39247 7 = .ok (.if_icmp .eq 10, 3) := by decide +kernel
theorem dJ7_copyOfRange_39247_10 : decode cJ7_copyOfRange_39247 10 = .ok (.aload_n 0, 1) := by decide +kernel
theorem dJ7_copyOfRange_39247_11 : decode cJ7_copyOfRange_39247 11 = .ok (.iload_n 1, 1) := by decide +kernel
theorem dJ7_copyOfRange_39247_12 : decode cJ7_copyOfRange_39247 12 = .ok (.iload_n 2, 1) := by decide +kernel
theorem dJ7_copyOfRange_39247_13 : decode cJ7_copyOfRange_39247 13 = .ok (.invokestatic 339, 3) := by decide +kernel
theorem dJ7_copyOfRange_39247_16 : decode cJ7_copyOfRange_39247 16 = .ok (.areturn, 1) := by decide +kernel
theorem dJ7_copyOfRange_39247_17 : decode cJ7_copyOfRange_39247 17 = .ok (.aload_n 0, 1) := by decide +kernel
theorem dJ7_copyOfRange_39247_18 : decode cJ7_copyOfRange_39247 18 = .ok (.invokevirtual 310, 3) := by decide +kernel
theorem dJ7_copyOfRange_39247_21 : decode cJ7_copyOfRange_39247 21 = .ok (.checkcast 311, 3) := by decide +kernel
theorem dJ7_copyOfRange_39247_24 : decode cJ7_copyOfRange_39247 24 = .ok (.areturn, 1) := by decide +kernel
set_option maxRecDepth 20000 in
theorem ggJ7_copyOfRangeByte_39247_J7_checkLength_df160 : GoodIn wsJ7_copyOfRangeByte_39247 wsJ7_checkLength_df160 := goodIn_r _ [13, 14, 15, 16, 17, 18, 19, 20] (by decide +kernel) (by decide +kernel)
set_option maxRecDepth 20000 in
theorem gJ7_copyOfRangeByte_39247_J7_checkLength_df160 : GoodIn wsJ7_copyOfRangeByte_39247 (va_wsS RJ7 343 yJ7_checkLength_df160 wsJ7_checkLength_df160) := goodIn_app (goodIn_of _ (by decide +kernel)) ggJ7_copyOfRangeByte_39247_J7_checkLength_df160
theorem dJ7_copyOfRangeByte_39247_0 : decode cJ7_copyOfRangeByte_39247 0 = .ok (.iload_n 1, 1) := by decide +kernel
theorem dJ7_copyOfRangeByte_39247_1 : decode cJ7_copyOfRangeByte_39247 1 = .ok (.iload_n 2, 1) := by decide +kernel
theorem dJ7_copyOfRangeByte_39247_2 : decode cJ7_copyOfRangeByte_39247 2 = .ok (.invokestatic 343, 3) := by decide +kernel
theorem dJ7_copyOfRangeByte_39247_5 : decode cJ7_copyOfRangeByte_39247 5 = .ok (.iload_n 2, 1) := by decide +kernel
theorem dJ7_copyOfRangeByte_39247_6 : decode cJ7_copyOfRangeByte_39247 6 = .ok (.iload_n 1, 1) := by decide +kernel
theorem dJ7_copyOfRangeByte_39247_7 : decode cJ7_copyOfRangeByte_39247 7 = .ok (.isub, 1) := by decide +kernel
theorem dJ7_copyOfRangeByte_39247_8 : decode cJ7_copyOfRangeByte_39247 8 = .ok (.istore_n 3, 1) := by decide +kernel
theorem dJ7_copyOfRangeByte_39247_9 : decode cJ7_copyOfRangeByte_39247 9 = .ok (.iload_n 3, 1) := by decide +kernel
theorem dJ7_copyOfRangeByte_39247_10 : decode cJ7_copyOfRangeByte_39247 10 = .ok (.newarray .byte, 2) := by decide +kernel
theorem dJ7_copyOfRangeByte_39247_12 : decode cJ7_copyOfRangeByte_39247 12 = .ok (.astore 4, 2) := by decide +kernel
theorem dJ7_copyOfRangeByte_39247_14 : decode cJ7_copyOfRangeByte_39247 14 = .ok (.aload_n 0, 1) := by decide +kernel
theorem dJ7_copyOfRangeByte_39247_15 : decode cJ7_copyOfRangeByte_39247 15 = .ok (.iload_n 1, 1) := by decide +kernel
theorem dJ7_copyOfRangeByte_39247_16 : decode cJ7_copyOfRangeByte_39247 16 = .ok (.aload 4, 2) := by decide +kernel
theorem dJ7_copyOfRangeByte_39247_18 : decode cJ7_copyOfRangeByte_39247 18 = .ok (.iconst 0, 1) := by decide +kernel
theorem dJ7_copyOfRangeByte_39247_19 : decode cJ7_copyOfRangeByte_39247 19 = .ok (.aload_n 0, 1) := by decide +kernel
theorem dJ7_copyOfRangeByte_39247_20 : decode cJ7_copyOfRangeByte_39247 20 = .ok (.arraylength, 1) := by decide +kernel
theorem dJ7_copyOfRangeByte_39247_21 : decode cJ7_copyOfRangeByte_39247 21 = .ok (.iload_n 1, 1) := by decide +kernel
theorem dJ7_copyOfRangeByte_39247_22 : decode cJ7_copyOfRangeByte_39247 22 = .ok (.isub, 1) := by decide +kernel
theorem dJ7_copyOfRangeByte_39247_23 : decode cJ7_copyOfRangeByte_39247 23 = .ok (.iload_n 3, 1) := by decide +kernel
theorem dJ7_copyOfRangeByte_39247_24 : decode cJ7_copyOfRangeByte_39247 24 = .ok (.invokestatic 304, 3) := by decide +kernel
theorem dJ7_copyOfRangeByte_39247_27 : decode cJ7_copyOfRangeByte_39247 27 = .ok (.invokestatic 150, 3) := by decide +kernel
theorem dJ7_copyOfRangeByte_39247_30 : decode cJ7_copyOfRangeByte_39247 30 = .ok (.aload 4, 2) := by decide +kernel
theorem dJ7_copyOfRangeByte_39247_32 : decode cJ7_copyOfRangeByte_39247 32 = .ok (.areturn, 1) := by decide +kernel
set_option maxRecDepth 20000 in
theorem ggJxe2765_init_da8c8_Jxa1e45_init_da8c8 : GoodIn wsJxe2765_init_da8c8 wsJxa1e45_init_da8c8 := goodIn_r _ [4, 5, 6, 7] (by decide +kernel) (by decide +kernel)
set_option maxRecDepth 20000 in
theorem gJxe2765_init_da8c8_Jxa1e45_init_da8c8 : GoodIn wsJxe2765_init_da8c8 (wsJxa1e45_init_da8c8) := ggJxe2765_init_da8c8_Jxa1e45_init_da8c8
theorem dJxe2765_init_da8c8_0 : decode cJxe2765_init_da8c8 0 = .ok (.aload_n 0, 1) := by decide +kernel
theorem dJxe2765_init_da8c8_1 : decode cJxe2765_init_da8c8 1 = .ok (.invokespecial 1, 3) := by decide +kernel
theorem dJxe2765_init_da8c8_4 : decode cJxe2765_init_da8c8 4 = .ok (.return_, 1) := by decide +kernel
theorem dJxe2765_add_9ea2d_0 : decode cJxe2765_add_9ea2d 0 = .ok (.invokestatic 7, 3) := by decide +kernel
theorem dJxe2765_add_9ea2d_3 : decode cJxe2765_add_9ea2d 3 = .ok (.athrow, 1) := by decide +kernel
set_option maxRecDepth 20000 in
theorem ggJx6a02c_init_f286d_Jxcdf0f_init_da8c8 : GoodIn wsJx6a02c_init_f286d wsJxcdf0f_init_da8c8 := goodIn_r _ [6, 7, 8, 9, 10, 11, 12, 13, 14, 15, 16, 17] (by decide +kernel) (by decide +kernel)
set_option maxRecDepth 20000 in
theorem gJx6a02c_init_f286d_Jxcdf0f_init_da8c8 : GoodIn wsJx6a02c_init_f286d (wsJxcdf0f_init_da8c8) := ggJx6a02c_init_f286d_Jxcdf0f_init_da8c8
set_option maxRecDepth 20000 in
theorem ggJx6a02c_init_f286d_J15_requireNonNull_262c5 : GoodIn wsJx6a02c_init_f286d wsJ15_requireNonNull_262c5 := goodIn_r _ [21] (by decide +kernel) (by decide +kernel)
set_option maxRecDepth 20000 in
theorem gJx6a02c_init_f286d_J15_requireNonNull_262c5 : GoodIn wsJx6a02c_init_f286d (va_wsS RJx6a02c 7 yJ15_requireNonNull_262c5 wsJ15_requireNonNull_262c5) := goodIn_app (goodIn_of _ (by decide +kernel)) ggJx6a02c_init_f286d_J15_requireNonNull_262c5
theorem dJx6a02c_init_f286d_0 : decode cJx6a02c_init_f286d 0 = .ok (.aload_n 0, 1) := by decide +kernel
theorem dJx6a02c_init_f286d_1 : decode cJx6a02c_init_f286d 1 = .ok (.invokespecial 1, 3) := by decide +kernel
theorem dJx6a02c_init_f286d_4 : decode cJx6a02c_init_f286d 4 = .ok (.aload_n 0, 1) := by decide +kernel
theorem dJx6a02c_init_f286d_5 : decode cJx6a02c_init_f286d 5 = .ok (.aload_n 1, 1) := by decide +kernel
theorem dJx6a02c_init_f286d_6 : decode cJx6a02c_init_f286d 6 = .ok (.invokestatic 7, 3) := by decide +kernel
theorem dJx6a02c_init_f286d_9 : decode cJx6a02c_init_f286d 9 = .ok (.putfield 13, 3) := by decide +kernel
theorem dJx6a02c_init_f286d_12 : decode cJx6a02c_init_f286d 12 = .ok (.aload_n 0, 1) := by decide +kernel
theorem dJx6a02c_init_f286d_13 : decode cJx6a02c_init_f286d 13 = .ok (.getstatic 19, 3) := by decide +kernel
theorem dJx6a02c_init_f286d_16 : decode cJx6a02c_init_f286d 16 = .ok (.putfield 24, 3) := by decide +kernel
theorem dJx6a02c_init_f286d_19 : decode cJx6a02c_init_f286d 19 = .ok (.return_, 1) := by decide +kernel
theorem dJx6a02c_size_8abf5_0 : decode cJx6a02c_size_8abf5 0 = .ok (.aload_n 0, 1) := by decide +kernel
theorem dJx6a02c_size_8abf5_1 : decode cJx6a02c_size_8abf5 1 = .ok (.getfield 24, 3) := by decide +kernel
theorem dJx6a02c_size_8abf5_4 : decode cJx6a02c_size_8abf5 4 = .ok (.getstatic 19, 3) := by decide +kernel
theorem dJx6a02c_size_8abf5_7 : decode cJx6a02c_size_8abf5 7 = .ok (.if_acmp .eq 7, 3) := by decide +kernel
theorem dJx6a02c_size_8abf5_10 : decode cJx6a02c_size_8abf5 10 = .ok (.iconst 2, 1) := by decide +kernel
theorem dJx6a02c_size_8abf5_11 : decode cJx6a02c_size_8abf5 11 = .ok (.goto 4, 3) := by decide +kernel
theorem dJx6a02c_size_8abf5_14 : decode cJx6a02c_size_8abf5 14 = .ok (.iconst 1, 1) := by decide +kernel
theorem dJx6a02c_size_8abf5_15 : decode cJx6a02c_size_8abf5 15 = .ok (.ireturn, 1) := by decide +kernel
theorem dJx6a02c_isEmpty_aae02_0 : decode cJx6a02c_isEmpty_aae02 0 = .ok (.iconst 0, 1) := by decide +kernel
theorem dJx6a02c_isEmpty_aae02_1 : decode cJx6a02c_isEmpty_aae02 1 = .ok (.ireturn, 1) := by decide +kernel
theorem dJx6a02c_get_915e3_0 : decode cJx6a02c_get_915e3 0 = .ok (.iload_n 1, 1) := by decide +kernel
theorem dJx6a02c_get_915e3_1 : decode cJx6a02c_get_915e3 1 = .ok (.ifCond .ne 8, 3) := by decide +kernel
theorem dJx6a02c_get_915e3_4 : decode cJx6a02c_get_915e3 4 = .ok (.aload_n 0, 1) := by decide +kernel
theorem dJx6a02c_get_915e3_5 : decode cJx6a02c_get_915e3 5 = .ok (.getfield 13, 3) := by decide +kernel
theorem dJx6a02c_get_915e3_8 : decode cJx6a02c_get_915e3 8 = .ok (.areturn, 1) := by decide +kernel
theorem dJx6a02c_get_915e3_9 : decode cJx6a02c_get_915e3 9 = .ok (.iload_n 1, 1) := by decide +kernel
theorem dJx6a02c_get_915e3_10 : decode cJx6a02c_get_915e3 10 = .ok (.iconst 1, 1) := by decide +kernel
theorem dJx6a02c_get_915e3_11 : decode cJx6a02c_get_915e3 11 = .ok (.if_icmp .ne 18, 3) := by decide +kernel
theorem dJx6a02c_get_915e3_14 : decode cJx6a02c_get_915e3 14 = .ok (.aload_n 0, 1) := by decide +kernel
theorem dJx6a02c_get_915e3_15 : decode cJx6a02c_get_915e3 15 = .ok (.getfield 24, 3) := by decide +kernel
theorem dJx6a02c_get_915e3_18 : decode cJx6a02c_get_915e3 18 = .ok (.getstatic 19, 3) := by decide +kernel
theorem dJx6a02c_get_915e3_21 : decode cJx6a02c_get_915e3 21 = .ok (.if_acmp .eq 8, 3) := by decide +kernel
theorem dJx6a02c_get_915e3_24 : decode cJx6a02c_get_915e3 24 = .ok (.aload_n 0, 1) := by decide +kernel
theorem dJx6a02c_get_915e3_25 : decode cJx6a02c_get_915e3 25 = .ok (.getfield 24, 3) := by decide +kernel
theorem dJx6a02c_get_915e3_28 : decode cJx6a02c_get_915e3 28 = .ok (.areturn, 1) := by decide +kernel
theorem dJx6a02c_get_915e3_29 : decode cJx6a02c_get_915e3 29 = .ok (.aload_n 0, 1) := by decide +kernel
theorem dJx6a02c_get_915e3_30 : decode cJx6a02c_get_915e3 30 = .ok (.iload_n 1, 1) := by decide +kernel
theorem dJx6a02c_get_915e3_31 : decode cJx6a02c_get_915e3 31 = .ok (.invokevirtual 27, 3) := by decide +kernel
theorem dJx6a02c_get_915e3_34 : decode cJx6a02c_get_915e3 34 = .ok (.athrow, 1) := by decide +kernel
theorem dJx6a02c_toArray_d5877_0 : decode cJx6a02c_toArray_d5877 0 = .ok (.aload_n 0, 1) := by decide +kernel
theorem dJx6a02c_toArray_d5877_1 : decode cJx6a02c_toArray_d5877 1 = .ok (.getfield 24, 3) := by decide +kernel
theorem dJx6a02c_toArray_d5877_4 : decode cJx6a02c_toArray_d5877 4 = .ok (.getstatic 19, 3) := by decide +kernel
theorem dJx6a02c_toArray_d5877_7 : decode cJx6a02c_toArray_d5877 7 = .ok (.if_acmp .ne 15, 3) := by decide +kernel
theorem dJx6a02c_toArray_d5877_10 : decode cJx6a02c_toArray_d5877 10 = .ok (.iconst 1, 1) := by decide +kernel
theorem dJx6a02c_toArray_d5877_11 : decode cJx6a02c_toArray_d5877 11 = .ok (.anewarray 32, 3) := by decide +kernel
theorem dJx6a02c_toArray_d5877_14 : decode cJx6a02c_toArray_d5877 14 = .ok (.dup, 1) := by decide +kernel
theorem dJx6a02c_toArray_d5877_15 : decode cJx6a02c_toArray_d5877 15 = .ok (.iconst 0, 1) := by decide +kernel
theorem dJx6a02c_toArray_d5877_16 : decode cJx6a02c_toArray_d5877 16 = .ok (.aload_n 0, 1) := by decide +kernel
theorem dJx6a02c_toArray_d5877_17 : decode cJx6a02c_toArray_d5877 17 = .ok (.getfield 13, 3) := by decide +kernel
theorem dJx6a02c_toArray_d5877_20 : decode cJx6a02c_toArray_d5877 20 = .ok (.aastore, 1) := by decide +kernel
theorem dJx6a02c_toArray_d5877_21 : decode cJx6a02c_toArray_d5877 21 = .ok (.areturn, 1) := by decide +kernel
theorem dJx6a02c_toArray_d5877_22 : decode cJx6a02c_toArray_d5877 22 = .ok (.iconst 2, 1) := by decide +kernel
theorem dJx6a02c_toArray_d5877_23 : decode cJx6a02c_toArray_d5877 23 = .ok (.anewarray 32, 3) := by decide +kernel
theorem dJx6a02c_toArray_d5877_26 : decode cJx6a02c_toArray_d5877 26 = .ok (.dup, 1) := by decide +kernel
theorem dJx6a02c_toArray_d5877_27 : decode cJx6a02c_toArray_d5877 27 = .ok (.iconst 0, 1) := by decide +kernel
theorem dJx6a02c_toArray_d5877_28 : decode cJx6a02c_toArray_d5877 28 = .ok (.aload_n 0, 1) := by decide +kernel
theorem dJx6a02c_toArray_d5877_29 : decode cJx6a02c_toArray_d5877 29 = .ok (.getfield 13, 3) := by decide +kernel
theorem dJx6a02c_toArray_d5877_32 : decode cJx6a02c_toArray_d5877 32 = .ok (.aastore, 1) := by decide +kernel
theorem dJx6a02c_toArray_d5877_33 : decode cJx6a02c_toArray_d5877 33 = .ok (.dup, 1) := by decide +kernel
theorem dJx6a02c_toArray_d5877_34 : decode cJx6a02c_toArray_d5877 34 = .ok (.iconst 1, 1) := by decide +kernel
theorem dJx6a02c_toArray_d5877_35 : decode cJx6a02c_toArray_d5877 35 = .ok (.aload_n 0, 1) := by decide +kernel
theorem dJx6a02c_toArray_d5877_36 : decode cJx6a02c_toArray_d5877 36 = .ok (.getfield 24, 3) := by decide +kernel
theorem dJx6a02c_toArray_d5877_39 : decode cJx6a02c_toArray_d5877 39 = .ok (.aastore, 1) := by decide +kernel
theorem dJx6a02c_toArray_d5877_40 : decode cJx6a02c_toArray_d5877 40 = .ok (.areturn, 1) := by decide +kernel
theorem dJx583f5_uoe_71e99_0 : decode cJx583f5_uoe_71e99 0 = .ok (.new 7, 3) := by decide +kernel
theorem dJx583f5_uoe_71e99_3 : decode cJx583f5_uoe_71e99 3 = .ok (.dup, 1) := by decide +kernel
theorem dJx583f5_uoe_71e99_4 : decode cJx583f5_uoe_71e99 4 = .ok (.invokespecial 9, 3) := by decide +kernel
theorem dJx583f5_uoe_71e99_7 : decode cJx583f5_uoe_71e99 7 = .ok (.areturn, 1) := by decide +kernel
set_option maxRecDepth 20000 in
theorem ggX19_init_X16_init : GoodIn wsX19_init wsX16_init := goodIn_r _ [4, 5, 6, 7, 8, 9, 10, 11, 12, 13, 14, 15, 16, 17, 18, 19, 20, 21, 22, 23, 24, 25, 26] (by decide +kernel) (by decide +kernel)
set_option maxRecDepth 20000 in
theorem gX19_init_X16_init : GoodIn wsX19_init (wsX16_init) := ggX19_init_X16_init
theorem dX19_init_0 : decode cX19_init 0 = .ok (.aload_n 0, 1) := by decide +kernel
theorem dX19_init_1 : decode cX19_init 1 = .ok (.iload_n 1, 1) := by decide +kernel
theorem dX19_init_2 : decode cX19_init 2 = .ok (.aload_n 2, 1) := by decide +kernel
theorem dX19_init_3 : decode cX19_init 3 = .ok (.aload_n 3, 1) := by decide +kernel
theorem dX19_init_4 : decode cX19_init 4 = .ok (.aload 4, 2) := by decide +kernel
theorem dX19_init_6 : decode cX19_init 6 = .ok (.invokespecial 1, 3) := by decide +kernel
theorem dX19_init_9 : decode cX19_init 9 = .ok (.return_, 1) := by decide +kernel
set_option maxRecDepth 20000 in
theorem ggJxbd725_of_41f1f_Jx6a02c_init_f286d : GoodIn wsJxbd725_of_41f1f wsJx6a02c_init_f286d := goodIn_r _ [6, 7, 8, 9, 10, 11, 12, 13, 14, 15, 16, 17, 18, 19, 20, 21, 22, 23, 24, 25, 26, 27, 28, 29] (by decide +kernel) (by decide +kernel)
set_option maxRecDepth 20000 in
theorem gJxbd725_of_41f1f_Jx6a02c_init_f286d : GoodIn wsJxbd725_of_41f1f (wsJx6a02c_init_f286d) := ggJxbd725_of_41f1f_Jx6a02c_init_f286d
theorem dJxbd725_of_41f1f_0 : decode cJxbd725_of_41f1f 0 = .ok (.new 96, 3) := by decide +kernel
theorem dJxbd725_of_41f1f_3 : decode cJxbd725_of_41f1f 3 = .ok (.dup, 1) := by decide +kernel
theorem dJxbd725_of_41f1f_4 : decode cJxbd725_of_41f1f 4 = .ok (.aload_n 0, 1) := by decide +kernel
theorem dJxbd725_of_41f1f_5 : decode cJxbd725_of_41f1f 5 = .ok (.invokespecial 98, 3) := by decide +kernel
theorem dJxbd725_of_41f1f_8 : decode cJxbd725_of_41f1f 8 = .ok (.areturn, 1) := by decide +kernel
theorem dJ15_requireNonNull_262c5_0 : decode cJ15_requireNonNull_262c5 0 = .ok (.aload_n 0, 1) := by decide +kernel
theorem dJ15_requireNonNull_262c5_1 : decode cJ15_requireNonNull_262c5 1 = .ok (.ifnonnull 11, 3) := by decide +kernel
theorem dJ15_requireNonNull_262c5_4 : decode cJ15_requireNonNull_262c5 4 = .ok (.new 84, 3) := by decide +kernel
theorem dJ15_requireNonNull_262c5_7 : decode cJ15_requireNonNull_262c5 7 = .ok (.dup, 1) := by decide +kernel
theorem dJ15_requireNonNull_262c5_8 : decode cJ15_requireNonNull_262c5 8 = .ok (.invokespecial 86, 3) := by decide +kernel
theorem dJ15_requireNonNull_262c5_11 : decode cJ15_requireNonNull_262c5 11 = .ok (.athrow, 1) := by decide +kernel
theorem dJ15_requireNonNull_262c5_12 : decode cJ15_requireNonNull_262c5 12 = .ok (.aload_n 0, 1) := by decide +kernel
theorem dJ15_requireNonNull_262c5_13 : decode cJ15_requireNonNull_262c5 13 = .ok (.areturn, 1) := by decide +kernel
set_option maxRecDepth 20000 in
theorem ggJ15_checkIndex_7cf53_J3_checkIndex_8e157 : GoodIn wsJ15_checkIndex_7cf53 wsJ3_checkIndex_8e157 := goodIn_r _ [4] (by decide +kernel) (by decide +kernel)
set_option maxRecDepth 20000 in
theorem gJ15_checkIndex_7cf53_J3_checkIndex_8e157 : GoodIn wsJ15_checkIndex_7cf53 (va_wsS RJ15 105 yJ3_checkIndex_8e157 wsJ3_checkIndex_8e157) := goodIn_app (goodIn_of _ (by decide +kernel)) ggJ15_checkIndex_7cf53_J3_checkIndex_8e157
theorem dJ15_checkIndex_7cf53_0 : decode cJ15_checkIndex_7cf53 0 = .ok (.iload_n 0, 1) := by decide +kernel
theorem dJ15_checkIndex_7cf53_1 : decode cJ15_checkIndex_7cf53 1 = .ok (.iload_n 1, 1) := by decide +kernel
theorem dJ15_checkIndex_7cf53_2 : decode cJ15_checkIndex_7cf53 2 = .ok (.aconst_null, 1) := by decide +kernel
theorem dJ15_checkIndex_7cf53_3 : decode cJ15_checkIndex_7cf53 3 = .ok (.invokestatic 105, 3) := by decide +kernel
theorem dJ15_checkIndex_7cf53_6 : decode cJ15_checkIndex_7cf53 6 = .ok (.ireturn, 1) := by decide +kernel
set_option maxRecDepth 20000 in
theorem ggL_addWork_X7_addWork : GoodIn wsL_addWork wsX7_addWork := goodIn_ca (goodIn_ca (goodIn_r _ [6, 7, 8, 9, 10, 11, 12, 5, 13, 14, 15, 16, 17, 18, 19, 20, 21, 22, 23, 24, 25, 26, 27, 28, 29, 30, 31, 32, 33, 34, 35, 36] (by decide +kernel) (by decide +kernel)) (goodIn_sub (fun _ h => List.mem_cons_of_mem _ (List.mem_append_left _ (List.mem_append_right _ h))) (by decide +kernel))) (goodIn_sub (fun _ h => List.mem_cons_of_mem _ (List.mem_append_right _ h)) (by decide +kernel))
set_option maxRecDepth 20000 in
theorem gL_addWork_X7_addWork : GoodIn wsL_addWork (wsV RL 7 RX7 yX7_addWork wsX7_addWork) := goodIn_app (goodIn_of _ (by decide +kernel)) ggL_addWork_X7_addWork
theorem dL_addWork_0 : decode cL_addWork 0 = .ok (.aload_n 3, 1) := by decide +kernel
theorem dL_addWork_1 : decode cL_addWork 1 = .ok (.iconst 0, 1) := by decide +kernel
theorem dL_addWork_2 : decode cL_addWork 2 = .ok (.aload_n 0, 1) := by decide +kernel
theorem dL_addWork_3 : decode cL_addWork 3 = .ok (.iload_n 1, 1) := by decide +kernel
theorem dL_addWork_4 : decode cL_addWork 4 = .ok (.iload_n 2, 1) := by decide +kernel
theorem dL_addWork_5 : decode cL_addWork 5 = .ok (.invokevirtual 7, 3) := by decide +kernel
theorem dL_addWork_8 : decode cL_addWork 8 = .ok (.i2l, 1) := by decide +kernel
theorem dL_addWork_9 : decode cL_addWork 9 = .ok (.lastore, 1) := by decide +kernel
theorem dL_addWork_10 : decode cL_addWork 10 = .ok (.goto 11, 3) := by decide +kernel
theorem dL_addWork_13 : decode cL_addWork 13 = .ok (.astore 4, 2) := by decide +kernel
theorem dL_addWork_15 : decode cL_addWork 15 = .ok (.iconst 1, 1) := by decide +kernel
theorem dL_addWork_16 : decode cL_addWork 16 = .ok (.ireturn, 1) := by decide +kernel
theorem dL_addWork_17 : decode cL_addWork 17 = .ok (.astore 4, 2) := by decide +kernel
theorem dL_addWork_19 : decode cL_addWork 19 = .ok (.iconst 2, 1) := by decide +kernel
theorem dL_addWork_20 : decode cL_addWork 20 = .ok (.ireturn, 1) := by decide +kernel
theorem dL_addWork_21 : decode cL_addWork 21 = .ok (.iconst 0, 1) := by decide +kernel
theorem dL_addWork_22 : decode cL_addWork 22 = .ok (.ireturn, 1) := by decide +kernel
set_option maxRecDepth 20000 in
theorem ggL_setParts_X7_setParts : GoodIn wsL_setParts wsX7_setParts := goodIn_ca (goodIn_ca (goodIn_ca (goodIn_ca (goodIn_r _ [6, 7, 8, 9, 10, 11, 5, 12, 13, 14, 15, 16, 17, 18, 19, 20, 21, 22, 23, 24, 25, 26, 27, 28, 29, 30, 31, 32, 33, 34, 35, 36, 37, 38, 39, 40, 41, 42, 43, 44, 45, 46, 47, 48, 49, 50, 51, 52, 53, 54, 55, 56, 57, 58, 59, 60, 61, 62, 63, 64, 65, 66, 67, 68, 69, 70, 71, 72, 73, 74, 75, 76] (by decide +kernel) (by decide +kernel)) (goodIn_sub (fun _ h => List.mem_cons_of_mem _ (List.mem_append_left _ (List.mem_append_left _ (List.mem_append_left _ (List.mem_append_right _ h))))) (by decide +kernel))) (goodIn_sub (fun _ h => List.mem_cons_of_mem _ (List.mem_append_left _ (List.mem_append_left _ (List.mem_append_right _ h)))) (by decide +kernel))) (goodIn_sub (fun _ h => List.mem_cons_of_mem _ (List.mem_append_left _ (List.mem_append_right _ h))) (by decide +kernel))) (goodIn_sub (fun _ h => List.mem_cons_of_mem _ (List.mem_append_right _ h)) (by decide +kernel))
set_option maxRecDepth 20000 in
theorem gL_setParts_X7_setParts : GoodIn wsL_setParts (wsV RL 17 RX7 yX7_setParts wsX7_setParts) := goodIn_app (goodIn_of _ (by decide +kernel)) ggL_setParts_X7_setParts
theorem dL_setParts_0 : decode cL_setParts 0 = .ok (.aload 4, 2) := by decide +kernel
theorem dL_setParts_2 : decode cL_setParts 2 = .ok (.iconst 0, 1) := by decide +kernel
theorem dL_setParts_3 : decode cL_setParts 3 = .ok (.aload_n 0, 1) := by decide +kernel
theorem dL_setParts_4 : decode cL_setParts 4 = .ok (.iload_n 1, 1) := by decide +kernel
theorem dL_setParts_5 : decode cL_setParts 5 = .ok (.iload_n 2, 1) := by decide +kernel
theorem dL_setParts_6 : decode cL_setParts 6 = .ok (.iload_n 3, 1) := by decide +kernel
theorem dL_setParts_7 : decode cL_setParts 7 = .ok (.invokevirtual 17, 3) := by decide +kernel
theorem dL_setParts_10 : decode cL_setParts 10 = .ok (.i2l, 1) := by decide +kernel
theorem dL_setParts_11 : decode cL_setParts 11 = .ok (.lastore, 1) := by decide +kernel
theorem dL_setParts_12 : decode cL_setParts 12 = .ok (.goto 15, 3) := by decide +kernel
theorem dL_setParts_15 : decode cL_setParts 15 = .ok (.astore 5, 2) := by decide +kernel
theorem dL_setParts_17 : decode cL_setParts 17 = .ok (.iconst 1, 1) := by decide +kernel
theorem dL_setParts_18 : decode cL_setParts 18 = .ok (.ireturn, 1) := by decide +kernel
theorem dL_setParts_19 : decode cL_setParts 19 = .ok (.astore 5, 2) := by decide +kernel
theorem dL_setParts_21 : decode cL_setParts 21 = .ok (.iconst 2, 1) := by decide +kernel
theorem dL_setParts_22 : decode cL_setParts 22 = .ok (.ireturn, 1) := by decide +kernel
theorem dL_setParts_23 : decode cL_setParts 23 = .ok (.astore 5, 2) := by decide +kernel
theorem dL_setParts_25 : decode cL_setParts 25 = .ok (.iconst 3, 1) := by decide +kernel
theorem dL_setParts_26 : decode cL_setParts 26 = .ok (.ireturn, 1) := by decide +kernel
theorem dL_setParts_27 : decode cL_setParts 27 = .ok (.iconst 0, 1) := by decide +kernel
theorem dL_setParts_28 : decode cL_setParts 28 = .ok (.ireturn, 1) := by decide +kernel
set_option maxRecDepth 20000 in
theorem ggL_setSolo_X7_setSolo : GoodIn wsL_setSolo wsX7_setSolo := goodIn_ca (goodIn_ca (goodIn_ca (goodIn_r _ [6, 7, 8, 9, 10, 11, 5, 12, 13, 14, 15, 16, 17, 18, 19, 20, 21, 22, 23, 24, 25, 26, 27, 28, 29, 30, 31, 32, 33, 34, 35, 36, 37, 38, 39, 40, 41, 42, 43, 44, 45, 46, 47, 48, 49, 50, 51, 52, 53, 54, 55, 56, 57, 58, 59, 60, 61, 62, 63, 64, 65, 66, 67, 68, 69, 70, 71] (by decide +kernel) (by decide +kernel)) (goodIn_sub (fun _ h => List.mem_cons_of_mem _ (List.mem_append_left _ (List.mem_append_right _ h))) (by decide +kernel))) (goodIn_sub (fun _ h => List.mem_cons_of_mem _ (List.mem_append_right _ h)) (by decide +kernel))) (goodIn_sub (fun _ h => List.mem_cons_of_mem _ (List.mem_append_left _ (List.mem_append_left _ (List.mem_append_right _ h)))) (by decide +kernel))
set_option maxRecDepth 20000 in
theorem gL_setSolo_X7_setSolo : GoodIn wsL_setSolo (wsV RL 25 RX7 yX7_setSolo wsX7_setSolo) := goodIn_app (goodIn_of _ (by decide +kernel)) ggL_setSolo_X7_setSolo
theorem dL_setSolo_0 : decode cL_setSolo 0 = .ok (.aload_n 3, 1) := by decide +kernel
theorem dL_setSolo_1 : decode cL_setSolo 1 = .ok (.iconst 0, 1) := by decide +kernel
theorem dL_setSolo_2 : decode cL_setSolo 2 = .ok (.aload_n 0, 1) := by decide +kernel
theorem dL_setSolo_3 : decode cL_setSolo 3 = .ok (.iload_n 1, 1) := by decide +kernel
theorem dL_setSolo_4 : decode cL_setSolo 4 = .ok (.iload_n 2, 1) := by decide +kernel
theorem dL_setSolo_5 : decode cL_setSolo 5 = .ok (.invokevirtual 25, 3) := by decide +kernel
theorem dL_setSolo_8 : decode cL_setSolo 8 = .ok (.ifCond .eq 7, 3) := by decide +kernel
theorem dL_setSolo_11 : decode cL_setSolo 11 = .ok (.lconst 1, 1) := by decide +kernel
theorem dL_setSolo_12 : decode cL_setSolo 12 = .ok (.goto 4, 3) := by decide +kernel
theorem dL_setSolo_15 : decode cL_setSolo 15 = .ok (.lconst 0, 1) := by decide +kernel
theorem dL_setSolo_16 : decode cL_setSolo 16 = .ok (.lastore, 1) := by decide +kernel
theorem dL_setSolo_17 : decode cL_setSolo 17 = .ok (.goto 11, 3) := by decide +kernel
theorem dL_setSolo_20 : decode cL_setSolo 20 = .ok (.astore 4, 2) := by decide +kernel
theorem dL_setSolo_22 : decode cL_setSolo 22 = .ok (.iconst 1, 1) := by decide +kernel
theorem dL_setSolo_23 : decode cL_setSolo 23 = .ok (.ireturn, 1) := by decide +kernel
theorem dL_setSolo_24 : decode cL_setSolo 24 = .ok (.astore 4, 2) := by decide +kernel
theorem dL_setSolo_26 : decode cL_setSolo 26 = .ok (.iconst 2, 1) := by decide +kernel
theorem dL_setSolo_27 : decode cL_setSolo 27 = .ok (.ireturn, 1) := by decide +kernel
theorem dL_setSolo_28 : decode cL_setSolo 28 = .ok (.iconst 0, 1) := by decide +kernel
theorem dL_setSolo_29 : decode cL_setSolo 29 = .ok (.ireturn, 1) := by decide +kernel
set_option maxRecDepth 20000 in
theorem ggL_hire_X7_hire : GoodIn wsL_hire wsX7_hire := goodIn_ca (goodIn_ca (goodIn_ca (goodIn_ca (goodIn_ca (goodIn_r _ [6, 7, 8, 9, 10, 11, 12, 13, 5, 14, 15, 16, 17, 18, 19, 20, 21, 22, 23, 24, 25, 26, 27, 28, 29, 30, 31, 32, 33, 34, 35, 36, 37, 38, 39, 40, 41, 42, 43, 44, 45, 46, 47, 48, 49, 50, 51, 52, 53, 54, 55, 56, 57, 58] (by decide +kernel) (by decide +kernel)) (goodIn_sub (fun _ h => List.mem_cons_of_mem _ (List.mem_append_left _ (List.mem_append_left _ (List.mem_append_left _ (List.mem_append_right _ h))))) (by decide +kernel))) (goodIn_sub (fun _ h => List.mem_cons_of_mem _ (List.mem_append_left _ (List.mem_append_left _ (List.mem_append_right _ h)))) (by decide +kernel))) (goodIn_sub (fun _ h => List.mem_cons_of_mem _ (List.mem_append_left _ (List.mem_append_right _ h))) (by decide +kernel))) (goodIn_sub (fun _ h => List.mem_cons_of_mem _ (List.mem_append_right _ h)) (by decide +kernel))) (goodIn_sub (fun _ h => List.mem_cons_of_mem _ (List.mem_append_left _ (List.mem_append_left _ (List.mem_append_left _ (List.mem_append_left _ (List.mem_append_right _ h)))))) (by decide +kernel))
set_option maxRecDepth 20000 in
theorem gL_hire_X7_hire : GoodIn wsL_hire (wsV RL 29 RX7 yX7_hire wsX7_hire) := goodIn_app (goodIn_of _ (by decide +kernel)) ggL_hire_X7_hire
theorem dL_hire_0 : decode cL_hire 0 = .ok (.aload 5, 2) := by decide +kernel
theorem dL_hire_2 : decode cL_hire 2 = .ok (.iconst 0, 1) := by decide +kernel
theorem dL_hire_3 : decode cL_hire 3 = .ok (.aload_n 0, 1) := by decide +kernel
theorem dL_hire_4 : decode cL_hire 4 = .ok (.iload_n 1, 1) := by decide +kernel
theorem dL_hire_5 : decode cL_hire 5 = .ok (.iload_n 2, 1) := by decide +kernel
theorem dL_hire_6 : decode cL_hire 6 = .ok (.iload_n 3, 1) := by decide +kernel
theorem dL_hire_7 : decode cL_hire 7 = .ok (.iload 4, 2) := by decide +kernel
theorem dL_hire_9 : decode cL_hire 9 = .ok (.invokevirtual 29, 3) := by decide +kernel
theorem dL_hire_12 : decode cL_hire 12 = .ok (.i2l, 1) := by decide +kernel
theorem dL_hire_13 : decode cL_hire 13 = .ok (.lastore, 1) := by decide +kernel
theorem dL_hire_14 : decode cL_hire 14 = .ok (.goto 19, 3) := by decide +kernel
theorem dL_hire_17 : decode cL_hire 17 = .ok (.astore 6, 2) := by decide +kernel
theorem dL_hire_19 : decode cL_hire 19 = .ok (.iconst 1, 1) := by decide +kernel
theorem dL_hire_20 : decode cL_hire 20 = .ok (.ireturn, 1) := by decide +kernel
theorem dL_hire_21 : decode cL_hire 21 = .ok (.astore 6, 2) := by decide +kernel
theorem dL_hire_23 : decode cL_hire 23 = .ok (.iconst 2, 1) := by decide +kernel
theorem dL_hire_24 : decode cL_hire 24 = .ok (.ireturn, 1) := by decide +kernel
theorem dL_hire_25 : decode cL_hire 25 = .ok (.astore 6, 2) := by decide +kernel
theorem dL_hire_27 : decode cL_hire 27 = .ok (.iconst 3, 1) := by decide +kernel
theorem dL_hire_28 : decode cL_hire 28 = .ok (.ireturn, 1) := by decide +kernel
theorem dL_hire_29 : decode cL_hire 29 = .ok (.astore 6, 2) := by decide +kernel
theorem dL_hire_31 : decode cL_hire 31 = .ok (.iconst 4, 1) := by decide +kernel
theorem dL_hire_32 : decode cL_hire 32 = .ok (.ireturn, 1) := by decide +kernel
theorem dL_hire_33 : decode cL_hire 33 = .ok (.iconst 0, 1) := by decide +kernel
theorem dL_hire_34 : decode cL_hire 34 = .ok (.ireturn, 1) := by decide +kernel
set_option maxRecDepth 20000 in
theorem ggL_isScoreThere_X7_isScoreThere : GoodIn wsL_isScoreThere wsX7_isScoreThere := goodIn_ca (goodIn_ca (goodIn_ca (goodIn_r _ [6, 7, 8, 9, 5, 10, 11, 12, 13, 14, 15, 16, 17, 18, 19, 20, 21, 22, 23, 24, 25, 26, 27, 28, 29, 30, 31, 32, 33, 34, 35, 36, 37, 38, 39, 40, 41, 42, 43, 44, 45, 46, 47, 48, 49, 50, 51, 52, 53, 54, 55] (by decide +kernel) (by decide +kernel)) (goodIn_sub (fun _ h => List.mem_cons_of_mem _ (List.mem_append_left _ (List.mem_append_right _ h))) (by decide +kernel))) (goodIn_sub (fun _ h => List.mem_cons_of_mem _ (List.mem_append_right _ h)) (by decide +kernel))) (goodIn_sub (fun _ h => List.mem_cons_of_mem _ (List.mem_append_left _ (List.mem_append_left _ (List.mem_append_right _ h)))) (by decide +kernel))
set_option maxRecDepth 20000 in
theorem gL_isScoreThere_X7_isScoreThere : GoodIn wsL_isScoreThere (wsV RL 33 RX7 yX7_isScoreThere wsX7_isScoreThere) := goodIn_app (goodIn_of _ (by decide +kernel)) ggL_isScoreThere_X7_isScoreThere
theorem dL_isScoreThere_0 : decode cL_isScoreThere 0 = .ok (.aload_n 3, 1) := by decide +kernel
theorem dL_isScoreThere_1 : decode cL_isScoreThere 1 = .ok (.iconst 0, 1) := by decide +kernel
theorem dL_isScoreThere_2 : decode cL_isScoreThere 2 = .ok (.aload_n 0, 1) := by decide +kernel
theorem dL_isScoreThere_3 : decode cL_isScoreThere 3 = .ok (.iload_n 1, 1) := by decide +kernel
theorem dL_isScoreThere_4 : decode cL_isScoreThere 4 = .ok (.iload_n 2, 1) := by decide +kernel
theorem dL_isScoreThere_5 : decode cL_isScoreThere 5 = .ok (.invokevirtual 33, 3) := by decide +kernel
theorem dL_isScoreThere_8 : decode cL_isScoreThere 8 = .ok (.ifCond .eq 7, 3) := by decide +kernel
theorem dL_isScoreThere_11 : decode cL_isScoreThere 11 = .ok (.lconst 1, 1) := by decide +kernel
theorem dL_isScoreThere_12 : decode cL_isScoreThere 12 = .ok (.goto 4, 3) := by decide +kernel
theorem dL_isScoreThere_15 : decode cL_isScoreThere 15 = .ok (.lconst 0, 1) := by decide +kernel
theorem dL_isScoreThere_16 : decode cL_isScoreThere 16 = .ok (.lastore, 1) := by decide +kernel
theorem dL_isScoreThere_17 : decode cL_isScoreThere 17 = .ok (.goto 11, 3) := by decide +kernel
theorem dL_isScoreThere_20 : decode cL_isScoreThere 20 = .ok (.astore 4, 2) := by decide +kernel
theorem dL_isScoreThere_22 : decode cL_isScoreThere 22 = .ok (.iconst 1, 1) := by decide +kernel
theorem dL_isScoreThere_23 : decode cL_isScoreThere 23 = .ok (.ireturn, 1) := by decide +kernel
theorem dL_isScoreThere_24 : decode cL_isScoreThere 24 = .ok (.astore 4, 2) := by decide +kernel
theorem dL_isScoreThere_26 : decode cL_isScoreThere 26 = .ok (.iconst 2, 1) := by decide +kernel
theorem dL_isScoreThere_27 : decode cL_isScoreThere 27 = .ok (.ireturn, 1) := by decide +kernel
theorem dL_isScoreThere_28 : decode cL_isScoreThere 28 = .ok (.iconst 0, 1) := by decide +kernel
theorem dL_isScoreThere_29 : decode cL_isScoreThere 29 = .ok (.ireturn, 1) := by decide +kernel
set_option maxRecDepth 20000 in
theorem ggL_addPlayer_X7_addPlayer : GoodIn wsL_addPlayer wsX7_addPlayer := goodIn_ca (goodIn_ca (goodIn_r _ [6, 7, 8, 9, 10, 11, 12, 5, 13, 14, 15, 16, 17, 18, 19, 20, 21, 22, 23, 24, 25, 26, 27, 28, 29, 30, 31, 32, 33, 34] (by decide +kernel) (by decide +kernel)) (goodIn_sub (fun _ h => List.mem_cons_of_mem _ (List.mem_append_left _ (List.mem_append_right _ h))) (by decide +kernel))) (goodIn_sub (fun _ h => List.mem_cons_of_mem _ (List.mem_append_right _ h)) (by decide +kernel))
set_option maxRecDepth 20000 in
theorem gL_addPlayer_X7_addPlayer : GoodIn wsL_addPlayer (wsV RL 37 RX7 yX7_addPlayer wsX7_addPlayer) := goodIn_app (goodIn_of _ (by decide +kernel)) ggL_addPlayer_X7_addPlayer
theorem dL_addPlayer_0 : decode cL_addPlayer 0 = .ok (.aload 4, 2) := by decide +kernel
theorem dL_addPlayer_2 : decode cL_addPlayer 2 = .ok (.iconst 0, 1) := by decide +kernel
theorem dL_addPlayer_3 : decode cL_addPlayer 3 = .ok (.aload_n 0, 1) := by decide +kernel
theorem dL_addPlayer_4 : decode cL_addPlayer 4 = .ok (.iload_n 1, 1) := by decide +kernel
theorem dL_addPlayer_5 : decode cL_addPlayer 5 = .ok (.iload_n 2, 1) := by decide +kernel
theorem dL_addPlayer_6 : decode cL_addPlayer 6 = .ok (.iload_n 3, 1) := by decide +kernel
theorem dL_addPlayer_7 : decode cL_addPlayer 7 = .ok (.invokevirtual 37, 3) := by decide +kernel
theorem dL_addPlayer_10 : decode cL_addPlayer 10 = .ok (.i2l, 1) := by decide +kernel
theorem dL_addPlayer_11 : decode cL_addPlayer 11 = .ok (.lastore, 1) := by decide +kernel
theorem dL_addPlayer_12 : decode cL_addPlayer 12 = .ok (.goto 11, 3) := by decide +kernel
theorem dL_addPlayer_15 : decode cL_addPlayer 15 = .ok (.astore 5, 2) := by decide +kernel
theorem dL_addPlayer_17 : decode cL_addPlayer 17 = .ok (.iconst 1, 1) := by decide +kernel
theorem dL_addPlayer_18 : decode cL_addPlayer 18 = .ok (.ireturn, 1) := by decide +kernel
theorem dL_addPlayer_19 : decode cL_addPlayer 19 = .ok (.astore 5, 2) := by decide +kernel
theorem dL_addPlayer_21 : decode cL_addPlayer 21 = .ok (.iconst 2, 1) := by decide +kernel
theorem dL_addPlayer_22 : decode cL_addPlayer 22 = .ok (.ireturn, 1) := by decide +kernel
theorem dL_addPlayer_23 : decode cL_addPlayer 23 = .ok (.iconst 0, 1) := by decide +kernel
theorem dL_addPlayer_24 : decode cL_addPlayer 24 = .ok (.ireturn, 1) := by decide +kernel
set_option maxRecDepth 20000 in
theorem ggL_leave_X7_leave : GoodIn wsL_leave wsX7_leave := goodIn_ca (goodIn_ca (goodIn_ca (goodIn_ca (goodIn_ca (goodIn_r _ [6, 7, 8, 9, 10, 11, 12, 13, 5, 14, 15, 16, 17, 18, 19, 20, 21, 22, 23, 24, 25, 26, 27, 28, 29, 30, 31, 32, 33, 34, 35, 36, 37, 38, 39, 40, 41, 42, 43, 44, 45, 46, 47, 48, 49, 50, 51, 52, 53, 54, 55, 56, 57, 58, 59, 60, 61, 62, 63, 64, 65, 66, 67, 68, 69, 70, 71, 72, 73, 74, 75, 76, 77, 78, 79, 80] (by decide +kernel) (by decide +kernel)) (goodIn_sub (fun _ h => List.mem_cons_of_mem _ (List.mem_append_left _ (List.mem_append_left _ (List.mem_append_left _ (List.mem_append_right _ h))))) (by decide +kernel))) (goodIn_sub (fun _ h => List.mem_cons_of_mem _ (List.mem_append_left _ (List.mem_append_left _ (List.mem_append_right _ h)))) (by decide +kernel))) (goodIn_sub (fun _ h => List.mem_cons_of_mem _ (List.mem_append_left _ (List.mem_append_right _ h))) (by decide +kernel))) (goodIn_sub (fun _ h => List.mem_cons_of_mem _ (List.mem_append_right _ h)) (by decide +kernel))) (goodIn_sub (fun _ h => List.mem_cons_of_mem _ (List.mem_append_left _ (List.mem_append_left _ (List.mem_append_left _ (List.mem_append_left _ (List.mem_append_right _ h)))))) (by decide +kernel))
set_option maxRecDepth 20000 in
theorem gL_leave_X7_leave : GoodIn wsL_leave (wsV RL 40 RX7 yX7_leave wsX7_leave) := goodIn_app (goodIn_of _ (by decide +kernel)) ggL_leave_X7_leave
theorem dL_leave_0 : decode cL_leave 0 = .ok (.aload 4, 2) := by decide +kernel
theorem dL_leave_2 : decode cL_leave 2 = .ok (.iconst 0, 1) := by decide +kernel
theorem dL_leave_3 : decode cL_leave 3 = .ok (.aload_n 0, 1) := by decide +kernel
theorem dL_leave_4 : decode cL_leave 4 = .ok (.iload_n 1, 1) := by decide +kernel
theorem dL_leave_5 : decode cL_leave 5 = .ok (.iload_n 2, 1) := by decide +kernel
theorem dL_leave_6 : decode cL_leave 6 = .ok (.iload_n 3, 1) := by decide +kernel
theorem dL_leave_7 : decode cL_leave 7 = .ok (.invokevirtual 40, 3) := by decide +kernel
theorem dL_leave_10 : decode cL_leave 10 = .ok (.i2l, 1) := by decide +kernel
theorem dL_leave_11 : decode cL_leave 11 = .ok (.lastore, 1) := by decide +kernel
theorem dL_leave_12 : decode cL_leave 12 = .ok (.goto 19, 3) := by decide +kernel
theorem dL_leave_15 : decode cL_leave 15 = .ok (.astore 5, 2) := by decide +kernel
theorem dL_leave_17 : decode cL_leave 17 = .ok (.iconst 1, 1) := by decide +kernel
theorem dL_leave_18 : decode cL_leave 18 = .ok (.ireturn, 1) := by decide +kernel
theorem dL_leave_19 : decode cL_leave 19 = .ok (.astore 5, 2) := by decide +kernel
theorem dL_leave_21 : decode cL_leave 21 = .ok (.iconst 2, 1) := by decide +kernel
theorem dL_leave_22 : decode cL_leave 22 = .ok (.ireturn, 1) := by decide +kernel
theorem dL_leave_23 : decode cL_leave 23 = .ok (.astore 5, 2) := by decide +kernel
theorem dL_leave_25 : decode cL_leave 25 = .ok (.iconst 3, 1) := by decide +kernel
theorem dL_leave_26 : decode cL_leave 26 = .ok (.ireturn, 1) := by decide +kernel
theorem dL_leave_27 : decode cL_leave 27 = .ok (.astore 5, 2) := by decide +kernel
theorem dL_leave_29 : decode cL_leave 29 = .ok (.iconst 4, 1) := by decide +kernel
theorem dL_leave_30 : decode cL_leave 30 = .ok (.ireturn, 1) := by decide +kernel
theorem dL_leave_31 : decode cL_leave 31 = .ok (.iconst 0, 1) := by decide +kernel
theorem dL_leave_32 : decode cL_leave 32 = .ok (.ireturn, 1) := by decide +kernel
set_option maxRecDepth 20000 in
theorem ggL_refuse_X7_refuse : GoodIn wsL_refuse wsX7_refuse := goodIn_ca (goodIn_r _ [6, 7, 8, 9, 5, 10, 11, 12, 13, 14, 15, 16, 17, 18, 19, 20, 21, 22, 23, 24, 25, 26, 27, 28, 29, 30, 31, 32, 33, 34, 35, 36, 37, 38, 39, 40, 41, 42, 43, 44, 45, 46, 47, 48] (by decide +kernel) (by decide +kernel)) (goodIn_sub (fun _ h => List.mem_cons_of_mem _ (List.mem_append_right _ h)) (by decide +kernel))
set_option maxRecDepth 20000 in
theorem gL_refuse_X7_refuse : GoodIn wsL_refuse (wsV RL 43 RX7 yX7_refuse wsX7_refuse) := goodIn_app (goodIn_of _ (by decide +kernel)) ggL_refuse_X7_refuse
theorem dL_refuse_0 : decode cL_refuse 0 = .ok (.aload 4, 2) := by decide +kernel
theorem dL_refuse_2 : decode cL_refuse 2 = .ok (.iconst 0, 1) := by decide +kernel
theorem dL_refuse_3 : decode cL_refuse 3 = .ok (.aload_n 0, 1) := by decide +kernel
theorem dL_refuse_4 : decode cL_refuse 4 = .ok (.iload_n 1, 1) := by decide +kernel
theorem dL_refuse_5 : decode cL_refuse 5 = .ok (.iload_n 2, 1) := by decide +kernel
theorem dL_refuse_6 : decode cL_refuse 6 = .ok (.iload_n 3, 1) := by decide +kernel
theorem dL_refuse_7 : decode cL_refuse 7 = .ok (.invokevirtual 43, 3) := by decide +kernel
theorem dL_refuse_10 : decode cL_refuse 10 = .ok (.ifCond .eq 7, 3) := by decide +kernel
theorem dL_refuse_13 : decode cL_refuse 13 = .ok (.lconst 1, 1) := by decide +kernel
theorem dL_refuse_14 : decode cL_refuse 14 = .ok (.goto 4, 3) := by decide +kernel
theorem dL_refuse_17 : decode cL_refuse 17 = .ok (.lconst 0, 1) := by decide +kernel
theorem dL_refuse_18 : decode cL_refuse 18 = .ok (.lastore, 1) := by decide +kernel
theorem dL_refuse_19 : decode cL_refuse 19 = .ok (.goto 7, 3) := by decide +kernel
theorem dL_refuse_22 : decode cL_refuse 22 = .ok (.astore 5, 2) := by decide +kernel
theorem dL_refuse_24 : decode cL_refuse 24 = .ok (.iconst 1, 1) := by decide +kernel
theorem dL_refuse_25 : decode cL_refuse 25 = .ok (.ireturn, 1) := by decide +kernel
theorem dL_refuse_26 : decode cL_refuse 26 = .ok (.iconst 0, 1) := by decide +kernel
theorem dL_refuse_27 : decode cL_refuse 27 = .ok (.ireturn, 1) := by decide +kernel
set_option maxRecDepth 20000 in
theorem ggL_addHall_X7_addHall : GoodIn wsL_addHall wsX7_addHall := goodIn_ca (goodIn_ca (goodIn_r _ [6, 7, 8, 9, 10, 11, 12, 5, 13, 14, 15, 16, 17, 18, 19, 20, 21, 22, 23, 24, 25, 26, 27, 28, 29, 30] (by decide +kernel) (by decide +kernel)) (goodIn_sub (fun _ h => List.mem_cons_of_mem _ (List.mem_append_left _ (List.mem_append_right _ h))) (by decide +kernel))) (goodIn_sub (fun _ h => List.mem_cons_of_mem _ (List.mem_append_right _ h)) (by decide +kernel))
set_option maxRecDepth 20000 in
theorem gL_addHall_X7_addHall : GoodIn wsL_addHall (wsV RL 47 RX7 yX7_addHall wsX7_addHall) := goodIn_app (goodIn_of _ (by decide +kernel)) ggL_addHall_X7_addHall
theorem dL_addHall_0 : decode cL_addHall 0 = .ok (.aload_n 3, 1) := by decide +kernel
theorem dL_addHall_1 : decode cL_addHall 1 = .ok (.iconst 0, 1) := by decide +kernel
theorem dL_addHall_2 : decode cL_addHall 2 = .ok (.aload_n 0, 1) := by decide +kernel
theorem dL_addHall_3 : decode cL_addHall 3 = .ok (.iload_n 1, 1) := by decide +kernel
theorem dL_addHall_4 : decode cL_addHall 4 = .ok (.iload_n 2, 1) := by decide +kernel
theorem dL_addHall_5 : decode cL_addHall 5 = .ok (.invokevirtual 47, 3) := by decide +kernel
theorem dL_addHall_8 : decode cL_addHall 8 = .ok (.i2l, 1) := by decide +kernel
theorem dL_addHall_9 : decode cL_addHall 9 = .ok (.lastore, 1) := by decide +kernel
theorem dL_addHall_10 : decode cL_addHall 10 = .ok (.goto 11, 3) := by decide +kernel
theorem dL_addHall_13 : decode cL_addHall 13 = .ok (.astore 4, 2) := by decide +kernel
theorem dL_addHall_15 : decode cL_addHall 15 = .ok (.iconst 1, 1) := by decide +kernel
theorem dL_addHall_16 : decode cL_addHall 16 = .ok (.ireturn, 1) := by decide +kernel
theorem dL_addHall_17 : decode cL_addHall 17 = .ok (.astore 4, 2) := by decide +kernel
theorem dL_addHall_19 : decode cL_addHall 19 = .ok (.iconst 2, 1) := by decide +kernel
theorem dL_addHall_20 : decode cL_addHall 20 = .ok (.ireturn, 1) := by decide +kernel
theorem dL_addHall_21 : decode cL_addHall 21 = .ok (.iconst 0, 1) := by decide +kernel
theorem dL_addHall_22 : decode cL_addHall 22 = .ok (.ireturn, 1) := by decide +kernel
set_option maxRecDepth 20000 in
theorem ggL_give_X7_give : GoodIn wsL_give wsX7_give := goodIn_ca (goodIn_ca (goodIn_ca (goodIn_ca (goodIn_r _ [6, 7, 8, 9, 10, 11, 5, 12, 13, 14, 15, 16, 17, 18, 19, 20, 21, 22, 23, 24, 25, 26, 27, 28, 29, 30, 31, 32, 33, 34, 35, 36, 37, 38, 39, 40, 41, 42, 43, 44, 45, 46, 47, 48, 49, 50, 51, 52, 53, 54, 55, 56, 57, 58, 59, 60, 61, 62, 63, 64, 65, 66, 67, 68, 69, 70] (by decide +kernel) (by decide +kernel)) (goodIn_sub (fun _ h => List.mem_cons_of_mem _ (List.mem_append_left _ (List.mem_append_left _ (List.mem_append_right _ h)))) (by decide +kernel))) (goodIn_sub (fun _ h => List.mem_cons_of_mem _ (List.mem_append_left _ (List.mem_append_right _ h))) (by decide +kernel))) (goodIn_sub (fun _ h => List.mem_cons_of_mem _ (List.mem_append_right _ h)) (by decide +kernel))) (goodIn_sub (fun _ h => List.mem_cons_of_mem _ (List.mem_append_left _ (List.mem_append_left _ (List.mem_append_left _ (List.mem_append_right _ h))))) (by decide +kernel))
set_option maxRecDepth 20000 in
theorem gL_give_X7_give : GoodIn wsL_give (wsV RL 51 RX7 yX7_give wsX7_give) := goodIn_app (goodIn_of _ (by decide +kernel)) ggL_give_X7_give
theorem dL_give_0 : decode cL_give 0 = .ok (.aload 4, 2) := by decide +kernel
theorem dL_give_2 : decode cL_give 2 = .ok (.iconst 0, 1) := by decide +kernel
theorem dL_give_3 : decode cL_give 3 = .ok (.aload_n 0, 1) := by decide +kernel
theorem dL_give_4 : decode cL_give 4 = .ok (.iload_n 1, 1) := by decide +kernel
theorem dL_give_5 : decode cL_give 5 = .ok (.iload_n 2, 1) := by decide +kernel
theorem dL_give_6 : decode cL_give 6 = .ok (.iload_n 3, 1) := by decide +kernel
theorem dL_give_7 : decode cL_give 7 = .ok (.invokevirtual 51, 3) := by decide +kernel
theorem dL_give_10 : decode cL_give 10 = .ok (.ifCond .eq 7, 3) := by decide +kernel
theorem dL_give_13 : decode cL_give 13 = .ok (.lconst 1, 1) := by decide +kernel
theorem dL_give_14 : decode cL_give 14 = .ok (.goto 4, 3) := by decide +kernel
theorem dL_give_17 : decode cL_give 17 = .ok (.lconst 0, 1) := by decide +kernel
theorem dL_give_18 : decode cL_give 18 = .ok (.lastore, 1) := by decide +kernel
theorem dL_give_19 : decode cL_give 19 = .ok (.goto 15, 3) := by decide +kernel
theorem dL_give_22 : decode cL_give 22 = .ok (.astore 5, 2) := by decide +kernel
theorem dL_give_24 : decode cL_give 24 = .ok (.iconst 1, 1) := by decide +kernel
theorem dL_give_25 : decode cL_give 25 = .ok (.ireturn, 1) := by decide +kernel
theorem dL_give_26 : decode cL_give 26 = .ok (.astore 5, 2) := by decide +kernel
theorem dL_give_28 : decode cL_give 28 = .ok (.iconst 2, 1) := by decide +kernel
theorem dL_give_29 : decode cL_give 29 = .ok (.ireturn, 1) := by decide +kernel
theorem dL_give_30 : decode cL_give 30 = .ok (.astore 5, 2) := by decide +kernel
theorem dL_give_32 : decode cL_give 32 = .ok (.iconst 3, 1) := by decide +kernel
theorem dL_give_33 : decode cL_give 33 = .ok (.ireturn, 1) := by decide +kernel
theorem dL_give_34 : decode cL_give 34 = .ok (.iconst 0, 1) := by decide +kernel
theorem dL_give_35 : decode cL_give 35 = .ok (.ireturn, 1) := by decide +kernel
set_option maxRecDepth 20000 in
theorem ggL_addService_X7_addService : GoodIn wsL_addService wsX7_addService := goodIn_ca (goodIn_ca (goodIn_ca (goodIn_ca (goodIn_ca (goodIn_r _ [6, 7, 8, 9, 10, 11, 12, 13, 14, 15, 5, 16, 17, 18, 19, 20, 21, 22, 23, 24, 25, 26, 27, 28, 29, 30, 31, 32, 33, 34, 35, 36, 37, 38, 39, 40, 41, 42, 43, 44, 45, 46, 47, 48, 49, 50, 51, 52, 53, 54, 55, 56, 57, 58, 59, 60, 61, 62, 63, 64, 65, 66, 67, 68, 69, 70, 71, 72, 73, 74, 75, 76, 77, 78, 79] (by decide +kernel) (by decide +kernel)) (goodIn_sub (fun _ h => List.mem_cons_of_mem _ (List.mem_append_left _ (List.mem_append_left _ (List.mem_append_left _ (List.mem_append_right _ h))))) (by decide +kernel))) (goodIn_sub (fun _ h => List.mem_cons_of_mem _ (List.mem_append_left _ (List.mem_append_left _ (List.mem_append_right _ h)))) (by decide +kernel))) (goodIn_sub (fun _ h => List.mem_cons_of_mem _ (List.mem_append_left _ (List.mem_append_right _ h))) (by decide +kernel))) (goodIn_sub (fun _ h => List.mem_cons_of_mem _ (List.mem_append_right _ h)) (by decide +kernel))) (goodIn_sub (fun _ h => List.mem_cons_of_mem _ (List.mem_append_left _ (List.mem_append_left _ (List.mem_append_left _ (List.mem_append_left _ (List.mem_append_right _ h)))))) (by decide +kernel))
set_option maxRecDepth 20000 in
theorem gL_addService_X7_addService : GoodIn wsL_addService (wsV RL 54 RX7 yX7_addService wsX7_addService) := goodIn_app (goodIn_of _ (by decide +kernel)) ggL_addService_X7_addService
theorem dL_addService_0 : decode cL_addService 0 = .ok (.aload 6, 2) := by decide +kernel
theorem dL_addService_2 : decode cL_addService 2 = .ok (.iconst 0, 1) := by decide +kernel
theorem dL_addService_3 : decode cL_addService 3 = .ok (.aload_n 0, 1) := by decide +kernel
theorem dL_addService_4 : decode cL_addService 4 = .ok (.iload_n 1, 1) := by decide +kernel
theorem dL_addService_5 : decode cL_addService 5 = .ok (.iload_n 2, 1) := by decide +kernel
theorem dL_addService_6 : decode cL_addService 6 = .ok (.iload_n 3, 1) := by decide +kernel
theorem dL_addService_7 : decode cL_addService 7 = .ok (.iload 4, 2) := by decide +kernel
theorem dL_addService_9 : decode cL_addService 9 = .ok (.iload 5, 2) := by decide +kernel
theorem dL_addService_11 : decode cL_addService 11 = .ok (.invokevirtual 54, 3) := by decide +kernel
theorem dL_addService_14 : decode cL_addService 14 = .ok (.i2l, 1) := by decide +kernel
theorem dL_addService_15 : decode cL_addService 15 = .ok (.lastore, 1) := by decide +kernel
theorem dL_addService_16 : decode cL_addService 16 = .ok (.goto 19, 3) := by decide +kernel
theorem dL_addService_19 : decode cL_addService 19 = .ok (.astore 7, 2) := by decide +kernel
theorem dL_addService_21 : decode cL_addService 21 = .ok (.iconst 1, 1) := by decide +kernel
theorem dL_addService_22 : decode cL_addService 22 = .ok (.ireturn, 1) := by decide +kernel
theorem dL_addService_23 : decode cL_addService 23 = .ok (.astore 7, 2) := by decide +kernel
theorem dL_addService_25 : decode cL_addService 25 = .ok (.iconst 2, 1) := by decide +kernel
theorem dL_addService_26 : decode cL_addService 26 = .ok (.ireturn, 1) := by decide +kernel
theorem dL_addService_27 : decode cL_addService 27 = .ok (.astore 7, 2) := by decide +kernel
theorem dL_addService_29 : decode cL_addService 29 = .ok (.iconst 3, 1) := by decide +kernel
theorem dL_addService_30 : decode cL_addService 30 = .ok (.ireturn, 1) := by decide +kernel
theorem dL_addService_31 : decode cL_addService 31 = .ok (.astore 7, 2) := by decide +kernel
theorem dL_addService_33 : decode cL_addService 33 = .ok (.iconst 4, 1) := by decide +kernel
theorem dL_addService_34 : decode cL_addService 34 = .ok (.ireturn, 1) := by decide +kernel
theorem dL_addService_35 : decode cL_addService 35 = .ok (.iconst 0, 1) := by decide +kernel
theorem dL_addService_36 : decode cL_addService 36 = .ok (.ireturn, 1) := by decide +kernel
set_option maxRecDepth 20000 in
theorem ggL_add_X7_add : GoodIn wsL_add wsX7_add := goodIn_ca (goodIn_ca (goodIn_ca (goodIn_r _ [6, 7, 8, 9, 10, 11, 5, 12, 13, 14, 15, 16, 17, 18, 19, 20, 21, 22, 23, 24, 25, 26, 27, 28, 29, 30, 31, 32, 33, 34, 35, 36, 37, 38, 39, 40, 41, 42, 43, 44, 45, 46, 47, 48, 49, 50, 51, 52, 53, 54, 55, 56, 57, 58, 59, 60, 61, 62, 63, 64, 65, 66, 67, 68, 69, 70, 71, 72, 73, 74, 75, 76, 77, 78, 79, 80, 81, 82, 83, 84, 85, 86, 87, 88, 89, 90, 91, 92, 93, 94, 95, 96, 97, 98, 99] (by decide +kernel) (by decide +kernel)) (goodIn_sub (fun _ h => List.mem_cons_of_mem _ (List.mem_append_left _ (List.mem_append_right _ h))) (by decide +kernel))) (goodIn_sub (fun _ h => List.mem_cons_of_mem _ (List.mem_append_right _ h)) (by decide +kernel))) (goodIn_sub (fun _ h => List.mem_cons_of_mem _ (List.mem_append_left _ (List.mem_append_left _ (List.mem_append_right _ h)))) (by decide +kernel))
set_option maxRecDepth 20000 in
theorem gL_add_X7_add : GoodIn wsL_add (wsV RL 58 RX7 yX7_add wsX7_add) := goodIn_app (goodIn_of _ (by decide +kernel)) ggL_add_X7_add
theorem dL_add_0 : decode cL_add 0 = .ok (.aload_n 3, 1) := by decide +kernel
theorem dL_add_1 : decode cL_add 1 = .ok (.iconst 0, 1) := by decide +kernel
theorem dL_add_2 : decode cL_add 2 = .ok (.aload_n 0, 1) := by decide +kernel
theorem dL_add_3 : decode cL_add 3 = .ok (.iload_n 1, 1) := by decide +kernel
theorem dL_add_4 : decode cL_add 4 = .ok (.iload_n 2, 1) := by decide +kernel
theorem dL_add_5 : decode cL_add 5 = .ok (.invokevirtual 58, 3) := by decide +kernel
theorem dL_add_8 : decode cL_add 8 = .ok (.i2l, 1) := by decide +kernel
theorem dL_add_9 : decode cL_add 9 = .ok (.lastore, 1) := by decide +kernel
theorem dL_add_10 : decode cL_add 10 = .ok (.goto 11, 3) := by decide +kernel
theorem dL_add_13 : decode cL_add 13 = .ok (.astore 4, 2) := by decide +kernel
theorem dL_add_15 : decode cL_add 15 = .ok (.iconst 1, 1) := by decide +kernel
theorem dL_add_16 : decode cL_add 16 = .ok (.ireturn, 1) := by decide +kernel
theorem dL_add_17 : decode cL_add 17 = .ok (.astore 4, 2) := by decide +kernel
theorem dL_add_19 : decode cL_add 19 = .ok (.iconst 2, 1) := by decide +kernel
theorem dL_add_20 : decode cL_add 20 = .ok (.ireturn, 1) := by decide +kernel
theorem dL_add_21 : decode cL_add 21 = .ok (.iconst 0, 1) := by decide +kernel
theorem dL_add_22 : decode cL_add 22 = .ok (.ireturn, 1) := by decide +kernel
set_option maxRecDepth 20000 in
theorem ggL_remove_X7_remove : GoodIn wsL_remove wsX7_remove := goodIn_ca (goodIn_ca (goodIn_ca (goodIn_r _ [6, 7, 8, 9, 10, 11, 5, 12, 13, 14, 15, 16, 17, 18, 19, 20, 21, 22, 23, 24, 25, 26, 27, 28, 29, 30, 31, 32, 33, 34, 35, 36, 37, 38, 39, 40, 41, 42, 43, 44, 45, 46, 47, 48, 49, 50, 51, 52, 53, 54, 55, 56, 57, 58, 59, 60, 61, 62, 63, 64] (by decide +kernel) (by decide +kernel)) (goodIn_sub (fun _ h => List.mem_cons_of_mem _ (List.mem_append_left _ (List.mem_append_right _ h))) (by decide +kernel))) (goodIn_sub (fun _ h => List.mem_cons_of_mem _ (List.mem_append_right _ h)) (by decide +kernel))) (goodIn_sub (fun _ h => List.mem_cons_of_mem _ (List.mem_append_left _ (List.mem_append_left _ (List.mem_append_right _ h)))) (by decide +kernel))
set_option maxRecDepth 20000 in
theorem gL_remove_X7_remove : GoodIn wsL_remove (wsV RL 61 RX7 yX7_remove wsX7_remove) := goodIn_app (goodIn_of _ (by decide +kernel)) ggL_remove_X7_remove
theorem dL_remove_0 : decode cL_remove 0 = .ok (.aload_n 3, 1) := by decide +kernel
theorem dL_remove_1 : decode cL_remove 1 = .ok (.iconst 0, 1) := by decide +kernel
theorem dL_remove_2 : decode cL_remove 2 = .ok (.aload_n 0, 1) := by decide +kernel
theorem dL_remove_3 : decode cL_remove 3 = .ok (.iload_n 1, 1) := by decide +kernel
theorem dL_remove_4 : decode cL_remove 4 = .ok (.iload_n 2, 1) := by decide +kernel
theorem dL_remove_5 : decode cL_remove 5 = .ok (.invokevirtual 61, 3) := by decide +kernel
theorem dL_remove_8 : decode cL_remove 8 = .ok (.i2l, 1) := by decide +kernel
theorem dL_remove_9 : decode cL_remove 9 = .ok (.lastore, 1) := by decide +kernel
theorem dL_remove_10 : decode cL_remove 10 = .ok (.goto 11, 3) := by decide +kernel
theorem dL_remove_13 : decode cL_remove 13 = .ok (.astore 4, 2) := by decide +kernel
theorem dL_remove_15 : decode cL_remove 15 = .ok (.iconst 1, 1) := by decide +kernel
theorem dL_remove_16 : decode cL_remove 16 = .ok (.ireturn, 1) := by decide +kernel
theorem dL_remove_17 : decode cL_remove 17 = .ok (.astore 4, 2) := by decide +kernel
theorem dL_remove_19 : decode cL_remove 19 = .ok (.iconst 2, 1) := by decide +kernel
theorem dL_remove_20 : decode cL_remove 20 = .ok (.ireturn, 1) := by decide +kernel
theorem dL_remove_21 : decode cL_remove 21 = .ok (.iconst 0, 1) := by decide +kernel
theorem dL_remove_22 : decode cL_remove 22 = .ok (.ireturn, 1) := by decide +kernel
set_option maxRecDepth 20000 in
theorem ggL_setSeries_X7_setSeries : GoodIn wsL_setSeries wsX7_setSeries := goodIn_ca (goodIn_ca (goodIn_ca (goodIn_ca (goodIn_r _ [6, 7, 8, 9, 10, 11, 5, 12, 13, 14, 15, 16, 17, 18, 19, 20, 21, 22, 23, 24, 25, 26, 27, 28, 29, 30, 31, 32, 33, 34, 35, 36, 37, 38, 39, 40, 41, 42, 43, 44, 45, 46, 47, 48, 49, 50, 51, 52, 53, 54, 55, 56, 57, 58, 59, 60, 61, 62, 63, 64, 65, 66, 67, 68, 69] (by decide +kernel) (by decide +kernel)) (goodIn_sub (fun _ h => List.mem_cons_of_mem _ (List.mem_append_left _ (List.mem_append_left _ (List.mem_append_right _ h)))) (by decide +kernel))) (goodIn_sub (fun _ h => List.mem_cons_of_mem _ (List.mem_append_left _ (List.mem_append_right _ h))) (by decide +kernel))) (goodIn_sub (fun _ h => List.mem_cons_of_mem _ (List.mem_append_right _ h)) (by decide +kernel))) (goodIn_sub (fun _ h => List.mem_cons_of_mem _ (List.mem_append_left _ (List.mem_append_left _ (List.mem_append_left _ (List.mem_append_right _ h))))) (by decide +kernel))
set_option maxRecDepth 20000 in
theorem gL_setSeries_X7_setSeries : GoodIn wsL_setSeries (wsV RL 64 RX7 yX7_setSeries wsX7_setSeries) := goodIn_app (goodIn_of _ (by decide +kernel)) ggL_setSeries_X7_setSeries
theorem dL_setSeries_0 : decode cL_setSeries 0 = .ok (.aload_n 3, 1) := by decide +kernel
theorem dL_setSeries_1 : decode cL_setSeries 1 = .ok (.iconst 0, 1) := by decide +kernel
theorem dL_setSeries_2 : decode cL_setSeries 2 = .ok (.aload_n 0, 1) := by decide +kernel
theorem dL_setSeries_3 : decode cL_setSeries 3 = .ok (.iload_n 1, 1) := by decide +kernel
theorem dL_setSeries_4 : decode cL_setSeries 4 = .ok (.iload_n 2, 1) := by decide +kernel
theorem dL_setSeries_5 : decode cL_setSeries 5 = .ok (.invokevirtual 64, 3) := by decide +kernel
theorem dL_setSeries_8 : decode cL_setSeries 8 = .ok (.i2l, 1) := by decide +kernel
theorem dL_setSeries_9 : decode cL_setSeries 9 = .ok (.lastore, 1) := by decide +kernel
theorem dL_setSeries_10 : decode cL_setSeries 10 = .ok (.goto 15, 3) := by decide +kernel
theorem dL_setSeries_13 : decode cL_setSeries 13 = .ok (.astore 4, 2) := by decide +kernel
theorem dL_setSeries_15 : decode cL_setSeries 15 = .ok (.iconst 1, 1) := by decide +kernel
theorem dL_setSeries_16 : decode cL_setSeries 16 = .ok (.ireturn, 1) := by decide +kernel
theorem dL_setSeries_17 : decode cL_setSeries 17 = .ok (.astore 4, 2) := by decide +kernel
theorem dL_setSeries_19 : decode cL_setSeries 19 = .ok (.iconst 2, 1) := by decide +kernel
theorem dL_setSeries_20 : decode cL_setSeries 20 = .ok (.ireturn, 1) := by decide +kernel
theorem dL_setSeries_21 : decode cL_setSeries 21 = .ok (.astore 4, 2) := by decide +kernel
theorem dL_setSeries_23 : decode cL_setSeries 23 = .ok (.iconst 3, 1) := by decide +kernel
theorem dL_setSeries_24 : decode cL_setSeries 24 = .ok (.ireturn, 1) := by decide +kernel
theorem dL_setSeries_25 : decode cL_setSeries 25 = .ok (.iconst 0, 1) := by decide +kernel
theorem dL_setSeries_26 : decode cL_setSeries 26 = .ok (.ireturn, 1) := by decide +kernel
set_option maxRecDepth 20000 in
theorem ggL_addGuest_X7_addGuest : GoodIn wsL_addGuest wsX7_addGuest := goodIn_ca (goodIn_ca (goodIn_r _ [6, 7, 8, 9, 10, 11, 12, 5, 13, 14, 15, 16, 17, 18, 19, 20, 21, 22, 23, 24, 25, 26, 27, 28, 29, 30, 31] (by decide +kernel) (by decide +kernel)) (goodIn_sub (fun _ h => List.mem_cons_of_mem _ (List.mem_append_left _ (List.mem_append_right _ h))) (by decide +kernel))) (goodIn_sub (fun _ h => List.mem_cons_of_mem _ (List.mem_append_right _ h)) (by decide +kernel))
set_option maxRecDepth 20000 in
theorem gL_addGuest_X7_addGuest : GoodIn wsL_addGuest (wsV RL 67 RX7 yX7_addGuest wsX7_addGuest) := goodIn_app (goodIn_of _ (by decide +kernel)) ggL_addGuest_X7_addGuest
theorem dL_addGuest_0 : decode cL_addGuest 0 = .ok (.aload_n 3, 1) := by decide +kernel
theorem dL_addGuest_1 : decode cL_addGuest 1 = .ok (.iconst 0, 1) := by decide +kernel
theorem dL_addGuest_2 : decode cL_addGuest 2 = .ok (.aload_n 0, 1) := by decide +kernel
theorem dL_addGuest_3 : decode cL_addGuest 3 = .ok (.iload_n 1, 1) := by decide +kernel
theorem dL_addGuest_4 : decode cL_addGuest 4 = .ok (.iload_n 2, 1) := by decide +kernel
theorem dL_addGuest_5 : decode cL_addGuest 5 = .ok (.invokevirtual 67, 3) := by decide +kernel
theorem dL_addGuest_8 : decode cL_addGuest 8 = .ok (.i2l, 1) := by decide +kernel
theorem dL_addGuest_9 : decode cL_addGuest 9 = .ok (.lastore, 1) := by decide +kernel
theorem dL_addGuest_10 : decode cL_addGuest 10 = .ok (.goto 11, 3) := by decide +kernel
theorem dL_addGuest_13 : decode cL_addGuest 13 = .ok (.astore 4, 2) := by decide +kernel
theorem dL_addGuest_15 : decode cL_addGuest 15 = .ok (.iconst 1, 1) := by decide +kernel
theorem dL_addGuest_16 : decode cL_addGuest 16 = .ok (.ireturn, 1) := by decide +kernel
theorem dL_addGuest_17 : decode cL_addGuest 17 = .ok (.astore 4, 2) := by decide +kernel
theorem dL_addGuest_19 : decode cL_addGuest 19 = .ok (.iconst 2, 1) := by decide +kernel
theorem dL_addGuest_20 : decode cL_addGuest 20 = .ok (.ireturn, 1) := by decide +kernel
theorem dL_addGuest_21 : decode cL_addGuest 21 = .ok (.iconst 0, 1) := by decide +kernel
theorem dL_addGuest_22 : decode cL_addGuest 22 = .ok (.ireturn, 1) := by decide +kernel
set_option maxRecDepth 20000 in
theorem ggL_elsewhere_X7_elsewhere : GoodIn wsL_elsewhere wsX7_elsewhere := goodIn_ca (goodIn_ca (goodIn_ca (goodIn_ca (goodIn_r _ [6, 7, 8, 9, 10, 11, 5, 12, 13, 14, 15, 16, 17, 18, 19, 20, 21, 22, 23, 24, 25, 26, 27, 28, 29, 30, 31, 32, 33, 34, 35, 36, 37, 38, 39, 40, 41, 42, 43, 44, 45, 46, 47, 48, 49, 50, 51, 52, 53, 54, 55, 56, 57] (by decide +kernel) (by decide +kernel)) (goodIn_sub (fun _ h => List.mem_cons_of_mem _ (List.mem_append_left _ (List.mem_append_left _ (List.mem_append_right _ h)))) (by decide +kernel))) (goodIn_sub (fun _ h => List.mem_cons_of_mem _ (List.mem_append_left _ (List.mem_append_right _ h))) (by decide +kernel))) (goodIn_sub (fun _ h => List.mem_cons_of_mem _ (List.mem_append_right _ h)) (by decide +kernel))) (goodIn_sub (fun _ h => List.mem_cons_of_mem _ (List.mem_append_left _ (List.mem_append_left _ (List.mem_append_left _ (List.mem_append_right _ h))))) (by decide +kernel))
set_option maxRecDepth 20000 in
theorem gL_elsewhere_X7_elsewhere : GoodIn wsL_elsewhere (wsV RL 70 RX7 yX7_elsewhere wsX7_elsewhere) := goodIn_app (goodIn_of _ (by decide +kernel)) ggL_elsewhere_X7_elsewhere
theorem dL_elsewhere_0 : decode cL_elsewhere 0 = .ok (.aload_n 3, 1) := by decide +kernel
theorem dL_elsewhere_1 : decode cL_elsewhere 1 = .ok (.iconst 0, 1) := by decide +kernel
theorem dL_elsewhere_2 : decode cL_elsewhere 2 = .ok (.aload_n 0, 1) := by decide +kernel
theorem dL_elsewhere_3 : decode cL_elsewhere 3 = .ok (.iload_n 1, 1) := by decide +kernel
theorem dL_elsewhere_4 : decode cL_elsewhere 4 = .ok (.iload_n 2, 1) := by decide +kernel
theorem dL_elsewhere_5 : decode cL_elsewhere 5 = .ok (.invokevirtual 70, 3) := by decide +kernel
theorem dL_elsewhere_8 : decode cL_elsewhere 8 = .ok (.i2l, 1) := by decide +kernel
theorem dL_elsewhere_9 : decode cL_elsewhere 9 = .ok (.lastore, 1) := by decide +kernel
theorem dL_elsewhere_10 : decode cL_elsewhere 10 = .ok (.goto 15, 3) := by decide +kernel
theorem dL_elsewhere_13 : decode cL_elsewhere 13 = .ok (.astore 4, 2) := by decide +kernel
theorem dL_elsewhere_15 : decode cL_elsewhere 15 = .ok (.iconst 1, 1) := by decide +kernel
theorem dL_elsewhere_16 : decode cL_elsewhere 16 = .ok (.ireturn, 1) := by decide +kernel
theorem dL_elsewhere_17 : decode cL_elsewhere 17 = .ok (.astore 4, 2) := by decide +kernel
theorem dL_elsewhere_19 : decode cL_elsewhere 19 = .ok (.iconst 2, 1) := by decide +kernel
theorem dL_elsewhere_20 : decode cL_elsewhere 20 = .ok (.ireturn, 1) := by decide +kernel
theorem dL_elsewhere_21 : decode cL_elsewhere 21 = .ok (.astore 4, 2) := by decide +kernel
theorem dL_elsewhere_23 : decode cL_elsewhere 23 = .ok (.iconst 3, 1) := by decide +kernel
theorem dL_elsewhere_24 : decode cL_elsewhere 24 = .ok (.ireturn, 1) := by decide +kernel
theorem dL_elsewhere_25 : decode cL_elsewhere 25 = .ok (.iconst 0, 1) := by decide +kernel
theorem dL_elsewhere_26 : decode cL_elsewhere 26 = .ok (.ireturn, 1) := by decide +kernel
set_option maxRecDepth 20000 in
theorem ggL_engage_X7_engage : GoodIn wsL_engage wsX7_engage := goodIn_ca (goodIn_ca (goodIn_ca (goodIn_r _ [6, 7, 8, 9, 10, 11, 5, 12, 13, 14, 15, 16, 17, 18, 19, 20, 21, 22, 23, 24, 25, 26, 27, 28, 29, 30, 31, 32, 33, 34, 35, 36, 37, 38, 39, 40, 41, 42, 43, 44, 45, 46, 47, 48, 49, 50, 51, 52, 53, 54, 55, 56, 57, 58, 59, 60, 61, 62, 63, 64, 65, 66, 67, 68, 69, 70, 71, 72, 73, 74, 75, 76, 77, 78, 79, 80, 81, 82, 83, 84, 85, 86, 87, 88, 89, 90, 91, 92] (by decide +kernel) (by decide +kernel)) (goodIn_sub (fun _ h => List.mem_cons_of_mem _ (List.mem_append_left _ (List.mem_append_right _ h))) (by decide +kernel))) (goodIn_sub (fun _ h => List.mem_cons_of_mem _ (List.mem_append_right _ h)) (by decide +kernel))) (goodIn_sub (fun _ h => List.mem_cons_of_mem _ (List.mem_append_left _ (List.mem_append_left _ (List.mem_append_right _ h)))) (by decide +kernel))
set_option maxRecDepth 20000 in
theorem gL_engage_X7_engage : GoodIn wsL_engage (wsV RL 73 RX7 yX7_engage wsX7_engage) := goodIn_app (goodIn_of _ (by decide +kernel)) ggL_engage_X7_engage
theorem dL_engage_0 : decode cL_engage 0 = .ok (.aload_n 3, 1) := by decide +kernel
theorem dL_engage_1 : decode cL_engage 1 = .ok (.iconst 0, 1) := by decide +kernel
theorem dL_engage_2 : decode cL_engage 2 = .ok (.aload_n 0, 1) := by decide +kernel
theorem dL_engage_3 : decode cL_engage 3 = .ok (.iload_n 1, 1) := by decide +kernel
theorem dL_engage_4 : decode cL_engage 4 = .ok (.iload_n 2, 1) := by decide +kernel
theorem dL_engage_5 : decode cL_engage 5 = .ok (.invokevirtual 73, 3) := by decide +kernel
theorem dL_engage_8 : decode cL_engage 8 = .ok (.i2l, 1) := by decide +kernel
theorem dL_engage_9 : decode cL_engage 9 = .ok (.lastore, 1) := by decide +kernel
theorem dL_engage_10 : decode cL_engage 10 = .ok (.goto 11, 3) := by decide +kernel
theorem dL_engage_13 : decode cL_engage 13 = .ok (.astore 4, 2) := by decide +kernel
theorem dL_engage_15 : decode cL_engage 15 = .ok (.iconst 1, 1) := by decide +kernel
theorem dL_engage_16 : decode cL_engage 16 = .ok (.ireturn, 1) := by decide +kernel
theorem dL_engage_17 : decode cL_engage 17 = .ok (.astore 4, 2) := by decide +kernel
theorem dL_engage_19 : decode cL_engage 19 = .ok (.iconst 2, 1) := by decide +kernel
theorem dL_engage_20 : decode cL_engage 20 = .ok (.ireturn, 1) := by decide +kernel
theorem dL_engage_21 : decode cL_engage 21 = .ok (.iconst 0, 1) := by decide +kernel
theorem dL_engage_22 : decode cL_engage 22 = .ok (.ireturn, 1) := by decide +kernel
set_option maxRecDepth 20000 in
theorem ggL_cancelGuest_X7_cancelGuest : GoodIn wsL_cancelGuest wsX7_cancelGuest := goodIn_ca (goodIn_ca (goodIn_ca (goodIn_r _ [6, 7, 8, 9, 10, 11, 5, 12, 13, 14, 15, 16, 17, 18, 19, 20, 21, 22, 23, 24, 25, 26, 27, 28, 29, 30, 31, 32, 33, 34, 35, 36, 37, 38, 39, 40, 41, 42, 43, 44, 45, 46, 47, 48, 49, 50, 51, 52, 53, 54, 55, 56, 57, 58, 59, 60, 61, 62, 63, 64, 65, 66, 67, 68, 69, 70, 71, 72, 73, 74, 75, 76, 77, 78, 79, 80, 81, 82, 83, 84, 85, 86, 87, 88, 89, 90, 91, 92, 93, 94, 95, 96, 97, 98, 99, 100, 101, 102, 103, 104, 105, 106, 107, 108, 109, 110, 111, 112, 113, 114, 115, 116, 117, 118] (by decide +kernel) (by decide +kernel)) (goodIn_sub (fun _ h => List.mem_cons_of_mem _ (List.mem_append_left _ (List.mem_append_right _ h))) (by decide +kernel))) (goodIn_sub (fun _ h => List.mem_cons_of_mem _ (List.mem_append_right _ h)) (by decide +kernel))) (goodIn_sub (fun _ h => List.mem_cons_of_mem _ (List.mem_append_left _ (List.mem_append_left _ (List.mem_append_right _ h)))) (by decide +kernel))
set_option maxRecDepth 20000 in
theorem gL_cancelGuest_X7_cancelGuest : GoodIn wsL_cancelGuest (wsV RL 76 RX7 yX7_cancelGuest wsX7_cancelGuest) := goodIn_app (goodIn_of _ (by decide +kernel)) ggL_cancelGuest_X7_cancelGuest
theorem dL_cancelGuest_0 : decode cL_cancelGuest 0 = .ok (.aload_n 2, 1) := by decide +kernel
theorem dL_cancelGuest_1 : decode cL_cancelGuest 1 = .ok (.iconst 0, 1) := by decide +kernel
theorem dL_cancelGuest_2 : decode cL_cancelGuest 2 = .ok (.aload_n 0, 1) := by decide +kernel
theorem dL_cancelGuest_3 : decode cL_cancelGuest 3 = .ok (.iload_n 1, 1) := by decide +kernel
theorem dL_cancelGuest_4 : decode cL_cancelGuest 4 = .ok (.invokevirtual 76, 3) := by decide +kernel
theorem dL_cancelGuest_7 : decode cL_cancelGuest 7 = .ok (.i2l, 1) := by decide +kernel
theorem dL_cancelGuest_8 : decode cL_cancelGuest 8 = .ok (.lastore, 1) := by decide +kernel
theorem dL_cancelGuest_9 : decode cL_cancelGuest 9 = .ok (.goto 9, 3) := by decide +kernel
theorem dL_cancelGuest_12 : decode cL_cancelGuest 12 = .ok (.astore_n 3, 1) := by decide +kernel
theorem dL_cancelGuest_13 : decode cL_cancelGuest 13 = .ok (.iconst 1, 1) := by decide +kernel
theorem dL_cancelGuest_14 : decode cL_cancelGuest 14 = .ok (.ireturn, 1) := by decide +kernel
theorem dL_cancelGuest_15 : decode cL_cancelGuest 15 = .ok (.astore_n 3, 1) := by decide +kernel
theorem dL_cancelGuest_16 : decode cL_cancelGuest 16 = .ok (.iconst 2, 1) := by decide +kernel
theorem dL_cancelGuest_17 : decode cL_cancelGuest 17 = .ok (.ireturn, 1) := by decide +kernel
theorem dL_cancelGuest_18 : decode cL_cancelGuest 18 = .ok (.iconst 0, 1) := by decide +kernel
theorem dL_cancelGuest_19 : decode cL_cancelGuest 19 = .ok (.ireturn, 1) := by decide +kernel
set_option maxRecDepth 20000 in
theorem ggL_guestOf_X7_guestOf : GoodIn wsL_guestOf wsX7_guestOf := goodIn_ca (goodIn_ca (goodIn_r _ [6, 7, 8, 9, 10, 11, 5, 12, 13, 14, 15, 16, 17, 18, 19, 20, 21, 22, 23, 24, 25, 26, 27, 28, 29, 30, 31, 32, 33, 34, 35, 36, 37, 38, 39, 40, 41, 42, 43, 44, 45, 46, 47, 48, 49, 50] (by decide +kernel) (by decide +kernel)) (goodIn_sub (fun _ h => List.mem_cons_of_mem _ (List.mem_append_left _ (List.mem_append_right _ h))) (by decide +kernel))) (goodIn_sub (fun _ h => List.mem_cons_of_mem _ (List.mem_append_right _ h)) (by decide +kernel))
set_option maxRecDepth 20000 in
theorem gL_guestOf_X7_guestOf : GoodIn wsL_guestOf (wsV RL 82 RX7 yX7_guestOf wsX7_guestOf) := goodIn_app (goodIn_of _ (by decide +kernel)) ggL_guestOf_X7_guestOf
theorem dL_guestOf_0 : decode cL_guestOf 0 = .ok (.aload_n 2, 1) := by decide +kernel
theorem dL_guestOf_1 : decode cL_guestOf 1 = .ok (.iconst 0, 1) := by decide +kernel
theorem dL_guestOf_2 : decode cL_guestOf 2 = .ok (.aload_n 0, 1) := by decide +kernel
theorem dL_guestOf_3 : decode cL_guestOf 3 = .ok (.iload_n 1, 1) := by decide +kernel
theorem dL_guestOf_4 : decode cL_guestOf 4 = .ok (.invokevirtual 82, 3) := by decide +kernel
theorem dL_guestOf_7 : decode cL_guestOf 7 = .ok (.i2l, 1) := by decide +kernel
theorem dL_guestOf_8 : decode cL_guestOf 8 = .ok (.lastore, 1) := by decide +kernel
theorem dL_guestOf_9 : decode cL_guestOf 9 = .ok (.goto 9, 3) := by decide +kernel
theorem dL_guestOf_12 : decode cL_guestOf 12 = .ok (.astore_n 3, 1) := by decide +kernel
theorem dL_guestOf_13 : decode cL_guestOf 13 = .ok (.iconst 1, 1) := by decide +kernel
theorem dL_guestOf_14 : decode cL_guestOf 14 = .ok (.ireturn, 1) := by decide +kernel
theorem dL_guestOf_15 : decode cL_guestOf 15 = .ok (.astore_n 3, 1) := by decide +kernel
theorem dL_guestOf_16 : decode cL_guestOf 16 = .ok (.iconst 2, 1) := by decide +kernel
theorem dL_guestOf_17 : decode cL_guestOf 17 = .ok (.ireturn, 1) := by decide +kernel
theorem dL_guestOf_18 : decode cL_guestOf 18 = .ok (.iconst 0, 1) := by decide +kernel
theorem dL_guestOf_19 : decode cL_guestOf 19 = .ok (.ireturn, 1) := by decide +kernel
set_option maxRecDepth 20000 in
theorem ggL_book_X7_book : GoodIn wsL_book wsX7_book := goodIn_ca (goodIn_ca (goodIn_ca (goodIn_r _ [6, 7, 8, 9, 10, 11, 5, 12, 13, 14, 15, 16, 17, 18, 19, 20, 21, 22, 23, 24, 25, 26, 27, 28, 29, 30, 31, 32, 33, 34, 35, 36, 37, 38, 39, 40, 41, 42, 43, 44, 45, 46, 47, 48, 49, 50, 51, 52, 53, 54, 55, 56, 57, 58, 59, 60, 61, 62, 63, 64, 65, 66, 67, 68, 69, 70, 71, 72, 73, 74, 75, 76, 77, 78, 79, 80, 81, 82, 83, 84, 85, 86, 87, 88, 89, 90, 91, 92, 93, 94, 95, 96, 97, 98, 99, 100, 101, 102, 103, 104, 105, 106, 107, 108, 109, 110, 111, 112, 113, 114, 115, 116, 117, 118, 119, 120, 121, 122, 123, 124, 125, 126, 127, 128, 129, 130, 131, 132, 133, 134, 135, 136, 137, 138, 139, 140, 141, 142, 143, 144, 145, 146, 147, 148, 149, 150, 151, 152, 153, 154, 155, 156, 157, 158, 159, 160, 161, 162, 163, 164, 165, 166, 167, 168, 169, 170, 171, 172, 173, 174, 175, 176, 177, 178, 179, 180, 181, 182, 183, 184, 185, 186, 187, 188, 189, 190, 191, 192, 193, 194, 195, 196, 197, 198, 199, 200, 201, 202, 203, 204, 205, 206, 207, 208, 209, 210, 211, 212, 213, 214, 215, 216] (by decide +kernel) (by decide +kernel)) (goodIn_sub (fun _ h => List.mem_cons_of_mem _ (List.mem_append_left _ (List.mem_append_right _ h))) (by decide +kernel))) (goodIn_sub (fun _ h => List.mem_cons_of_mem _ (List.mem_append_right _ h)) (by decide +kernel))) (goodIn_sub (fun _ h => List.mem_cons_of_mem _ (List.mem_append_left _ (List.mem_append_left _ (List.mem_append_right _ h)))) (by decide +kernel))
set_option maxRecDepth 20000 in
theorem gL_book_X7_book : GoodIn wsL_book (wsV RL 85 RX7 yX7_book wsX7_book) := goodIn_app (goodIn_of _ (by decide +kernel)) ggL_book_X7_book
theorem dL_book_0 : decode cL_book 0 = .ok (.aload_n 2, 1) := by decide +kernel
theorem dL_book_1 : decode cL_book 1 = .ok (.iconst 0, 1) := by decide +kernel
theorem dL_book_2 : decode cL_book 2 = .ok (.aload_n 0, 1) := by decide +kernel
theorem dL_book_3 : decode cL_book 3 = .ok (.iload_n 1, 1) := by decide +kernel
theorem dL_book_4 : decode cL_book 4 = .ok (.invokevirtual 85, 3) := by decide +kernel
theorem dL_book_7 : decode cL_book 7 = .ok (.i2l, 1) := by decide +kernel
theorem dL_book_8 : decode cL_book 8 = .ok (.lastore, 1) := by decide +kernel
theorem dL_book_9 : decode cL_book 9 = .ok (.goto 9, 3) := by decide +kernel
theorem dL_book_12 : decode cL_book 12 = .ok (.astore_n 3, 1) := by decide +kernel
theorem dL_book_13 : decode cL_book 13 = .ok (.iconst 1, 1) := by decide +kernel
theorem dL_book_14 : decode cL_book 14 = .ok (.ireturn, 1) := by decide +kernel
theorem dL_book_15 : decode cL_book 15 = .ok (.astore_n 3, 1) := by decide +kernel
theorem dL_book_16 : decode cL_book 16 = .ok (.iconst 2, 1) := by decide +kernel
theorem dL_book_17 : decode cL_book 17 = .ok (.ireturn, 1) := by decide +kernel
theorem dL_book_18 : decode cL_book 18 = .ok (.iconst 0, 1) := by decide +kernel
theorem dL_book_19 : decode cL_book 19 = .ok (.ireturn, 1) := by decide +kernel
set_option maxRecDepth 20000 in
theorem ggL_unbook_X7_unbook : GoodIn wsL_unbook wsX7_unbook := goodIn_ca (goodIn_ca (goodIn_ca (goodIn_r _ [6, 7, 8, 9, 10, 11, 5, 12, 13, 14, 15, 16, 17, 18, 19, 20, 21, 22, 23, 24, 25, 26, 27, 28, 29, 30, 31, 32, 33, 34, 35, 36, 37, 38, 39, 40, 41, 42, 43, 44, 45, 46, 47, 48, 49, 50, 51, 52, 53, 54, 55, 56, 57, 58, 59, 60, 61, 62, 63, 64, 65, 66, 67, 68, 69, 70, 71, 72, 73, 74, 75, 76, 77, 78, 79, 80, 81, 82, 83, 84, 85, 86, 87, 88, 89, 90, 91, 92, 93, 94, 95, 96, 97, 98, 99, 100, 101, 102] (by decide +kernel) (by decide +kernel)) (goodIn_sub (fun _ h => List.mem_cons_of_mem _ (List.mem_append_left _ (List.mem_append_right _ h))) (by decide +kernel))) (goodIn_sub (fun _ h => List.mem_cons_of_mem _ (List.mem_append_right _ h)) (by decide +kernel))) (goodIn_sub (fun _ h => List.mem_cons_of_mem _ (List.mem_append_left _ (List.mem_append_left _ (List.mem_append_right _ h)))) (by decide +kernel))
set_option maxRecDepth 20000 in
theorem gL_unbook_X7_unbook : GoodIn wsL_unbook (wsV RL 88 RX7 yX7_unbook wsX7_unbook) := goodIn_app (goodIn_of _ (by decide +kernel)) ggL_unbook_X7_unbook
theorem dL_unbook_0 : decode cL_unbook 0 = .ok (.aload_n 2, 1) := by decide +kernel
theorem dL_unbook_1 : decode cL_unbook 1 = .ok (.iconst 0, 1) := by decide +kernel
theorem dL_unbook_2 : decode cL_unbook 2 = .ok (.aload_n 0, 1) := by decide +kernel
theorem dL_unbook_3 : decode cL_unbook 3 = .ok (.iload_n 1, 1) := by decide +kernel
theorem dL_unbook_4 : decode cL_unbook 4 = .ok (.invokevirtual 88, 3) := by decide +kernel
theorem dL_unbook_7 : decode cL_unbook 7 = .ok (.i2l, 1) := by decide +kernel
theorem dL_unbook_8 : decode cL_unbook 8 = .ok (.lastore, 1) := by decide +kernel
theorem dL_unbook_9 : decode cL_unbook 9 = .ok (.goto 9, 3) := by decide +kernel
theorem dL_unbook_12 : decode cL_unbook 12 = .ok (.astore_n 3, 1) := by decide +kernel
theorem dL_unbook_13 : decode cL_unbook 13 = .ok (.iconst 1, 1) := by decide +kernel
theorem dL_unbook_14 : decode cL_unbook 14 = .ok (.ireturn, 1) := by decide +kernel
theorem dL_unbook_15 : decode cL_unbook 15 = .ok (.astore_n 3, 1) := by decide +kernel
theorem dL_unbook_16 : decode cL_unbook 16 = .ok (.iconst 2, 1) := by decide +kernel
theorem dL_unbook_17 : decode cL_unbook 17 = .ok (.ireturn, 1) := by decide +kernel
theorem dL_unbook_18 : decode cL_unbook 18 = .ok (.iconst 0, 1) := by decide +kernel
theorem dL_unbook_19 : decode cL_unbook 19 = .ok (.ireturn, 1) := by decide +kernel
set_option maxRecDepth 20000 in
theorem ggL_isBooked_X7_isBooked : GoodIn wsL_isBooked wsX7_isBooked := goodIn_ca (goodIn_r _ [6, 7, 8, 9, 5, 10, 11, 12, 13, 14, 15, 16, 17, 18, 19, 20, 21, 22, 23, 24, 25, 26, 27, 28, 29, 30, 31, 32, 33, 34, 35, 36, 37, 38, 39, 40, 41, 42, 43, 44, 45, 46, 47, 48] (by decide +kernel) (by decide +kernel)) (goodIn_sub (fun _ h => List.mem_cons_of_mem _ (List.mem_append_right _ h)) (by decide +kernel))
set_option maxRecDepth 20000 in
theorem gL_isBooked_X7_isBooked : GoodIn wsL_isBooked (wsV RL 91 RX7 yX7_isBooked wsX7_isBooked) := goodIn_app (goodIn_of _ (by decide +kernel)) ggL_isBooked_X7_isBooked
theorem dL_isBooked_0 : decode cL_isBooked 0 = .ok (.aload_n 2, 1) := by decide +kernel
theorem dL_isBooked_1 : decode cL_isBooked 1 = .ok (.iconst 0, 1) := by decide +kernel
theorem dL_isBooked_2 : decode cL_isBooked 2 = .ok (.aload_n 0, 1) := by decide +kernel
theorem dL_isBooked_3 : decode cL_isBooked 3 = .ok (.iload_n 1, 1) := by decide +kernel
theorem dL_isBooked_4 : decode cL_isBooked 4 = .ok (.invokevirtual 91, 3) := by decide +kernel
theorem dL_isBooked_7 : decode cL_isBooked 7 = .ok (.ifCond .eq 7, 3) := by decide +kernel
theorem dL_isBooked_10 : decode cL_isBooked 10 = .ok (.lconst 1, 1) := by decide +kernel
theorem dL_isBooked_11 : decode cL_isBooked 11 = .ok (.goto 4, 3) := by decide +kernel
theorem dL_isBooked_14 : decode cL_isBooked 14 = .ok (.lconst 0, 1) := by decide +kernel
theorem dL_isBooked_15 : decode cL_isBooked 15 = .ok (.lastore, 1) := by decide +kernel
theorem dL_isBooked_16 : decode cL_isBooked 16 = .ok (.goto 6, 3) := by decide +kernel
theorem dL_isBooked_19 : decode cL_isBooked 19 = .ok (.astore_n 3, 1) := by decide +kernel
theorem dL_isBooked_20 : decode cL_isBooked 20 = .ok (.iconst 1, 1) := by decide +kernel
theorem dL_isBooked_21 : decode cL_isBooked 21 = .ok (.ireturn, 1) := by decide +kernel
theorem dL_isBooked_22 : decode cL_isBooked 22 = .ok (.iconst 0, 1) := by decide +kernel
theorem dL_isBooked_23 : decode cL_isBooked 23 = .ok (.ireturn, 1) := by decide +kernel
set_option maxRecDepth 20000 in
theorem ggL_away_X7_away : GoodIn wsL_away wsX7_away := goodIn_ca (goodIn_ca (goodIn_ca (goodIn_r _ [6, 7, 8, 9, 10, 11, 5, 12, 13, 14, 15, 16, 17, 18, 19, 20, 21, 22, 23, 24, 25, 26, 27, 28, 29, 30, 31, 32, 33, 34, 35, 36, 37, 38, 39, 40, 41, 42, 43, 44, 45, 46, 47, 48, 49, 50, 51, 52, 53, 54, 55, 56, 57, 58, 59, 60, 61, 62, 63, 64, 65, 66, 67, 68, 69, 70, 71, 72, 73, 74, 75, 76, 77, 78, 79, 80, 81, 82, 83, 84, 85, 86, 87, 88, 89, 90, 91, 92, 93, 94, 95, 96, 97, 98, 99, 100, 101, 102, 103, 104, 105, 106, 107, 108, 109, 110, 111, 112, 113, 114, 115, 116, 117, 118, 119, 120, 121, 122, 123, 124, 125, 126, 127, 128, 129, 130, 131, 132, 133, 134, 135, 136, 137, 138, 139, 140, 141, 142, 143, 144, 145, 146, 147, 148, 149, 150, 151, 152, 153, 154, 155, 156, 157, 158, 159, 160, 161, 162, 163, 164, 165, 166, 167, 168, 169, 170, 171, 172, 173, 174, 175, 176, 177, 178, 179, 180, 181, 182, 183, 184, 185, 186, 187, 188, 189, 190, 191, 192, 193, 194, 195, 196, 197, 198, 199, 200, 201, 202, 203, 204, 205, 206, 207, 208] (by decide +kernel) (by decide +kernel)) (goodIn_sub (fun _ h => List.mem_cons_of_mem _ (List.mem_append_left _ (List.mem_append_right _ h))) (by decide +kernel))) (goodIn_sub (fun _ h => List.mem_cons_of_mem _ (List.mem_append_right _ h)) (by decide +kernel))) (goodIn_sub (fun _ h => List.mem_cons_of_mem _ (List.mem_append_left _ (List.mem_append_left _ (List.mem_append_right _ h)))) (by decide +kernel))
set_option maxRecDepth 20000 in
theorem gL_away_X7_away : GoodIn wsL_away (wsV RL 95 RX7 yX7_away wsX7_away) := goodIn_app (goodIn_of _ (by decide +kernel)) ggL_away_X7_away
theorem dL_away_0 : decode cL_away 0 = .ok (.aload_n 3, 1) := by decide +kernel
theorem dL_away_1 : decode cL_away 1 = .ok (.iconst 0, 1) := by decide +kernel
theorem dL_away_2 : decode cL_away 2 = .ok (.aload_n 0, 1) := by decide +kernel
theorem dL_away_3 : decode cL_away 3 = .ok (.iload_n 1, 1) := by decide +kernel
theorem dL_away_4 : decode cL_away 4 = .ok (.iload_n 2, 1) := by decide +kernel
theorem dL_away_5 : decode cL_away 5 = .ok (.invokevirtual 95, 3) := by decide +kernel
theorem dL_away_8 : decode cL_away 8 = .ok (.i2l, 1) := by decide +kernel
theorem dL_away_9 : decode cL_away 9 = .ok (.lastore, 1) := by decide +kernel
theorem dL_away_10 : decode cL_away 10 = .ok (.goto 11, 3) := by decide +kernel
theorem dL_away_13 : decode cL_away 13 = .ok (.astore 4, 2) := by decide +kernel
theorem dL_away_15 : decode cL_away 15 = .ok (.iconst 1, 1) := by decide +kernel
theorem dL_away_16 : decode cL_away 16 = .ok (.ireturn, 1) := by decide +kernel
theorem dL_away_17 : decode cL_away 17 = .ok (.astore 4, 2) := by decide +kernel
theorem dL_away_19 : decode cL_away 19 = .ok (.iconst 2, 1) := by decide +kernel
theorem dL_away_20 : decode cL_away 20 = .ok (.ireturn, 1) := by decide +kernel
theorem dL_away_21 : decode cL_away 21 = .ok (.iconst 0, 1) := by decide +kernel
theorem dL_away_22 : decode cL_away 22 = .ok (.ireturn, 1) := by decide +kernel
set_option maxRecDepth 20000 in
theorem ggL_stands_X7_stands : GoodIn wsL_stands wsX7_stands := goodIn_ca (goodIn_r _ [6, 7, 8, 9, 5, 10, 11, 12, 13, 14, 15, 16, 17, 18, 19, 20, 21, 22, 23, 24, 25, 26, 27, 28, 29, 30, 31, 32, 33, 34, 35, 36, 37, 38, 39, 40, 41, 42, 43, 44, 45, 46, 47, 48, 49, 50, 51, 52, 53, 54, 55, 56] (by decide +kernel) (by decide +kernel)) (goodIn_sub (fun _ h => List.mem_cons_of_mem _ (List.mem_append_right _ h)) (by decide +kernel))
set_option maxRecDepth 20000 in
theorem gL_stands_X7_stands : GoodIn wsL_stands (wsV RL 98 RX7 yX7_stands wsX7_stands) := goodIn_app (goodIn_of _ (by decide +kernel)) ggL_stands_X7_stands
theorem dL_stands_0 : decode cL_stands 0 = .ok (.aload_n 3, 1) := by decide +kernel
theorem dL_stands_1 : decode cL_stands 1 = .ok (.iconst 0, 1) := by decide +kernel
theorem dL_stands_2 : decode cL_stands 2 = .ok (.aload_n 0, 1) := by decide +kernel
theorem dL_stands_3 : decode cL_stands 3 = .ok (.iload_n 1, 1) := by decide +kernel
theorem dL_stands_4 : decode cL_stands 4 = .ok (.iload_n 2, 1) := by decide +kernel
theorem dL_stands_5 : decode cL_stands 5 = .ok (.invokevirtual 98, 3) := by decide +kernel
theorem dL_stands_8 : decode cL_stands 8 = .ok (.ifCond .eq 7, 3) := by decide +kernel
theorem dL_stands_11 : decode cL_stands 11 = .ok (.lconst 1, 1) := by decide +kernel
theorem dL_stands_12 : decode cL_stands 12 = .ok (.goto 4, 3) := by decide +kernel
theorem dL_stands_15 : decode cL_stands 15 = .ok (.lconst 0, 1) := by decide +kernel
theorem dL_stands_16 : decode cL_stands 16 = .ok (.lastore, 1) := by decide +kernel
theorem dL_stands_17 : decode cL_stands 17 = .ok (.goto 7, 3) := by decide +kernel
theorem dL_stands_20 : decode cL_stands 20 = .ok (.astore 4, 2) := by decide +kernel
theorem dL_stands_22 : decode cL_stands 22 = .ok (.iconst 1, 1) := by decide +kernel
theorem dL_stands_23 : decode cL_stands 23 = .ok (.ireturn, 1) := by decide +kernel
theorem dL_stands_24 : decode cL_stands 24 = .ok (.iconst 0, 1) := by decide +kernel
theorem dL_stands_25 : decode cL_stands 25 = .ok (.ireturn, 1) := by decide +kernel
set_option maxRecDepth 20000 in
theorem ggL_castAt_X7_castAt : GoodIn wsL_castAt wsX7_castAt := goodIn_ca (goodIn_ca (goodIn_ca (goodIn_r _ [6, 7, 8, 9, 10, 11, 5, 12, 13, 14, 15, 16, 17, 18, 19, 20, 21, 22, 23, 24, 25, 26, 27, 28, 29, 30, 31, 32, 33, 34, 35, 36, 37, 38, 39, 40, 41, 42, 43, 44, 45, 46, 47, 48, 49, 50, 51, 52, 53, 54, 55, 56, 57, 58, 59, 60, 61, 62, 63, 64, 65, 66, 67, 68, 69, 70, 71, 72, 73, 74, 75, 76, 77, 78, 79, 80, 81, 82, 83, 84] (by decide +kernel) (by decide +kernel)) (goodIn_sub (fun _ h => List.mem_cons_of_mem _ (List.mem_append_left _ (List.mem_append_right _ h))) (by decide +kernel))) (goodIn_sub (fun _ h => List.mem_cons_of_mem _ (List.mem_append_left _ (List.mem_append_left _ (List.mem_append_right _ h)))) (by decide +kernel))) (goodIn_sub (fun _ h => List.mem_cons_of_mem _ (List.mem_append_right _ h)) (by decide +kernel))
set_option maxRecDepth 20000 in
theorem gL_castAt_X7_castAt : GoodIn wsL_castAt (wsV RL 101 RX7 yX7_castAt wsX7_castAt) := goodIn_app (goodIn_of _ (by decide +kernel)) ggL_castAt_X7_castAt
theorem dL_castAt_0 : decode cL_castAt 0 = .ok (.aload 4, 2) := by decide +kernel
theorem dL_castAt_2 : decode cL_castAt 2 = .ok (.iconst 0, 1) := by decide +kernel
theorem dL_castAt_3 : decode cL_castAt 3 = .ok (.aload_n 0, 1) := by decide +kernel
theorem dL_castAt_4 : decode cL_castAt 4 = .ok (.iload_n 1, 1) := by decide +kernel
theorem dL_castAt_5 : decode cL_castAt 5 = .ok (.iload_n 2, 1) := by decide +kernel
theorem dL_castAt_6 : decode cL_castAt 6 = .ok (.iload_n 3, 1) := by decide +kernel
theorem dL_castAt_7 : decode cL_castAt 7 = .ok (.invokevirtual 101, 3) := by decide +kernel
theorem dL_castAt_10 : decode cL_castAt 10 = .ok (.i2l, 1) := by decide +kernel
theorem dL_castAt_11 : decode cL_castAt 11 = .ok (.lastore, 1) := by decide +kernel
theorem dL_castAt_12 : decode cL_castAt 12 = .ok (.goto 11, 3) := by decide +kernel
theorem dL_castAt_15 : decode cL_castAt 15 = .ok (.astore 5, 2) := by decide +kernel
theorem dL_castAt_17 : decode cL_castAt 17 = .ok (.iconst 1, 1) := by decide +kernel
theorem dL_castAt_18 : decode cL_castAt 18 = .ok (.ireturn, 1) := by decide +kernel
theorem dL_castAt_19 : decode cL_castAt 19 = .ok (.astore 5, 2) := by decide +kernel
theorem dL_castAt_21 : decode cL_castAt 21 = .ok (.iconst 2, 1) := by decide +kernel
theorem dL_castAt_22 : decode cL_castAt 22 = .ok (.ireturn, 1) := by decide +kernel
theorem dL_castAt_23 : decode cL_castAt 23 = .ok (.iconst 0, 1) := by decide +kernel
theorem dL_castAt_24 : decode cL_castAt 24 = .ok (.ireturn, 1) := by decide +kernel
set_option maxRecDepth 20000 in
theorem ggL_cost_X7_cost : GoodIn wsL_cost wsX7_cost := goodIn_ca (goodIn_ca (goodIn_r _ [6, 7, 8, 9, 5, 10, 11, 12, 13, 14, 15, 16, 17, 18, 19, 20, 21, 22, 23, 24, 25, 26, 27, 28, 29, 30, 31, 32, 33, 34, 35, 36, 37, 38, 39, 40, 41, 42, 43, 44, 45, 46, 47, 48, 49, 50, 51, 52, 53, 54, 55, 56, 57, 58, 59, 60, 61, 62, 63, 64, 65, 66, 67, 68, 69, 70, 71, 72, 73, 74, 75, 76, 77, 78, 79, 80, 81, 82, 83, 84, 85, 86, 87, 88, 89, 90, 91, 92, 93, 94] (by decide +kernel) (by decide +kernel)) (goodIn_sub (fun _ h => List.mem_cons_of_mem _ (List.mem_append_right _ h)) (by decide +kernel))) (goodIn_sub (fun _ h => List.mem_cons_of_mem _ (List.mem_append_left _ (List.mem_append_right _ h))) (by decide +kernel))
set_option maxRecDepth 20000 in
theorem gL_cost_X7_cost : GoodIn wsL_cost (wsV RL 104 RX7 yX7_cost wsX7_cost) := goodIn_app (goodIn_of _ (by decide +kernel)) ggL_cost_X7_cost
theorem dL_cost_0 : decode cL_cost 0 = .ok (.aload_n 2, 1) := by decide +kernel
theorem dL_cost_1 : decode cL_cost 1 = .ok (.iconst 0, 1) := by decide +kernel
theorem dL_cost_2 : decode cL_cost 2 = .ok (.aload_n 0, 1) := by decide +kernel
theorem dL_cost_3 : decode cL_cost 3 = .ok (.iload_n 1, 1) := by decide +kernel
theorem dL_cost_4 : decode cL_cost 4 = .ok (.invokevirtual 104, 3) := by decide +kernel
theorem dL_cost_7 : decode cL_cost 7 = .ok (.i2l, 1) := by decide +kernel
theorem dL_cost_8 : decode cL_cost 8 = .ok (.lastore, 1) := by decide +kernel
theorem dL_cost_9 : decode cL_cost 9 = .ok (.goto 6, 3) := by decide +kernel
theorem dL_cost_12 : decode cL_cost 12 = .ok (.astore_n 3, 1) := by decide +kernel
theorem dL_cost_13 : decode cL_cost 13 = .ok (.iconst 1, 1) := by decide +kernel
theorem dL_cost_14 : decode cL_cost 14 = .ok (.ireturn, 1) := by decide +kernel
theorem dL_cost_15 : decode cL_cost 15 = .ok (.iconst 0, 1) := by decide +kernel
theorem dL_cost_16 : decode cL_cost 16 = .ok (.ireturn, 1) := by decide +kernel
set_option maxRecDepth 20000 in
theorem ggL_isFree_X7_isFree : GoodIn wsL_isFree wsX7_isFree := goodIn_ca (goodIn_ca (goodIn_r _ [6, 7, 8, 9, 5, 10, 11, 12, 13, 14, 15, 16, 17, 18, 19, 20, 21, 22, 23, 24, 25, 26, 27, 28, 29, 30, 31, 32, 33, 34, 35, 36, 37, 38, 39, 40, 41, 42, 43, 44, 45, 46, 47, 48, 49, 50, 51, 52, 53, 54, 55, 56, 57, 58, 59, 60, 61, 62, 63, 64, 65, 66, 67, 68, 69, 70, 71, 72, 73, 74, 75, 76, 77, 78, 79, 80, 81, 82, 83, 84, 85, 86, 87, 88, 89, 90, 91, 92, 93, 94] (by decide +kernel) (by decide +kernel)) (goodIn_sub (fun _ h => List.mem_cons_of_mem _ (List.mem_append_right _ h)) (by decide +kernel))) (goodIn_sub (fun _ h => List.mem_cons_of_mem _ (List.mem_append_left _ (List.mem_append_right _ h))) (by decide +kernel))
set_option maxRecDepth 20000 in
theorem gL_isFree_X7_isFree : GoodIn wsL_isFree (wsV RL 107 RX7 yX7_isFree wsX7_isFree) := goodIn_app (goodIn_of _ (by decide +kernel)) ggL_isFree_X7_isFree
theorem dL_isFree_0 : decode cL_isFree 0 = .ok (.aload_n 3, 1) := by decide +kernel
theorem dL_isFree_1 : decode cL_isFree 1 = .ok (.iconst 0, 1) := by decide +kernel
theorem dL_isFree_2 : decode cL_isFree 2 = .ok (.aload_n 0, 1) := by decide +kernel
theorem dL_isFree_3 : decode cL_isFree 3 = .ok (.iload_n 1, 1) := by decide +kernel
theorem dL_isFree_4 : decode cL_isFree 4 = .ok (.iload_n 2, 1) := by decide +kernel
theorem dL_isFree_5 : decode cL_isFree 5 = .ok (.invokevirtual 107, 3) := by decide +kernel
theorem dL_isFree_8 : decode cL_isFree 8 = .ok (.ifCond .eq 7, 3) := by decide +kernel
theorem dL_isFree_11 : decode cL_isFree 11 = .ok (.lconst 1, 1) := by decide +kernel
theorem dL_isFree_12 : decode cL_isFree 12 = .ok (.goto 4, 3) := by decide +kernel
theorem dL_isFree_15 : decode cL_isFree 15 = .ok (.lconst 0, 1) := by decide +kernel
theorem dL_isFree_16 : decode cL_isFree 16 = .ok (.lastore, 1) := by decide +kernel
theorem dL_isFree_17 : decode cL_isFree 17 = .ok (.goto 7, 3) := by decide +kernel
theorem dL_isFree_20 : decode cL_isFree 20 = .ok (.astore 4, 2) := by decide +kernel
theorem dL_isFree_22 : decode cL_isFree 22 = .ok (.iconst 1, 1) := by decide +kernel
theorem dL_isFree_23 : decode cL_isFree 23 = .ok (.ireturn, 1) := by decide +kernel
theorem dL_isFree_24 : decode cL_isFree 24 = .ok (.iconst 0, 1) := by decide +kernel
theorem dL_isFree_25 : decode cL_isFree 25 = .ok (.ireturn, 1) := by decide +kernel
set_option maxRecDepth 20000 in
theorem ggL_services_X7_services : GoodIn wsL_services wsX7_services := goodIn_ca (goodIn_r _ [6, 7, 8, 9, 5, 10, 11, 12, 13, 14, 15, 16, 17, 18, 19, 20, 21, 22, 23, 24, 25, 26, 27, 28, 29, 30, 31, 32, 33, 34, 35, 36, 37, 38, 39, 40, 41, 42, 43, 44, 45, 46, 47, 48, 49, 50, 51, 52] (by decide +kernel) (by decide +kernel)) (goodIn_sub (fun _ h => List.mem_cons_of_mem _ (List.mem_append_right _ h)) (by decide +kernel))
set_option maxRecDepth 20000 in
theorem gL_services_X7_services : GoodIn wsL_services (wsV RL 110 RX7 yX7_services wsX7_services) := goodIn_app (goodIn_of _ (by decide +kernel)) ggL_services_X7_services
theorem dL_services_0 : decode cL_services 0 = .ok (.aload_n 2, 1) := by decide +kernel
theorem dL_services_1 : decode cL_services 1 = .ok (.iconst 0, 1) := by decide +kernel
theorem dL_services_2 : decode cL_services 2 = .ok (.aload_n 0, 1) := by decide +kernel
theorem dL_services_3 : decode cL_services 3 = .ok (.iload_n 1, 1) := by decide +kernel
theorem dL_services_4 : decode cL_services 4 = .ok (.invokevirtual 110, 3) := by decide +kernel
theorem dL_services_7 : decode cL_services 7 = .ok (.i2l, 1) := by decide +kernel
theorem dL_services_8 : decode cL_services 8 = .ok (.lastore, 1) := by decide +kernel
theorem dL_services_9 : decode cL_services 9 = .ok (.goto 6, 3) := by decide +kernel
theorem dL_services_12 : decode cL_services 12 = .ok (.astore_n 3, 1) := by decide +kernel
theorem dL_services_13 : decode cL_services 13 = .ok (.iconst 1, 1) := by decide +kernel
theorem dL_services_14 : decode cL_services 14 = .ok (.ireturn, 1) := by decide +kernel
theorem dL_services_15 : decode cL_services 15 = .ok (.iconst 0, 1) := by decide +kernel
theorem dL_services_16 : decode cL_services 16 = .ok (.ireturn, 1) := by decide +kernel
set_option maxRecDepth 20000 in
theorem ggL_callAt_X7_callAt : GoodIn wsL_callAt wsX7_callAt := goodIn_ca (goodIn_ca (goodIn_ca (goodIn_ca (goodIn_r _ [6, 7, 8, 9, 10, 11, 12, 5, 13, 14, 15, 16, 17, 18, 19, 20, 21, 22, 23, 24, 25, 26, 27, 28, 29, 30, 31, 32, 33, 34, 35, 36, 37, 38, 39, 40, 41, 42, 43, 44, 45, 46, 47, 48, 49, 50, 51, 52, 53, 54, 55, 56, 57, 58, 59, 60, 61, 62, 63, 64, 65, 66, 67, 68, 69, 70, 71, 72, 73, 74, 75, 76, 77, 78, 79, 80, 81, 82, 83, 84, 85, 86, 87, 88, 89, 90, 91, 92, 93, 94, 95, 96, 97, 98, 99, 100, 101, 102, 103, 104, 105, 106, 107, 108, 109, 110, 111, 112, 113, 114, 115, 116, 117, 118, 119, 120, 121, 122, 123, 124, 125, 126, 127, 128, 129, 130, 131, 132, 133, 134, 135, 136, 137] (by decide +kernel) (by decide +kernel)) (goodIn_sub (fun _ h => List.mem_cons_of_mem _ (List.mem_append_left _ (List.mem_append_left _ (List.mem_append_right _ h)))) (by decide +kernel))) (goodIn_sub (fun _ h => List.mem_cons_of_mem _ (List.mem_append_left _ (List.mem_append_right _ h))) (by decide +kernel))) (goodIn_sub (fun _ h => List.mem_cons_of_mem _ (List.mem_append_right _ h)) (by decide +kernel))) (goodIn_sub (fun _ h => List.mem_cons_of_mem _ (List.mem_append_left _ (List.mem_append_left _ (List.mem_append_left _ (List.mem_append_right _ h))))) (by decide +kernel))
set_option maxRecDepth 20000 in
theorem gL_callAt_X7_callAt : GoodIn wsL_callAt (wsV RL 113 RX7 yX7_callAt wsX7_callAt) := goodIn_app (goodIn_of _ (by decide +kernel)) ggL_callAt_X7_callAt
theorem dL_callAt_0 : decode cL_callAt 0 = .ok (.aload_n 3, 1) := by decide +kernel
theorem dL_callAt_1 : decode cL_callAt 1 = .ok (.iconst 0, 1) := by decide +kernel
theorem dL_callAt_2 : decode cL_callAt 2 = .ok (.aload_n 0, 1) := by decide +kernel
theorem dL_callAt_3 : decode cL_callAt 3 = .ok (.iload_n 1, 1) := by decide +kernel
theorem dL_callAt_4 : decode cL_callAt 4 = .ok (.iload_n 2, 1) := by decide +kernel
theorem dL_callAt_5 : decode cL_callAt 5 = .ok (.invokevirtual 113, 3) := by decide +kernel
theorem dL_callAt_8 : decode cL_callAt 8 = .ok (.i2l, 1) := by decide +kernel
theorem dL_callAt_9 : decode cL_callAt 9 = .ok (.lastore, 1) := by decide +kernel
theorem dL_callAt_10 : decode cL_callAt 10 = .ok (.goto 15, 3) := by decide +kernel
theorem dL_callAt_13 : decode cL_callAt 13 = .ok (.astore 4, 2) := by decide +kernel
theorem dL_callAt_15 : decode cL_callAt 15 = .ok (.iconst 1, 1) := by decide +kernel
theorem dL_callAt_16 : decode cL_callAt 16 = .ok (.ireturn, 1) := by decide +kernel
theorem dL_callAt_17 : decode cL_callAt 17 = .ok (.astore 4, 2) := by decide +kernel
theorem dL_callAt_19 : decode cL_callAt 19 = .ok (.iconst 2, 1) := by decide +kernel
theorem dL_callAt_20 : decode cL_callAt 20 = .ok (.ireturn, 1) := by decide +kernel
theorem dL_callAt_21 : decode cL_callAt 21 = .ok (.astore 4, 2) := by decide +kernel
theorem dL_callAt_23 : decode cL_callAt 23 = .ok (.iconst 3, 1) := by decide +kernel
theorem dL_callAt_24 : decode cL_callAt 24 = .ok (.ireturn, 1) := by decide +kernel
theorem dL_callAt_25 : decode cL_callAt 25 = .ok (.iconst 0, 1) := by decide +kernel
theorem dL_callAt_26 : decode cL_callAt 26 = .ok (.ireturn, 1) := by decide +kernel
set_option maxRecDepth 20000 in
theorem ggL_waiting_X7_waiting : GoodIn wsL_waiting wsX7_waiting := goodIn_ca (goodIn_ca (goodIn_ca (goodIn_r _ [6, 7, 8, 9, 10, 5, 11, 12, 13, 14, 15, 16, 17, 18, 19, 20, 21, 22, 23, 24, 25, 26, 27, 28, 29, 30, 31, 32, 33, 34, 35, 36, 37, 38, 39, 40, 41, 42, 43, 44, 45, 46, 47, 48, 49, 50, 51, 52, 53, 54, 55, 56, 57, 58, 59, 60, 61, 62, 63, 64, 65, 66, 67, 68, 69, 70, 71, 72, 73, 74, 75, 76, 77, 78, 79, 80, 81, 82, 83, 84, 85, 86, 87, 88, 89, 90, 91, 92, 93, 94, 95, 96, 97, 98, 99, 100, 101, 102, 103, 104, 105, 106, 107, 108, 109, 110, 111, 112, 113, 114, 115, 116, 117, 118, 119, 120, 121, 122, 123, 124, 125, 126, 127, 128] (by decide +kernel) (by decide +kernel)) (goodIn_sub (fun _ h => List.mem_cons_of_mem _ (List.mem_append_left _ (List.mem_append_left _ (List.mem_append_right _ h)))) (by decide +kernel))) (goodIn_sub (fun _ h => List.mem_cons_of_mem _ (List.mem_append_left _ (List.mem_append_right _ h))) (by decide +kernel))) (goodIn_sub (fun _ h => List.mem_cons_of_mem _ (List.mem_append_right _ h)) (by decide +kernel))
set_option maxRecDepth 20000 in
theorem gL_waiting_X7_waiting : GoodIn wsL_waiting (wsV RL 116 RX7 yX7_waiting wsX7_waiting) := goodIn_app (goodIn_of _ (by decide +kernel)) ggL_waiting_X7_waiting
theorem dL_waiting_0 : decode cL_waiting 0 = .ok (.aload_n 2, 1) := by decide +kernel
theorem dL_waiting_1 : decode cL_waiting 1 = .ok (.iconst 0, 1) := by decide +kernel
theorem dL_waiting_2 : decode cL_waiting 2 = .ok (.aload_n 0, 1) := by decide +kernel
theorem dL_waiting_3 : decode cL_waiting 3 = .ok (.iload_n 1, 1) := by decide +kernel
theorem dL_waiting_4 : decode cL_waiting 4 = .ok (.invokevirtual 116, 3) := by decide +kernel
theorem dL_waiting_7 : decode cL_waiting 7 = .ok (.i2l, 1) := by decide +kernel
theorem dL_waiting_8 : decode cL_waiting 8 = .ok (.lastore, 1) := by decide +kernel
theorem dL_waiting_9 : decode cL_waiting 9 = .ok (.goto 9, 3) := by decide +kernel
theorem dL_waiting_12 : decode cL_waiting 12 = .ok (.astore_n 3, 1) := by decide +kernel
theorem dL_waiting_13 : decode cL_waiting 13 = .ok (.iconst 1, 1) := by decide +kernel
theorem dL_waiting_14 : decode cL_waiting 14 = .ok (.ireturn, 1) := by decide +kernel
theorem dL_waiting_15 : decode cL_waiting 15 = .ok (.astore_n 3, 1) := by decide +kernel
theorem dL_waiting_16 : decode cL_waiting 16 = .ok (.iconst 2, 1) := by decide +kernel
theorem dL_waiting_17 : decode cL_waiting 17 = .ok (.ireturn, 1) := by decide +kernel
theorem dL_waiting_18 : decode cL_waiting 18 = .ok (.iconst 0, 1) := by decide +kernel
theorem dL_waiting_19 : decode cL_waiting 19 = .ok (.ireturn, 1) := by decide +kernel
set_option maxRecDepth 20000 in
theorem ggL_ran_X7_ran : GoodIn wsL_ran wsX7_ran := goodIn_ca (goodIn_ca (goodIn_ca (goodIn_r _ [6, 7, 8, 9, 10, 11, 5, 12, 13, 14, 15, 16, 17, 18, 19, 20, 21, 22, 23, 24, 25, 26, 27, 28, 29, 30, 31, 32, 33, 34, 35, 36, 37, 38, 39, 40, 41, 42, 43, 44, 45, 46, 47, 48, 49, 50, 51, 52, 53, 54, 55, 56, 57, 58, 59, 60, 61, 62, 63, 64, 65, 66, 67, 68, 69, 70, 71] (by decide +kernel) (by decide +kernel)) (goodIn_sub (fun _ h => List.mem_cons_of_mem _ (List.mem_append_left _ (List.mem_append_left _ (List.mem_append_right _ h)))) (by decide +kernel))) (goodIn_sub (fun _ h => List.mem_cons_of_mem _ (List.mem_append_left _ (List.mem_append_right _ h))) (by decide +kernel))) (goodIn_sub (fun _ h => List.mem_cons_of_mem _ (List.mem_append_right _ h)) (by decide +kernel))
set_option maxRecDepth 20000 in
theorem gL_ran_X7_ran : GoodIn wsL_ran (wsV RL 119 RX7 yX7_ran wsX7_ran) := goodIn_app (goodIn_of _ (by decide +kernel)) ggL_ran_X7_ran
theorem dL_ran_0 : decode cL_ran 0 = .ok (.aload_n 3, 1) := by decide +kernel
theorem dL_ran_1 : decode cL_ran 1 = .ok (.iconst 0, 1) := by decide +kernel
theorem dL_ran_2 : decode cL_ran 2 = .ok (.aload_n 0, 1) := by decide +kernel
theorem dL_ran_3 : decode cL_ran 3 = .ok (.iload_n 1, 1) := by decide +kernel
theorem dL_ran_4 : decode cL_ran 4 = .ok (.iload_n 2, 1) := by decide +kernel
theorem dL_ran_5 : decode cL_ran 5 = .ok (.invokevirtual 119, 3) := by decide +kernel
theorem dL_ran_8 : decode cL_ran 8 = .ok (.i2l, 1) := by decide +kernel
theorem dL_ran_9 : decode cL_ran 9 = .ok (.lastore, 1) := by decide +kernel
theorem dL_ran_10 : decode cL_ran 10 = .ok (.goto 15, 3) := by decide +kernel
theorem dL_ran_13 : decode cL_ran 13 = .ok (.astore 4, 2) := by decide +kernel
theorem dL_ran_15 : decode cL_ran 15 = .ok (.iconst 1, 1) := by decide +kernel
theorem dL_ran_16 : decode cL_ran 16 = .ok (.ireturn, 1) := by decide +kernel
theorem dL_ran_17 : decode cL_ran 17 = .ok (.astore 4, 2) := by decide +kernel
theorem dL_ran_19 : decode cL_ran 19 = .ok (.iconst 2, 1) := by decide +kernel
theorem dL_ran_20 : decode cL_ran 20 = .ok (.ireturn, 1) := by decide +kernel
theorem dL_ran_21 : decode cL_ran 21 = .ok (.astore 4, 2) := by decide +kernel
theorem dL_ran_23 : decode cL_ran 23 = .ok (.iconst 3, 1) := by decide +kernel
theorem dL_ran_24 : decode cL_ran 24 = .ok (.ireturn, 1) := by decide +kernel
theorem dL_ran_25 : decode cL_ran 25 = .ok (.iconst 0, 1) := by decide +kernel
theorem dL_ran_26 : decode cL_ran 26 = .ok (.ireturn, 1) := by decide +kernel
set_option maxRecDepth 20000 in
theorem ggL_overtime_X7_overtime : GoodIn wsL_overtime wsX7_overtime := goodIn_ca (goodIn_r _ [6, 7, 8, 9, 5, 10, 11, 12, 13, 14, 15, 16, 17, 18, 19, 20, 21, 22, 23, 24, 25, 26, 27, 28, 29, 30, 31, 32, 33, 34, 35, 36, 37, 38, 39, 40, 41, 42, 43, 44, 45, 46, 47, 48, 49, 50, 51, 52, 53, 54, 55, 56, 57, 58, 59, 60, 61, 62, 63, 64] (by decide +kernel) (by decide +kernel)) (goodIn_sub (fun _ h => List.mem_cons_of_mem _ (List.mem_append_right _ h)) (by decide +kernel))
set_option maxRecDepth 20000 in
theorem gL_overtime_X7_overtime : GoodIn wsL_overtime (wsV RL 122 RX7 yX7_overtime wsX7_overtime) := goodIn_app (goodIn_of _ (by decide +kernel)) ggL_overtime_X7_overtime
theorem dL_overtime_0 : decode cL_overtime 0 = .ok (.aload_n 2, 1) := by decide +kernel
theorem dL_overtime_1 : decode cL_overtime 1 = .ok (.iconst 0, 1) := by decide +kernel
theorem dL_overtime_2 : decode cL_overtime 2 = .ok (.aload_n 0, 1) := by decide +kernel
theorem dL_overtime_3 : decode cL_overtime 3 = .ok (.iload_n 1, 1) := by decide +kernel
theorem dL_overtime_4 : decode cL_overtime 4 = .ok (.invokevirtual 122, 3) := by decide +kernel
theorem dL_overtime_7 : decode cL_overtime 7 = .ok (.i2l, 1) := by decide +kernel
theorem dL_overtime_8 : decode cL_overtime 8 = .ok (.lastore, 1) := by decide +kernel
theorem dL_overtime_9 : decode cL_overtime 9 = .ok (.goto 6, 3) := by decide +kernel
theorem dL_overtime_12 : decode cL_overtime 12 = .ok (.astore_n 3, 1) := by decide +kernel
theorem dL_overtime_13 : decode cL_overtime 13 = .ok (.iconst 1, 1) := by decide +kernel
theorem dL_overtime_14 : decode cL_overtime 14 = .ok (.ireturn, 1) := by decide +kernel
theorem dL_overtime_15 : decode cL_overtime 15 = .ok (.iconst 0, 1) := by decide +kernel
theorem dL_overtime_16 : decode cL_overtime 16 = .ok (.ireturn, 1) := by decide +kernel
set_option maxRecDepth 20000 in
theorem ggL_lastPlayed_X7_lastPlayed : GoodIn wsL_lastPlayed wsX7_lastPlayed := goodIn_ca (goodIn_ca (goodIn_r _ [6, 7, 8, 9, 10, 11, 12, 13, 14, 15, 16, 17, 5, 18, 19, 20, 21, 22, 23, 24, 25, 26, 27, 28, 29, 30, 31, 32, 33, 34, 35, 36, 37, 38, 39, 40, 41, 42, 43, 44, 45, 46, 47, 48, 49, 50, 51, 52, 53, 54] (by decide +kernel) (by decide +kernel)) (goodIn_sub (fun _ h => List.mem_cons_of_mem _ (List.mem_append_left _ (List.mem_append_right _ h))) (by decide +kernel))) (goodIn_sub (fun _ h => List.mem_cons_of_mem _ (List.mem_append_right _ h)) (by decide +kernel))
set_option maxRecDepth 20000 in
theorem gL_lastPlayed_X7_lastPlayed : GoodIn wsL_lastPlayed (wsV RL 125 RX7 yX7_lastPlayed wsX7_lastPlayed) := goodIn_app (goodIn_of _ (by decide +kernel)) ggL_lastPlayed_X7_lastPlayed
theorem dL_lastPlayed_0 : decode cL_lastPlayed 0 = .ok (.aload_n 2, 1) := by decide +kernel
theorem dL_lastPlayed_1 : decode cL_lastPlayed 1 = .ok (.iconst 0, 1) := by decide +kernel
theorem dL_lastPlayed_2 : decode cL_lastPlayed 2 = .ok (.aload_n 0, 1) := by decide +kernel
theorem dL_lastPlayed_3 : decode cL_lastPlayed 3 = .ok (.iload_n 1, 1) := by decide +kernel
theorem dL_lastPlayed_4 : decode cL_lastPlayed 4 = .ok (.invokevirtual 125, 3) := by decide +kernel
theorem dL_lastPlayed_7 : decode cL_lastPlayed 7 = .ok (.i2l, 1) := by decide +kernel
theorem dL_lastPlayed_8 : decode cL_lastPlayed 8 = .ok (.lastore, 1) := by decide +kernel
theorem dL_lastPlayed_9 : decode cL_lastPlayed 9 = .ok (.goto 9, 3) := by decide +kernel
theorem dL_lastPlayed_12 : decode cL_lastPlayed 12 = .ok (.astore_n 3, 1) := by decide +kernel
theorem dL_lastPlayed_13 : decode cL_lastPlayed 13 = .ok (.iconst 1, 1) := by decide +kernel
theorem dL_lastPlayed_14 : decode cL_lastPlayed 14 = .ok (.ireturn, 1) := by decide +kernel
theorem dL_lastPlayed_15 : decode cL_lastPlayed 15 = .ok (.astore_n 3, 1) := by decide +kernel
theorem dL_lastPlayed_16 : decode cL_lastPlayed 16 = .ok (.iconst 2, 1) := by decide +kernel
theorem dL_lastPlayed_17 : decode cL_lastPlayed 17 = .ok (.ireturn, 1) := by decide +kernel
theorem dL_lastPlayed_18 : decode cL_lastPlayed 18 = .ok (.iconst 0, 1) := by decide +kernel
theorem dL_lastPlayed_19 : decode cL_lastPlayed 19 = .ok (.ireturn, 1) := by decide +kernel
set_option maxRecDepth 20000 in
theorem ggL_howOften_X7_howOften : GoodIn wsL_howOften wsX7_howOften := goodIn_ca (goodIn_ca (goodIn_r _ [6, 7, 8, 9, 10, 11, 5, 12, 13, 14, 15, 16, 17, 18, 19, 20, 21, 22, 23, 24, 25, 26, 27, 28, 29, 30, 31, 32, 33, 34, 35, 36, 37, 38, 39, 40, 41, 42, 43, 44, 45, 46, 47, 48, 49, 50, 51, 52, 53, 54, 55, 56, 57, 58, 59, 60, 61, 62, 63, 64, 65, 66, 67, 68, 69, 70, 71, 72, 73, 74, 75, 76, 77, 78, 79, 80, 81, 82] (by decide +kernel) (by decide +kernel)) (goodIn_sub (fun _ h => List.mem_cons_of_mem _ (List.mem_append_right _ h)) (by decide +kernel))) (goodIn_sub (fun _ h => List.mem_cons_of_mem _ (List.mem_append_left _ (List.mem_append_right _ h))) (by decide +kernel))
set_option maxRecDepth 20000 in
theorem gL_howOften_X7_howOften : GoodIn wsL_howOften (wsV RL 128 RX7 yX7_howOften wsX7_howOften) := goodIn_app (goodIn_of _ (by decide +kernel)) ggL_howOften_X7_howOften
theorem dL_howOften_0 : decode cL_howOften 0 = .ok (.aload_n 3, 1) := by decide +kernel
theorem dL_howOften_1 : decode cL_howOften 1 = .ok (.iconst 0, 1) := by decide +kernel
theorem dL_howOften_2 : decode cL_howOften 2 = .ok (.aload_n 0, 1) := by decide +kernel
theorem dL_howOften_3 : decode cL_howOften 3 = .ok (.iload_n 1, 1) := by decide +kernel
theorem dL_howOften_4 : decode cL_howOften 4 = .ok (.iload_n 2, 1) := by decide +kernel
theorem dL_howOften_5 : decode cL_howOften 5 = .ok (.invokevirtual 128, 3) := by decide +kernel
theorem dL_howOften_8 : decode cL_howOften 8 = .ok (.i2l, 1) := by decide +kernel
theorem dL_howOften_9 : decode cL_howOften 9 = .ok (.lastore, 1) := by decide +kernel
theorem dL_howOften_10 : decode cL_howOften 10 = .ok (.goto 7, 3) := by decide +kernel
theorem dL_howOften_13 : decode cL_howOften 13 = .ok (.astore 4, 2) := by decide +kernel
theorem dL_howOften_15 : decode cL_howOften 15 = .ok (.iconst 1, 1) := by decide +kernel
theorem dL_howOften_16 : decode cL_howOften 16 = .ok (.ireturn, 1) := by decide +kernel
theorem dL_howOften_17 : decode cL_howOften 17 = .ok (.iconst 0, 1) := by decide +kernel
theorem dL_howOften_18 : decode cL_howOften 18 = .ok (.ireturn, 1) := by decide +kernel
set_option maxRecDepth 20000 in
theorem ggL_rehearsed_X7_rehearsed : GoodIn wsL_rehearsed wsX7_rehearsed := goodIn_ca (goodIn_r _ [6, 7, 8, 9, 10, 11, 5, 12, 13, 14, 15, 16, 17, 18, 19, 20, 21, 22, 23, 24, 25, 26, 27, 28, 29, 30, 31, 32, 33, 34, 35, 36, 37, 38, 39, 40, 41, 42, 43, 44, 45, 46, 47, 48, 49, 50, 51, 52, 53, 54, 55, 56, 57, 58, 59, 60, 61, 62] (by decide +kernel) (by decide +kernel)) (goodIn_sub (fun _ h => List.mem_cons_of_mem _ (List.mem_append_right _ h)) (by decide +kernel))
set_option maxRecDepth 20000 in
theorem gL_rehearsed_X7_rehearsed : GoodIn wsL_rehearsed (wsV RL 131 RX7 yX7_rehearsed wsX7_rehearsed) := goodIn_app (goodIn_of _ (by decide +kernel)) ggL_rehearsed_X7_rehearsed
theorem dL_rehearsed_0 : decode cL_rehearsed 0 = .ok (.aload_n 2, 1) := by decide +kernel
theorem dL_rehearsed_1 : decode cL_rehearsed 1 = .ok (.iconst 0, 1) := by decide +kernel
theorem dL_rehearsed_2 : decode cL_rehearsed 2 = .ok (.aload_n 0, 1) := by decide +kernel
theorem dL_rehearsed_3 : decode cL_rehearsed 3 = .ok (.iload_n 1, 1) := by decide +kernel
theorem dL_rehearsed_4 : decode cL_rehearsed 4 = .ok (.invokevirtual 131, 3) := by decide +kernel
theorem dL_rehearsed_7 : decode cL_rehearsed 7 = .ok (.i2l, 1) := by decide +kernel
theorem dL_rehearsed_8 : decode cL_rehearsed 8 = .ok (.lastore, 1) := by decide +kernel
theorem dL_rehearsed_9 : decode cL_rehearsed 9 = .ok (.goto 6, 3) := by decide +kernel
theorem dL_rehearsed_12 : decode cL_rehearsed 12 = .ok (.astore_n 3, 1) := by decide +kernel
theorem dL_rehearsed_13 : decode cL_rehearsed 13 = .ok (.iconst 1, 1) := by decide +kernel
theorem dL_rehearsed_14 : decode cL_rehearsed 14 = .ok (.ireturn, 1) := by decide +kernel
theorem dL_rehearsed_15 : decode cL_rehearsed 15 = .ok (.iconst 0, 1) := by decide +kernel
theorem dL_rehearsed_16 : decode cL_rehearsed 16 = .ok (.ireturn, 1) := by decide +kernel
set_option maxRecDepth 20000 in
theorem ggL_bookedShare_X7_bookedShare : GoodIn wsL_bookedShare wsX7_bookedShare := goodIn_ca (goodIn_r _ [6, 7, 8, 9, 10, 11, 12, 13, 14, 15, 16, 17, 18, 19, 20, 21, 22, 23, 24, 25, 26, 27, 28, 29, 30, 31, 32, 33, 34, 35, 36, 37] (by decide +kernel) (by decide +kernel)) (goodIn_sub (fun _ h => List.mem_cons_of_mem _ (List.mem_append_right _ h)) (by decide +kernel))
set_option maxRecDepth 20000 in
theorem gL_bookedShare_X7_bookedShare : GoodIn wsL_bookedShare (wsV RL 134 RX7 yX7_bookedShare wsX7_bookedShare) := goodIn_app (goodIn_of _ (by decide +kernel)) ggL_bookedShare_X7_bookedShare
theorem dL_bookedShare_0 : decode cL_bookedShare 0 = .ok (.aload_n 1, 1) := by decide +kernel
theorem dL_bookedShare_1 : decode cL_bookedShare 1 = .ok (.iconst 0, 1) := by decide +kernel
theorem dL_bookedShare_2 : decode cL_bookedShare 2 = .ok (.aload_n 0, 1) := by decide +kernel
theorem dL_bookedShare_3 : decode cL_bookedShare 3 = .ok (.invokevirtual 134, 3) := by decide +kernel
theorem dL_bookedShare_6 : decode cL_bookedShare 6 = .ok (.f2d, 1) := by decide +kernel
theorem dL_bookedShare_7 : decode cL_bookedShare 7 = .ok (.dastore, 1) := by decide +kernel
theorem dL_bookedShare_8 : decode cL_bookedShare 8 = .ok (.goto 6, 3) := by decide +kernel
theorem dL_bookedShare_11 : decode cL_bookedShare 11 = .ok (.astore_n 2, 1) := by decide +kernel
theorem dL_bookedShare_12 : decode cL_bookedShare 12 = .ok (.iconst 1, 1) := by decide +kernel
theorem dL_bookedShare_13 : decode cL_bookedShare 13 = .ok (.ireturn, 1) := by decide +kernel
theorem dL_bookedShare_14 : decode cL_bookedShare 14 = .ok (.iconst 0, 1) := by decide +kernel
theorem dL_bookedShare_15 : decode cL_bookedShare 15 = .ok (.ireturn, 1) := by decide +kernel
set_option maxRecDepth 20000 in
theorem ggL_meanServices_X7_meanServices : GoodIn wsL_meanServices wsX7_meanServices := goodIn_ca (goodIn_r _ [6, 7, 8, 9, 10, 11, 12, 5, 13, 14, 15, 16, 17, 18, 19, 20, 21, 22, 23, 24, 25, 26, 27, 28, 29, 30, 31, 32, 33, 34, 35, 36, 37, 38, 39, 40, 41, 42, 43, 44, 45] (by decide +kernel) (by decide +kernel)) (goodIn_sub (fun _ h => List.mem_cons_of_mem _ (List.mem_append_right _ h)) (by decide +kernel))
set_option maxRecDepth 20000 in
theorem gL_meanServices_X7_meanServices : GoodIn wsL_meanServices (wsV RL 140 RX7 yX7_meanServices wsX7_meanServices) := goodIn_app (goodIn_of _ (by decide +kernel)) ggL_meanServices_X7_meanServices
theorem dL_meanServices_0 : decode cL_meanServices 0 = .ok (.aload_n 1, 1) := by decide +kernel
theorem dL_meanServices_1 : decode cL_meanServices 1 = .ok (.iconst 0, 1) := by decide +kernel
theorem dL_meanServices_2 : decode cL_meanServices 2 = .ok (.aload_n 0, 1) := by decide +kernel
theorem dL_meanServices_3 : decode cL_meanServices 3 = .ok (.invokevirtual 140, 3) := by decide +kernel
theorem dL_meanServices_6 : decode cL_meanServices 6 = .ok (.dastore, 1) := by decide +kernel
theorem dL_meanServices_7 : decode cL_meanServices 7 = .ok (.goto 6, 3) := by decide +kernel
theorem dL_meanServices_10 : decode cL_meanServices 10 = .ok (.astore_n 2, 1) := by decide +kernel
theorem dL_meanServices_11 : decode cL_meanServices 11 = .ok (.iconst 1, 1) := by decide +kernel
theorem dL_meanServices_12 : decode cL_meanServices 12 = .ok (.ireturn, 1) := by decide +kernel
theorem dL_meanServices_13 : decode cL_meanServices 13 = .ok (.iconst 0, 1) := by decide +kernel
theorem dL_meanServices_14 : decode cL_meanServices 14 = .ok (.ireturn, 1) := by decide +kernel
set_option maxRecDepth 20000 in
theorem ggL_law_X7_init : GoodIn wsL_law wsX7_init := goodIn_r _ [10, 11, 12, 13, 14, 15, 16, 17, 18, 19, 20, 21, 22, 23, 24, 25, 26, 27, 28, 29, 30, 31, 32, 33, 34, 35, 36, 37, 38, 39, 40, 41, 42, 43, 44, 45, 46, 6, 47, 48, 49, 50, 51, 52, 53, 54, 55, 56, 57, 58, 59, 60, 61, 62, 63, 64, 65, 66, 67, 68, 69, 70, 71, 72, 73, 74, 75, 76, 77, 78, 79, 80, 81, 82, 83, 84, 1713, 1714, 1715, 1716, 1717, 1718, 1719, 1720, 1721, 1722, 1723, 1724, 1731, 1732, 1733, 1734, 1735, 1736, 1737, 1738, 1739, 1740, 1741, 1742, 1743, 1744, 1745, 1746, 1747, 1748, 1749, 1750, 1751, 1752, 1753, 1754, 1755, 1756, 1757, 1758, 1759, 1760, 1761, 1762, 1763, 1764, 1765, 1766, 1767, 1768, 1769, 1770, 1771, 1772, 1773, 1774, 1775, 1776, 1777, 1778, 1779, 1780] (by decide +kernel) (by decide +kernel)
set_option maxRecDepth 20000 in
theorem gL_law_X7_init : GoodIn wsL_law (wsX7_init) := ggL_law_X7_init
set_option maxRecDepth 20000 in
theorem ggL_law_X14_init : GoodIn wsL_law wsX14_init := goodIn_r _ [87, 88, 12, 13, 89, 90, 91, 92, 93, 94, 95, 96, 97, 98, 99, 100, 101, 102, 103, 104, 105, 106, 107, 108, 109, 110, 111, 112, 1781, 1782, 1783, 1725, 1726, 1727, 1728, 1729, 1730] (by decide +kernel) (by decide +kernel)
set_option maxRecDepth 20000 in
theorem gL_law_X14_init : GoodIn wsL_law (wsX14_init) := ggL_law_X14_init
set_option maxRecDepth 20000 in
theorem ggL_law_L_addWork : GoodIn wsL_law wsL_addWork := goodIn_ca (goodIn_ca (goodIn_ca (goodIn_r _ [116, 117, 118, 119, 120, 2, 121, 122, 123, 124, 15, 125, 126, 127, 128, 129, 1713, 1714, 1715, 1716, 1717, 1718, 1719, 1720, 1721, 1722, 1723, 1724, 1743, 1744, 1745, 1746, 1747, 1748, 1749, 1750, 1751] (by decide +kernel) (by decide +kernel)) (goodIn_sub (fun _ h => List.mem_append_left _ (List.mem_append_left _ (List.mem_append_left _ (List.mem_append_left _ (List.mem_append_left _ (List.mem_append_left _ (List.mem_append_right _ h))))))) (by decide +kernel))) (goodIn_sub (fun _ h => List.mem_append_left _ (List.mem_append_left _ (List.mem_append_left _ (List.mem_append_left _ (List.mem_append_left _ (List.mem_append_right _ h)))))) (by decide +kernel))) (goodIn_sub (fun _ h => List.mem_append_left _ (List.mem_append_left _ (List.mem_append_left _ (List.mem_append_left _ (List.mem_append_right _ h))))) (by decide +kernel))
set_option maxRecDepth 20000 in
theorem gL_law_L_addWork : GoodIn wsL_law (va_wsS RL 148 yL_addWork wsL_addWork) := goodIn_app (goodIn_of _ (by decide +kernel)) ggL_law_L_addWork
set_option maxRecDepth 20000 in
theorem ggL_law_X14_addWork : GoodIn wsL_law wsX14_addWork := goodIn_r _ [133, 92, 134, 135, 136, 137, 138, 5, 139, 140, 141, 142, 143, 97, 144, 145, 146, 91, 147, 148, 149, 150, 151, 152, 12, 13, 45, 153, 154, 90, 155, 156, 157, 158, 159, 99, 100, 101, 102, 103, 104, 105, 106, 107, 108, 109, 110, 111, 112, 160, 161, 162, 163, 164, 165, 166, 167, 168, 169, 170, 171, 172, 173, 174, 175, 176, 177, 178, 179, 180, 181, 182, 183, 184, 185, 186, 187, 188, 189, 190, 191, 192, 193, 194, 195, 196, 197, 198, 199, 200, 201, 202, 203, 204, 205, 206, 207, 208, 209, 210, 211, 212, 213, 214, 215, 216, 217, 218, 1725, 1726, 1727, 1728, 1729, 1730, 1784, 1785, 1786, 1787, 1788, 1781, 1782, 1783, 1789, 1790, 1791, 1792] (by decide +kernel) (by decide +kernel)
set_option maxRecDepth 20000 in
theorem gL_law_X14_addWork : GoodIn wsL_law (wsV RL 153 RX14 yX14_addWork wsX14_addWork) := goodIn_app (goodIn_of _ (by decide +kernel)) ggL_law_X14_addWork
set_option maxRecDepth 20000 in
theorem ggL_law_X14_thrown : GoodIn wsL_law wsX14_thrown := goodIn_r _ [222, 97, 1725, 1726, 1727, 1728, 1729, 1730] (by decide +kernel) (by decide +kernel)
set_option maxRecDepth 20000 in
theorem gL_law_X14_thrown : GoodIn wsL_law (wsV RL 154 RX14 yX14_thrown wsX14_thrown) := goodIn_app (goodIn_of _ (by decide +kernel)) ggL_law_X14_thrown
set_option maxRecDepth 20000 in
theorem ggL_law_L_setParts : GoodIn wsL_law wsL_setParts := goodIn_ca (goodIn_ca (goodIn_ca (goodIn_ca (goodIn_r _ [225, 226, 227, 228, 229, 2, 230, 231, 232, 233, 234, 235, 236, 15, 237, 238, 239, 240, 124, 241, 242, 243, 244, 245, 125, 126, 127, 128, 129, 246, 247, 248, 249, 250, 21, 251, 39, 252, 253, 254, 79, 1743, 1744, 1745, 1746, 1747, 1748, 1749, 1750, 1751, 1713, 1714, 1715, 1716, 1717, 1718, 1719, 1720, 1721, 1722, 1723, 1724, 1762, 1763, 1764, 1765, 1766, 1767, 1768, 1769, 1770, 1771, 1772, 1773, 1774, 1775, 1776] (by decide +kernel) (by decide +kernel)) (goodIn_sub (fun _ h => List.mem_append_left _ (List.mem_append_left _ (List.mem_append_left _ (List.mem_append_left _ (List.mem_append_left _ (List.mem_append_left _ (List.mem_append_right _ h))))))) (by decide +kernel))) (goodIn_sub (fun _ h => List.mem_append_left _ (List.mem_append_left _ (List.mem_append_left _ (List.mem_append_right _ h)))) (by decide +kernel))) (goodIn_sub (fun _ h => List.mem_append_left _ (List.mem_append_left _ (List.mem_append_right _ h))) (by decide +kernel))) (goodIn_sub (fun _ h => List.mem_append_left _ (List.mem_append_left _ (List.mem_append_left _ (List.mem_append_left _ (List.mem_append_right _ h))))) (by decide +kernel))
set_option maxRecDepth 20000 in
theorem gL_law_L_setParts : GoodIn wsL_law (va_wsS RL 158 yL_setParts wsL_setParts) := goodIn_app (goodIn_of _ (by decide +kernel)) ggL_law_L_setParts
set_option maxRecDepth 20000 in
theorem ggL_law_X14_setParts : GoodIn wsL_law wsX14_setParts := goodIn_ca (goodIn_r _ [258, 92, 259, 260, 261, 262, 5, 263, 264, 265, 145, 91, 147, 148, 266, 267, 268, 269, 270, 137, 138, 139, 140, 141, 142, 143, 97, 271, 272, 273, 274, 275, 276, 277, 278, 279, 280, 281, 282, 283, 284, 285, 286, 102, 287, 288, 289, 136, 290, 154, 90, 153, 159, 99, 100, 101, 103, 104, 105, 106, 107, 108, 109, 110, 111, 112, 12, 13, 291, 292, 293, 294, 295, 296, 297, 298, 299, 300, 301, 302, 303, 304, 305, 306, 307, 308, 161, 162, 163, 164, 165, 166, 167, 168, 169, 170, 171, 172, 173, 174, 175, 176, 177, 178, 179, 180, 181, 182, 183, 184, 185, 186, 187, 188, 189, 190, 191, 192, 193, 194, 195, 196, 197, 198, 199, 200, 201, 202, 203, 204, 205, 206, 207, 208, 209, 210, 211, 212, 213, 214, 309, 310, 311, 312, 96, 313, 314, 315, 316, 317, 318, 319, 320, 321, 322, 323, 324, 325, 326, 327, 328, 329, 330, 331, 332, 333, 334, 335, 336, 337, 338, 339, 340, 341, 342, 343, 344, 345, 346, 347, 348, 349, 350, 351, 352, 353, 354, 355, 356, 357, 358, 359, 360, 361, 362, 363, 364, 365, 366, 367, 368, 369, 370, 371, 372, 373, 374, 375, 376, 377, 378, 379, 380, 381, 382, 383, 384, 385, 386, 387, 388, 389, 390, 391, 392, 393, 394, 215, 216, 217, 218, 1725, 1726, 1727, 1728, 1729, 1730, 1784, 1785, 1786, 1787, 1788, 1781, 1782, 1783, 1793, 1794, 1795, 1789, 1790, 1791, 1792, 1796, 1797, 1798, 1799, 1800, 1801, 1802, 1803, 1804, 1805, 1806, 1807, 1808, 1809, 1810, 1811, 1812, 1813, 1814, 1815, 1816, 1817, 1818, 1819] (by decide +kernel) (by decide +kernel)) (goodIn_sub (fun _ h => List.mem_append_left _ (List.mem_append_left _ (List.mem_append_left _ (List.mem_append_left _ (List.mem_append_left _ (List.mem_append_left _ (List.mem_append_right _ h))))))) (by decide +kernel))
set_option maxRecDepth 20000 in
theorem gL_law_X14_setParts : GoodIn wsL_law (wsV RL 161 RX14 yX14_setParts wsX14_setParts) := goodIn_app (goodIn_of _ (by decide +kernel)) ggL_law_X14_setParts
set_option maxRecDepth 20000 in
theorem ggL_law_L_setSolo : GoodIn wsL_law wsL_setSolo := goodIn_ca (goodIn_ca (goodIn_ca (goodIn_r _ [397, 226, 398, 399, 400, 2, 401, 231, 232, 233, 234, 235, 236, 15, 237, 238, 239, 240, 124, 241, 242, 243, 244, 245, 246, 247, 248, 249, 250, 21, 251, 39, 252, 253, 254, 79, 1743, 1744, 1745, 1746, 1747, 1748, 1749, 1750, 1751, 1713, 1714, 1715, 1716, 1717, 1718, 1719, 1720, 1721, 1722, 1723, 1724, 1762, 1763, 1764, 1765, 1766, 1767, 1768, 1769, 1770, 1771, 1772, 1773, 1774, 1775, 1776] (by decide +kernel) (by decide +kernel)) (goodIn_sub (fun _ h => List.mem_append_left _ (List.mem_append_left _ (List.mem_append_left _ (List.mem_append_left _ (List.mem_append_left _ (List.mem_append_left _ (List.mem_append_right _ h))))))) (by decide +kernel))) (goodIn_sub (fun _ h => List.mem_append_left _ (List.mem_append_left _ (List.mem_append_left _ (List.mem_append_right _ h)))) (by decide +kernel))) (goodIn_sub (fun _ h => List.mem_append_left _ (List.mem_append_left _ (List.mem_append_right _ h))) (by decide +kernel))
set_option maxRecDepth 20000 in
theorem gL_law_L_setSolo : GoodIn wsL_law (va_wsS RL 162 yL_setSolo wsL_setSolo) := goodIn_app (goodIn_of _ (by decide +kernel)) ggL_law_L_setSolo
set_option maxRecDepth 20000 in
theorem ggL_law_X14_setSolo : GoodIn wsL_law wsX14_setSolo := goodIn_r _ [405, 92, 259, 406, 261, 262, 5, 263, 264, 265, 145, 91, 147, 148, 266, 267, 268, 269, 270, 137, 138, 139, 309, 310, 311, 312, 96, 313, 314, 315, 316, 317, 318, 319, 320, 321, 322, 323, 324, 325, 326, 12, 13, 327, 328, 165, 329, 330, 331, 332, 333, 334, 335, 336, 337, 338, 339, 340, 341, 342, 343, 344, 345, 346, 347, 348, 349, 350, 351, 352, 353, 354, 355, 272, 274, 275, 276, 277, 278, 279, 280, 281, 282, 283, 284, 285, 286, 102, 356, 357, 358, 359, 360, 292, 293, 294, 295, 296, 297, 298, 299, 300, 301, 302, 303, 304, 305, 306, 307, 361, 362, 363, 364, 365, 366, 367, 368, 369, 370, 371, 372, 373, 374, 375, 376, 377, 378, 379, 380, 381, 382, 383, 384, 385, 386, 387, 388, 389, 390, 391, 392, 393, 394, 407, 408, 409, 410, 97, 271, 273, 1725, 1726, 1727, 1728, 1729, 1730, 1784, 1785, 1786, 1787, 1788, 1781, 1782, 1783, 1793, 1794, 1796, 1797, 1798, 1799, 1800, 1801, 1802, 1803, 1804, 1805, 1806, 1807, 1808, 1809, 1810, 1811, 1812, 1813, 1814, 1815, 1795, 1816, 1817, 1818, 1819] (by decide +kernel) (by decide +kernel)
set_option maxRecDepth 20000 in
theorem gL_law_X14_setSolo : GoodIn wsL_law (wsV RL 164 RX14 yX14_setSolo wsX14_setSolo) := goodIn_app (goodIn_of _ (by decide +kernel)) ggL_law_X14_setSolo
set_option maxRecDepth 20000 in
theorem ggL_law_L_hire : GoodIn wsL_law wsL_hire := goodIn_ca (goodIn_ca (goodIn_ca (goodIn_ca (goodIn_ca (goodIn_r _ [413, 226, 414, 415, 416, 2, 417, 231, 232, 122, 123, 233, 234, 235, 236, 15, 237, 238, 239, 240, 124, 241, 242, 243, 244, 245, 125, 126, 127, 128, 129, 418, 33, 419, 420, 421, 63, 64, 1743, 1744, 1745, 1746, 1747, 1748, 1749, 1750, 1751, 1713, 1714, 1715, 1716, 1717, 1718, 1719, 1720, 1721, 1722, 1723, 1724] (by decide +kernel) (by decide +kernel)) (goodIn_sub (fun _ h => List.mem_append_left _ (List.mem_append_left _ (List.mem_append_left _ (List.mem_append_left _ (List.mem_append_left _ (List.mem_append_left _ (List.mem_append_right _ h))))))) (by decide +kernel))) (goodIn_sub (fun _ h => List.mem_append_left _ (List.mem_append_left _ (List.mem_append_left _ (List.mem_append_right _ h)))) (by decide +kernel))) (goodIn_sub (fun _ h => List.mem_append_left _ (List.mem_append_left _ (List.mem_append_left _ (List.mem_append_left _ (List.mem_append_left _ (List.mem_append_right _ h)))))) (by decide +kernel))) (goodIn_sub (fun _ h => List.mem_append_left _ (List.mem_append_left _ (List.mem_append_right _ h))) (by decide +kernel))) (goodIn_sub (fun _ h => List.mem_append_left _ (List.mem_append_left _ (List.mem_append_left _ (List.mem_append_left _ (List.mem_append_right _ h))))) (by decide +kernel))
set_option maxRecDepth 20000 in
theorem gL_law_L_hire : GoodIn wsL_law (va_wsS RL 165 yL_hire wsL_hire) := goodIn_app (goodIn_of _ (by decide +kernel)) ggL_law_L_hire
set_option maxRecDepth 20000 in
theorem ggL_law_X14_hire : GoodIn wsL_law wsX14_hire := goodIn_ca (goodIn_r _ [425, 92, 259, 426, 427, 45, 261, 262, 5, 263, 264, 265, 145, 91, 147, 148, 266, 267, 268, 269, 270, 137, 138, 139, 140, 141, 142, 143, 97, 271, 272, 273, 274, 275, 276, 277, 278, 279, 280, 281, 282, 283, 284, 285, 286, 102, 144, 146, 160, 161, 162, 163, 164, 165, 166, 167, 168, 169, 170, 171, 172, 173, 174, 175, 176, 177, 101, 178, 179, 180, 181, 182, 183, 184, 185, 186, 187, 188, 189, 190, 191, 192, 193, 194, 195, 196, 197, 198, 199, 200, 201, 202, 203, 204, 205, 206, 207, 208, 209, 210, 211, 212, 213, 214, 215, 216, 217, 218, 1725, 1726, 1727, 1728, 1729, 1730, 1784, 1785, 1786, 1787, 1788, 1781, 1782, 1783, 1793, 1794, 1789, 1790, 1791, 1792] (by decide +kernel) (by decide +kernel)) (goodIn_sub (fun _ h => List.mem_append_left _ (List.mem_append_left _ (List.mem_append_left _ (List.mem_append_left _ (List.mem_append_left _ (List.mem_append_left _ (List.mem_append_right _ h))))))) (by decide +kernel))
set_option maxRecDepth 20000 in
theorem gL_law_X14_hire : GoodIn wsL_law (wsV RL 168 RX14 yX14_hire wsX14_hire) := goodIn_app (goodIn_of _ (by decide +kernel)) ggL_law_X14_hire
set_option maxRecDepth 20000 in
theorem ggL_law_L_isScoreThere : GoodIn wsL_law wsL_isScoreThere := goodIn_ca (goodIn_ca (goodIn_ca (goodIn_r _ [430, 226, 431, 432, 433, 2, 434, 233, 234, 235, 236, 15, 237, 238, 239, 240, 124, 241, 242, 243, 244, 245, 125, 126, 127, 128, 129, 435, 33, 436, 437, 421, 63, 64, 438, 1713, 1714, 1715, 1716, 1717, 1718, 1719, 1720, 1721, 1722, 1723, 1724, 1743, 1744, 1745, 1746, 1747, 1748, 1749, 1750, 1751] (by decide +kernel) (by decide +kernel)) (goodIn_sub (fun _ h => List.mem_append_left _ (List.mem_append_left _ (List.mem_append_left _ (List.mem_append_left _ (List.mem_append_left _ (List.mem_append_left _ (List.mem_append_right _ h))))))) (by decide +kernel))) (goodIn_sub (fun _ h => List.mem_append_left _ (List.mem_append_left _ (List.mem_append_right _ h))) (by decide +kernel))) (goodIn_sub (fun _ h => List.mem_append_left _ (List.mem_append_left _ (List.mem_append_left _ (List.mem_append_left _ (List.mem_append_right _ h))))) (by decide +kernel))
set_option maxRecDepth 20000 in
theorem gL_law_L_isScoreThere : GoodIn wsL_law (va_wsS RL 169 yL_isScoreThere wsL_isScoreThere) := goodIn_app (goodIn_of _ (by decide +kernel)) ggL_law_L_isScoreThere
set_option maxRecDepth 20000 in
theorem ggL_law_X14_isScoreThere : GoodIn wsL_law wsX14_isScoreThere := goodIn_ca (goodIn_r _ [442, 92, 259, 261, 262, 5, 263, 264, 265, 145, 91, 147, 148, 266, 267, 268, 269, 270, 137, 138, 139, 407, 408, 409, 410, 97, 271, 272, 273, 274, 275, 276, 277, 278, 279, 280, 281, 282, 283, 284, 285, 286, 102, 443, 444, 445, 136, 446, 158, 155, 447, 448, 316, 317, 318, 319, 320, 321, 322, 323, 324, 325, 326, 12, 13, 327, 328, 165, 329, 449, 331, 332, 333, 334, 335, 336, 337, 338, 339, 340, 450, 342, 343, 344, 345, 346, 347, 348, 349, 350, 351, 352, 353, 354, 355, 356, 357, 358, 359, 1725, 1726, 1727, 1728, 1729, 1730, 1781, 1782, 1783, 1793, 1794, 1784, 1785, 1786, 1787, 1788, 1808, 1809, 1810, 1811, 1812, 1813, 1814, 1815] (by decide +kernel) (by decide +kernel)) (goodIn_sub (fun _ h => List.mem_append_left _ (List.mem_append_left _ (List.mem_append_left _ (List.mem_append_left _ (List.mem_append_left _ (List.mem_append_left _ (List.mem_append_right _ h))))))) (by decide +kernel))
set_option maxRecDepth 20000 in
theorem gL_law_X14_isScoreThere : GoodIn wsL_law (wsV RL 172 RX14 yX14_isScoreThere wsX14_isScoreThere) := goodIn_app (goodIn_of _ (by decide +kernel)) ggL_law_X14_isScoreThere
set_option maxRecDepth 20000 in
theorem ggL_law_L_addPlayer : GoodIn wsL_law wsL_addPlayer := goodIn_ca (goodIn_ca (goodIn_ca (goodIn_r _ [453, 117, 454, 455, 456, 2, 457, 122, 123, 458, 17, 125, 126, 127, 128, 129, 1713, 1714, 1715, 1716, 1717, 1718, 1719, 1720, 1721, 1722, 1723, 1724, 1752, 1753, 1754, 1755, 1756, 1757, 1758] (by decide +kernel) (by decide +kernel)) (goodIn_sub (fun _ h => List.mem_append_left _ (List.mem_append_left _ (List.mem_append_left _ (List.mem_append_left _ (List.mem_append_left _ (List.mem_append_left _ (List.mem_append_right _ h))))))) (by decide +kernel))) (goodIn_sub (fun _ h => List.mem_append_left _ (List.mem_append_left _ (List.mem_append_left _ (List.mem_append_left _ (List.mem_append_left _ (List.mem_append_right _ h)))))) (by decide +kernel))) (goodIn_sub (fun _ h => List.mem_append_left _ (List.mem_append_left _ (List.mem_append_left _ (List.mem_append_left _ (List.mem_append_right _ h))))) (by decide +kernel))
set_option maxRecDepth 20000 in
theorem gL_law_L_addPlayer : GoodIn wsL_law (va_wsS RL 173 yL_addPlayer wsL_addPlayer) := goodIn_app (goodIn_of _ (by decide +kernel)) ggL_law_L_addPlayer
set_option maxRecDepth 20000 in
theorem ggL_law_X14_addPlayer : GoodIn wsL_law wsX14_addPlayer := goodIn_r _ [462, 93, 463, 464, 465, 137, 138, 5, 139, 140, 141, 142, 143, 97, 144, 145, 146, 91, 147, 148, 466, 467, 468, 469, 12, 13, 470, 90, 471, 472, 473, 474, 475, 476, 477, 99, 100, 101, 102, 103, 104, 105, 106, 107, 108, 109, 110, 111, 112, 160, 161, 162, 163, 164, 165, 166, 167, 168, 169, 170, 171, 172, 173, 174, 175, 176, 177, 178, 179, 180, 181, 182, 183, 184, 185, 186, 187, 188, 189, 190, 191, 192, 193, 194, 195, 196, 197, 198, 199, 200, 201, 202, 203, 204, 205, 206, 207, 208, 209, 210, 211, 212, 213, 214, 215, 216, 217, 218, 1725, 1726, 1727, 1728, 1729, 1730, 1820, 1821, 1822, 1823, 1824, 1781, 1782, 1783, 1789, 1790, 1791, 1792] (by decide +kernel) (by decide +kernel)
set_option maxRecDepth 20000 in
theorem gL_law_X14_addPlayer : GoodIn wsL_law (wsV RL 175 RX14 yX14_addPlayer wsX14_addPlayer) := goodIn_app (goodIn_of _ (by decide +kernel)) ggL_law_X14_addPlayer
set_option maxRecDepth 20000 in
theorem ggL_law_L_leave : GoodIn wsL_law wsL_leave := goodIn_ca (goodIn_ca (goodIn_ca (goodIn_ca (goodIn_ca (goodIn_r _ [480, 226, 481, 482, 483, 2, 484, 231, 232, 122, 123, 485, 486, 487, 488, 17, 489, 490, 491, 492, 458, 241, 242, 243, 244, 245, 125, 126, 127, 128, 129, 493, 494, 495, 496, 250, 21, 497, 498, 499, 500, 35, 501, 502, 503, 68, 69, 1752, 1753, 1754, 1755, 1756, 1757, 1758, 1713, 1714, 1715, 1716, 1717, 1718, 1719, 1720, 1721, 1722, 1723, 1724, 1762, 1763, 1764, 1765, 1766, 1767, 1768, 1769, 1770, 1771, 1772, 1773, 1774, 1775, 1776] (by decide +kernel) (by decide +kernel)) (goodIn_sub (fun _ h => List.mem_append_left _ (List.mem_append_left _ (List.mem_append_left _ (List.mem_append_left _ (List.mem_append_left _ (List.mem_append_left _ (List.mem_append_right _ h))))))) (by decide +kernel))) (goodIn_sub (fun _ h => List.mem_append_left _ (List.mem_append_left _ (List.mem_append_left _ (List.mem_append_right _ h)))) (by decide +kernel))) (goodIn_sub (fun _ h => List.mem_append_left _ (List.mem_append_left _ (List.mem_append_left _ (List.mem_append_left _ (List.mem_append_left _ (List.mem_append_right _ h)))))) (by decide +kernel))) (goodIn_sub (fun _ h => List.mem_append_left _ (List.mem_append_left _ (List.mem_append_right _ h))) (by decide +kernel))) (goodIn_sub (fun _ h => List.mem_append_left _ (List.mem_append_left _ (List.mem_append_left _ (List.mem_append_left _ (List.mem_append_right _ h))))) (by decide +kernel))
set_option maxRecDepth 20000 in
theorem gL_law_L_leave : GoodIn wsL_law (va_wsS RL 176 yL_leave wsL_leave) := goodIn_app (goodIn_of _ (by decide +kernel)) ggL_law_L_leave
set_option maxRecDepth 20000 in
theorem ggL_law_X14_leave : GoodIn wsL_law wsX14_leave := goodIn_ca (goodIn_r _ [507, 93, 96, 313, 508, 509, 510, 45, 261, 262, 5, 263, 264, 265, 145, 91, 147, 148, 266, 267, 268, 269, 270, 137, 138, 139, 140, 141, 142, 143, 97, 315, 316, 317, 318, 319, 320, 321, 322, 323, 324, 325, 326, 12, 13, 327, 328, 165, 329, 330, 331, 332, 333, 334, 335, 336, 337, 338, 339, 340, 341, 342, 343, 344, 345, 346, 347, 348, 349, 350, 351, 352, 353, 354, 355, 272, 274, 275, 276, 277, 278, 279, 280, 281, 282, 283, 284, 285, 286, 102, 356, 357, 358, 359, 511, 512, 513, 514, 515, 516, 517, 271, 273, 144, 146, 160, 161, 162, 163, 164, 166, 167, 168, 169, 170, 171, 172, 173, 174, 175, 176, 177, 101, 178, 179, 180, 181, 182, 183, 184, 185, 186, 187, 188, 189, 190, 191, 192, 193, 194, 195, 196, 197, 198, 199, 200, 201, 202, 203, 204, 205, 206, 207, 208, 209, 210, 211, 212, 213, 214, 215, 216, 217, 218, 1725, 1726, 1727, 1728, 1729, 1730, 1796, 1797, 1798, 1799, 1800, 1801, 1802, 1803, 1804, 1805, 1806, 1807, 1820, 1821, 1822, 1823, 1824, 1781, 1782, 1783, 1793, 1794, 1808, 1809, 1810, 1811, 1812, 1813, 1814, 1815, 1789, 1790, 1791, 1792] (by decide +kernel) (by decide +kernel)) (goodIn_sub (fun _ h => List.mem_append_left _ (List.mem_append_left _ (List.mem_append_left _ (List.mem_append_left _ (List.mem_append_left _ (List.mem_append_left _ (List.mem_append_right _ h))))))) (by decide +kernel))
set_option maxRecDepth 20000 in
theorem gL_law_X14_leave : GoodIn wsL_law (wsV RL 178 RX14 yX14_leave wsX14_leave) := goodIn_app (goodIn_of _ (by decide +kernel)) ggL_law_X14_leave
set_option maxRecDepth 20000 in
theorem ggL_law_L_refuse : GoodIn wsL_law wsL_refuse := goodIn_ca (goodIn_ca (goodIn_r _ [520, 226, 521, 522, 523, 2, 524, 485, 486, 487, 488, 17, 489, 490, 491, 492, 458, 241, 242, 243, 244, 245, 237, 238, 239, 240, 124, 497, 498, 499, 1752, 1753, 1754, 1755, 1756, 1757, 1758, 1713, 1714, 1715, 1716, 1717, 1718, 1719, 1720, 1721, 1722, 1723, 1724] (by decide +kernel) (by decide +kernel)) (goodIn_sub (fun _ h => List.mem_append_left _ (List.mem_append_left _ (List.mem_append_left _ (List.mem_append_left _ (List.mem_append_left _ (List.mem_append_left _ (List.mem_append_right _ h))))))) (by decide +kernel))) (goodIn_sub (fun _ h => List.mem_append_left _ (List.mem_append_left _ (List.mem_append_right _ h))) (by decide +kernel))
set_option maxRecDepth 20000 in
theorem gL_law_L_refuse : GoodIn wsL_law (va_wsS RL 179 yL_refuse wsL_refuse) := goodIn_app (goodIn_of _ (by decide +kernel)) ggL_law_L_refuse
set_option maxRecDepth 20000 in
theorem ggL_law_X14_refuse : GoodIn wsL_law wsX14_refuse := goodIn_ca (goodIn_r _ [528, 93, 92, 509, 529, 261, 262, 5, 263, 264, 265, 145, 91, 147, 148, 266, 267, 268, 269, 270, 137, 138, 139, 407, 408, 409, 410, 97, 271, 272, 273, 274, 275, 276, 277, 278, 279, 280, 281, 282, 283, 284, 285, 286, 102, 1725, 1726, 1727, 1728, 1729, 1730, 1820, 1821, 1822, 1823, 1824, 1781, 1782, 1783, 1793, 1794] (by decide +kernel) (by decide +kernel)) (goodIn_sub (fun _ h => List.mem_append_left _ (List.mem_append_left _ (List.mem_append_left _ (List.mem_append_left _ (List.mem_append_left _ (List.mem_append_left _ (List.mem_append_right _ h))))))) (by decide +kernel))
set_option maxRecDepth 20000 in
theorem gL_law_X14_refuse : GoodIn wsL_law (wsV RL 182 RX14 yX14_refuse wsX14_refuse) := goodIn_app (goodIn_of _ (by decide +kernel)) ggL_law_X14_refuse
set_option maxRecDepth 20000 in
theorem ggL_law_L_addHall : GoodIn wsL_law wsL_addHall := goodIn_ca (goodIn_ca (goodIn_ca (goodIn_r _ [532, 117, 533, 534, 535, 2, 536, 122, 123, 537, 19, 125, 126, 127, 128, 129, 1713, 1714, 1715, 1716, 1717, 1718, 1719, 1720, 1721, 1722, 1723, 1724, 1759, 1760, 1761] (by decide +kernel) (by decide +kernel)) (goodIn_sub (fun _ h => List.mem_append_left _ (List.mem_append_left _ (List.mem_append_left _ (List.mem_append_left _ (List.mem_append_left _ (List.mem_append_left _ (List.mem_append_right _ h))))))) (by decide +kernel))) (goodIn_sub (fun _ h => List.mem_append_left _ (List.mem_append_left _ (List.mem_append_left _ (List.mem_append_left _ (List.mem_append_left _ (List.mem_append_right _ h)))))) (by decide +kernel))) (goodIn_sub (fun _ h => List.mem_append_left _ (List.mem_append_left _ (List.mem_append_left _ (List.mem_append_left _ (List.mem_append_right _ h))))) (by decide +kernel))
set_option maxRecDepth 20000 in
theorem gL_law_L_addHall : GoodIn wsL_law (va_wsS RL 183 yL_addHall wsL_addHall) := goodIn_app (goodIn_of _ (by decide +kernel)) ggL_law_L_addHall
set_option maxRecDepth 20000 in
theorem ggL_law_X14_addHall : GoodIn wsL_law wsX14_addHall := goodIn_r _ [541, 94, 542, 543, 544, 137, 138, 5, 139, 140, 141, 142, 143, 97, 144, 145, 146, 91, 147, 148, 545, 546, 547, 548, 12, 13, 472, 549, 550, 551, 160, 161, 162, 163, 164, 165, 102, 166, 167, 168, 169, 170, 171, 172, 173, 174, 175, 176, 177, 101, 178, 179, 180, 181, 182, 183, 184, 185, 186, 187, 188, 189, 190, 191, 192, 193, 194, 195, 196, 197, 198, 199, 200, 201, 202, 203, 204, 205, 206, 207, 208, 209, 210, 211, 212, 213, 214, 215, 216, 217, 218, 1725, 1726, 1727, 1728, 1729, 1730, 1825, 1826, 1827, 1781, 1782, 1783, 1789, 1790, 1791, 1792] (by decide +kernel) (by decide +kernel)
set_option maxRecDepth 20000 in
theorem gL_law_X14_addHall : GoodIn wsL_law (wsV RL 185 RX14 yX14_addHall wsX14_addHall) := goodIn_app (goodIn_of _ (by decide +kernel)) ggL_law_X14_addHall
set_option maxRecDepth 20000 in
theorem ggL_law_L_give : GoodIn wsL_law wsL_give := goodIn_ca (goodIn_ca (goodIn_ca (goodIn_ca (goodIn_r _ [554, 226, 555, 556, 557, 2, 558, 231, 232, 559, 560, 561, 562, 537, 19, 241, 242, 243, 244, 245, 125, 126, 127, 128, 129, 563, 564, 565, 566, 250, 21, 567, 37, 568, 569, 73, 498, 499, 570, 571, 572, 1713, 1714, 1715, 1716, 1717, 1718, 1719, 1720, 1721, 1722, 1723, 1724, 1762, 1763, 1764, 1765, 1766, 1767, 1768, 1769, 1770, 1771, 1772, 1773, 1774, 1775, 1776, 1759, 1760, 1761] (by decide +kernel) (by decide +kernel)) (goodIn_sub (fun _ h => List.mem_append_left _ (List.mem_append_left _ (List.mem_append_left _ (List.mem_append_left _ (List.mem_append_left _ (List.mem_append_left _ (List.mem_append_right _ h))))))) (by decide +kernel))) (goodIn_sub (fun _ h => List.mem_append_left _ (List.mem_append_left _ (List.mem_append_left _ (List.mem_append_right _ h)))) (by decide +kernel))) (goodIn_sub (fun _ h => List.mem_append_left _ (List.mem_append_left _ (List.mem_append_right _ h))) (by decide +kernel))) (goodIn_sub (fun _ h => List.mem_append_left _ (List.mem_append_left _ (List.mem_append_left _ (List.mem_append_left _ (List.mem_append_right _ h))))) (by decide +kernel))
set_option maxRecDepth 20000 in
theorem gL_law_L_give : GoodIn wsL_law (va_wsS RL 186 yL_give wsL_give) := goodIn_app (goodIn_of _ (by decide +kernel)) ggL_law_L_give
set_option maxRecDepth 20000 in
theorem ggL_law_X14_give : GoodIn wsL_law wsX14_give := goodIn_ca (goodIn_r _ [576, 94, 96, 313, 577, 508, 578, 579, 261, 262, 5, 263, 264, 265, 145, 91, 147, 148, 266, 267, 268, 269, 270, 137, 138, 139, 407, 408, 409, 410, 97, 315, 316, 317, 318, 319, 320, 321, 322, 323, 324, 325, 326, 12, 13, 327, 328, 165, 329, 330, 331, 332, 333, 334, 335, 336, 337, 338, 339, 340, 341, 342, 343, 344, 345, 346, 347, 348, 349, 350, 351, 352, 353, 354, 355, 272, 274, 275, 276, 277, 278, 279, 280, 281, 282, 283, 284, 285, 286, 102, 356, 357, 358, 359, 271, 273, 1725, 1726, 1727, 1728, 1729, 1730, 1796, 1797, 1798, 1799, 1800, 1801, 1802, 1803, 1804, 1805, 1806, 1807, 1825, 1826, 1827, 1781, 1782, 1783, 1793, 1794, 1808, 1809, 1810, 1811, 1812, 1813, 1814, 1815] (by decide +kernel) (by decide +kernel)) (goodIn_sub (fun _ h => List.mem_append_left _ (List.mem_append_left _ (List.mem_append_left _ (List.mem_append_left _ (List.mem_append_left _ (List.mem_append_left _ (List.mem_append_right _ h))))))) (by decide +kernel))
set_option maxRecDepth 20000 in
theorem gL_law_X14_give : GoodIn wsL_law (wsV RL 188 RX14 yX14_give wsX14_give) := goodIn_app (goodIn_of _ (by decide +kernel)) ggL_law_X14_give
set_option maxRecDepth 20000 in
theorem ggL_law_L_addService : GoodIn wsL_law wsL_addService := goodIn_ca (goodIn_ca (goodIn_ca (goodIn_ca (goodIn_ca (goodIn_r _ [582, 226, 583, 584, 585, 2, 586, 231, 232, 122, 123, 250, 21, 559, 560, 561, 562, 537, 19, 241, 242, 243, 244, 245, 587, 588, 589, 128, 129, 125, 126, 127, 567, 37, 568, 569, 73, 498, 499, 590, 591, 592, 593, 594, 39, 595, 596, 597, 598, 599, 1759, 1760, 1761, 1713, 1714, 1715, 1716, 1717, 1718, 1719, 1720, 1721, 1722, 1723, 1724, 1762, 1763, 1764, 1765, 1766, 1767, 1768, 1769, 1770, 1771, 1772, 1773, 1774, 1775, 1776] (by decide +kernel) (by decide +kernel)) (goodIn_sub (fun _ h => List.mem_append_left _ (List.mem_append_left _ (List.mem_append_left _ (List.mem_append_left _ (List.mem_append_left _ (List.mem_append_left _ (List.mem_append_right _ h))))))) (by decide +kernel))) (goodIn_sub (fun _ h => List.mem_append_left _ (List.mem_append_left _ (List.mem_append_left _ (List.mem_append_right _ h)))) (by decide +kernel))) (goodIn_sub (fun _ h => List.mem_append_left _ (List.mem_append_left _ (List.mem_append_left _ (List.mem_append_left _ (List.mem_append_left _ (List.mem_append_right _ h)))))) (by decide +kernel))) (goodIn_sub (fun _ h => List.mem_append_left _ (List.mem_append_left _ (List.mem_append_right _ h))) (by decide +kernel))) (goodIn_sub (fun _ h => List.mem_append_left _ (List.mem_append_left _ (List.mem_append_left _ (List.mem_append_left _ (List.mem_append_right _ h))))) (by decide +kernel))
set_option maxRecDepth 20000 in
theorem gL_law_L_addService : GoodIn wsL_law (va_wsS RL 189 yL_addService wsL_addService) := goodIn_app (goodIn_of _ (by decide +kernel)) ggL_law_L_addService
set_option maxRecDepth 20000 in
theorem ggL_law_X14_addService : GoodIn wsL_law wsX14_addService := goodIn_ca (goodIn_r _ [603, 94, 578, 604, 605, 579, 96, 313, 577, 508, 606, 607, 608, 514, 261, 262, 5, 263, 264, 265, 145, 91, 147, 148, 266, 267, 268, 269, 270, 137, 138, 139, 140, 141, 142, 143, 97, 609, 610, 611, 385, 612, 613, 614, 615, 616, 390, 617, 618, 619, 620, 388, 389, 621, 622, 623, 624, 625, 626, 627, 628, 629, 630, 393, 631, 632, 179, 180, 181, 633, 209, 210, 634, 635, 636, 637, 638, 639, 640, 641, 642, 643, 644, 645, 646, 647, 648, 649, 650, 651, 652, 653, 654, 655, 656, 657, 658, 659, 660, 661, 281, 662, 663, 664, 665, 666, 667, 668, 669, 670, 671, 672, 673, 674, 675, 676, 677, 678, 679, 680, 681, 682, 683, 684, 685, 686, 271, 272, 273, 274, 275, 276, 277, 278, 279, 280, 282, 283, 284, 285, 286, 102, 315, 316, 317, 318, 319, 320, 321, 322, 323, 324, 325, 326, 12, 13, 327, 328, 165, 329, 330, 331, 332, 333, 334, 335, 336, 337, 338, 339, 340, 341, 342, 343, 344, 345, 346, 347, 348, 349, 350, 351, 352, 353, 354, 355, 356, 357, 358, 359, 687, 688, 689, 690, 691, 692, 144, 146, 693, 694, 695, 696, 697, 90, 698, 472, 699, 700, 516, 517, 701, 702, 703, 704, 705, 706, 707, 99, 100, 101, 103, 104, 105, 106, 107, 108, 109, 110, 111, 112, 160, 161, 162, 163, 164, 166, 167, 168, 169, 170, 171, 172, 173, 174, 175, 176, 177, 178, 182, 183, 184, 185, 186, 187, 188, 189, 190, 191, 192, 193, 194, 195, 196, 197, 198, 199, 200, 201, 202, 203, 204, 205, 206, 207, 208, 211, 212, 213, 214, 215, 216, 217, 218, 1725, 1726, 1727, 1728, 1729, 1730, 1825, 1826, 1827, 1796, 1797, 1798, 1799, 1800, 1801, 1802, 1803, 1804, 1805, 1806, 1807, 1781, 1782, 1783, 1793, 1794, 1816, 1817, 1818, 1819, 1808, 1809, 1810, 1811, 1812, 1813, 1814, 1815, 1789, 1790, 1791, 1792] (by decide +kernel) (by decide +kernel)) (goodIn_sub (fun _ h => List.mem_append_left _ (List.mem_append_left _ (List.mem_append_left _ (List.mem_append_left _ (List.mem_append_left _ (List.mem_append_left _ (List.mem_append_right _ h))))))) (by decide +kernel))
set_option maxRecDepth 20000 in
theorem gL_law_X14_addService : GoodIn wsL_law (wsV RL 192 RX14 yX14_addService wsX14_addService) := goodIn_app (goodIn_of _ (by decide +kernel)) ggL_law_X14_addService
set_option maxRecDepth 20000 in
theorem ggL_law_L_add : GoodIn wsL_law wsL_add := goodIn_ca (goodIn_ca (goodIn_ca (goodIn_r _ [710, 226, 711, 712, 713, 2, 714, 231, 232, 715, 716, 717, 718, 21, 719, 720, 721, 722, 250, 241, 242, 243, 244, 245, 233, 234, 235, 236, 15, 237, 238, 239, 240, 124, 251, 39, 252, 253, 254, 79, 723, 724, 725, 726, 727, 728, 729, 598, 599, 730, 731, 732, 733, 734, 735, 736, 180, 737, 738, 739, 740, 741, 742, 743, 1762, 1763, 1764, 1765, 1766, 1767, 1768, 1769, 1770, 1771, 1772, 1773, 1774, 1775, 1776, 1743, 1744, 1745, 1746, 1747, 1748, 1749, 1750, 1751, 1713, 1714, 1715, 1716, 1717, 1718, 1719, 1720, 1721, 1722, 1723, 1724] (by decide +kernel) (by decide +kernel)) (goodIn_sub (fun _ h => List.mem_append_left _ (List.mem_append_left _ (List.mem_append_left _ (List.mem_append_left _ (List.mem_append_left _ (List.mem_append_left _ (List.mem_append_right _ h))))))) (by decide +kernel))) (goodIn_sub (fun _ h => List.mem_append_left _ (List.mem_append_left _ (List.mem_append_left _ (List.mem_append_right _ h)))) (by decide +kernel))) (goodIn_sub (fun _ h => List.mem_append_left _ (List.mem_append_left _ (List.mem_append_right _ h))) (by decide +kernel))
set_option maxRecDepth 20000 in
theorem gL_law_L_add : GoodIn wsL_law (va_wsS RL 193 yL_add wsL_add) := goodIn_app (goodIn_of _ (by decide +kernel)) ggL_law_L_add
set_option maxRecDepth 20000 in
theorem ggL_law_X14_add : GoodIn wsL_law wsX14_add := goodIn_r _ [747, 96, 92, 313, 259, 748, 749, 314, 750, 751, 752, 753, 261, 262, 5, 263, 264, 265, 145, 91, 147, 148, 266, 267, 268, 269, 270, 137, 138, 139, 140, 141, 142, 143, 97, 271, 272, 273, 274, 275, 276, 277, 278, 279, 280, 281, 282, 283, 284, 285, 286, 102, 315, 316, 317, 318, 319, 320, 321, 322, 323, 324, 325, 326, 12, 13, 327, 328, 165, 329, 330, 331, 332, 333, 334, 335, 336, 337, 338, 339, 340, 341, 342, 343, 344, 345, 346, 347, 348, 349, 350, 351, 352, 353, 354, 355, 356, 357, 358, 359, 754, 380, 381, 293, 382, 302, 360, 292, 294, 295, 296, 297, 298, 299, 300, 301, 303, 304, 305, 306, 307, 361, 362, 363, 364, 365, 366, 367, 368, 369, 370, 371, 372, 373, 374, 375, 376, 377, 378, 379, 383, 384, 385, 386, 387, 388, 389, 390, 391, 392, 393, 394, 144, 146, 755, 756, 757, 758, 759, 760, 761, 762, 763, 764, 765, 766, 767, 768, 769, 770, 771, 772, 109, 110, 111, 112, 773, 774, 775, 776, 777, 778, 779, 508, 780, 736, 180, 737, 781, 782, 783, 784, 785, 786, 787, 788, 789, 790, 791, 792, 793, 794, 795, 160, 161, 162, 163, 164, 166, 167, 168, 169, 170, 171, 172, 173, 174, 175, 176, 177, 101, 178, 179, 181, 182, 183, 184, 185, 186, 187, 188, 189, 190, 191, 192, 193, 194, 195, 196, 197, 198, 199, 200, 201, 202, 203, 204, 205, 206, 207, 208, 209, 210, 211, 212, 213, 214, 215, 216, 217, 218, 1725, 1726, 1727, 1728, 1729, 1730, 1784, 1785, 1786, 1787, 1788, 1796, 1797, 1798, 1799, 1800, 1801, 1802, 1803, 1804, 1805, 1806, 1807, 1781, 1782, 1783, 1793, 1794, 1808, 1809, 1810, 1811, 1812, 1813, 1814, 1815, 1795, 1816, 1817, 1818, 1819, 1789, 1790, 1791, 1792] (by decide +kernel) (by decide +kernel)
set_option maxRecDepth 20000 in
theorem gL_law_X14_add : GoodIn wsL_law (wsV RL 195 RX14 yX14_add wsX14_add) := goodIn_app (goodIn_of _ (by decide +kernel)) ggL_law_X14_add
set_option maxRecDepth 20000 in
theorem ggL_law_L_remove : GoodIn wsL_law wsL_remove := goodIn_ca (goodIn_ca (goodIn_ca (goodIn_r _ [798, 226, 799, 800, 801, 2, 802, 231, 232, 715, 716, 717, 718, 21, 719, 720, 721, 722, 250, 241, 242, 243, 244, 245, 237, 238, 239, 240, 124, 251, 39, 252, 253, 254, 79, 803, 804, 805, 1762, 1763, 1764, 1765, 1766, 1767, 1768, 1769, 1770, 1771, 1772, 1773, 1774, 1775, 1776, 1713, 1714, 1715, 1716, 1717, 1718, 1719, 1720, 1721, 1722, 1723, 1724] (by decide +kernel) (by decide +kernel)) (goodIn_sub (fun _ h => List.mem_append_left _ (List.mem_append_left _ (List.mem_append_left _ (List.mem_append_left _ (List.mem_append_left _ (List.mem_append_left _ (List.mem_append_right _ h))))))) (by decide +kernel))) (goodIn_sub (fun _ h => List.mem_append_left _ (List.mem_append_left _ (List.mem_append_left _ (List.mem_append_right _ h)))) (by decide +kernel))) (goodIn_sub (fun _ h => List.mem_append_left _ (List.mem_append_left _ (List.mem_append_right _ h))) (by decide +kernel))
set_option maxRecDepth 20000 in
theorem gL_law_L_remove : GoodIn wsL_law (va_wsS RL 196 yL_remove wsL_remove) := goodIn_app (goodIn_of _ (by decide +kernel)) ggL_law_L_remove
set_option maxRecDepth 20000 in
theorem ggL_law_X14_remove : GoodIn wsL_law wsX14_remove := goodIn_r _ [809, 96, 92, 313, 751, 314, 261, 262, 5, 263, 264, 265, 145, 91, 147, 148, 266, 267, 268, 269, 270, 137, 138, 139, 140, 141, 142, 143, 97, 271, 272, 273, 274, 275, 276, 277, 278, 279, 280, 281, 282, 283, 284, 285, 286, 102, 360, 292, 293, 294, 295, 296, 297, 298, 299, 300, 301, 302, 303, 304, 305, 306, 307, 12, 13, 361, 362, 363, 364, 365, 366, 367, 368, 369, 370, 371, 372, 373, 374, 375, 376, 377, 378, 379, 380, 381, 382, 383, 384, 385, 386, 387, 388, 389, 390, 391, 392, 393, 394, 810, 811, 812, 813, 814, 815, 816, 817, 818, 164, 165, 819, 212, 213, 214, 144, 146, 215, 216, 217, 218, 1725, 1726, 1727, 1728, 1729, 1730, 1796, 1797, 1798, 1799, 1800, 1801, 1802, 1803, 1804, 1805, 1806, 1807, 1781, 1782, 1783, 1793, 1794, 1795, 1816, 1817, 1818, 1819] (by decide +kernel) (by decide +kernel)
set_option maxRecDepth 20000 in
theorem gL_law_X14_remove : GoodIn wsL_law (wsV RL 198 RX14 yX14_remove wsX14_remove) := goodIn_app (goodIn_of _ (by decide +kernel)) ggL_law_X14_remove
set_option maxRecDepth 20000 in
theorem ggL_law_L_setSeries : GoodIn wsL_law wsL_setSeries := goodIn_ca (goodIn_ca (goodIn_ca (goodIn_ca (goodIn_r _ [822, 226, 823, 824, 825, 2, 826, 231, 232, 715, 716, 717, 718, 21, 719, 720, 721, 722, 250, 241, 242, 243, 244, 245, 125, 126, 127, 128, 129, 738, 39, 739, 740, 254, 79, 731, 732, 733, 734, 735, 736, 180, 737, 1762, 1763, 1764, 1765, 1766, 1767, 1768, 1769, 1770, 1771, 1772, 1773, 1774, 1775, 1776, 1713, 1714, 1715, 1716, 1717, 1718, 1719, 1720, 1721, 1722, 1723, 1724] (by decide +kernel) (by decide +kernel)) (goodIn_sub (fun _ h => List.mem_append_left _ (List.mem_append_left _ (List.mem_append_left _ (List.mem_append_left _ (List.mem_append_left _ (List.mem_append_left _ (List.mem_append_right _ h))))))) (by decide +kernel))) (goodIn_sub (fun _ h => List.mem_append_left _ (List.mem_append_left _ (List.mem_append_left _ (List.mem_append_right _ h)))) (by decide +kernel))) (goodIn_sub (fun _ h => List.mem_append_left _ (List.mem_append_left _ (List.mem_append_right _ h))) (by decide +kernel))) (goodIn_sub (fun _ h => List.mem_append_left _ (List.mem_append_left _ (List.mem_append_left _ (List.mem_append_left _ (List.mem_append_right _ h))))) (by decide +kernel))
set_option maxRecDepth 20000 in
theorem gL_law_L_setSeries : GoodIn wsL_law (va_wsS RL 199 yL_setSeries wsL_setSeries) := goodIn_app (goodIn_of _ (by decide +kernel)) ggL_law_L_setSeries
set_option maxRecDepth 20000 in
theorem ggL_law_X14_setSeries : GoodIn wsL_law wsX14_setSeries := goodIn_r _ [830, 96, 313, 749, 314, 753, 261, 262, 5, 263, 264, 265, 145, 91, 147, 148, 266, 267, 268, 269, 270, 137, 138, 139, 140, 141, 142, 143, 97, 271, 272, 273, 274, 275, 276, 277, 278, 279, 280, 281, 282, 283, 284, 285, 286, 102, 776, 777, 778, 779, 508, 780, 736, 180, 737, 750, 315, 316, 317, 318, 319, 320, 321, 322, 323, 324, 325, 326, 12, 13, 327, 328, 165, 329, 330, 331, 332, 333, 334, 335, 336, 337, 338, 339, 340, 341, 342, 343, 344, 345, 346, 347, 348, 349, 350, 351, 352, 353, 354, 355, 356, 357, 358, 359, 781, 782, 783, 784, 766, 785, 786, 787, 788, 789, 790, 791, 792, 793, 794, 795, 754, 380, 381, 293, 382, 302, 360, 292, 294, 295, 296, 297, 298, 299, 300, 301, 303, 304, 305, 306, 307, 361, 362, 363, 364, 365, 366, 367, 368, 369, 370, 371, 372, 373, 374, 375, 376, 377, 378, 379, 383, 384, 385, 386, 387, 388, 389, 390, 391, 392, 393, 394, 215, 216, 217, 218, 1725, 1726, 1727, 1728, 1729, 1730, 1796, 1797, 1798, 1799, 1800, 1801, 1802, 1803, 1804, 1805, 1806, 1807, 1781, 1782, 1783, 1793, 1794, 1808, 1809, 1810, 1811, 1812, 1813, 1814, 1815, 1795, 1816, 1817, 1818, 1819] (by decide +kernel) (by decide +kernel)
set_option maxRecDepth 20000 in
theorem gL_law_X14_setSeries : GoodIn wsL_law (wsV RL 201 RX14 yX14_setSeries wsX14_setSeries) := goodIn_app (goodIn_of _ (by decide +kernel)) ggL_law_X14_setSeries
set_option maxRecDepth 20000 in
theorem ggL_law_L_addGuest : GoodIn wsL_law wsL_addGuest := goodIn_ca (goodIn_ca (goodIn_ca (goodIn_r _ [833, 117, 834, 835, 836, 2, 837, 122, 123, 838, 23, 125, 126, 127, 128, 129, 1713, 1714, 1715, 1716, 1717, 1718, 1719, 1720, 1721, 1722, 1723, 1724, 1777, 1778, 1779, 1780] (by decide +kernel) (by decide +kernel)) (goodIn_sub (fun _ h => List.mem_append_left _ (List.mem_append_left _ (List.mem_append_left _ (List.mem_append_left _ (List.mem_append_left _ (List.mem_append_left _ (List.mem_append_right _ h))))))) (by decide +kernel))) (goodIn_sub (fun _ h => List.mem_append_left _ (List.mem_append_left _ (List.mem_append_left _ (List.mem_append_left _ (List.mem_append_left _ (List.mem_append_right _ h)))))) (by decide +kernel))) (goodIn_sub (fun _ h => List.mem_append_left _ (List.mem_append_left _ (List.mem_append_left _ (List.mem_append_left _ (List.mem_append_right _ h))))) (by decide +kernel))
set_option maxRecDepth 20000 in
theorem gL_law_L_addGuest : GoodIn wsL_law (va_wsS RL 202 yL_addGuest wsL_addGuest) := goodIn_app (goodIn_of _ (by decide +kernel)) ggL_law_L_addGuest
set_option maxRecDepth 20000 in
theorem ggL_law_X14_addGuest : GoodIn wsL_law wsX14_addGuest := goodIn_r _ [842, 95, 843, 844, 845, 137, 138, 5, 139, 140, 141, 142, 143, 97, 144, 145, 146, 91, 147, 148, 846, 847, 848, 849, 12, 13, 850, 90, 851, 852, 853, 854, 99, 100, 101, 102, 103, 104, 105, 106, 107, 108, 109, 110, 111, 112, 160, 161, 162, 163, 164, 165, 166, 167, 168, 169, 170, 171, 172, 173, 174, 175, 176, 177, 178, 179, 180, 181, 182, 183, 184, 185, 186, 187, 188, 189, 190, 191, 192, 193, 194, 195, 196, 197, 198, 199, 200, 201, 202, 203, 204, 205, 206, 207, 208, 209, 210, 211, 212, 213, 214, 215, 216, 217, 218, 1725, 1726, 1727, 1728, 1729, 1730, 1828, 1829, 1830, 1781, 1782, 1783, 1789, 1790, 1791, 1792] (by decide +kernel) (by decide +kernel)
set_option maxRecDepth 20000 in
theorem gL_law_X14_addGuest : GoodIn wsL_law (wsV RL 204 RX14 yX14_addGuest wsX14_addGuest) := goodIn_app (goodIn_of _ (by decide +kernel)) ggL_law_X14_addGuest
set_option maxRecDepth 20000 in
theorem ggL_law_L_elsewhere : GoodIn wsL_law wsL_elsewhere := goodIn_ca (goodIn_ca (goodIn_ca (goodIn_ca (goodIn_r _ [857, 226, 858, 859, 860, 2, 861, 122, 123, 862, 863, 864, 865, 23, 866, 867, 868, 869, 838, 241, 242, 243, 244, 245, 125, 126, 127, 128, 129, 870, 41, 871, 872, 873, 84, 874, 736, 180, 737, 875, 876, 877, 1777, 1778, 1779, 1780, 1713, 1714, 1715, 1716, 1717, 1718, 1719, 1720, 1721, 1722, 1723, 1724] (by decide +kernel) (by decide +kernel)) (goodIn_sub (fun _ h => List.mem_append_left _ (List.mem_append_left _ (List.mem_append_left _ (List.mem_append_left _ (List.mem_append_left _ (List.mem_append_left _ (List.mem_append_right _ h))))))) (by decide +kernel))) (goodIn_sub (fun _ h => List.mem_append_left _ (List.mem_append_left _ (List.mem_append_left _ (List.mem_append_left _ (List.mem_append_left _ (List.mem_append_right _ h)))))) (by decide +kernel))) (goodIn_sub (fun _ h => List.mem_append_left _ (List.mem_append_left _ (List.mem_append_right _ h))) (by decide +kernel))) (goodIn_sub (fun _ h => List.mem_append_left _ (List.mem_append_left _ (List.mem_append_left _ (List.mem_append_left _ (List.mem_append_right _ h))))) (by decide +kernel))
set_option maxRecDepth 20000 in
theorem gL_law_L_elsewhere : GoodIn wsL_law (va_wsS RL 205 yL_elsewhere wsL_elsewhere) := goodIn_app (goodIn_of _ (by decide +kernel)) ggL_law_L_elsewhere
set_option maxRecDepth 20000 in
theorem ggL_law_X14_elsewhere : GoodIn wsL_law wsX14_elsewhere := goodIn_r _ [881, 95, 882, 883, 261, 262, 5, 263, 264, 265, 145, 91, 147, 148, 266, 267, 268, 269, 270, 137, 138, 139, 140, 141, 142, 143, 97, 271, 272, 273, 274, 275, 276, 277, 278, 279, 280, 281, 282, 283, 284, 285, 286, 102, 360, 292, 293, 294, 295, 296, 297, 298, 299, 300, 301, 302, 303, 304, 305, 306, 307, 12, 13, 361, 362, 363, 364, 365, 366, 367, 368, 369, 370, 371, 372, 373, 374, 375, 376, 377, 378, 379, 380, 381, 382, 383, 384, 385, 386, 387, 388, 389, 390, 391, 392, 393, 394, 144, 146, 160, 161, 162, 163, 164, 165, 166, 167, 168, 169, 170, 171, 172, 173, 174, 175, 176, 177, 101, 178, 179, 180, 181, 182, 183, 184, 185, 186, 187, 188, 189, 190, 191, 192, 193, 194, 195, 196, 197, 198, 199, 200, 201, 202, 203, 204, 205, 206, 207, 208, 209, 210, 211, 212, 213, 214, 215, 216, 217, 218, 1725, 1726, 1727, 1728, 1729, 1730, 1828, 1829, 1830, 1781, 1782, 1783, 1793, 1794, 1795, 1816, 1817, 1818, 1819, 1789, 1790, 1791, 1792] (by decide +kernel) (by decide +kernel)
set_option maxRecDepth 20000 in
theorem gL_law_X14_elsewhere : GoodIn wsL_law (wsV RL 207 RX14 yX14_elsewhere wsX14_elsewhere) := goodIn_app (goodIn_of _ (by decide +kernel)) ggL_law_X14_elsewhere
set_option maxRecDepth 20000 in
theorem ggL_law_L_engage : GoodIn wsL_law wsL_engage := goodIn_ca (goodIn_ca (goodIn_ca (goodIn_r _ [886, 226, 887, 888, 889, 2, 890, 231, 232, 715, 716, 717, 718, 21, 719, 720, 721, 722, 250, 241, 242, 243, 244, 245, 866, 867, 868, 869, 838, 891, 892, 893, 894, 23, 895, 896, 897, 898, 15, 870, 41, 871, 872, 873, 84, 874, 736, 180, 737, 899, 900, 901, 902, 1762, 1763, 1764, 1765, 1766, 1767, 1768, 1769, 1770, 1771, 1772, 1773, 1774, 1775, 1776, 1713, 1714, 1715, 1716, 1717, 1718, 1719, 1720, 1721, 1722, 1723, 1724, 1777, 1778, 1779, 1780, 1743, 1744, 1745, 1746, 1747, 1748, 1749, 1750, 1751] (by decide +kernel) (by decide +kernel)) (goodIn_sub (fun _ h => List.mem_append_left _ (List.mem_append_left _ (List.mem_append_left _ (List.mem_append_left _ (List.mem_append_left _ (List.mem_append_left _ (List.mem_append_right _ h))))))) (by decide +kernel))) (goodIn_sub (fun _ h => List.mem_append_left _ (List.mem_append_left _ (List.mem_append_left _ (List.mem_append_right _ h)))) (by decide +kernel))) (goodIn_sub (fun _ h => List.mem_append_left _ (List.mem_append_left _ (List.mem_append_right _ h))) (by decide +kernel))
set_option maxRecDepth 20000 in
theorem gL_law_L_engage : GoodIn wsL_law (va_wsS RL 208 yL_engage wsL_engage) := goodIn_app (goodIn_of _ (by decide +kernel)) ggL_law_L_engage
set_option maxRecDepth 20000 in
theorem ggL_law_X14_engage : GoodIn wsL_law wsX14_engage := goodIn_r _ [906, 96, 95, 313, 751, 907, 261, 262, 5, 263, 264, 265, 145, 91, 147, 148, 266, 267, 268, 269, 270, 137, 138, 139, 140, 141, 142, 143, 97, 271, 272, 273, 274, 275, 276, 277, 278, 279, 280, 281, 282, 283, 284, 285, 286, 102, 908, 909, 910, 911, 882, 508, 912, 913, 914, 915, 314, 750, 92, 259, 406, 916, 315, 316, 317, 318, 319, 320, 321, 322, 323, 324, 325, 326, 12, 13, 327, 328, 165, 329, 330, 331, 332, 333, 334, 335, 336, 337, 338, 339, 340, 341, 342, 343, 344, 345, 346, 347, 348, 349, 350, 351, 352, 353, 354, 355, 356, 357, 358, 359, 754, 380, 381, 293, 382, 302, 917, 918, 919, 845, 920, 851, 921, 922, 736, 180, 737, 923, 924, 925, 926, 215, 216, 217, 218, 1725, 1726, 1727, 1728, 1729, 1730, 1796, 1797, 1798, 1799, 1800, 1801, 1802, 1803, 1804, 1805, 1806, 1807, 1781, 1782, 1783, 1793, 1794, 1784, 1785, 1786, 1787, 1788, 1828, 1829, 1830, 1808, 1809, 1810, 1811, 1812, 1813, 1814, 1815, 1795] (by decide +kernel) (by decide +kernel)
set_option maxRecDepth 20000 in
theorem gL_law_X14_engage : GoodIn wsL_law (wsV RL 210 RX14 yX14_engage wsX14_engage) := goodIn_app (goodIn_of _ (by decide +kernel)) ggL_law_X14_engage
set_option maxRecDepth 20000 in
theorem ggL_law_L_cancelGuest : GoodIn wsL_law wsL_cancelGuest := goodIn_ca (goodIn_ca (goodIn_ca (goodIn_r _ [929, 226, 930, 931, 932, 2, 933, 934, 935, 715, 716, 717, 718, 21, 719, 720, 721, 722, 250, 241, 242, 243, 244, 245, 936, 937, 938, 939, 23, 838, 895, 896, 897, 898, 15, 891, 892, 893, 894, 870, 41, 871, 872, 873, 84, 874, 736, 180, 737, 899, 900, 901, 902, 940, 941, 942, 943, 944, 945, 946, 947, 251, 39, 252, 253, 254, 79, 497, 498, 499, 948, 26, 949, 950, 951, 952, 953, 954, 955, 1762, 1763, 1764, 1765, 1766, 1767, 1768, 1769, 1770, 1771, 1772, 1773, 1774, 1775, 1776, 1713, 1714, 1715, 1716, 1717, 1718, 1719, 1720, 1721, 1722, 1723, 1724, 1777, 1778, 1779, 1780, 1743, 1744, 1745, 1746, 1747, 1748, 1749, 1750, 1751] (by decide +kernel) (by decide +kernel)) (goodIn_sub (fun _ h => List.mem_append_left _ (List.mem_append_left _ (List.mem_append_left _ (List.mem_append_left _ (List.mem_append_left _ (List.mem_append_left _ (List.mem_append_right _ h))))))) (by decide +kernel))) (goodIn_sub (fun _ h => List.mem_append_left _ (List.mem_append_right _ h)) (by decide +kernel))) (goodIn_sub (fun _ h => List.mem_append_left _ (List.mem_append_left _ (List.mem_append_right _ h))) (by decide +kernel))
set_option maxRecDepth 20000 in
theorem gL_law_L_cancelGuest : GoodIn wsL_law (va_wsS RL 211 yL_cancelGuest wsL_cancelGuest) := goodIn_app (goodIn_of _ (by decide +kernel)) ggL_law_L_cancelGuest
set_option maxRecDepth 20000 in
theorem ggL_law_X14_cancelGuest : GoodIn wsL_law wsX14_cancelGuest := goodIn_r _ [959, 96, 313, 907, 95, 882, 960, 314, 750, 92, 259, 406, 961, 261, 262, 5, 263, 264, 265, 145, 91, 147, 148, 266, 267, 268, 269, 270, 137, 138, 139, 140, 141, 142, 143, 97, 271, 272, 273, 274, 275, 276, 277, 278, 279, 280, 281, 282, 283, 284, 285, 286, 102, 912, 913, 914, 915, 916, 315, 316, 317, 318, 319, 320, 321, 322, 323, 324, 325, 326, 12, 13, 327, 328, 165, 329, 330, 331, 332, 333, 334, 335, 336, 337, 338, 339, 340, 341, 342, 343, 344, 345, 346, 347, 348, 349, 350, 351, 352, 353, 354, 355, 356, 357, 358, 359, 754, 380, 381, 293, 382, 302, 144, 146, 908, 909, 910, 911, 508, 917, 918, 919, 845, 920, 851, 921, 922, 736, 180, 737, 923, 924, 925, 926, 215, 216, 217, 218, 1725, 1726, 1727, 1728, 1729, 1730, 1796, 1797, 1798, 1799, 1800, 1801, 1802, 1803, 1804, 1805, 1806, 1807, 1828, 1829, 1830, 1784, 1785, 1786, 1787, 1788, 1781, 1782, 1783, 1793, 1794, 1808, 1809, 1810, 1811, 1812, 1813, 1814, 1815, 1795] (by decide +kernel) (by decide +kernel)
set_option maxRecDepth 20000 in
theorem gL_law_X14_cancelGuest : GoodIn wsL_law (wsV RL 214 RX14 yX14_cancelGuest wsX14_cancelGuest) := goodIn_app (goodIn_of _ (by decide +kernel)) ggL_law_X14_cancelGuest
set_option maxRecDepth 20000 in
theorem ggL_law_L_guestOf : GoodIn wsL_law wsL_guestOf := goodIn_ca (goodIn_ca (goodIn_ca (goodIn_r _ [964, 226, 965, 966, 967, 2, 968, 934, 935, 715, 716, 717, 718, 21, 719, 720, 721, 722, 250, 241, 242, 243, 244, 245, 1762, 1763, 1764, 1765, 1766, 1767, 1768, 1769, 1770, 1771, 1772, 1773, 1774, 1775, 1776, 1713, 1714, 1715, 1716, 1717, 1718, 1719, 1720, 1721, 1722, 1723, 1724] (by decide +kernel) (by decide +kernel)) (goodIn_sub (fun _ h => List.mem_append_left _ (List.mem_append_left _ (List.mem_append_left _ (List.mem_append_left _ (List.mem_append_left _ (List.mem_append_left _ (List.mem_append_right _ h))))))) (by decide +kernel))) (goodIn_sub (fun _ h => List.mem_append_left _ (List.mem_append_right _ h)) (by decide +kernel))) (goodIn_sub (fun _ h => List.mem_append_left _ (List.mem_append_left _ (List.mem_append_right _ h))) (by decide +kernel))
set_option maxRecDepth 20000 in
theorem gL_law_L_guestOf : GoodIn wsL_law (va_wsS RL 215 yL_guestOf wsL_guestOf) := goodIn_app (goodIn_of _ (by decide +kernel)) ggL_law_L_guestOf
set_option maxRecDepth 20000 in
theorem ggL_law_X14_guestOf : GoodIn wsL_law wsX14_guestOf := goodIn_r _ [972, 96, 313, 907, 261, 262, 5, 263, 264, 265, 145, 91, 147, 148, 266, 267, 268, 269, 270, 137, 138, 139, 140, 141, 142, 143, 97, 271, 272, 273, 274, 275, 276, 277, 278, 279, 280, 281, 282, 283, 284, 285, 286, 102, 215, 216, 217, 218, 1725, 1726, 1727, 1728, 1729, 1730, 1796, 1797, 1798, 1799, 1800, 1801, 1802, 1803, 1804, 1805, 1806, 1807, 1781, 1782, 1783, 1793, 1794] (by decide +kernel) (by decide +kernel)
set_option maxRecDepth 20000 in
theorem gL_law_X14_guestOf : GoodIn wsL_law (wsV RL 217 RX14 yX14_guestOf wsX14_guestOf) := goodIn_app (goodIn_of _ (by decide +kernel)) ggL_law_X14_guestOf
set_option maxRecDepth 20000 in
theorem ggL_law_L_book : GoodIn wsL_law wsL_book := goodIn_ca (goodIn_ca (goodIn_ca (goodIn_r _ [975, 226, 976, 977, 978, 2, 979, 231, 232, 715, 716, 717, 718, 21, 719, 720, 721, 722, 250, 241, 242, 243, 244, 245, 980, 981, 982, 983, 458, 27, 15, 17, 984, 985, 39, 986, 987, 988, 989, 990, 991, 992, 993, 497, 498, 499, 994, 995, 996, 997, 998, 35, 999, 1000, 503, 68, 69, 1001, 1002, 1003, 1004, 1005, 1006, 1007, 1008, 1009, 1010, 1011, 1012, 1013, 1014, 1015, 597, 598, 599, 1016, 594, 595, 596, 435, 33, 436, 437, 421, 63, 64, 438, 1017, 1018, 1019, 1020, 23, 1021, 1022, 1023, 1024, 1025, 26, 1026, 1027, 51, 1028, 1029, 1030, 1031, 1032, 1033, 1034, 50, 48, 49, 1035, 1036, 1037, 1038, 1039, 1040, 1041, 1042, 47, 1043, 1044, 1045, 1046, 46, 1047, 1048, 1049, 1050, 1051, 953, 954, 955, 1052, 1053, 1054, 1055, 1056, 1057, 180, 1058, 1059, 1060, 1061, 80, 79, 948, 949, 950, 951, 952, 1062, 1063, 1064, 1065, 1066, 1067, 1068, 1069, 1070, 1071, 1072, 62, 1762, 1763, 1764, 1765, 1766, 1767, 1768, 1769, 1770, 1771, 1772, 1773, 1774, 1775, 1776, 1713, 1714, 1715, 1716, 1717, 1718, 1719, 1720, 1721, 1722, 1723, 1724, 1731, 1732, 1733, 1734, 1735, 1736, 1737, 1743, 1744, 1745, 1746, 1747, 1748, 1749, 1750, 1751, 1752, 1753, 1754, 1755, 1756, 1757, 1758, 1777, 1778, 1779, 1780] (by decide +kernel) (by decide +kernel)) (goodIn_sub (fun _ h => List.mem_append_left _ (List.mem_append_left _ (List.mem_append_left _ (List.mem_append_left _ (List.mem_append_left _ (List.mem_append_left _ (List.mem_append_right _ h))))))) (by decide +kernel))) (goodIn_sub (fun _ h => List.mem_append_left _ (List.mem_append_left _ (List.mem_append_left _ (List.mem_append_right _ h)))) (by decide +kernel))) (goodIn_sub (fun _ h => List.mem_append_left _ (List.mem_append_left _ (List.mem_append_right _ h))) (by decide +kernel))
set_option maxRecDepth 20000 in
theorem gL_law_L_book : GoodIn wsL_law (va_wsS RL 218 yL_book wsL_book) := goodIn_app (goodIn_of _ (by decide +kernel)) ggL_law_L_book
set_option maxRecDepth 20000 in
theorem ggL_law_X14_book : GoodIn wsL_law wsX14_book := goodIn_ca (goodIn_r _ [1076, 96, 313, 751, 261, 262, 5, 263, 264, 265, 145, 91, 147, 148, 266, 267, 268, 269, 270, 137, 138, 139, 140, 141, 142, 143, 97, 271, 272, 273, 274, 275, 276, 277, 278, 279, 280, 281, 282, 283, 284, 285, 286, 102, 1077, 1078, 1079, 1080, 472, 314, 750, 92, 259, 406, 907, 95, 882, 916, 508, 45, 93, 1081, 509, 529, 1082, 1083, 1084, 1085, 961, 1086, 1087, 1088, 514, 1089, 516, 1090, 1091, 197, 1092, 315, 316, 317, 318, 319, 320, 321, 322, 323, 324, 325, 326, 12, 13, 327, 328, 165, 329, 330, 331, 332, 333, 334, 335, 336, 337, 338, 339, 340, 341, 342, 343, 344, 345, 346, 347, 348, 349, 350, 351, 352, 353, 354, 355, 356, 357, 358, 359, 754, 380, 381, 293, 382, 302, 443, 444, 445, 136, 446, 158, 155, 447, 448, 449, 450, 144, 146, 1093, 1094, 1095, 1096, 1097, 1098, 1099, 465, 1100, 471, 1101, 1102, 1103, 1104, 1105, 1106, 1107, 1108, 89, 90, 98, 99, 100, 101, 103, 104, 105, 106, 107, 108, 109, 110, 111, 112, 511, 512, 513, 515, 517, 160, 161, 162, 163, 164, 166, 167, 168, 169, 170, 171, 172, 173, 174, 175, 176, 177, 178, 179, 180, 181, 182, 183, 184, 185, 186, 187, 188, 189, 190, 191, 192, 193, 194, 195, 196, 198, 199, 200, 201, 202, 203, 204, 205, 206, 207, 208, 209, 210, 211, 212, 213, 214, 1109, 1110, 1111, 1112, 770, 1113, 1114, 1115, 1116, 1117, 606, 1118, 1119, 781, 782, 783, 784, 766, 785, 786, 787, 788, 789, 790, 791, 792, 793, 794, 795, 687, 688, 689, 690, 691, 692, 287, 288, 289, 290, 154, 153, 159, 291, 292, 294, 295, 296, 297, 298, 299, 300, 301, 303, 304, 305, 306, 307, 308, 1120, 1121, 1122, 1123, 1124, 1125, 1126, 1127, 1128, 1129, 1130, 1131, 1132, 1133, 1134, 1135, 1136, 1137, 1138, 1139, 1140, 1141, 1142, 1143, 1144, 1145, 1146, 1147, 1148, 1149, 1150, 1151, 1152, 1153, 1154, 1155, 1156, 1157, 1158, 1159, 1160, 1161, 1162, 1163, 1164, 1165, 1166, 1167, 1168, 1169, 1170, 1171, 1172, 1173, 1174, 1175, 1176, 1177, 1178, 1179, 385, 1180, 1181, 1182, 390, 617, 618, 619, 620, 388, 389, 1183, 1184, 393, 1185, 1186, 1187, 1188, 1189, 1190, 1191, 1192, 1193, 1194, 1195, 1196, 1197, 1198, 1199, 1200, 1201, 1202, 1203, 1204, 1205, 1206, 1207, 1208, 1209, 642, 1210, 666, 667, 668, 669, 670, 671, 653, 654, 655, 1211, 1212, 374, 375, 376, 377, 378, 379, 383, 384, 386, 387, 391, 392, 394, 1213, 1214, 1215, 1216, 1217, 1218, 1219, 1220, 1221, 1222, 1223, 1224, 1225, 1226, 1227, 1228, 1229, 1230, 1231, 1232, 1233, 1234, 1235, 1236, 1237, 1238, 1239, 1240, 1241, 1242, 1243, 1244, 1245, 1246, 1247, 1248, 1249, 1250, 1251, 1252, 474, 475, 1253, 1254, 1255, 1256, 1257, 1258, 1259, 1260, 1261, 1262, 1263, 1264, 1265, 1266, 1267, 1268, 1269, 1270, 1271, 1272, 1273, 1274, 1275, 1276, 1277, 1278, 1279, 1280, 1281, 1282, 1283, 1284, 1285, 1286, 1287, 1288, 1289, 1290, 1291, 1292, 1293, 1294, 1295, 1296, 1297, 1298, 1299, 1300, 1301, 1302, 1303, 1304, 1305, 1306, 1307, 1308, 1309, 1310, 1311, 1312, 1313, 1314, 1315, 1316, 1317, 1318, 1319, 1320, 1321, 1322, 1323, 1324, 1325, 1326, 1327, 1328, 1329, 1330, 1331, 1332, 1333, 1334, 1335, 1336, 1337, 1338, 1339, 1340, 1341, 1342, 1343, 1344, 1345, 1346, 1347, 1348, 1349, 1350, 1351, 1352, 1353, 1354, 1355, 1356, 1357, 1358, 1359, 1360, 1361, 1362, 1363, 1364, 1365, 1366, 1367, 1368, 960, 1369, 1370, 215, 216, 217, 218, 1725, 1726, 1727, 1728, 1729, 1730, 1796, 1797, 1798, 1799, 1800, 1801, 1802, 1803, 1804, 1805, 1806, 1807, 1781, 1782, 1783, 1793, 1794, 1784, 1785, 1786, 1787, 1788, 1828, 1829, 1830, 1820, 1821, 1822, 1823, 1824, 1831, 1832, 1833, 1834, 1835, 1836, 1808, 1809, 1810, 1811, 1812, 1813, 1814, 1815, 1795, 1789, 1790, 1791, 1792, 1837, 1838, 1839, 1840, 1841, 1842, 1843, 1844, 1845, 1846, 1847, 1848, 1849, 1850, 1851, 1852, 1853, 1854, 1855, 1856, 1857, 1858, 1859, 1816, 1817, 1818, 1819] (by decide +kernel) (by decide +kernel)) (goodIn_sub (fun _ h => List.mem_append_left _ (List.mem_append_left _ (List.mem_append_left _ (List.mem_append_left _ (List.mem_append_left _ (List.mem_append_left _ (List.mem_append_right _ h))))))) (by decide +kernel))
set_option maxRecDepth 20000 in
theorem gL_law_X14_book : GoodIn wsL_law (wsV RL 220 RX14 yX14_book wsX14_book) := goodIn_app (goodIn_of _ (by decide +kernel)) ggL_law_X14_book
set_option maxRecDepth 20000 in
theorem ggL_law_L_unbook : GoodIn wsL_law wsL_unbook := goodIn_ca (goodIn_ca (goodIn_ca (goodIn_r _ [1373, 226, 1374, 1375, 1376, 2, 1377, 231, 232, 715, 716, 717, 718, 21, 719, 720, 721, 722, 250, 241, 242, 243, 244, 245, 1062, 1063, 1064, 1065, 23, 458, 17, 15, 497, 498, 499, 1066, 1067, 1068, 1069, 951, 26, 952, 953, 954, 955, 1070, 33, 1071, 1072, 62, 985, 39, 986, 987, 988, 989, 1762, 1763, 1764, 1765, 1766, 1767, 1768, 1769, 1770, 1771, 1772, 1773, 1774, 1775, 1776, 1713, 1714, 1715, 1716, 1717, 1718, 1719, 1720, 1721, 1722, 1723, 1724, 1777, 1778, 1779, 1780, 1752, 1753, 1754, 1755, 1756, 1757, 1758, 1743, 1744, 1745, 1746, 1747, 1748, 1749, 1750, 1751] (by decide +kernel) (by decide +kernel)) (goodIn_sub (fun _ h => List.mem_append_left _ (List.mem_append_left _ (List.mem_append_left _ (List.mem_append_left _ (List.mem_append_left _ (List.mem_append_left _ (List.mem_append_right _ h))))))) (by decide +kernel))) (goodIn_sub (fun _ h => List.mem_append_left _ (List.mem_append_left _ (List.mem_append_left _ (List.mem_append_right _ h)))) (by decide +kernel))) (goodIn_sub (fun _ h => List.mem_append_left _ (List.mem_append_left _ (List.mem_append_right _ h))) (by decide +kernel))
set_option maxRecDepth 20000 in
theorem gL_law_L_unbook : GoodIn wsL_law (va_wsS RL 221 yL_unbook wsL_unbook) := goodIn_app (goodIn_of _ (by decide +kernel)) ggL_law_L_unbook
set_option maxRecDepth 20000 in
theorem ggL_law_X14_unbook : GoodIn wsL_law wsX14_unbook := goodIn_ca (goodIn_r _ [1381, 96, 313, 751, 1382, 1081, 261, 262, 5, 263, 264, 265, 145, 91, 147, 148, 266, 267, 268, 269, 270, 137, 138, 139, 140, 141, 142, 143, 97, 271, 272, 273, 274, 275, 276, 277, 278, 279, 280, 281, 282, 283, 284, 285, 286, 102, 1365, 1366, 1367, 1368, 907, 95, 882, 960, 93, 509, 1082, 92, 961, 1369, 259, 750, 144, 146, 511, 512, 513, 514, 515, 516, 517, 287, 288, 289, 136, 290, 154, 90, 153, 159, 99, 100, 101, 103, 104, 105, 106, 107, 108, 109, 110, 111, 112, 12, 13, 291, 292, 293, 294, 295, 296, 297, 298, 299, 300, 301, 302, 303, 304, 305, 306, 307, 308, 161, 162, 163, 164, 165, 166, 167, 168, 169, 170, 171, 172, 173, 174, 175, 176, 177, 178, 179, 180, 181, 182, 183, 184, 185, 186, 187, 188, 189, 190, 191, 192, 193, 194, 195, 196, 197, 198, 199, 200, 201, 202, 203, 204, 205, 206, 207, 208, 209, 210, 211, 212, 213, 214, 1370, 355, 356, 357, 358, 359, 754, 380, 381, 382, 1086, 1087, 1088, 1089, 1090, 1091, 1092, 1383, 1384, 1385, 215, 216, 217, 218, 1725, 1726, 1727, 1728, 1729, 1730, 1796, 1797, 1798, 1799, 1800, 1801, 1802, 1803, 1804, 1805, 1806, 1807, 1781, 1782, 1783, 1793, 1794, 1828, 1829, 1830, 1820, 1821, 1822, 1823, 1824, 1784, 1785, 1786, 1787, 1788, 1795, 1789, 1790, 1791, 1792] (by decide +kernel) (by decide +kernel)) (goodIn_sub (fun _ h => List.mem_append_left _ (List.mem_append_left _ (List.mem_append_left _ (List.mem_append_left _ (List.mem_append_left _ (List.mem_append_left _ (List.mem_append_right _ h))))))) (by decide +kernel))
set_option maxRecDepth 20000 in
theorem gL_law_X14_unbook : GoodIn wsL_law (wsV RL 223 RX14 yX14_unbook wsX14_unbook) := goodIn_app (goodIn_of _ (by decide +kernel)) ggL_law_X14_unbook
set_option maxRecDepth 20000 in
theorem ggL_law_L_isBooked : GoodIn wsL_law wsL_isBooked := goodIn_ca (goodIn_ca (goodIn_r _ [1388, 226, 1389, 1390, 1391, 2, 1392, 715, 716, 717, 718, 21, 719, 720, 721, 722, 250, 241, 242, 243, 244, 245, 1762, 1763, 1764, 1765, 1766, 1767, 1768, 1769, 1770, 1771, 1772, 1773, 1774, 1775, 1776, 1713, 1714, 1715, 1716, 1717, 1718, 1719, 1720, 1721, 1722, 1723, 1724] (by decide +kernel) (by decide +kernel)) (goodIn_sub (fun _ h => List.mem_append_left _ (List.mem_append_left _ (List.mem_append_left _ (List.mem_append_left _ (List.mem_append_left _ (List.mem_append_left _ (List.mem_append_right _ h))))))) (by decide +kernel))) (goodIn_sub (fun _ h => List.mem_append_left _ (List.mem_append_left _ (List.mem_append_right _ h))) (by decide +kernel))
set_option maxRecDepth 20000 in
theorem gL_law_L_isBooked : GoodIn wsL_law (va_wsS RL 224 yL_isBooked wsL_isBooked) := goodIn_app (goodIn_of _ (by decide +kernel)) ggL_law_L_isBooked
set_option maxRecDepth 20000 in
theorem ggL_law_X14_isBooked : GoodIn wsL_law wsX14_isBooked := goodIn_r _ [1396, 96, 313, 751, 261, 262, 5, 263, 264, 265, 145, 91, 147, 148, 266, 267, 268, 269, 270, 137, 138, 139, 407, 408, 409, 410, 97, 271, 272, 273, 274, 275, 276, 277, 278, 279, 280, 281, 282, 283, 284, 285, 286, 102, 1725, 1726, 1727, 1728, 1729, 1730, 1796, 1797, 1798, 1799, 1800, 1801, 1802, 1803, 1804, 1805, 1806, 1807, 1781, 1782, 1783, 1793, 1794] (by decide +kernel) (by decide +kernel)
set_option maxRecDepth 20000 in
theorem gL_law_X14_isBooked : GoodIn wsL_law (wsV RL 226 RX14 yX14_isBooked wsX14_isBooked) := goodIn_app (goodIn_of _ (by decide +kernel)) ggL_law_X14_isBooked
set_option maxRecDepth 20000 in
theorem ggL_law_L_away : GoodIn wsL_law wsL_away := goodIn_ca (goodIn_ca (goodIn_ca (goodIn_r _ [1399, 226, 1400, 1401, 1402, 2, 1403, 231, 232, 715, 716, 717, 718, 21, 719, 720, 721, 722, 250, 241, 242, 243, 244, 245, 489, 490, 491, 492, 458, 497, 498, 499, 980, 981, 982, 983, 27, 15, 17, 984, 985, 39, 986, 987, 988, 989, 990, 991, 992, 993, 994, 995, 996, 997, 998, 35, 999, 1000, 503, 68, 69, 1001, 1002, 1003, 1004, 1005, 1006, 1007, 1008, 1009, 1010, 1011, 1012, 1013, 1014, 1015, 597, 598, 599, 1016, 594, 595, 596, 435, 33, 436, 437, 421, 63, 64, 438, 1017, 1018, 1019, 1020, 23, 1021, 1022, 1023, 1024, 1025, 26, 1026, 1027, 51, 1028, 1029, 1030, 1031, 1032, 1033, 1034, 50, 48, 49, 1035, 1036, 1037, 1038, 1039, 1040, 1041, 1042, 47, 1043, 1044, 1045, 1046, 46, 1047, 1048, 1049, 1050, 1051, 953, 954, 955, 1052, 1053, 1054, 1055, 1056, 1057, 180, 1058, 1059, 1060, 1061, 80, 79, 948, 949, 950, 951, 952, 1762, 1763, 1764, 1765, 1766, 1767, 1768, 1769, 1770, 1771, 1772, 1773, 1774, 1775, 1776, 1713, 1714, 1715, 1716, 1717, 1718, 1719, 1720, 1721, 1722, 1723, 1724, 1731, 1732, 1733, 1734, 1735, 1736, 1737, 1743, 1744, 1745, 1746, 1747, 1748, 1749, 1750, 1751, 1752, 1753, 1754, 1755, 1756, 1757, 1758, 1777, 1778, 1779, 1780] (by decide +kernel) (by decide +kernel)) (goodIn_sub (fun _ h => List.mem_append_left _ (List.mem_append_left _ (List.mem_append_left _ (List.mem_append_left _ (List.mem_append_left _ (List.mem_append_left _ (List.mem_append_right _ h))))))) (by decide +kernel))) (goodIn_sub (fun _ h => List.mem_append_left _ (List.mem_append_left _ (List.mem_append_left _ (List.mem_append_right _ h)))) (by decide +kernel))) (goodIn_sub (fun _ h => List.mem_append_left _ (List.mem_append_left _ (List.mem_append_right _ h))) (by decide +kernel))
set_option maxRecDepth 20000 in
theorem gL_law_L_away : GoodIn wsL_law (va_wsS RL 227 yL_away wsL_away) := goodIn_app (goodIn_of _ (by decide +kernel)) ggL_law_L_away
set_option maxRecDepth 20000 in
theorem ggL_law_X14_away : GoodIn wsL_law wsX14_away := goodIn_ca (goodIn_r _ [1407, 96, 93, 313, 751, 1081, 261, 262, 5, 263, 264, 265, 145, 91, 147, 148, 266, 267, 268, 269, 270, 137, 138, 139, 140, 141, 142, 143, 97, 271, 272, 273, 274, 275, 276, 277, 278, 279, 280, 281, 282, 283, 284, 285, 286, 102, 1077, 1078, 1079, 1080, 472, 314, 750, 92, 259, 406, 907, 95, 882, 916, 508, 45, 509, 529, 1082, 1083, 1084, 1085, 961, 1086, 1087, 1088, 514, 1089, 516, 1090, 1091, 197, 1092, 315, 316, 317, 318, 319, 320, 321, 322, 323, 324, 325, 326, 12, 13, 327, 328, 165, 329, 330, 331, 332, 333, 334, 335, 336, 337, 338, 339, 340, 341, 342, 343, 344, 345, 346, 347, 348, 349, 350, 351, 352, 353, 354, 355, 356, 357, 358, 359, 754, 380, 381, 293, 382, 302, 443, 444, 445, 136, 446, 158, 155, 447, 448, 449, 450, 144, 146, 1093, 1094, 1095, 1096, 1097, 1098, 1099, 465, 1100, 471, 1101, 1102, 1103, 1104, 1105, 1106, 1107, 1108, 89, 90, 98, 99, 100, 101, 103, 104, 105, 106, 107, 108, 109, 110, 111, 112, 511, 512, 513, 515, 517, 160, 161, 162, 163, 164, 166, 167, 168, 169, 170, 171, 172, 173, 174, 175, 176, 177, 178, 179, 180, 181, 182, 183, 184, 185, 186, 187, 188, 189, 190, 191, 192, 193, 194, 195, 196, 198, 199, 200, 201, 202, 203, 204, 205, 206, 207, 208, 209, 210, 211, 212, 213, 214, 1109, 1110, 1111, 1112, 770, 1113, 1114, 1115, 1116, 1117, 606, 1118, 1119, 781, 782, 783, 784, 766, 785, 786, 787, 788, 789, 790, 791, 792, 793, 794, 795, 687, 688, 689, 690, 691, 692, 287, 288, 289, 290, 154, 153, 159, 291, 292, 294, 295, 296, 297, 298, 299, 300, 301, 303, 304, 305, 306, 307, 308, 1120, 1121, 1122, 1123, 1124, 1125, 1126, 1127, 1128, 1129, 1130, 1131, 1132, 1133, 1134, 1135, 1136, 1137, 1138, 1139, 1140, 1141, 1142, 1143, 1144, 1145, 1146, 1147, 1148, 1149, 1150, 1151, 1152, 1153, 1154, 1155, 1156, 1157, 1158, 1159, 1160, 1161, 1162, 1163, 1164, 1165, 1166, 1167, 1168, 1169, 1170, 1171, 1172, 1173, 1174, 1175, 1176, 1177, 1178, 1179, 385, 1180, 1181, 1182, 390, 617, 618, 619, 620, 388, 389, 1183, 1184, 393, 1185, 1186, 1187, 1188, 1189, 1190, 1191, 1192, 1193, 1194, 1195, 1196, 1197, 1198, 1199, 1200, 1201, 1202, 1203, 1204, 1205, 1206, 1207, 1208, 1209, 642, 1210, 666, 667, 668, 669, 670, 671, 653, 654, 655, 1211, 1212, 374, 375, 376, 377, 378, 379, 383, 384, 386, 387, 391, 392, 394, 1213, 1214, 1215, 1216, 1217, 1218, 1219, 1220, 1221, 1222, 1223, 1224, 1225, 1226, 1227, 1228, 1229, 1230, 1231, 1232, 1233, 1234, 1235, 1236, 1237, 1238, 1239, 1240, 1241, 1242, 1243, 1244, 1245, 1246, 1247, 1248, 1249, 1250, 1251, 1252, 474, 475, 1253, 1254, 1255, 1256, 1257, 1258, 1259, 1260, 1261, 1262, 1263, 1264, 1265, 1266, 1267, 1268, 1269, 1270, 1271, 1272, 1273, 1274, 1275, 1276, 1277, 1278, 1279, 1280, 1281, 1282, 1283, 1284, 1285, 1286, 1287, 1288, 1289, 1290, 1291, 1292, 1293, 1294, 1295, 1296, 1297, 1298, 1299, 1300, 1301, 1302, 1303, 1304, 1305, 1306, 1307, 1308, 1309, 1310, 1311, 1312, 1313, 1314, 1315, 1316, 1317, 1318, 1319, 1320, 1321, 1322, 1323, 1324, 1325, 1326, 1327, 1328, 1329, 1330, 1331, 1332, 1333, 1334, 1335, 1336, 1337, 1338, 1339, 1340, 1341, 1342, 1343, 1344, 1345, 1346, 1347, 1348, 1349, 1350, 1351, 1352, 1353, 1354, 1355, 1356, 1357, 1358, 1359, 1360, 1361, 1362, 1363, 1364, 1408, 1409, 1410, 1411, 215, 216, 217, 218, 1725, 1726, 1727, 1728, 1729, 1730, 1796, 1797, 1798, 1799, 1800, 1801, 1802, 1803, 1804, 1805, 1806, 1807, 1781, 1782, 1783, 1793, 1794, 1784, 1785, 1786, 1787, 1788, 1828, 1829, 1830, 1820, 1821, 1822, 1823, 1824, 1831, 1832, 1833, 1834, 1835, 1836, 1808, 1809, 1810, 1811, 1812, 1813, 1814, 1815, 1795, 1789, 1790, 1791, 1792, 1837, 1838, 1839, 1840, 1841, 1842, 1843, 1844, 1845, 1846, 1847, 1848, 1849, 1850, 1851, 1852, 1853, 1854, 1855, 1856, 1857, 1858, 1859, 1816, 1817, 1818, 1819] (by decide +kernel) (by decide +kernel)) (goodIn_sub (fun _ h => List.mem_append_left _ (List.mem_append_left _ (List.mem_append_left _ (List.mem_append_left _ (List.mem_append_left _ (List.mem_append_left _ (List.mem_append_right _ h))))))) (by decide +kernel))
set_option maxRecDepth 20000 in
theorem gL_law_X14_away : GoodIn wsL_law (wsV RL 229 RX14 yX14_away wsX14_away) := goodIn_app (goodIn_of _ (by decide +kernel)) ggL_law_X14_away
set_option maxRecDepth 20000 in
theorem ggL_law_L_stands : GoodIn wsL_law wsL_stands := goodIn_ca (goodIn_ca (goodIn_r _ [1414, 226, 1415, 1416, 1417, 2, 1418, 715, 716, 717, 718, 21, 719, 720, 721, 722, 250, 241, 242, 243, 244, 245, 237, 238, 239, 240, 124, 497, 498, 499, 1762, 1763, 1764, 1765, 1766, 1767, 1768, 1769, 1770, 1771, 1772, 1773, 1774, 1775, 1776, 1713, 1714, 1715, 1716, 1717, 1718, 1719, 1720, 1721, 1722, 1723, 1724] (by decide +kernel) (by decide +kernel)) (goodIn_sub (fun _ h => List.mem_append_left _ (List.mem_append_left _ (List.mem_append_left _ (List.mem_append_left _ (List.mem_append_left _ (List.mem_append_left _ (List.mem_append_right _ h))))))) (by decide +kernel))) (goodIn_sub (fun _ h => List.mem_append_left _ (List.mem_append_left _ (List.mem_append_right _ h))) (by decide +kernel))
set_option maxRecDepth 20000 in
theorem gL_law_L_stands : GoodIn wsL_law (va_wsS RL 230 yL_stands wsL_stands) := goodIn_app (goodIn_of _ (by decide +kernel)) ggL_law_L_stands
set_option maxRecDepth 20000 in
theorem ggL_law_X14_stands : GoodIn wsL_law wsX14_stands := goodIn_r _ [1422, 96, 92, 313, 261, 262, 5, 263, 264, 265, 145, 91, 147, 148, 266, 267, 268, 269, 270, 137, 138, 139, 407, 408, 409, 410, 97, 271, 272, 273, 274, 275, 276, 277, 278, 279, 280, 281, 282, 283, 284, 285, 286, 102, 1408, 1409, 1410, 1411, 751, 961, 144, 146, 1725, 1726, 1727, 1728, 1729, 1730, 1781, 1782, 1783, 1793, 1794, 1796, 1797, 1798, 1799, 1800, 1801, 1802, 1803, 1804, 1805, 1806, 1807] (by decide +kernel) (by decide +kernel)
set_option maxRecDepth 20000 in
theorem gL_law_X14_stands : GoodIn wsL_law (wsV RL 232 RX14 yX14_stands wsX14_stands) := goodIn_app (goodIn_of _ (by decide +kernel)) ggL_law_X14_stands
set_option maxRecDepth 20000 in
theorem ggL_law_L_castAt : GoodIn wsL_law wsL_castAt := goodIn_ca (goodIn_ca (goodIn_ca (goodIn_r _ [1425, 226, 1426, 1427, 1428, 2, 1429, 934, 935, 715, 716, 717, 718, 21, 719, 720, 721, 722, 250, 241, 242, 243, 244, 245, 233, 234, 235, 236, 15, 237, 238, 239, 240, 124, 251, 39, 252, 253, 254, 79, 497, 498, 499, 951, 26, 952, 953, 954, 955, 1762, 1763, 1764, 1765, 1766, 1767, 1768, 1769, 1770, 1771, 1772, 1773, 1774, 1775, 1776, 1743, 1744, 1745, 1746, 1747, 1748, 1749, 1750, 1751, 1713, 1714, 1715, 1716, 1717, 1718, 1719, 1720, 1721, 1722, 1723, 1724] (by decide +kernel) (by decide +kernel)) (goodIn_sub (fun _ h => List.mem_append_left _ (List.mem_append_left _ (List.mem_append_left _ (List.mem_append_left _ (List.mem_append_left _ (List.mem_append_left _ (List.mem_append_right _ h))))))) (by decide +kernel))) (goodIn_sub (fun _ h => List.mem_append_left _ (List.mem_append_right _ h)) (by decide +kernel))) (goodIn_sub (fun _ h => List.mem_append_left _ (List.mem_append_left _ (List.mem_append_right _ h))) (by decide +kernel))
set_option maxRecDepth 20000 in
theorem gL_law_L_castAt : GoodIn wsL_law (va_wsS RL 233 yL_castAt wsL_castAt) := goodIn_app (goodIn_of _ (by decide +kernel)) ggL_law_L_castAt
set_option maxRecDepth 20000 in
theorem ggL_law_X14_castAt : GoodIn wsL_law wsX14_castAt := goodIn_ca (goodIn_r _ [1433, 96, 92, 313, 751, 961, 261, 262, 5, 263, 264, 265, 145, 91, 147, 148, 266, 267, 268, 269, 270, 137, 138, 139, 140, 141, 142, 143, 97, 271, 272, 273, 274, 275, 276, 277, 278, 279, 280, 281, 282, 283, 284, 285, 286, 102, 215, 216, 217, 218, 1725, 1726, 1727, 1728, 1729, 1730, 1796, 1797, 1798, 1799, 1800, 1801, 1802, 1803, 1804, 1805, 1806, 1807, 1781, 1782, 1783, 1793, 1794] (by decide +kernel) (by decide +kernel)) (goodIn_sub (fun _ h => List.mem_append_left _ (List.mem_append_left _ (List.mem_append_left _ (List.mem_append_left _ (List.mem_append_left _ (List.mem_append_left _ (List.mem_append_right _ h))))))) (by decide +kernel))
set_option maxRecDepth 20000 in
theorem gL_law_X14_castAt : GoodIn wsL_law (wsV RL 235 RX14 yX14_castAt wsX14_castAt) := goodIn_app (goodIn_of _ (by decide +kernel)) ggL_law_X14_castAt
set_option maxRecDepth 20000 in
theorem ggL_law_L_cost : GoodIn wsL_law wsL_cost := goodIn_ca (goodIn_ca (goodIn_r _ [1436, 226, 1437, 1438, 1439, 2, 1440, 715, 716, 717, 718, 21, 719, 720, 721, 722, 250, 241, 242, 243, 244, 245, 1062, 1063, 1064, 1065, 23, 458, 17, 15, 497, 498, 499, 1066, 1067, 1068, 1069, 951, 26, 952, 953, 954, 955, 1070, 33, 1071, 1072, 62, 1713, 1714, 1715, 1716, 1717, 1718, 1719, 1720, 1721, 1722, 1723, 1724, 1762, 1763, 1764, 1765, 1766, 1767, 1768, 1769, 1770, 1771, 1772, 1773, 1774, 1775, 1776, 1777, 1778, 1779, 1780, 1752, 1753, 1754, 1755, 1756, 1757, 1758, 1743, 1744, 1745, 1746, 1747, 1748, 1749, 1750, 1751] (by decide +kernel) (by decide +kernel)) (goodIn_sub (fun _ h => List.mem_append_left _ (List.mem_append_left _ (List.mem_append_left _ (List.mem_append_left _ (List.mem_append_left _ (List.mem_append_left _ (List.mem_append_right _ h))))))) (by decide +kernel))) (goodIn_sub (fun _ h => List.mem_append_left _ (List.mem_append_left _ (List.mem_append_right _ h))) (by decide +kernel))
set_option maxRecDepth 20000 in
theorem gL_law_L_cost : GoodIn wsL_law (va_wsS RL 236 yL_cost wsL_cost) := goodIn_app (goodIn_of _ (by decide +kernel)) ggL_law_L_cost
set_option maxRecDepth 20000 in
theorem ggL_law_X14_cost : GoodIn wsL_law wsX14_cost := goodIn_ca (goodIn_r _ [1444, 96, 313, 261, 262, 5, 263, 264, 265, 145, 91, 147, 148, 266, 267, 268, 269, 270, 137, 138, 139, 271, 272, 273, 274, 275, 276, 277, 278, 279, 280, 281, 282, 283, 284, 285, 286, 102, 1365, 1366, 1367, 1368, 751, 907, 95, 882, 960, 93, 509, 1082, 92, 961, 1369, 259, 750, 144, 146, 511, 512, 513, 514, 515, 516, 517, 287, 288, 289, 136, 290, 154, 90, 153, 159, 99, 100, 101, 103, 104, 105, 106, 107, 108, 109, 110, 111, 112, 12, 13, 291, 292, 293, 294, 295, 296, 297, 298, 299, 300, 301, 302, 303, 304, 305, 306, 307, 308, 161, 162, 163, 164, 165, 166, 167, 168, 169, 170, 171, 172, 173, 174, 175, 176, 177, 178, 179, 180, 181, 182, 183, 184, 185, 186, 187, 188, 189, 190, 191, 192, 193, 194, 195, 196, 197, 198, 199, 200, 201, 202, 203, 204, 205, 206, 207, 208, 209, 210, 211, 212, 213, 214, 1370, 355, 356, 357, 358, 359, 754, 380, 381, 382, 215, 216, 217, 218, 97, 140, 141, 142, 143, 1725, 1726, 1727, 1728, 1729, 1730, 1781, 1782, 1783, 1793, 1794, 1796, 1797, 1798, 1799, 1800, 1801, 1802, 1803, 1804, 1805, 1806, 1807, 1828, 1829, 1830, 1820, 1821, 1822, 1823, 1824, 1784, 1785, 1786, 1787, 1788, 1795, 1789, 1790, 1791, 1792] (by decide +kernel) (by decide +kernel)) (goodIn_sub (fun _ h => List.mem_append_left _ (List.mem_append_left _ (List.mem_append_left _ (List.mem_append_left _ (List.mem_append_left _ (List.mem_append_left _ (List.mem_append_right _ h))))))) (by decide +kernel))
set_option maxRecDepth 20000 in
theorem gL_law_X14_cost : GoodIn wsL_law (wsV RL 238 RX14 yX14_cost wsX14_cost) := goodIn_app (goodIn_of _ (by decide +kernel)) ggL_law_X14_cost
set_option maxRecDepth 20000 in
theorem ggL_law_L_isFree : GoodIn wsL_law wsL_isFree := goodIn_ca (goodIn_ca (goodIn_r _ [1447, 226, 1448, 1449, 1450, 2, 1451, 489, 490, 491, 492, 458, 241, 242, 243, 244, 245, 719, 720, 721, 722, 250, 994, 995, 996, 997, 17, 21, 998, 35, 999, 1000, 503, 68, 69, 1001, 1002, 1003, 1004, 1005, 1006, 1007, 1008, 497, 498, 499, 1009, 1010, 1011, 1012, 1013, 39, 1014, 1015, 597, 598, 599, 1016, 594, 595, 596, 1713, 1714, 1715, 1716, 1717, 1718, 1719, 1720, 1721, 1722, 1723, 1724, 1762, 1763, 1764, 1765, 1766, 1767, 1768, 1769, 1770, 1771, 1772, 1773, 1774, 1775, 1776, 1752, 1753, 1754, 1755, 1756, 1757, 1758] (by decide +kernel) (by decide +kernel)) (goodIn_sub (fun _ h => List.mem_append_left _ (List.mem_append_left _ (List.mem_append_left _ (List.mem_append_left _ (List.mem_append_left _ (List.mem_append_left _ (List.mem_append_right _ h))))))) (by decide +kernel))) (goodIn_sub (fun _ h => List.mem_append_left _ (List.mem_append_left _ (List.mem_append_right _ h))) (by decide +kernel))
set_option maxRecDepth 20000 in
theorem gL_law_L_isFree : GoodIn wsL_law (va_wsS RL 239 yL_isFree wsL_isFree) := goodIn_app (goodIn_of _ (by decide +kernel)) ggL_law_L_isFree
set_option maxRecDepth 20000 in
theorem ggL_law_X14_isFree : GoodIn wsL_law wsX14_isFree := goodIn_ca (goodIn_r _ [1455, 93, 96, 313, 261, 262, 5, 263, 264, 265, 145, 91, 147, 148, 266, 267, 268, 269, 270, 137, 138, 139, 407, 408, 409, 410, 97, 271, 272, 273, 274, 275, 276, 277, 278, 279, 280, 281, 282, 283, 284, 285, 286, 102, 1093, 1094, 1095, 1096, 509, 508, 1097, 1098, 1099, 465, 1100, 471, 1101, 1102, 316, 317, 318, 319, 320, 321, 322, 323, 324, 325, 326, 12, 13, 327, 328, 165, 329, 1103, 331, 332, 333, 334, 335, 336, 337, 338, 339, 340, 1104, 342, 343, 344, 345, 346, 347, 348, 349, 350, 351, 352, 353, 354, 355, 356, 357, 358, 359, 1105, 1106, 1107, 1108, 89, 90, 98, 99, 100, 101, 103, 104, 105, 106, 107, 108, 109, 110, 111, 112, 315, 330, 341, 511, 512, 513, 514, 515, 516, 517, 160, 161, 162, 163, 164, 166, 167, 168, 169, 170, 171, 172, 173, 174, 175, 176, 177, 178, 179, 180, 181, 182, 183, 184, 185, 186, 187, 188, 189, 190, 191, 192, 193, 194, 195, 196, 197, 198, 199, 200, 201, 202, 203, 204, 205, 206, 207, 208, 209, 210, 211, 212, 213, 214, 1109, 1110, 1111, 1112, 770, 1113, 1114, 1115, 1116, 1117, 45, 606, 1118, 1119, 781, 782, 783, 784, 766, 785, 786, 787, 788, 789, 790, 791, 792, 793, 794, 795, 687, 688, 689, 690, 691, 692, 1725, 1726, 1727, 1728, 1729, 1730, 1781, 1782, 1783, 1793, 1794, 1796, 1797, 1798, 1799, 1800, 1801, 1802, 1803, 1804, 1805, 1806, 1807, 1820, 1821, 1822, 1823, 1824, 1808, 1809, 1810, 1811, 1812, 1813, 1814, 1815, 1789, 1790, 1791, 1792] (by decide +kernel) (by decide +kernel)) (goodIn_sub (fun _ h => List.mem_append_left _ (List.mem_append_left _ (List.mem_append_left _ (List.mem_append_left _ (List.mem_append_left _ (List.mem_append_left _ (List.mem_append_right _ h))))))) (by decide +kernel))
set_option maxRecDepth 20000 in
theorem gL_law_X14_isFree : GoodIn wsL_law (wsV RL 241 RX14 yX14_isFree wsX14_isFree) := goodIn_app (goodIn_of _ (by decide +kernel)) ggL_law_X14_isFree
set_option maxRecDepth 20000 in
theorem ggL_law_L_services : GoodIn wsL_law wsL_services := goodIn_ca (goodIn_ca (goodIn_r _ [1458, 226, 1459, 1460, 1461, 2, 1462, 489, 490, 491, 492, 458, 241, 242, 243, 244, 245, 990, 991, 992, 993, 250, 21, 497, 498, 499, 1713, 1714, 1715, 1716, 1717, 1718, 1719, 1720, 1721, 1722, 1723, 1724, 1762, 1763, 1764, 1765, 1766, 1767, 1768, 1769, 1770, 1771, 1772, 1773, 1774, 1775, 1776] (by decide +kernel) (by decide +kernel)) (goodIn_sub (fun _ h => List.mem_append_left _ (List.mem_append_left _ (List.mem_append_left _ (List.mem_append_left _ (List.mem_append_left _ (List.mem_append_left _ (List.mem_append_right _ h))))))) (by decide +kernel))) (goodIn_sub (fun _ h => List.mem_append_left _ (List.mem_append_left _ (List.mem_append_right _ h))) (by decide +kernel))
set_option maxRecDepth 20000 in
theorem gL_law_L_services : GoodIn wsL_law (va_wsS RL 242 yL_services wsL_services) := goodIn_app (goodIn_of _ (by decide +kernel)) ggL_law_L_services
set_option maxRecDepth 20000 in
theorem ggL_law_X14_services : GoodIn wsL_law wsX14_services := goodIn_ca (goodIn_r _ [1466, 93, 261, 262, 5, 263, 264, 265, 145, 91, 147, 148, 266, 267, 268, 269, 270, 137, 138, 139, 1105, 1106, 1107, 1108, 89, 90, 96, 313, 98, 99, 100, 101, 102, 103, 104, 105, 106, 107, 108, 109, 110, 111, 112, 12, 13, 315, 316, 317, 318, 319, 320, 321, 322, 323, 324, 325, 326, 327, 328, 165, 329, 330, 331, 332, 333, 334, 335, 336, 337, 338, 339, 340, 341, 342, 343, 344, 345, 346, 347, 348, 349, 350, 351, 352, 353, 354, 355, 272, 274, 275, 276, 277, 278, 279, 280, 281, 282, 283, 284, 285, 286, 356, 357, 358, 359, 511, 512, 513, 514, 515, 516, 517, 160, 161, 162, 163, 164, 166, 167, 168, 169, 170, 171, 172, 173, 174, 175, 176, 177, 178, 179, 180, 181, 182, 183, 184, 185, 186, 187, 188, 189, 190, 191, 192, 193, 194, 195, 196, 197, 198, 199, 200, 201, 202, 203, 204, 205, 206, 207, 208, 209, 210, 211, 212, 213, 214, 215, 216, 217, 218, 97, 140, 141, 142, 143, 1725, 1726, 1727, 1728, 1729, 1730, 1781, 1782, 1783, 1793, 1794, 1808, 1809, 1810, 1811, 1812, 1813, 1814, 1815, 1796, 1797, 1798, 1799, 1800, 1801, 1802, 1803, 1804, 1805, 1806, 1807, 1789, 1790, 1791, 1792] (by decide +kernel) (by decide +kernel)) (goodIn_sub (fun _ h => List.mem_append_left _ (List.mem_append_left _ (List.mem_append_left _ (List.mem_append_left _ (List.mem_append_left _ (List.mem_append_left _ (List.mem_append_right _ h))))))) (by decide +kernel))
set_option maxRecDepth 20000 in
theorem gL_law_X14_services : GoodIn wsL_law (wsV RL 244 RX14 yX14_services wsX14_services) := goodIn_app (goodIn_of _ (by decide +kernel)) ggL_law_X14_services
set_option maxRecDepth 20000 in
theorem ggL_law_L_callAt : GoodIn wsL_law wsL_callAt := goodIn_ca (goodIn_ca (goodIn_ca (goodIn_ca (goodIn_r _ [1469, 226, 1470, 1471, 1472, 2, 1473, 934, 935, 31, 1474, 1475, 1476, 1477, 231, 232, 715, 716, 717, 718, 21, 719, 720, 721, 722, 250, 241, 242, 243, 244, 245, 1478, 1479, 1480, 1481, 124, 15, 1482, 30, 1483, 1484, 1485, 497, 498, 499, 944, 945, 946, 947, 251, 39, 252, 253, 254, 79, 948, 26, 949, 950, 951, 952, 953, 954, 955, 1486, 1487, 1488, 55, 56, 57, 1489, 1490, 1491, 58, 1492, 1493, 209, 180, 210, 1494, 1495, 1496, 1497, 1498, 1499, 293, 1500, 1501, 1502, 1503, 1504, 1505, 1506, 1507, 1508, 1509, 1510, 1713, 1714, 1715, 1716, 1717, 1718, 1719, 1720, 1721, 1722, 1723, 1724, 1738, 1739, 1740, 1741, 1742, 1762, 1763, 1764, 1765, 1766, 1767, 1768, 1769, 1770, 1771, 1772, 1773, 1774, 1775, 1776, 1743, 1744, 1745, 1746, 1747, 1748, 1749, 1750, 1751] (by decide +kernel) (by decide +kernel)) (goodIn_sub (fun _ h => List.mem_append_left _ (List.mem_append_left _ (List.mem_append_left _ (List.mem_append_left _ (List.mem_append_left _ (List.mem_append_left _ (List.mem_append_right _ h))))))) (by decide +kernel))) (goodIn_sub (fun _ h => List.mem_append_left _ (List.mem_append_right _ h)) (by decide +kernel))) (goodIn_sub (fun _ h => List.mem_append_left _ (List.mem_append_left _ (List.mem_append_left _ (List.mem_append_right _ h)))) (by decide +kernel))) (goodIn_sub (fun _ h => List.mem_append_left _ (List.mem_append_left _ (List.mem_append_right _ h))) (by decide +kernel))
set_option maxRecDepth 20000 in
theorem gL_law_L_callAt : GoodIn wsL_law (va_wsS RL 245 yL_callAt wsL_callAt) := goodIn_app (goodIn_of _ (by decide +kernel)) ggL_law_L_callAt
set_option maxRecDepth 20000 in
theorem ggL_law_X14_callAt : GoodIn wsL_law wsX14_callAt := goodIn_ca (goodIn_r _ [1514, 96, 313, 750, 1515, 1516, 1517, 5, 1518, 749, 751, 261, 262, 263, 264, 265, 145, 91, 147, 148, 266, 267, 268, 269, 270, 137, 138, 139, 271, 272, 273, 274, 275, 276, 277, 278, 279, 280, 281, 282, 283, 284, 285, 286, 102, 407, 408, 409, 410, 97, 1519, 1520, 1521, 1522, 89, 90, 92, 961, 98, 99, 100, 101, 103, 104, 105, 106, 107, 108, 109, 110, 111, 112, 12, 13, 144, 146, 360, 292, 293, 294, 295, 296, 297, 298, 299, 300, 301, 302, 303, 304, 305, 306, 307, 160, 161, 162, 163, 164, 165, 166, 167, 168, 169, 170, 171, 172, 173, 174, 175, 176, 177, 178, 179, 180, 181, 182, 183, 184, 185, 186, 187, 188, 189, 190, 191, 192, 193, 194, 195, 196, 197, 198, 199, 200, 201, 202, 203, 204, 205, 206, 207, 208, 209, 210, 211, 212, 213, 214, 1523, 1524, 1525, 1526, 1527, 1528, 1529, 1530, 1531, 1532, 1533, 1534, 1535, 1536, 1537, 1538, 1539, 93, 259, 748, 1370, 355, 356, 357, 358, 359, 754, 380, 381, 382, 1540, 1541, 1542, 1543, 1544, 1545, 1546, 1547, 819, 1548, 1549, 1550, 1551, 1552, 1553, 1554, 1555, 1556, 1557, 1558, 1559, 1560, 1561, 811, 812, 813, 814, 815, 816, 817, 818, 215, 216, 217, 218, 140, 141, 142, 143, 1725, 1726, 1727, 1728, 1729, 1730, 1796, 1797, 1798, 1799, 1800, 1801, 1802, 1803, 1804, 1805, 1806, 1807, 1781, 1782, 1783, 1793, 1794, 1795, 1789, 1790, 1791, 1792, 1784, 1785, 1786, 1787, 1788] (by decide +kernel) (by decide +kernel)) (goodIn_sub (fun _ h => List.mem_append_left _ (List.mem_append_left _ (List.mem_append_left _ (List.mem_append_left _ (List.mem_append_left _ (List.mem_append_left _ (List.mem_append_right _ h))))))) (by decide +kernel))
set_option maxRecDepth 20000 in
theorem gL_law_X14_callAt : GoodIn wsL_law (wsV RL 247 RX14 yX14_callAt wsX14_callAt) := goodIn_app (goodIn_of _ (by decide +kernel)) ggL_law_X14_callAt
set_option maxRecDepth 20000 in
theorem ggL_law_L_waiting : GoodIn wsL_law wsL_waiting := goodIn_ca (goodIn_ca (goodIn_ca (goodIn_r _ [1564, 226, 1565, 1566, 1567, 2, 1568, 31, 1474, 1475, 1476, 1477, 231, 232, 715, 716, 717, 718, 21, 719, 720, 721, 722, 250, 241, 242, 243, 244, 245, 1478, 1479, 1480, 1481, 124, 15, 1482, 30, 1483, 1484, 1485, 497, 498, 499, 944, 945, 946, 947, 251, 39, 252, 253, 254, 79, 948, 26, 949, 950, 951, 952, 953, 954, 955, 1486, 1487, 1488, 55, 56, 57, 1489, 1490, 1491, 58, 1492, 1493, 209, 180, 210, 1494, 1495, 1496, 1497, 1498, 1499, 293, 1500, 1501, 1502, 1503, 1713, 1714, 1715, 1716, 1717, 1718, 1719, 1720, 1721, 1722, 1723, 1724, 1738, 1739, 1740, 1741, 1742, 1762, 1763, 1764, 1765, 1766, 1767, 1768, 1769, 1770, 1771, 1772, 1773, 1774, 1775, 1776, 1743, 1744, 1745, 1746, 1747, 1748, 1749, 1750, 1751] (by decide +kernel) (by decide +kernel)) (goodIn_sub (fun _ h => List.mem_append_left _ (List.mem_append_left _ (List.mem_append_left _ (List.mem_append_left _ (List.mem_append_left _ (List.mem_append_left _ (List.mem_append_right _ h))))))) (by decide +kernel))) (goodIn_sub (fun _ h => List.mem_append_left _ (List.mem_append_left _ (List.mem_append_left _ (List.mem_append_right _ h)))) (by decide +kernel))) (goodIn_sub (fun _ h => List.mem_append_left _ (List.mem_append_left _ (List.mem_append_right _ h))) (by decide +kernel))
set_option maxRecDepth 20000 in
theorem gL_law_L_waiting : GoodIn wsL_law (va_wsS RL 248 yL_waiting wsL_waiting) := goodIn_app (goodIn_of _ (by decide +kernel)) ggL_law_L_waiting
set_option maxRecDepth 20000 in
theorem ggL_law_X14_waiting : GoodIn wsL_law wsX14_waiting := goodIn_ca (goodIn_r _ [1572, 96, 313, 1515, 1516, 1517, 5, 1518, 749, 751, 261, 262, 263, 264, 265, 145, 91, 147, 148, 266, 267, 268, 269, 270, 137, 138, 139, 271, 272, 273, 274, 275, 276, 277, 278, 279, 280, 281, 282, 283, 284, 285, 286, 102, 407, 408, 409, 410, 97, 1519, 1520, 1521, 1522, 89, 90, 92, 961, 98, 99, 100, 101, 103, 104, 105, 106, 107, 108, 109, 110, 111, 112, 12, 13, 144, 146, 360, 292, 293, 294, 295, 296, 297, 298, 299, 300, 301, 302, 303, 304, 305, 306, 307, 160, 161, 162, 163, 164, 165, 166, 167, 168, 169, 170, 171, 172, 173, 174, 175, 176, 177, 178, 179, 180, 181, 182, 183, 184, 185, 186, 187, 188, 189, 190, 191, 192, 193, 194, 195, 196, 197, 198, 199, 200, 201, 202, 203, 204, 205, 206, 207, 208, 209, 210, 211, 212, 213, 214, 1523, 1524, 1525, 1526, 1527, 1528, 1529, 1530, 750, 1531, 1532, 1533, 1534, 1535, 1536, 1537, 1538, 1539, 93, 259, 748, 1370, 355, 356, 357, 358, 359, 754, 380, 381, 382, 1540, 1541, 1542, 1543, 1544, 1545, 1546, 1547, 819, 1548, 1549, 1550, 1551, 1552, 1553, 1554, 1555, 1556, 1557, 1558, 1559, 1560, 1561, 811, 812, 813, 814, 815, 816, 817, 818, 1725, 1726, 1727, 1728, 1729, 1730, 1796, 1797, 1798, 1799, 1800, 1801, 1802, 1803, 1804, 1805, 1806, 1807, 1781, 1782, 1783, 1793, 1794, 1795, 1789, 1790, 1791, 1792, 1784, 1785, 1786, 1787, 1788] (by decide +kernel) (by decide +kernel)) (goodIn_sub (fun _ h => List.mem_append_left _ (List.mem_append_left _ (List.mem_append_left _ (List.mem_append_left _ (List.mem_append_left _ (List.mem_append_left _ (List.mem_append_right _ h))))))) (by decide +kernel))
set_option maxRecDepth 20000 in
theorem gL_law_X14_waiting : GoodIn wsL_law (wsV RL 250 RX14 yX14_waiting wsX14_waiting) := goodIn_app (goodIn_of _ (by decide +kernel)) ggL_law_X14_waiting
set_option maxRecDepth 20000 in
theorem ggL_law_L_ran : GoodIn wsL_law wsL_ran := goodIn_ca (goodIn_ca (goodIn_ca (goodIn_ca (goodIn_r _ [1575, 226, 1576, 1577, 1578, 2, 1579, 231, 232, 715, 716, 717, 718, 21, 719, 720, 721, 722, 250, 241, 242, 243, 244, 245, 125, 126, 127, 128, 129, 1580, 1581, 1582, 1583, 458, 17, 497, 498, 499, 1762, 1763, 1764, 1765, 1766, 1767, 1768, 1769, 1770, 1771, 1772, 1773, 1774, 1775, 1776, 1713, 1714, 1715, 1716, 1717, 1718, 1719, 1720, 1721, 1722, 1723, 1724, 1752, 1753, 1754, 1755, 1756, 1757, 1758] (by decide +kernel) (by decide +kernel)) (goodIn_sub (fun _ h => List.mem_append_left _ (List.mem_append_left _ (List.mem_append_left _ (List.mem_append_left _ (List.mem_append_left _ (List.mem_append_left _ (List.mem_append_right _ h))))))) (by decide +kernel))) (goodIn_sub (fun _ h => List.mem_append_left _ (List.mem_append_left _ (List.mem_append_left _ (List.mem_append_right _ h)))) (by decide +kernel))) (goodIn_sub (fun _ h => List.mem_append_left _ (List.mem_append_left _ (List.mem_append_right _ h))) (by decide +kernel))) (goodIn_sub (fun _ h => List.mem_append_left _ (List.mem_append_left _ (List.mem_append_left _ (List.mem_append_left _ (List.mem_append_right _ h))))) (by decide +kernel))
set_option maxRecDepth 20000 in
theorem gL_law_L_ran : GoodIn wsL_law (va_wsS RL 251 yL_ran wsL_ran) := goodIn_app (goodIn_of _ (by decide +kernel)) ggL_law_L_ran
set_option maxRecDepth 20000 in
theorem ggL_law_X14_ran : GoodIn wsL_law wsX14_ran := goodIn_ca (goodIn_r _ [1587, 96, 313, 751, 1382, 261, 262, 5, 263, 264, 265, 145, 91, 147, 148, 266, 267, 268, 269, 270, 137, 138, 139, 140, 141, 142, 143, 97, 271, 272, 273, 274, 275, 276, 277, 278, 279, 280, 281, 282, 283, 284, 285, 286, 102, 1588, 1589, 1590, 1591, 752, 1119, 179, 180, 181, 93, 509, 1082, 144, 146, 511, 512, 513, 514, 515, 516, 517, 215, 216, 217, 218, 1725, 1726, 1727, 1728, 1729, 1730, 1796, 1797, 1798, 1799, 1800, 1801, 1802, 1803, 1804, 1805, 1806, 1807, 1781, 1782, 1783, 1793, 1794, 1820, 1821, 1822, 1823, 1824] (by decide +kernel) (by decide +kernel)) (goodIn_sub (fun _ h => List.mem_append_left _ (List.mem_append_left _ (List.mem_append_left _ (List.mem_append_left _ (List.mem_append_left _ (List.mem_append_left _ (List.mem_append_right _ h))))))) (by decide +kernel))
set_option maxRecDepth 20000 in
theorem gL_law_X14_ran : GoodIn wsL_law (wsV RL 253 RX14 yX14_ran wsX14_ran) := goodIn_app (goodIn_of _ (by decide +kernel)) ggL_law_X14_ran
set_option maxRecDepth 20000 in
theorem ggL_law_L_overtime : GoodIn wsL_law wsL_overtime := goodIn_ca (goodIn_ca (goodIn_r _ [1594, 226, 1595, 1596, 1597, 2, 1598, 715, 716, 717, 718, 21, 719, 720, 721, 722, 250, 241, 242, 243, 244, 245, 1580, 1581, 1582, 1583, 458, 17, 497, 498, 499, 1713, 1714, 1715, 1716, 1717, 1718, 1719, 1720, 1721, 1722, 1723, 1724, 1762, 1763, 1764, 1765, 1766, 1767, 1768, 1769, 1770, 1771, 1772, 1773, 1774, 1775, 1776, 1752, 1753, 1754, 1755, 1756, 1757, 1758] (by decide +kernel) (by decide +kernel)) (goodIn_sub (fun _ h => List.mem_append_left _ (List.mem_append_left _ (List.mem_append_left _ (List.mem_append_left _ (List.mem_append_left _ (List.mem_append_left _ (List.mem_append_right _ h))))))) (by decide +kernel))) (goodIn_sub (fun _ h => List.mem_append_left _ (List.mem_append_left _ (List.mem_append_right _ h))) (by decide +kernel))
set_option maxRecDepth 20000 in
theorem gL_law_L_overtime : GoodIn wsL_law (va_wsS RL 254 yL_overtime wsL_overtime) := goodIn_app (goodIn_of _ (by decide +kernel)) ggL_law_L_overtime
set_option maxRecDepth 20000 in
theorem ggL_law_X14_overtime : GoodIn wsL_law wsX14_overtime := goodIn_ca (goodIn_r _ [1602, 96, 313, 261, 262, 5, 263, 264, 265, 145, 91, 147, 148, 266, 267, 268, 269, 270, 137, 138, 139, 271, 272, 273, 274, 275, 276, 277, 278, 279, 280, 281, 282, 283, 284, 285, 286, 102, 1588, 1589, 1590, 1591, 1382, 752, 1119, 179, 180, 181, 93, 509, 1082, 144, 146, 511, 512, 513, 514, 515, 516, 517, 215, 216, 217, 218, 97, 140, 141, 142, 143, 1725, 1726, 1727, 1728, 1729, 1730, 1781, 1782, 1783, 1793, 1794, 1796, 1797, 1798, 1799, 1800, 1801, 1802, 1803, 1804, 1805, 1806, 1807, 1820, 1821, 1822, 1823, 1824] (by decide +kernel) (by decide +kernel)) (goodIn_sub (fun _ h => List.mem_append_left _ (List.mem_append_left _ (List.mem_append_left _ (List.mem_append_left _ (List.mem_append_left _ (List.mem_append_left _ (List.mem_append_right _ h))))))) (by decide +kernel))
set_option maxRecDepth 20000 in
theorem gL_law_X14_overtime : GoodIn wsL_law (wsV RL 256 RX14 yX14_overtime wsX14_overtime) := goodIn_app (goodIn_of _ (by decide +kernel)) ggL_law_X14_overtime
set_option maxRecDepth 20000 in
theorem ggL_law_L_lastPlayed : GoodIn wsL_law wsL_lastPlayed := goodIn_ca (goodIn_ca (goodIn_ca (goodIn_r _ [1605, 226, 1606, 1607, 1608, 2, 1609, 934, 935, 250, 21, 1610, 179, 180, 181, 237, 238, 239, 240, 124, 241, 242, 243, 244, 245, 497, 498, 499, 1713, 1714, 1715, 1716, 1717, 1718, 1719, 1720, 1721, 1722, 1723, 1724, 1762, 1763, 1764, 1765, 1766, 1767, 1768, 1769, 1770, 1771, 1772, 1773, 1774, 1775, 1776] (by decide +kernel) (by decide +kernel)) (goodIn_sub (fun _ h => List.mem_append_left _ (List.mem_append_left _ (List.mem_append_left _ (List.mem_append_left _ (List.mem_append_left _ (List.mem_append_left _ (List.mem_append_right _ h))))))) (by decide +kernel))) (goodIn_sub (fun _ h => List.mem_append_left _ (List.mem_append_right _ h)) (by decide +kernel))) (goodIn_sub (fun _ h => List.mem_append_left _ (List.mem_append_left _ (List.mem_append_right _ h))) (by decide +kernel))
set_option maxRecDepth 20000 in
theorem gL_law_L_lastPlayed : GoodIn wsL_law (va_wsS RL 257 yL_lastPlayed wsL_lastPlayed) := goodIn_app (goodIn_of _ (by decide +kernel)) ggL_law_L_lastPlayed
set_option maxRecDepth 20000 in
theorem ggL_law_X14_lastPlayed : GoodIn wsL_law wsX14_lastPlayed := goodIn_r _ [1614, 92, 96, 313, 749, 508, 1119, 179, 180, 181, 261, 262, 5, 263, 264, 265, 145, 91, 147, 148, 266, 267, 268, 269, 270, 137, 138, 139, 140, 141, 142, 143, 97, 315, 316, 317, 318, 319, 320, 321, 322, 323, 324, 325, 326, 12, 13, 327, 328, 165, 329, 330, 331, 332, 333, 334, 335, 336, 337, 338, 339, 340, 341, 342, 343, 344, 345, 346, 347, 348, 349, 350, 351, 352, 353, 354, 355, 272, 274, 275, 276, 277, 278, 279, 280, 281, 282, 283, 284, 285, 286, 102, 356, 357, 358, 359, 1408, 1409, 1410, 1411, 751, 961, 144, 146, 215, 216, 217, 218, 1725, 1726, 1727, 1728, 1729, 1730, 1796, 1797, 1798, 1799, 1800, 1801, 1802, 1803, 1804, 1805, 1806, 1807, 1781, 1782, 1783, 1793, 1794, 1808, 1809, 1810, 1811, 1812, 1813, 1814, 1815] (by decide +kernel) (by decide +kernel)
set_option maxRecDepth 20000 in
theorem gL_law_X14_lastPlayed : GoodIn wsL_law (wsV RL 259 RX14 yX14_lastPlayed wsX14_lastPlayed) := goodIn_app (goodIn_of _ (by decide +kernel)) ggL_law_X14_lastPlayed
set_option maxRecDepth 20000 in
theorem ggL_law_L_howOften : GoodIn wsL_law wsL_howOften := goodIn_ca (goodIn_ca (goodIn_r _ [1617, 226, 1618, 1619, 1620, 2, 1621, 250, 21, 489, 490, 491, 492, 458, 241, 242, 243, 244, 245, 237, 238, 239, 240, 124, 944, 945, 946, 947, 15, 251, 39, 252, 253, 254, 79, 497, 498, 499, 948, 26, 949, 950, 951, 952, 953, 954, 955, 1713, 1714, 1715, 1716, 1717, 1718, 1719, 1720, 1721, 1722, 1723, 1724, 1762, 1763, 1764, 1765, 1766, 1767, 1768, 1769, 1770, 1771, 1772, 1773, 1774, 1775, 1776, 1743, 1744, 1745, 1746, 1747, 1748, 1749, 1750, 1751] (by decide +kernel) (by decide +kernel)) (goodIn_sub (fun _ h => List.mem_append_left _ (List.mem_append_left _ (List.mem_append_left _ (List.mem_append_left _ (List.mem_append_left _ (List.mem_append_left _ (List.mem_append_right _ h))))))) (by decide +kernel))) (goodIn_sub (fun _ h => List.mem_append_left _ (List.mem_append_left _ (List.mem_append_right _ h))) (by decide +kernel))
set_option maxRecDepth 20000 in
theorem gL_law_L_howOften : GoodIn wsL_law (va_wsS RL 260 yL_howOften wsL_howOften) := goodIn_app (goodIn_of _ (by decide +kernel)) ggL_law_L_howOften
set_option maxRecDepth 20000 in
theorem ggL_law_X14_howOften : GoodIn wsL_law wsX14_howOften := goodIn_ca (goodIn_r _ [1625, 93, 92, 96, 313, 749, 751, 961, 261, 262, 5, 263, 264, 265, 145, 91, 147, 148, 266, 267, 268, 269, 270, 137, 138, 139, 140, 141, 142, 143, 97, 315, 316, 317, 318, 319, 320, 321, 322, 323, 324, 325, 326, 12, 13, 327, 328, 165, 329, 330, 331, 332, 333, 334, 335, 336, 337, 338, 339, 340, 341, 342, 343, 344, 345, 346, 347, 348, 349, 350, 351, 352, 353, 354, 355, 272, 274, 275, 276, 277, 278, 279, 280, 281, 282, 283, 284, 285, 286, 102, 356, 357, 358, 359, 215, 216, 217, 218, 1725, 1726, 1727, 1728, 1729, 1730, 1796, 1797, 1798, 1799, 1800, 1801, 1802, 1803, 1804, 1805, 1806, 1807, 1781, 1782, 1783, 1793, 1794, 1808, 1809, 1810, 1811, 1812, 1813, 1814, 1815] (by decide +kernel) (by decide +kernel)) (goodIn_sub (fun _ h => List.mem_append_left _ (List.mem_append_left _ (List.mem_append_left _ (List.mem_append_left _ (List.mem_append_left _ (List.mem_append_left _ (List.mem_append_right _ h))))))) (by decide +kernel))
set_option maxRecDepth 20000 in
theorem gL_law_X14_howOften : GoodIn wsL_law (wsV RL 262 RX14 yX14_howOften wsX14_howOften) := goodIn_app (goodIn_of _ (by decide +kernel)) ggL_law_X14_howOften
set_option maxRecDepth 20000 in
theorem ggL_law_X7_total : GoodIn wsL_law wsX7_total := goodIn_ca (goodIn_r _ [1629, 250, 21, 124, 15, 1062, 1063, 1064, 2, 1065, 23, 458, 17, 497, 498, 499, 1066, 1067, 1068, 1069, 951, 26, 952, 953, 954, 955, 1070, 33, 1071, 1072, 62, 1580, 1581, 1582, 1583, 1713, 1714, 1715, 1716, 1717, 1718, 1719, 1720, 1721, 1722, 1723, 1724, 1743, 1744, 1745, 1746, 1747, 1748, 1749, 1750, 1751, 1762, 1763, 1764, 1765, 1766, 1767, 1768, 1769, 1770, 1771, 1772, 1773, 1774, 1775, 1776, 1777, 1778, 1779, 1780, 1752, 1753, 1754, 1755, 1756, 1757, 1758] (by decide +kernel) (by decide +kernel)) (goodIn_sub (fun _ h => List.mem_append_left _ (List.mem_append_left _ (List.mem_append_left _ (List.mem_append_left _ (List.mem_append_left _ (List.mem_append_left _ (List.mem_append_right _ h))))))) (by decide +kernel))
set_option maxRecDepth 20000 in
theorem gL_law_X7_total : GoodIn wsL_law (wsV RL 263 RX7 yX7_total wsX7_total) := goodIn_app (goodIn_of _ (by decide +kernel)) ggL_law_X7_total
set_option maxRecDepth 20000 in
theorem ggL_law_X14_total : GoodIn wsL_law wsX14_total := goodIn_ca (goodIn_r _ [1633, 96, 313, 92, 259, 427, 1634, 315, 316, 317, 91, 318, 319, 320, 321, 322, 323, 324, 325, 326, 12, 13, 327, 328, 165, 329, 330, 331, 332, 333, 334, 335, 336, 337, 338, 339, 340, 341, 342, 343, 344, 345, 346, 347, 348, 349, 350, 351, 352, 353, 354, 355, 272, 274, 148, 275, 276, 277, 278, 279, 280, 281, 282, 283, 284, 285, 286, 102, 356, 357, 268, 358, 359, 270, 1365, 1366, 1367, 5, 1368, 751, 907, 95, 882, 960, 93, 509, 1082, 961, 1369, 750, 271, 273, 144, 145, 146, 147, 511, 512, 513, 514, 515, 516, 517, 287, 288, 289, 136, 290, 154, 90, 153, 159, 99, 100, 101, 103, 104, 105, 106, 107, 108, 109, 110, 111, 112, 291, 292, 293, 294, 295, 296, 297, 298, 299, 300, 301, 302, 303, 304, 305, 306, 307, 308, 161, 162, 163, 164, 166, 167, 168, 169, 170, 171, 172, 173, 174, 175, 176, 177, 178, 179, 180, 181, 182, 183, 184, 185, 186, 187, 188, 189, 190, 191, 192, 193, 194, 195, 196, 197, 198, 199, 200, 201, 202, 203, 204, 205, 206, 207, 208, 209, 210, 211, 212, 213, 214, 1370, 754, 380, 381, 382, 1588, 1589, 1590, 1591, 1382, 752, 1119, 215, 216, 217, 218, 97, 1725, 1726, 1727, 1728, 1729, 1730, 1784, 1785, 1786, 1787, 1788, 1808, 1809, 1810, 1811, 1781, 1782, 1783, 1812, 1813, 1814, 1815, 1793, 1794, 1796, 1797, 1798, 1799, 1800, 1801, 1802, 1803, 1804, 1805, 1806, 1807, 1828, 1829, 1830, 1820, 1821, 1822, 1823, 1824, 1795, 1789, 1790, 1791, 1792] (by decide +kernel) (by decide +kernel)) (goodIn_sub (fun _ h => List.mem_append_left _ (List.mem_append_left _ (List.mem_append_left _ (List.mem_append_left _ (List.mem_append_left _ (List.mem_append_left _ (List.mem_append_right _ h))))))) (by decide +kernel))
set_option maxRecDepth 20000 in
theorem gL_law_X14_total : GoodIn wsL_law (wsV RL 266 RX14 yX14_total wsX14_total) := goodIn_app (goodIn_of _ (by decide +kernel)) ggL_law_X14_total
set_option maxRecDepth 20000 in
theorem ggL_law_L_rehearsed : GoodIn wsL_law wsL_rehearsed := goodIn_ca (goodIn_ca (goodIn_r _ [1637, 226, 1638, 1639, 1640, 2, 1641, 250, 21, 233, 234, 235, 236, 15, 237, 238, 239, 240, 124, 241, 242, 243, 244, 245, 497, 498, 499, 1713, 1714, 1715, 1716, 1717, 1718, 1719, 1720, 1721, 1722, 1723, 1724, 1762, 1763, 1764, 1765, 1766, 1767, 1768, 1769, 1770, 1771, 1772, 1773, 1774, 1775, 1776, 1743, 1744, 1745, 1746, 1747, 1748, 1749, 1750, 1751] (by decide +kernel) (by decide +kernel)) (goodIn_sub (fun _ h => List.mem_append_left _ (List.mem_append_left _ (List.mem_append_left _ (List.mem_append_left _ (List.mem_append_left _ (List.mem_append_left _ (List.mem_append_right _ h))))))) (by decide +kernel))) (goodIn_sub (fun _ h => List.mem_append_left _ (List.mem_append_left _ (List.mem_append_right _ h))) (by decide +kernel))
set_option maxRecDepth 20000 in
theorem gL_law_L_rehearsed : GoodIn wsL_law (va_wsS RL 267 yL_rehearsed wsL_rehearsed) := goodIn_app (goodIn_of _ (by decide +kernel)) ggL_law_L_rehearsed
set_option maxRecDepth 20000 in
theorem ggL_law_X14_rehearsed : GoodIn wsL_law wsX14_rehearsed := goodIn_r _ [1645, 92, 96, 313, 749, 259, 748, 261, 262, 5, 263, 264, 265, 145, 91, 147, 148, 266, 267, 268, 269, 270, 137, 138, 139, 140, 141, 142, 143, 97, 315, 316, 317, 318, 319, 320, 321, 322, 323, 324, 325, 326, 12, 13, 327, 328, 165, 329, 330, 331, 332, 333, 334, 335, 336, 337, 338, 339, 340, 341, 342, 343, 344, 345, 346, 347, 348, 349, 350, 351, 352, 353, 354, 355, 272, 274, 275, 276, 277, 278, 279, 280, 281, 282, 283, 284, 285, 286, 102, 356, 357, 358, 359, 1408, 1409, 1410, 1411, 751, 961, 144, 146, 271, 273, 215, 216, 217, 218, 1725, 1726, 1727, 1728, 1729, 1730, 1796, 1797, 1798, 1799, 1800, 1801, 1802, 1803, 1804, 1805, 1806, 1807, 1784, 1785, 1786, 1787, 1788, 1781, 1782, 1783, 1793, 1794, 1808, 1809, 1810, 1811, 1812, 1813, 1814, 1815] (by decide +kernel) (by decide +kernel)
set_option maxRecDepth 20000 in
theorem gL_law_X14_rehearsed : GoodIn wsL_law (wsV RL 269 RX14 yX14_rehearsed wsX14_rehearsed) := goodIn_app (goodIn_of _ (by decide +kernel)) ggL_law_X14_rehearsed
set_option maxRecDepth 20000 in
theorem ggL_law_X7_checksum : GoodIn wsL_law wsX7_checksum := goodIn_ca (goodIn_r _ [1649, 1650, 250, 21, 1651, 458, 1062, 1063, 1064, 2, 1065, 23, 17, 15, 497, 498, 499, 1066, 1067, 1068, 1069, 951, 26, 952, 953, 954, 955, 1070, 33, 1071, 1072, 62, 990, 991, 992, 993, 1652, 1627, 1628, 1629, 124, 1580, 1581, 1582, 1583, 1713, 1714, 1715, 1716, 1717, 1718, 1719, 1720, 1721, 1722, 1723, 1724, 1762, 1763, 1764, 1765, 1766, 1767, 1768, 1769, 1770, 1771, 1772, 1773, 1774, 1775, 1776, 1777, 1778, 1779, 1780, 1752, 1753, 1754, 1755, 1756, 1757, 1758, 1743, 1744, 1745, 1746, 1747, 1748, 1749, 1750, 1751] (by decide +kernel) (by decide +kernel)) (goodIn_sub (fun _ h => List.mem_append_left _ (List.mem_append_left _ (List.mem_append_left _ (List.mem_append_left _ (List.mem_append_left _ (List.mem_append_left _ (List.mem_append_right _ h))))))) (by decide +kernel))
set_option maxRecDepth 20000 in
theorem gL_law_X7_checksum : GoodIn wsL_law (wsV RL 270 RX7 yX7_checksum wsX7_checksum) := goodIn_app (goodIn_of _ (by decide +kernel)) ggL_law_X7_checksum
set_option maxRecDepth 20000 in
theorem ggL_law_X14_checksum : GoodIn wsL_law wsX14_checksum := goodIn_ca (goodIn_r _ [1656, 1657, 96, 313, 1658, 907, 93, 315, 316, 317, 91, 318, 319, 320, 321, 322, 323, 324, 325, 326, 12, 13, 327, 328, 165, 329, 330, 331, 332, 333, 334, 335, 336, 337, 338, 339, 340, 341, 342, 343, 344, 345, 346, 347, 348, 349, 350, 351, 352, 353, 354, 355, 272, 274, 148, 275, 276, 277, 278, 279, 280, 281, 282, 283, 284, 285, 286, 102, 356, 357, 268, 358, 359, 270, 1365, 1366, 1367, 5, 1368, 751, 95, 882, 960, 509, 1082, 92, 961, 1369, 259, 750, 271, 273, 144, 145, 146, 147, 511, 512, 513, 514, 515, 516, 517, 287, 288, 289, 136, 290, 154, 90, 153, 159, 99, 100, 101, 103, 104, 105, 106, 107, 108, 109, 110, 111, 112, 291, 292, 293, 294, 295, 296, 297, 298, 299, 300, 301, 302, 303, 304, 305, 306, 307, 308, 161, 162, 163, 164, 166, 167, 168, 169, 170, 171, 172, 173, 174, 175, 176, 177, 178, 179, 180, 181, 182, 183, 184, 185, 186, 187, 188, 189, 190, 191, 192, 193, 194, 195, 196, 197, 198, 199, 200, 201, 202, 203, 204, 205, 206, 207, 208, 209, 210, 211, 212, 213, 214, 1370, 754, 380, 381, 382, 1408, 1409, 1410, 1411, 1105, 1106, 1107, 1108, 89, 98, 160, 264, 265, 266, 267, 269, 1659, 1631, 1632, 1633, 427, 1634, 1588, 1589, 1590, 1591, 1382, 752, 1119, 215, 216, 217, 218, 97, 1725, 1726, 1727, 1728, 1729, 1730, 1796, 1797, 1798, 1799, 1800, 1801, 1802, 1803, 1804, 1805, 1806, 1807, 1808, 1809, 1810, 1811, 1781, 1782, 1783, 1812, 1813, 1814, 1815, 1793, 1794, 1828, 1829, 1830, 1820, 1821, 1822, 1823, 1824, 1784, 1785, 1786, 1787, 1788, 1795, 1789, 1790, 1791, 1792] (by decide +kernel) (by decide +kernel)) (goodIn_sub (fun _ h => List.mem_append_left _ (List.mem_append_left _ (List.mem_append_left _ (List.mem_append_left _ (List.mem_append_left _ (List.mem_append_left _ (List.mem_append_right _ h))))))) (by decide +kernel))
set_option maxRecDepth 20000 in
theorem gL_law_X14_checksum : GoodIn wsL_law (wsV RL 274 RX14 yX14_checksum wsX14_checksum) := goodIn_app (goodIn_of _ (by decide +kernel)) ggL_law_X14_checksum
set_option maxRecDepth 20000 in
theorem ggL_law_L_bookedShare : GoodIn wsL_law wsL_bookedShare := goodIn_ca (goodIn_ca (goodIn_r _ [1662, 1663, 1664, 1665, 1666, 2, 1667, 1668, 1669, 250, 21, 1713, 1714, 1715, 1716, 1717, 1718, 1719, 1720, 1721, 1722, 1723, 1724, 1762, 1763, 1764, 1765, 1766, 1767, 1768, 1769, 1770, 1771, 1772, 1773, 1774, 1775, 1776] (by decide +kernel) (by decide +kernel)) (goodIn_sub (fun _ h => List.mem_append_left _ (List.mem_append_left _ (List.mem_append_left _ (List.mem_append_left _ (List.mem_append_left _ (List.mem_append_left _ (List.mem_append_right _ h))))))) (by decide +kernel))) (goodIn_sub (fun _ h => List.mem_append_right _ h) (by decide +kernel))
set_option maxRecDepth 20000 in
theorem gL_law_L_bookedShare : GoodIn wsL_law (va_wsS RL 275 yL_bookedShare wsL_bookedShare) := goodIn_app (goodIn_of _ (by decide +kernel)) ggL_law_L_bookedShare
set_option maxRecDepth 20000 in
theorem ggL_law_X14_bookedShare : GoodIn wsL_law wsX14_bookedShare := goodIn_r _ [1673, 96, 97, 313, 751, 1523, 1524, 1525, 91, 1526, 148, 315, 316, 317, 318, 319, 320, 321, 322, 323, 324, 325, 326, 12, 13, 327, 328, 165, 329, 330, 331, 332, 333, 334, 335, 336, 337, 338, 339, 340, 341, 342, 343, 344, 345, 346, 347, 348, 349, 350, 351, 352, 353, 354, 355, 272, 274, 275, 276, 277, 278, 279, 280, 281, 282, 283, 284, 285, 286, 102, 356, 357, 268, 358, 359, 270, 144, 145, 146, 147, 1725, 1726, 1727, 1728, 1729, 1730, 1796, 1797, 1798, 1799, 1800, 1801, 1802, 1803, 1804, 1805, 1806, 1807, 1781, 1782, 1783, 1808, 1809, 1810, 1811, 1812, 1813, 1814, 1815, 1793, 1794] (by decide +kernel) (by decide +kernel)
set_option maxRecDepth 20000 in
theorem gL_law_X14_bookedShare : GoodIn wsL_law (wsV RL 278 RX14 yX14_bookedShare wsX14_bookedShare) := goodIn_app (goodIn_of _ (by decide +kernel)) ggL_law_X14_bookedShare
set_option maxRecDepth 20000 in
theorem ggL_law_L_meanServices : GoodIn wsL_law wsL_meanServices := goodIn_ca (goodIn_ca (goodIn_r _ [1676, 1663, 1677, 1678, 1679, 2, 1680, 1668, 1669, 458, 990, 991, 992, 993, 250, 21, 497, 498, 499, 1713, 1714, 1715, 1716, 1717, 1718, 1719, 1720, 1721, 1722, 1723, 1724, 1762, 1763, 1764, 1765, 1766, 1767, 1768, 1769, 1770, 1771, 1772, 1773, 1774, 1775, 1776] (by decide +kernel) (by decide +kernel)) (goodIn_sub (fun _ h => List.mem_append_left _ (List.mem_append_left _ (List.mem_append_left _ (List.mem_append_left _ (List.mem_append_left _ (List.mem_append_left _ (List.mem_append_right _ h))))))) (by decide +kernel))) (goodIn_sub (fun _ h => List.mem_append_right _ h) (by decide +kernel))
set_option maxRecDepth 20000 in
theorem gL_law_L_meanServices : GoodIn wsL_law (va_wsS RL 279 yL_meanServices wsL_meanServices) := goodIn_app (goodIn_of _ (by decide +kernel)) ggL_law_L_meanServices
set_option maxRecDepth 20000 in
theorem ggL_law_X14_meanServices : GoodIn wsL_law wsX14_meanServices := goodIn_ca (goodIn_r _ [1684, 93, 97, 1523, 1524, 1525, 91, 1526, 148, 144, 145, 146, 147, 1105, 1106, 1107, 5, 1108, 89, 90, 96, 313, 98, 99, 100, 101, 102, 103, 104, 105, 106, 107, 108, 109, 110, 111, 112, 12, 13, 315, 316, 317, 318, 319, 320, 321, 322, 323, 324, 325, 326, 327, 328, 165, 329, 330, 331, 332, 333, 334, 335, 336, 337, 338, 339, 340, 341, 342, 343, 344, 345, 346, 347, 348, 349, 350, 351, 352, 353, 354, 355, 272, 274, 275, 276, 277, 278, 279, 280, 281, 282, 283, 284, 285, 286, 356, 357, 268, 358, 359, 270, 511, 512, 513, 514, 515, 516, 517, 160, 161, 162, 163, 164, 166, 167, 168, 169, 170, 171, 172, 173, 174, 175, 176, 177, 178, 179, 180, 181, 182, 183, 184, 185, 186, 187, 188, 189, 190, 191, 192, 193, 194, 195, 196, 197, 198, 199, 200, 201, 202, 203, 204, 205, 206, 207, 208, 209, 210, 211, 212, 213, 214, 264, 265, 266, 267, 269, 1725, 1726, 1727, 1728, 1729, 1730, 1781, 1782, 1783, 1808, 1809, 1810, 1811, 1812, 1813, 1814, 1815, 1793, 1794, 1796, 1797, 1798, 1799, 1800, 1801, 1802, 1803, 1804, 1805, 1806, 1807, 1789, 1790, 1791, 1792] (by decide +kernel) (by decide +kernel)) (goodIn_sub (fun _ h => List.mem_append_left _ (List.mem_append_left _ (List.mem_append_left _ (List.mem_append_left _ (List.mem_append_left _ (List.mem_append_left _ (List.mem_append_right _ h))))))) (by decide +kernel))
set_option maxRecDepth 20000 in
theorem gL_law_X14_meanServices : GoodIn wsL_law (wsV RL 281 RX14 yX14_meanServices wsX14_meanServices) := goodIn_app (goodIn_of _ (by decide +kernel)) ggL_law_X14_meanServices
set_option maxRecDepth 20000 in
theorem ggL_law_X7_isSound : GoodIn wsL_law wsX7_isSound := goodIn_ca (goodIn_r _ [1688, 1689, 1690, 1691, 2, 1692, 250, 21, 15, 497, 498, 499, 1693, 1694, 1695, 1696, 458, 17, 951, 26, 952, 953, 954, 955, 1070, 33, 1071, 1072, 62, 1047, 35, 1048, 1049, 1050, 1051, 1697, 1698, 1699, 1700, 1001, 1002, 1003, 1004, 1005, 1006, 1007, 1008, 1009, 1010, 1011, 1012, 1013, 39, 1014, 1015, 597, 598, 599, 1016, 594, 595, 596, 1701, 1702, 1703, 1704, 1705, 1706, 1707, 1708, 899, 900, 901, 902, 1713, 1714, 1715, 1716, 1717, 1718, 1719, 1720, 1721, 1722, 1723, 1724, 1762, 1763, 1764, 1765, 1766, 1767, 1768, 1769, 1770, 1771, 1772, 1773, 1774, 1775, 1776, 1743, 1744, 1745, 1746, 1747, 1748, 1749, 1750, 1751, 1752, 1753, 1754, 1755, 1756, 1757, 1758] (by decide +kernel) (by decide +kernel)) (goodIn_sub (fun _ h => List.mem_append_left _ (List.mem_append_left _ (List.mem_append_left _ (List.mem_append_left _ (List.mem_append_left _ (List.mem_append_left _ (List.mem_append_right _ h))))))) (by decide +kernel))
set_option maxRecDepth 20000 in
theorem gL_law_X7_isSound : GoodIn wsL_law (wsV RL 282 RX7 yX7_isSound wsX7_isSound) := goodIn_app (goodIn_of _ (by decide +kernel)) ggL_law_X7_isSound
set_option maxRecDepth 20000 in
theorem ggL_law_X14_isSound : GoodIn wsL_law wsX14_isSound := goodIn_r _ [1712, 97, 1725, 1726, 1727, 1728, 1729, 1730] (by decide +kernel) (by decide +kernel)
set_option maxRecDepth 20000 in
theorem gL_law_X14_isSound : GoodIn wsL_law (wsV RL 286 RX14 yX14_isSound wsX14_isSound) := goodIn_app (goodIn_of _ (by decide +kernel)) ggL_law_X14_isSound
theorem dL_law_0 : decode cL_law 0 = .ok (.new 8, 3) := by decide +kernel
theorem dL_law_3 : decode cL_law 3 = .ok (.dup, 1) := by decide +kernel
theorem dL_law_4 : decode cL_law 4 = .ok (.invokespecial 144, 3) := by decide +kernel
theorem dL_law_7 : decode cL_law 7 = .ok (.astore_n 1, 1) := by decide +kernel
theorem dL_law_8 : decode cL_law 8 = .ok (.new 145, 3) := by decide +kernel
theorem dL_law_11 : decode cL_law 11 = .ok (.dup, 1) := by decide +kernel
theorem dL_law_12 : decode cL_law 12 = .ok (.invokespecial 147, 3) := by decide +kernel
theorem dL_law_15 : decode cL_law 15 = .ok (.astore_n 2, 1) := by decide +kernel
theorem dL_law_16 : decode cL_law 16 = .ok (.iconst 1, 1) := by decide +kernel
theorem dL_law_17 : decode cL_law 17 = .ok (.newarray .long, 2) := by decide +kernel
theorem dL_law_19 : decode cL_law 19 = .ok (.astore_n 3, 1) := by decide +kernel
theorem dL_law_20 : decode cL_law 20 = .ok (.iconst 1, 1) := by decide +kernel
theorem dL_law_21 : decode cL_law 21 = .ok (.newarray .double, 2) := by decide +kernel
theorem dL_law_23 : decode cL_law 23 = .ok (.astore 4, 2) := by decide +kernel
theorem dL_law_25 : decode cL_law 25 = .ok (.iconst 0, 1) := by decide +kernel
theorem dL_law_26 : decode cL_law 26 = .ok (.istore 5, 2) := by decide +kernel
theorem dL_law_28 : decode cL_law 28 = .ok (.iload 5, 2) := by decide +kernel
theorem dL_law_30 : decode cL_law 30 = .ok (.aload_n 0, 1) := by decide +kernel
theorem dL_law_31 : decode cL_law 31 = .ok (.arraylength, 1) := by decide +kernel
theorem dL_law_32 : decode cL_law 32 = .ok (.bipush 6, 2) := by decide +kernel
theorem dL_law_34 : decode cL_law 34 = .ok (.isub, 1) := by decide +kernel
theorem dL_law_35 : decode cL_law 35 = .ok (.if_icmp .gt 2857, 3) := by decide +kernel
theorem dL_law_38 : decode cL_law 38 = .ok (.aload_n 0, 1) := by decide +kernel
theorem dL_law_39 : decode cL_law 39 = .ok (.iload 5, 2) := by decide +kernel
theorem dL_law_41 : decode cL_law 41 = .ok (.iaload, 1) := by decide +kernel
theorem dL_law_42 : decode cL_law 42 = .ok (.bipush 63, 2) := by decide +kernel
theorem dL_law_44 : decode cL_law 44 = .ok (.iand, 1) := by decide +kernel
theorem dL_law_45 : decode cL_law 45 = .ok (.tableswitch 2841 0 39 #[175, 259, 339, 430, 522, 597, 677, 757, 860, 928, 1031, 1137, 1205, 1273, 1341, 1409, 1477, 1545, 1601, 1657, 1713, 1769, 1832, 1900, 1975, 2055, 2111, 2186, 2242, 2310, 2366, 2434, 2490, 2546, 2614, 2627, 2683, 2697, 2763, 2828], 175) := by decide +kernel
theorem dL_law_220 : decode cL_law 220 = .ok (.aload_n 1, 1) := by decide +kernel
theorem dL_law_221 : decode cL_law 221 = .ok (.aload_n 0, 1) := by decide +kernel
theorem dL_law_222 : decode cL_law 222 = .ok (.iload 5, 2) := by decide +kernel
theorem dL_law_224 : decode cL_law 224 = .ok (.iconst 1, 1) := by decide +kernel
theorem dL_law_225 : decode cL_law 225 = .ok (.iadd, 1) := by decide +kernel
theorem dL_law_226 : decode cL_law 226 = .ok (.iaload, 1) := by decide +kernel
theorem dL_law_227 : decode cL_law 227 = .ok (.aload_n 0, 1) := by decide +kernel
theorem dL_law_228 : decode cL_law 228 = .ok (.iload 5, 2) := by decide +kernel
theorem dL_law_230 : decode cL_law 230 = .ok (.iconst 2, 1) := by decide +kernel
theorem dL_law_231 : decode cL_law 231 = .ok (.iadd, 1) := by decide +kernel
theorem dL_law_232 : decode cL_law 232 = .ok (.iaload, 1) := by decide +kernel
theorem dL_law_233 : decode cL_law 233 = .ok (.ifCond .eq 7, 3) := by decide +kernel
theorem dL_law_236 : decode cL_law 236 = .ok (.iconst 1, 1) := by decide +kernel
theorem dL_law_237 : decode cL_law 237 = .ok (.goto 4, 3) := by decide +kernel
theorem dL_law_240 : decode cL_law 240 = .ok (.iconst 0, 1) := by decide +kernel
theorem dL_law_241 : decode cL_law 241 = .ok (.aload_n 3, 1) := by decide +kernel
theorem dL_law_242 : decode cL_law 242 = .ok (.invokestatic 148, 3) := by decide +kernel
theorem dL_law_245 : decode cL_law 245 = .ok (.istore 6, 2) := by decide +kernel
theorem dL_law_247 : decode cL_law 247 = .ok (.aload_n 2, 1) := by decide +kernel
theorem dL_law_248 : decode cL_law 248 = .ok (.aload_n 0, 1) := by decide +kernel
theorem dL_law_249 : decode cL_law 249 = .ok (.iload 5, 2) := by decide +kernel
theorem dL_law_251 : decode cL_law 251 = .ok (.iconst 1, 1) := by decide +kernel
theorem dL_law_252 : decode cL_law 252 = .ok (.iadd, 1) := by decide +kernel
theorem dL_law_253 : decode cL_law 253 = .ok (.iaload, 1) := by decide +kernel
theorem dL_law_254 : decode cL_law 254 = .ok (.aload_n 0, 1) := by decide +kernel
theorem dL_law_255 : decode cL_law 255 = .ok (.iload 5, 2) := by decide +kernel
theorem dL_law_257 : decode cL_law 257 = .ok (.iconst 2, 1) := by decide +kernel
theorem dL_law_258 : decode cL_law 258 = .ok (.iadd, 1) := by decide +kernel
theorem dL_law_259 : decode cL_law 259 = .ok (.iaload, 1) := by decide +kernel
theorem dL_law_260 : decode cL_law 260 = .ok (.ifCond .eq 7, 3) := by decide +kernel
theorem dL_law_263 : decode cL_law 263 = .ok (.iconst 1, 1) := by decide +kernel
theorem dL_law_264 : decode cL_law 264 = .ok (.goto 4, 3) := by decide +kernel
theorem dL_law_267 : decode cL_law 267 = .ok (.iconst 0, 1) := by decide +kernel
theorem dL_law_268 : decode cL_law 268 = .ok (.invokevirtual 153, 3) := by decide +kernel
theorem dL_law_271 : decode cL_law 271 = .ok (.istore 7, 2) := by decide +kernel
theorem dL_law_273 : decode cL_law 273 = .ok (.aload_n 2, 1) := by decide +kernel
theorem dL_law_274 : decode cL_law 274 = .ok (.invokevirtual 154, 3) := by decide +kernel
theorem dL_law_277 : decode cL_law 277 = .ok (.iload 6, 2) := by decide +kernel
theorem dL_law_279 : decode cL_law 279 = .ok (.if_icmp .eq 5, 3) := by decide +kernel
theorem dL_law_282 : decode cL_law 282 = .ok (.iconst 0, 1) := by decide +kernel
theorem dL_law_283 : decode cL_law 283 = .ok (.ireturn, 1) := by decide +kernel
theorem dL_law_284 : decode cL_law 284 = .ok (.iload 6, 2) := by decide +kernel
theorem dL_law_286 : decode cL_law 286 = .ok (.ifCond .ne 15, 3) := by decide +kernel
theorem dL_law_289 : decode cL_law 289 = .ok (.aload_n 3, 1) := by decide +kernel
theorem dL_law_290 : decode cL_law 290 = .ok (.iconst 0, 1) := by decide +kernel
theorem dL_law_291 : decode cL_law 291 = .ok (.laload, 1) := by decide +kernel
theorem dL_law_292 : decode cL_law 292 = .ok (.iload 7, 2) := by decide +kernel
theorem dL_law_294 : decode cL_law 294 = .ok (.i2l, 1) := by decide +kernel
theorem dL_law_295 : decode cL_law 295 = .ok (.lcmp, 1) := by decide +kernel
theorem dL_law_296 : decode cL_law 296 = .ok (.ifCond .eq 5, 3) := by decide +kernel
theorem dL_law_299 : decode cL_law 299 = .ok (.iconst 0, 1) := by decide +kernel
theorem dL_law_300 : decode cL_law 300 = .ok (.ireturn, 1) := by decide +kernel
theorem dL_law_301 : decode cL_law 301 = .ok (.goto 2585, 3) := by decide +kernel
theorem dL_law_304 : decode cL_law 304 = .ok (.aload_n 1, 1) := by decide +kernel
theorem dL_law_305 : decode cL_law 305 = .ok (.aload_n 0, 1) := by decide +kernel
theorem dL_law_306 : decode cL_law 306 = .ok (.iload 5, 2) := by decide +kernel
theorem dL_law_308 : decode cL_law 308 = .ok (.iconst 1, 1) := by decide +kernel
theorem dL_law_309 : decode cL_law 309 = .ok (.iadd, 1) := by decide +kernel
theorem dL_law_310 : decode cL_law 310 = .ok (.iaload, 1) := by decide +kernel
theorem dL_law_311 : decode cL_law 311 = .ok (.aload_n 0, 1) := by decide +kernel
theorem dL_law_312 : decode cL_law 312 = .ok (.iload 5, 2) := by decide +kernel
theorem dL_law_314 : decode cL_law 314 = .ok (.iconst 2, 1) := by decide +kernel
theorem dL_law_315 : decode cL_law 315 = .ok (.iadd, 1) := by decide +kernel
theorem dL_law_316 : decode cL_law 316 = .ok (.iaload, 1) := by decide +kernel
theorem dL_law_317 : decode cL_law 317 = .ok (.aload_n 0, 1) := by decide +kernel
theorem dL_law_318 : decode cL_law 318 = .ok (.iload 5, 2) := by decide +kernel
theorem dL_law_320 : decode cL_law 320 = .ok (.iconst 3, 1) := by decide +kernel
theorem dL_law_321 : decode cL_law 321 = .ok (.iadd, 1) := by decide +kernel
theorem dL_law_322 : decode cL_law 322 = .ok (.iaload, 1) := by decide +kernel
theorem dL_law_323 : decode cL_law 323 = .ok (.aload_n 3, 1) := by decide +kernel
theorem dL_law_324 : decode cL_law 324 = .ok (.invokestatic 158, 3) := by decide +kernel
theorem dL_law_327 : decode cL_law 327 = .ok (.istore 6, 2) := by decide +kernel
theorem dL_law_329 : decode cL_law 329 = .ok (.aload_n 2, 1) := by decide +kernel
theorem dL_law_330 : decode cL_law 330 = .ok (.aload_n 0, 1) := by decide +kernel
theorem dL_law_331 : decode cL_law 331 = .ok (.iload 5, 2) := by decide +kernel
theorem dL_law_333 : decode cL_law 333 = .ok (.iconst 1, 1) := by decide +kernel
theorem dL_law_334 : decode cL_law 334 = .ok (.iadd, 1) := by decide +kernel
theorem dL_law_335 : decode cL_law 335 = .ok (.iaload, 1) := by decide +kernel
theorem dL_law_336 : decode cL_law 336 = .ok (.aload_n 0, 1) := by decide +kernel
theorem dL_law_337 : decode cL_law 337 = .ok (.iload 5, 2) := by decide +kernel
theorem dL_law_339 : decode cL_law 339 = .ok (.iconst 2, 1) := by decide +kernel
theorem dL_law_340 : decode cL_law 340 = .ok (.iadd, 1) := by decide +kernel
theorem dL_law_341 : decode cL_law 341 = .ok (.iaload, 1) := by decide +kernel
theorem dL_law_342 : decode cL_law 342 = .ok (.aload_n 0, 1) := by decide +kernel
theorem dL_law_343 : decode cL_law 343 = .ok (.iload 5, 2) := by decide +kernel
theorem dL_law_345 : decode cL_law 345 = .ok (.iconst 3, 1) := by decide +kernel
theorem dL_law_346 : decode cL_law 346 = .ok (.iadd, 1) := by decide +kernel
theorem dL_law_347 : decode cL_law 347 = .ok (.iaload, 1) := by decide +kernel
theorem dL_law_348 : decode cL_law 348 = .ok (.invokevirtual 161, 3) := by decide +kernel
theorem dL_law_351 : decode cL_law 351 = .ok (.istore 7, 2) := by decide +kernel
theorem dL_law_353 : decode cL_law 353 = .ok (.aload_n 2, 1) := by decide +kernel
theorem dL_law_354 : decode cL_law 354 = .ok (.invokevirtual 154, 3) := by decide +kernel
theorem dL_law_357 : decode cL_law 357 = .ok (.iload 6, 2) := by decide +kernel
theorem dL_law_359 : decode cL_law 359 = .ok (.if_icmp .eq 5, 3) := by decide +kernel
theorem dL_law_362 : decode cL_law 362 = .ok (.iconst 0, 1) := by decide +kernel
theorem dL_law_363 : decode cL_law 363 = .ok (.ireturn, 1) := by decide +kernel
theorem dL_law_364 : decode cL_law 364 = .ok (.iload 6, 2) := by decide +kernel
theorem dL_law_366 : decode cL_law 366 = .ok (.ifCond .ne 15, 3) := by decide +kernel
theorem dL_law_369 : decode cL_law 369 = .ok (.aload_n 3, 1) := by decide +kernel
theorem dL_law_370 : decode cL_law 370 = .ok (.iconst 0, 1) := by decide +kernel
theorem dL_law_371 : decode cL_law 371 = .ok (.laload, 1) := by decide +kernel
theorem dL_law_372 : decode cL_law 372 = .ok (.iload 7, 2) := by decide +kernel
theorem dL_law_374 : decode cL_law 374 = .ok (.i2l, 1) := by decide +kernel
theorem dL_law_375 : decode cL_law 375 = .ok (.lcmp, 1) := by decide +kernel
theorem dL_law_376 : decode cL_law 376 = .ok (.ifCond .eq 5, 3) := by decide +kernel
theorem dL_law_379 : decode cL_law 379 = .ok (.iconst 0, 1) := by decide +kernel
theorem dL_law_380 : decode cL_law 380 = .ok (.ireturn, 1) := by decide +kernel
theorem dL_law_381 : decode cL_law 381 = .ok (.goto 2505, 3) := by decide +kernel
theorem dL_law_384 : decode cL_law 384 = .ok (.aload_n 1, 1) := by decide +kernel
theorem dL_law_385 : decode cL_law 385 = .ok (.aload_n 0, 1) := by decide +kernel
theorem dL_law_386 : decode cL_law 386 = .ok (.iload 5, 2) := by decide +kernel
theorem dL_law_388 : decode cL_law 388 = .ok (.iconst 1, 1) := by decide +kernel
theorem dL_law_389 : decode cL_law 389 = .ok (.iadd, 1) := by decide +kernel
theorem dL_law_390 : decode cL_law 390 = .ok (.iaload, 1) := by decide +kernel
theorem dL_law_391 : decode cL_law 391 = .ok (.aload_n 0, 1) := by decide +kernel
theorem dL_law_392 : decode cL_law 392 = .ok (.iload 5, 2) := by decide +kernel
theorem dL_law_394 : decode cL_law 394 = .ok (.iconst 2, 1) := by decide +kernel
theorem dL_law_395 : decode cL_law 395 = .ok (.iadd, 1) := by decide +kernel
theorem dL_law_396 : decode cL_law 396 = .ok (.iaload, 1) := by decide +kernel
theorem dL_law_397 : decode cL_law 397 = .ok (.ifCond .eq 7, 3) := by decide +kernel
theorem dL_law_400 : decode cL_law 400 = .ok (.iconst 1, 1) := by decide +kernel
theorem dL_law_401 : decode cL_law 401 = .ok (.goto 4, 3) := by decide +kernel
theorem dL_law_404 : decode cL_law 404 = .ok (.iconst 0, 1) := by decide +kernel
theorem dL_law_405 : decode cL_law 405 = .ok (.aload_n 3, 1) := by decide +kernel
theorem dL_law_406 : decode cL_law 406 = .ok (.invokestatic 162, 3) := by decide +kernel
theorem dL_law_409 : decode cL_law 409 = .ok (.istore 6, 2) := by decide +kernel
theorem dL_law_411 : decode cL_law 411 = .ok (.aload_n 2, 1) := by decide +kernel
theorem dL_law_412 : decode cL_law 412 = .ok (.aload_n 0, 1) := by decide +kernel
theorem dL_law_413 : decode cL_law 413 = .ok (.iload 5, 2) := by decide +kernel
theorem dL_law_415 : decode cL_law 415 = .ok (.iconst 1, 1) := by decide +kernel
theorem dL_law_416 : decode cL_law 416 = .ok (.iadd, 1) := by decide +kernel
theorem dL_law_417 : decode cL_law 417 = .ok (.iaload, 1) := by decide +kernel
theorem dL_law_418 : decode cL_law 418 = .ok (.aload_n 0, 1) := by decide +kernel
theorem dL_law_419 : decode cL_law 419 = .ok (.iload 5, 2) := by decide +kernel
theorem dL_law_421 : decode cL_law 421 = .ok (.iconst 2, 1) := by decide +kernel
theorem dL_law_422 : decode cL_law 422 = .ok (.iadd, 1) := by decide +kernel
theorem dL_law_423 : decode cL_law 423 = .ok (.iaload, 1) := by decide +kernel
theorem dL_law_424 : decode cL_law 424 = .ok (.ifCond .eq 7, 3) := by decide +kernel
theorem dL_law_427 : decode cL_law 427 = .ok (.iconst 1, 1) := by decide +kernel
theorem dL_law_428 : decode cL_law 428 = .ok (.goto 4, 3) := by decide +kernel
theorem dL_law_431 : decode cL_law 431 = .ok (.iconst 0, 1) := by decide +kernel
theorem dL_law_432 : decode cL_law 432 = .ok (.invokevirtual 164, 3) := by decide +kernel
theorem dL_law_435 : decode cL_law 435 = .ok (.istore 7, 2) := by decide +kernel
theorem dL_law_437 : decode cL_law 437 = .ok (.aload_n 2, 1) := by decide +kernel
theorem dL_law_438 : decode cL_law 438 = .ok (.invokevirtual 154, 3) := by decide +kernel
theorem dL_law_441 : decode cL_law 441 = .ok (.iload 6, 2) := by decide +kernel
theorem dL_law_443 : decode cL_law 443 = .ok (.if_icmp .eq 5, 3) := by decide +kernel
theorem dL_law_446 : decode cL_law 446 = .ok (.iconst 0, 1) := by decide +kernel
theorem dL_law_447 : decode cL_law 447 = .ok (.ireturn, 1) := by decide +kernel
theorem dL_law_448 : decode cL_law 448 = .ok (.iload 6, 2) := by decide +kernel
theorem dL_law_450 : decode cL_law 450 = .ok (.ifCond .ne 22, 3) := by decide +kernel
theorem dL_law_453 : decode cL_law 453 = .ok (.aload_n 3, 1) := by decide +kernel
theorem dL_law_454 : decode cL_law 454 = .ok (.iconst 0, 1) := by decide +kernel
theorem dL_law_455 : decode cL_law 455 = .ok (.laload, 1) := by decide +kernel
theorem dL_law_456 : decode cL_law 456 = .ok (.iload 7, 2) := by decide +kernel
theorem dL_law_458 : decode cL_law 458 = .ok (.ifCond .eq 7, 3) := by decide +kernel
theorem dL_law_461 : decode cL_law 461 = .ok (.lconst 1, 1) := by decide +kernel
theorem dL_law_462 : decode cL_law 462 = .ok (.goto 4, 3) := by decide +kernel
theorem dL_law_465 : decode cL_law 465 = .ok (.lconst 0, 1) := by decide +kernel
theorem dL_law_466 : decode cL_law 466 = .ok (.lcmp, 1) := by decide +kernel
theorem dL_law_467 : decode cL_law 467 = .ok (.ifCond .eq 5, 3) := by decide +kernel
theorem dL_law_470 : decode cL_law 470 = .ok (.iconst 0, 1) := by decide +kernel
theorem dL_law_471 : decode cL_law 471 = .ok (.ireturn, 1) := by decide +kernel
theorem dL_law_472 : decode cL_law 472 = .ok (.goto 2414, 3) := by decide +kernel
theorem dL_law_475 : decode cL_law 475 = .ok (.aload_n 1, 1) := by decide +kernel
theorem dL_law_476 : decode cL_law 476 = .ok (.aload_n 0, 1) := by decide +kernel
theorem dL_law_477 : decode cL_law 477 = .ok (.iload 5, 2) := by decide +kernel
theorem dL_law_479 : decode cL_law 479 = .ok (.iconst 1, 1) := by decide +kernel
theorem dL_law_480 : decode cL_law 480 = .ok (.iadd, 1) := by decide +kernel
theorem dL_law_481 : decode cL_law 481 = .ok (.iaload, 1) := by decide +kernel
theorem dL_law_482 : decode cL_law 482 = .ok (.aload_n 0, 1) := by decide +kernel
theorem dL_law_483 : decode cL_law 483 = .ok (.iload 5, 2) := by decide +kernel
theorem dL_law_485 : decode cL_law 485 = .ok (.iconst 2, 1) := by decide +kernel
theorem dL_law_486 : decode cL_law 486 = .ok (.iadd, 1) := by decide +kernel
theorem dL_law_487 : decode cL_law 487 = .ok (.iaload, 1) := by decide +kernel
theorem dL_law_488 : decode cL_law 488 = .ok (.aload_n 0, 1) := by decide +kernel
theorem dL_law_489 : decode cL_law 489 = .ok (.iload 5, 2) := by decide +kernel
theorem dL_law_491 : decode cL_law 491 = .ok (.iconst 3, 1) := by decide +kernel
theorem dL_law_492 : decode cL_law 492 = .ok (.iadd, 1) := by decide +kernel
theorem dL_law_493 : decode cL_law 493 = .ok (.iaload, 1) := by decide +kernel
theorem dL_law_494 : decode cL_law 494 = .ok (.aload_n 0, 1) := by decide +kernel
theorem dL_law_495 : decode cL_law 495 = .ok (.iload 5, 2) := by decide +kernel
theorem dL_law_497 : decode cL_law 497 = .ok (.iconst 4, 1) := by decide +kernel
theorem dL_law_498 : decode cL_law 498 = .ok (.iadd, 1) := by decide +kernel
theorem dL_law_499 : decode cL_law 499 = .ok (.iaload, 1) := by decide +kernel
theorem dL_law_500 : decode cL_law 500 = .ok (.aload_n 3, 1) := by decide +kernel
theorem dL_law_501 : decode cL_law 501 = .ok (.invokestatic 165, 3) := by decide +kernel
theorem dL_law_504 : decode cL_law 504 = .ok (.istore 6, 2) := by decide +kernel
theorem dL_law_506 : decode cL_law 506 = .ok (.aload_n 2, 1) := by decide +kernel
theorem dL_law_507 : decode cL_law 507 = .ok (.aload_n 0, 1) := by decide +kernel
theorem dL_law_508 : decode cL_law 508 = .ok (.iload 5, 2) := by decide +kernel
theorem dL_law_510 : decode cL_law 510 = .ok (.iconst 1, 1) := by decide +kernel
theorem dL_law_511 : decode cL_law 511 = .ok (.iadd, 1) := by decide +kernel
theorem dL_law_512 : decode cL_law 512 = .ok (.iaload, 1) := by decide +kernel
theorem dL_law_513 : decode cL_law 513 = .ok (.aload_n 0, 1) := by decide +kernel
theorem dL_law_514 : decode cL_law 514 = .ok (.iload 5, 2) := by decide +kernel
theorem dL_law_516 : decode cL_law 516 = .ok (.iconst 2, 1) := by decide +kernel
theorem dL_law_517 : decode cL_law 517 = .ok (.iadd, 1) := by decide +kernel
theorem dL_law_518 : decode cL_law 518 = .ok (.iaload, 1) := by decide +kernel
theorem dL_law_519 : decode cL_law 519 = .ok (.aload_n 0, 1) := by decide +kernel
theorem dL_law_520 : decode cL_law 520 = .ok (.iload 5, 2) := by decide +kernel
theorem dL_law_522 : decode cL_law 522 = .ok (.iconst 3, 1) := by decide +kernel
theorem dL_law_523 : decode cL_law 523 = .ok (.iadd, 1) := by decide +kernel
theorem dL_law_524 : decode cL_law 524 = .ok (.iaload, 1) := by decide +kernel
theorem dL_law_525 : decode cL_law 525 = .ok (.aload_n 0, 1) := by decide +kernel
theorem dL_law_526 : decode cL_law 526 = .ok (.iload 5, 2) := by decide +kernel
theorem dL_law_528 : decode cL_law 528 = .ok (.iconst 4, 1) := by decide +kernel
theorem dL_law_529 : decode cL_law 529 = .ok (.iadd, 1) := by decide +kernel
theorem dL_law_530 : decode cL_law 530 = .ok (.iaload, 1) := by decide +kernel
theorem dL_law_531 : decode cL_law 531 = .ok (.invokevirtual 168, 3) := by decide +kernel
theorem dL_law_534 : decode cL_law 534 = .ok (.istore 7, 2) := by decide +kernel
theorem dL_law_536 : decode cL_law 536 = .ok (.aload_n 2, 1) := by decide +kernel
theorem dL_law_537 : decode cL_law 537 = .ok (.invokevirtual 154, 3) := by decide +kernel
theorem dL_law_540 : decode cL_law 540 = .ok (.iload 6, 2) := by decide +kernel
theorem dL_law_542 : decode cL_law 542 = .ok (.if_icmp .eq 5, 3) := by decide +kernel
theorem dL_law_545 : decode cL_law 545 = .ok (.iconst 0, 1) := by decide +kernel
theorem dL_law_546 : decode cL_law 546 = .ok (.ireturn, 1) := by decide +kernel
theorem dL_law_547 : decode cL_law 547 = .ok (.iload 6, 2) := by decide +kernel
theorem dL_law_549 : decode cL_law 549 = .ok (.ifCond .ne 15, 3) := by decide +kernel
theorem dL_law_552 : decode cL_law 552 = .ok (.aload_n 3, 1) := by decide +kernel
theorem dL_law_553 : decode cL_law 553 = .ok (.iconst 0, 1) := by decide +kernel
theorem dL_law_554 : decode cL_law 554 = .ok (.laload, 1) := by decide +kernel
theorem dL_law_555 : decode cL_law 555 = .ok (.iload 7, 2) := by decide +kernel
theorem dL_law_557 : decode cL_law 557 = .ok (.i2l, 1) := by decide +kernel
theorem dL_law_558 : decode cL_law 558 = .ok (.lcmp, 1) := by decide +kernel
theorem dL_law_559 : decode cL_law 559 = .ok (.ifCond .eq 5, 3) := by decide +kernel
theorem dL_law_562 : decode cL_law 562 = .ok (.iconst 0, 1) := by decide +kernel
theorem dL_law_563 : decode cL_law 563 = .ok (.ireturn, 1) := by decide +kernel
theorem dL_law_564 : decode cL_law 564 = .ok (.goto 2322, 3) := by decide +kernel
theorem dL_law_567 : decode cL_law 567 = .ok (.aload_n 1, 1) := by decide +kernel
theorem dL_law_568 : decode cL_law 568 = .ok (.aload_n 0, 1) := by decide +kernel
theorem dL_law_569 : decode cL_law 569 = .ok (.iload 5, 2) := by decide +kernel
theorem dL_law_571 : decode cL_law 571 = .ok (.iconst 1, 1) := by decide +kernel
theorem dL_law_572 : decode cL_law 572 = .ok (.iadd, 1) := by decide +kernel
theorem dL_law_573 : decode cL_law 573 = .ok (.iaload, 1) := by decide +kernel
theorem dL_law_574 : decode cL_law 574 = .ok (.aload_n 0, 1) := by decide +kernel
theorem dL_law_575 : decode cL_law 575 = .ok (.iload 5, 2) := by decide +kernel
theorem dL_law_577 : decode cL_law 577 = .ok (.iconst 2, 1) := by decide +kernel
theorem dL_law_578 : decode cL_law 578 = .ok (.iadd, 1) := by decide +kernel
theorem dL_law_579 : decode cL_law 579 = .ok (.iaload, 1) := by decide +kernel
theorem dL_law_580 : decode cL_law 580 = .ok (.aload_n 3, 1) := by decide +kernel
theorem dL_law_581 : decode cL_law 581 = .ok (.invokestatic 169, 3) := by decide +kernel
theorem dL_law_584 : decode cL_law 584 = .ok (.istore 6, 2) := by decide +kernel
theorem dL_law_586 : decode cL_law 586 = .ok (.aload_n 2, 1) := by decide +kernel
theorem dL_law_587 : decode cL_law 587 = .ok (.aload_n 0, 1) := by decide +kernel
theorem dL_law_588 : decode cL_law 588 = .ok (.iload 5, 2) := by decide +kernel
theorem dL_law_590 : decode cL_law 590 = .ok (.iconst 1, 1) := by decide +kernel
theorem dL_law_591 : decode cL_law 591 = .ok (.iadd, 1) := by decide +kernel
theorem dL_law_592 : decode cL_law 592 = .ok (.iaload, 1) := by decide +kernel
theorem dL_law_593 : decode cL_law 593 = .ok (.aload_n 0, 1) := by decide +kernel
theorem dL_law_594 : decode cL_law 594 = .ok (.iload 5, 2) := by decide +kernel
theorem dL_law_596 : decode cL_law 596 = .ok (.iconst 2, 1) := by decide +kernel
theorem dL_law_597 : decode cL_law 597 = .ok (.iadd, 1) := by decide +kernel
theorem dL_law_598 : decode cL_law 598 = .ok (.iaload, 1) := by decide +kernel
theorem dL_law_599 : decode cL_law 599 = .ok (.invokevirtual 172, 3) := by decide +kernel
theorem dL_law_602 : decode cL_law 602 = .ok (.istore 7, 2) := by decide +kernel
theorem dL_law_604 : decode cL_law 604 = .ok (.aload_n 2, 1) := by decide +kernel
theorem dL_law_605 : decode cL_law 605 = .ok (.invokevirtual 154, 3) := by decide +kernel
theorem dL_law_608 : decode cL_law 608 = .ok (.iload 6, 2) := by decide +kernel
theorem dL_law_610 : decode cL_law 610 = .ok (.if_icmp .eq 5, 3) := by decide +kernel
theorem dL_law_613 : decode cL_law 613 = .ok (.iconst 0, 1) := by decide +kernel
theorem dL_law_614 : decode cL_law 614 = .ok (.ireturn, 1) := by decide +kernel
theorem dL_law_615 : decode cL_law 615 = .ok (.iload 6, 2) := by decide +kernel
theorem dL_law_617 : decode cL_law 617 = .ok (.ifCond .ne 22, 3) := by decide +kernel
theorem dL_law_620 : decode cL_law 620 = .ok (.aload_n 3, 1) := by decide +kernel
theorem dL_law_621 : decode cL_law 621 = .ok (.iconst 0, 1) := by decide +kernel
theorem dL_law_622 : decode cL_law 622 = .ok (.laload, 1) := by decide +kernel
theorem dL_law_623 : decode cL_law 623 = .ok (.iload 7, 2) := by decide +kernel
theorem dL_law_625 : decode cL_law 625 = .ok (.ifCond .eq 7, 3) := by decide +kernel
theorem dL_law_628 : decode cL_law 628 = .ok (.lconst 1, 1) := by decide +kernel
theorem dL_law_629 : decode cL_law 629 = .ok (.goto 4, 3) := by decide +kernel
theorem dL_law_632 : decode cL_law 632 = .ok (.lconst 0, 1) := by decide +kernel
theorem dL_law_633 : decode cL_law 633 = .ok (.lcmp, 1) := by decide +kernel
theorem dL_law_634 : decode cL_law 634 = .ok (.ifCond .eq 5, 3) := by decide +kernel
theorem dL_law_637 : decode cL_law 637 = .ok (.iconst 0, 1) := by decide +kernel
theorem dL_law_638 : decode cL_law 638 = .ok (.ireturn, 1) := by decide +kernel
theorem dL_law_639 : decode cL_law 639 = .ok (.goto 2247, 3) := by decide +kernel
theorem dL_law_642 : decode cL_law 642 = .ok (.aload_n 1, 1) := by decide +kernel
theorem dL_law_643 : decode cL_law 643 = .ok (.aload_n 0, 1) := by decide +kernel
theorem dL_law_644 : decode cL_law 644 = .ok (.iload 5, 2) := by decide +kernel
theorem dL_law_646 : decode cL_law 646 = .ok (.iconst 1, 1) := by decide +kernel
theorem dL_law_647 : decode cL_law 647 = .ok (.iadd, 1) := by decide +kernel
theorem dL_law_648 : decode cL_law 648 = .ok (.iaload, 1) := by decide +kernel
theorem dL_law_649 : decode cL_law 649 = .ok (.aload_n 0, 1) := by decide +kernel
theorem dL_law_650 : decode cL_law 650 = .ok (.iload 5, 2) := by decide +kernel
theorem dL_law_652 : decode cL_law 652 = .ok (.iconst 2, 1) := by decide +kernel
theorem dL_law_653 : decode cL_law 653 = .ok (.iadd, 1) := by decide +kernel
theorem dL_law_654 : decode cL_law 654 = .ok (.iaload, 1) := by decide +kernel
theorem dL_law_655 : decode cL_law 655 = .ok (.aload_n 0, 1) := by decide +kernel
theorem dL_law_656 : decode cL_law 656 = .ok (.iload 5, 2) := by decide +kernel
theorem dL_law_658 : decode cL_law 658 = .ok (.iconst 3, 1) := by decide +kernel
theorem dL_law_659 : decode cL_law 659 = .ok (.iadd, 1) := by decide +kernel
theorem dL_law_660 : decode cL_law 660 = .ok (.iaload, 1) := by decide +kernel
theorem dL_law_661 : decode cL_law 661 = .ok (.aload_n 3, 1) := by decide +kernel
theorem dL_law_662 : decode cL_law 662 = .ok (.invokestatic 173, 3) := by decide +kernel
theorem dL_law_665 : decode cL_law 665 = .ok (.istore 6, 2) := by decide +kernel
theorem dL_law_667 : decode cL_law 667 = .ok (.aload_n 2, 1) := by decide +kernel
theorem dL_law_668 : decode cL_law 668 = .ok (.aload_n 0, 1) := by decide +kernel
theorem dL_law_669 : decode cL_law 669 = .ok (.iload 5, 2) := by decide +kernel
theorem dL_law_671 : decode cL_law 671 = .ok (.iconst 1, 1) := by decide +kernel
theorem dL_law_672 : decode cL_law 672 = .ok (.iadd, 1) := by decide +kernel
theorem dL_law_673 : decode cL_law 673 = .ok (.iaload, 1) := by decide +kernel
theorem dL_law_674 : decode cL_law 674 = .ok (.aload_n 0, 1) := by decide +kernel
theorem dL_law_675 : decode cL_law 675 = .ok (.iload 5, 2) := by decide +kernel
theorem dL_law_677 : decode cL_law 677 = .ok (.iconst 2, 1) := by decide +kernel
theorem dL_law_678 : decode cL_law 678 = .ok (.iadd, 1) := by decide +kernel
theorem dL_law_679 : decode cL_law 679 = .ok (.iaload, 1) := by decide +kernel
theorem dL_law_680 : decode cL_law 680 = .ok (.aload_n 0, 1) := by decide +kernel
theorem dL_law_681 : decode cL_law 681 = .ok (.iload 5, 2) := by decide +kernel
theorem dL_law_683 : decode cL_law 683 = .ok (.iconst 3, 1) := by decide +kernel
theorem dL_law_684 : decode cL_law 684 = .ok (.iadd, 1) := by decide +kernel
theorem dL_law_685 : decode cL_law 685 = .ok (.iaload, 1) := by decide +kernel
theorem dL_law_686 : decode cL_law 686 = .ok (.invokevirtual 175, 3) := by decide +kernel
theorem dL_law_689 : decode cL_law 689 = .ok (.istore 7, 2) := by decide +kernel
theorem dL_law_691 : decode cL_law 691 = .ok (.aload_n 2, 1) := by decide +kernel
theorem dL_law_692 : decode cL_law 692 = .ok (.invokevirtual 154, 3) := by decide +kernel
theorem dL_law_695 : decode cL_law 695 = .ok (.iload 6, 2) := by decide +kernel
theorem dL_law_697 : decode cL_law 697 = .ok (.if_icmp .eq 5, 3) := by decide +kernel
theorem dL_law_700 : decode cL_law 700 = .ok (.iconst 0, 1) := by decide +kernel
theorem dL_law_701 : decode cL_law 701 = .ok (.ireturn, 1) := by decide +kernel
theorem dL_law_702 : decode cL_law 702 = .ok (.iload 6, 2) := by decide +kernel
theorem dL_law_704 : decode cL_law 704 = .ok (.ifCond .ne 15, 3) := by decide +kernel
theorem dL_law_707 : decode cL_law 707 = .ok (.aload_n 3, 1) := by decide +kernel
theorem dL_law_708 : decode cL_law 708 = .ok (.iconst 0, 1) := by decide +kernel
theorem dL_law_709 : decode cL_law 709 = .ok (.laload, 1) := by decide +kernel
theorem dL_law_710 : decode cL_law 710 = .ok (.iload 7, 2) := by decide +kernel
theorem dL_law_712 : decode cL_law 712 = .ok (.i2l, 1) := by decide +kernel
theorem dL_law_713 : decode cL_law 713 = .ok (.lcmp, 1) := by decide +kernel
theorem dL_law_714 : decode cL_law 714 = .ok (.ifCond .eq 5, 3) := by decide +kernel
theorem dL_law_717 : decode cL_law 717 = .ok (.iconst 0, 1) := by decide +kernel
theorem dL_law_718 : decode cL_law 718 = .ok (.ireturn, 1) := by decide +kernel
theorem dL_law_719 : decode cL_law 719 = .ok (.goto 2167, 3) := by decide +kernel
theorem dL_law_722 : decode cL_law 722 = .ok (.aload_n 1, 1) := by decide +kernel
theorem dL_law_723 : decode cL_law 723 = .ok (.aload_n 0, 1) := by decide +kernel
theorem dL_law_724 : decode cL_law 724 = .ok (.iload 5, 2) := by decide +kernel
theorem dL_law_726 : decode cL_law 726 = .ok (.iconst 1, 1) := by decide +kernel
theorem dL_law_727 : decode cL_law 727 = .ok (.iadd, 1) := by decide +kernel
theorem dL_law_728 : decode cL_law 728 = .ok (.iaload, 1) := by decide +kernel
theorem dL_law_729 : decode cL_law 729 = .ok (.aload_n 0, 1) := by decide +kernel
theorem dL_law_730 : decode cL_law 730 = .ok (.iload 5, 2) := by decide +kernel
theorem dL_law_732 : decode cL_law 732 = .ok (.iconst 2, 1) := by decide +kernel
theorem dL_law_733 : decode cL_law 733 = .ok (.iadd, 1) := by decide +kernel
theorem dL_law_734 : decode cL_law 734 = .ok (.iaload, 1) := by decide +kernel
theorem dL_law_735 : decode cL_law 735 = .ok (.aload_n 0, 1) := by decide +kernel
theorem dL_law_736 : decode cL_law 736 = .ok (.iload 5, 2) := by decide +kernel
theorem dL_law_738 : decode cL_law 738 = .ok (.iconst 3, 1) := by decide +kernel
theorem dL_law_739 : decode cL_law 739 = .ok (.iadd, 1) := by decide +kernel
theorem dL_law_740 : decode cL_law 740 = .ok (.iaload, 1) := by decide +kernel
theorem dL_law_741 : decode cL_law 741 = .ok (.aload_n 3, 1) := by decide +kernel
theorem dL_law_742 : decode cL_law 742 = .ok (.invokestatic 176, 3) := by decide +kernel
theorem dL_law_745 : decode cL_law 745 = .ok (.istore 6, 2) := by decide +kernel
theorem dL_law_747 : decode cL_law 747 = .ok (.aload_n 2, 1) := by decide +kernel
theorem dL_law_748 : decode cL_law 748 = .ok (.aload_n 0, 1) := by decide +kernel
theorem dL_law_749 : decode cL_law 749 = .ok (.iload 5, 2) := by decide +kernel
theorem dL_law_751 : decode cL_law 751 = .ok (.iconst 1, 1) := by decide +kernel
theorem dL_law_752 : decode cL_law 752 = .ok (.iadd, 1) := by decide +kernel
theorem dL_law_753 : decode cL_law 753 = .ok (.iaload, 1) := by decide +kernel
theorem dL_law_754 : decode cL_law 754 = .ok (.aload_n 0, 1) := by decide +kernel
theorem dL_law_755 : decode cL_law 755 = .ok (.iload 5, 2) := by decide +kernel
theorem dL_law_757 : decode cL_law 757 = .ok (.iconst 2, 1) := by decide +kernel
theorem dL_law_758 : decode cL_law 758 = .ok (.iadd, 1) := by decide +kernel
theorem dL_law_759 : decode cL_law 759 = .ok (.iaload, 1) := by decide +kernel
theorem dL_law_760 : decode cL_law 760 = .ok (.aload_n 0, 1) := by decide +kernel
theorem dL_law_761 : decode cL_law 761 = .ok (.iload 5, 2) := by decide +kernel
theorem dL_law_763 : decode cL_law 763 = .ok (.iconst 3, 1) := by decide +kernel
theorem dL_law_764 : decode cL_law 764 = .ok (.iadd, 1) := by decide +kernel
theorem dL_law_765 : decode cL_law 765 = .ok (.iaload, 1) := by decide +kernel
theorem dL_law_766 : decode cL_law 766 = .ok (.invokevirtual 178, 3) := by decide +kernel
theorem dL_law_769 : decode cL_law 769 = .ok (.istore 7, 2) := by decide +kernel
theorem dL_law_771 : decode cL_law 771 = .ok (.aload_n 2, 1) := by decide +kernel
theorem dL_law_772 : decode cL_law 772 = .ok (.invokevirtual 154, 3) := by decide +kernel
theorem dL_law_775 : decode cL_law 775 = .ok (.iload 6, 2) := by decide +kernel
theorem dL_law_777 : decode cL_law 777 = .ok (.if_icmp .eq 5, 3) := by decide +kernel
theorem dL_law_780 : decode cL_law 780 = .ok (.iconst 0, 1) := by decide +kernel
theorem dL_law_781 : decode cL_law 781 = .ok (.ireturn, 1) := by decide +kernel
theorem dL_law_782 : decode cL_law 782 = .ok (.iload 6, 2) := by decide +kernel
theorem dL_law_784 : decode cL_law 784 = .ok (.ifCond .ne 15, 3) := by decide +kernel
theorem dL_law_787 : decode cL_law 787 = .ok (.aload_n 3, 1) := by decide +kernel
theorem dL_law_788 : decode cL_law 788 = .ok (.iconst 0, 1) := by decide +kernel
theorem dL_law_789 : decode cL_law 789 = .ok (.laload, 1) := by decide +kernel
theorem dL_law_790 : decode cL_law 790 = .ok (.iload 7, 2) := by decide +kernel
theorem dL_law_792 : decode cL_law 792 = .ok (.i2l, 1) := by decide +kernel
theorem dL_law_793 : decode cL_law 793 = .ok (.lcmp, 1) := by decide +kernel
theorem dL_law_794 : decode cL_law 794 = .ok (.ifCond .eq 5, 3) := by decide +kernel
theorem dL_law_797 : decode cL_law 797 = .ok (.iconst 0, 1) := by decide +kernel
theorem dL_law_798 : decode cL_law 798 = .ok (.ireturn, 1) := by decide +kernel
theorem dL_law_799 : decode cL_law 799 = .ok (.goto 2087, 3) := by decide +kernel
theorem dL_law_802 : decode cL_law 802 = .ok (.aload_n 1, 1) := by decide +kernel
theorem dL_law_803 : decode cL_law 803 = .ok (.aload_n 0, 1) := by decide +kernel
theorem dL_law_804 : decode cL_law 804 = .ok (.iload 5, 2) := by decide +kernel
theorem dL_law_806 : decode cL_law 806 = .ok (.iconst 1, 1) := by decide +kernel
theorem dL_law_807 : decode cL_law 807 = .ok (.iadd, 1) := by decide +kernel
theorem dL_law_808 : decode cL_law 808 = .ok (.iaload, 1) := by decide +kernel
theorem dL_law_809 : decode cL_law 809 = .ok (.aload_n 0, 1) := by decide +kernel
theorem dL_law_810 : decode cL_law 810 = .ok (.iload 5, 2) := by decide +kernel
theorem dL_law_812 : decode cL_law 812 = .ok (.iconst 2, 1) := by decide +kernel
theorem dL_law_813 : decode cL_law 813 = .ok (.iadd, 1) := by decide +kernel
theorem dL_law_814 : decode cL_law 814 = .ok (.iaload, 1) := by decide +kernel
theorem dL_law_815 : decode cL_law 815 = .ok (.aload_n 0, 1) := by decide +kernel
theorem dL_law_816 : decode cL_law 816 = .ok (.iload 5, 2) := by decide +kernel
theorem dL_law_818 : decode cL_law 818 = .ok (.iconst 3, 1) := by decide +kernel
theorem dL_law_819 : decode cL_law 819 = .ok (.iadd, 1) := by decide +kernel
theorem dL_law_820 : decode cL_law 820 = .ok (.iaload, 1) := by decide +kernel
theorem dL_law_821 : decode cL_law 821 = .ok (.ifCond .eq 7, 3) := by decide +kernel
theorem dL_law_824 : decode cL_law 824 = .ok (.iconst 1, 1) := by decide +kernel
theorem dL_law_825 : decode cL_law 825 = .ok (.goto 4, 3) := by decide +kernel
theorem dL_law_828 : decode cL_law 828 = .ok (.iconst 0, 1) := by decide +kernel
theorem dL_law_829 : decode cL_law 829 = .ok (.aload_n 3, 1) := by decide +kernel
theorem dL_law_830 : decode cL_law 830 = .ok (.invokestatic 179, 3) := by decide +kernel
theorem dL_law_833 : decode cL_law 833 = .ok (.istore 6, 2) := by decide +kernel
theorem dL_law_835 : decode cL_law 835 = .ok (.aload_n 2, 1) := by decide +kernel
theorem dL_law_836 : decode cL_law 836 = .ok (.aload_n 0, 1) := by decide +kernel
theorem dL_law_837 : decode cL_law 837 = .ok (.iload 5, 2) := by decide +kernel
theorem dL_law_839 : decode cL_law 839 = .ok (.iconst 1, 1) := by decide +kernel
theorem dL_law_840 : decode cL_law 840 = .ok (.iadd, 1) := by decide +kernel
theorem dL_law_841 : decode cL_law 841 = .ok (.iaload, 1) := by decide +kernel
theorem dL_law_842 : decode cL_law 842 = .ok (.aload_n 0, 1) := by decide +kernel
theorem dL_law_843 : decode cL_law 843 = .ok (.iload 5, 2) := by decide +kernel
theorem dL_law_845 : decode cL_law 845 = .ok (.iconst 2, 1) := by decide +kernel
theorem dL_law_846 : decode cL_law 846 = .ok (.iadd, 1) := by decide +kernel
theorem dL_law_847 : decode cL_law 847 = .ok (.iaload, 1) := by decide +kernel
theorem dL_law_848 : decode cL_law 848 = .ok (.aload_n 0, 1) := by decide +kernel
theorem dL_law_849 : decode cL_law 849 = .ok (.iload 5, 2) := by decide +kernel
theorem dL_law_851 : decode cL_law 851 = .ok (.iconst 3, 1) := by decide +kernel
theorem dL_law_852 : decode cL_law 852 = .ok (.iadd, 1) := by decide +kernel
theorem dL_law_853 : decode cL_law 853 = .ok (.iaload, 1) := by decide +kernel
theorem dL_law_854 : decode cL_law 854 = .ok (.ifCond .eq 7, 3) := by decide +kernel
theorem dL_law_857 : decode cL_law 857 = .ok (.iconst 1, 1) := by decide +kernel
theorem dL_law_858 : decode cL_law 858 = .ok (.goto 4, 3) := by decide +kernel
theorem dL_law_861 : decode cL_law 861 = .ok (.iconst 0, 1) := by decide +kernel
theorem dL_law_862 : decode cL_law 862 = .ok (.invokevirtual 182, 3) := by decide +kernel
theorem dL_law_865 : decode cL_law 865 = .ok (.istore 7, 2) := by decide +kernel
theorem dL_law_867 : decode cL_law 867 = .ok (.aload_n 2, 1) := by decide +kernel
theorem dL_law_868 : decode cL_law 868 = .ok (.invokevirtual 154, 3) := by decide +kernel
theorem dL_law_871 : decode cL_law 871 = .ok (.iload 6, 2) := by decide +kernel
theorem dL_law_873 : decode cL_law 873 = .ok (.if_icmp .eq 5, 3) := by decide +kernel
theorem dL_law_876 : decode cL_law 876 = .ok (.iconst 0, 1) := by decide +kernel
theorem dL_law_877 : decode cL_law 877 = .ok (.ireturn, 1) := by decide +kernel
theorem dL_law_878 : decode cL_law 878 = .ok (.iload 6, 2) := by decide +kernel
theorem dL_law_880 : decode cL_law 880 = .ok (.ifCond .ne 22, 3) := by decide +kernel
theorem dL_law_883 : decode cL_law 883 = .ok (.aload_n 3, 1) := by decide +kernel
theorem dL_law_884 : decode cL_law 884 = .ok (.iconst 0, 1) := by decide +kernel
theorem dL_law_885 : decode cL_law 885 = .ok (.laload, 1) := by decide +kernel
theorem dL_law_886 : decode cL_law 886 = .ok (.iload 7, 2) := by decide +kernel
theorem dL_law_888 : decode cL_law 888 = .ok (.ifCond .eq 7, 3) := by decide +kernel
theorem dL_law_891 : decode cL_law 891 = .ok (.lconst 1, 1) := by decide +kernel
theorem dL_law_892 : decode cL_law 892 = .ok (.goto 4, 3) := by decide +kernel
theorem dL_law_895 : decode cL_law 895 = .ok (.lconst 0, 1) := by decide +kernel
theorem dL_law_896 : decode cL_law 896 = .ok (.lcmp, 1) := by decide +kernel
theorem dL_law_897 : decode cL_law 897 = .ok (.ifCond .eq 5, 3) := by decide +kernel
theorem dL_law_900 : decode cL_law 900 = .ok (.iconst 0, 1) := by decide +kernel
theorem dL_law_901 : decode cL_law 901 = .ok (.ireturn, 1) := by decide +kernel
theorem dL_law_902 : decode cL_law 902 = .ok (.goto 1984, 3) := by decide +kernel
theorem dL_law_905 : decode cL_law 905 = .ok (.aload_n 1, 1) := by decide +kernel
theorem dL_law_906 : decode cL_law 906 = .ok (.aload_n 0, 1) := by decide +kernel
theorem dL_law_907 : decode cL_law 907 = .ok (.iload 5, 2) := by decide +kernel
theorem dL_law_909 : decode cL_law 909 = .ok (.iconst 1, 1) := by decide +kernel
theorem dL_law_910 : decode cL_law 910 = .ok (.iadd, 1) := by decide +kernel
theorem dL_law_911 : decode cL_law 911 = .ok (.iaload, 1) := by decide +kernel
theorem dL_law_912 : decode cL_law 912 = .ok (.aload_n 0, 1) := by decide +kernel
theorem dL_law_913 : decode cL_law 913 = .ok (.iload 5, 2) := by decide +kernel
theorem dL_law_915 : decode cL_law 915 = .ok (.iconst 2, 1) := by decide +kernel
theorem dL_law_916 : decode cL_law 916 = .ok (.iadd, 1) := by decide +kernel
theorem dL_law_917 : decode cL_law 917 = .ok (.iaload, 1) := by decide +kernel
theorem dL_law_918 : decode cL_law 918 = .ok (.aload_n 3, 1) := by decide +kernel
theorem dL_law_919 : decode cL_law 919 = .ok (.invokestatic 183, 3) := by decide +kernel
theorem dL_law_922 : decode cL_law 922 = .ok (.istore 6, 2) := by decide +kernel
theorem dL_law_924 : decode cL_law 924 = .ok (.aload_n 2, 1) := by decide +kernel
theorem dL_law_925 : decode cL_law 925 = .ok (.aload_n 0, 1) := by decide +kernel
theorem dL_law_926 : decode cL_law 926 = .ok (.iload 5, 2) := by decide +kernel
theorem dL_law_928 : decode cL_law 928 = .ok (.iconst 1, 1) := by decide +kernel
theorem dL_law_929 : decode cL_law 929 = .ok (.iadd, 1) := by decide +kernel
theorem dL_law_930 : decode cL_law 930 = .ok (.iaload, 1) := by decide +kernel
theorem dL_law_931 : decode cL_law 931 = .ok (.aload_n 0, 1) := by decide +kernel
theorem dL_law_932 : decode cL_law 932 = .ok (.iload 5, 2) := by decide +kernel
theorem dL_law_934 : decode cL_law 934 = .ok (.iconst 2, 1) := by decide +kernel
theorem dL_law_935 : decode cL_law 935 = .ok (.iadd, 1) := by decide +kernel
theorem dL_law_936 : decode cL_law 936 = .ok (.iaload, 1) := by decide +kernel
theorem dL_law_937 : decode cL_law 937 = .ok (.invokevirtual 185, 3) := by decide +kernel
theorem dL_law_940 : decode cL_law 940 = .ok (.istore 7, 2) := by decide +kernel
theorem dL_law_942 : decode cL_law 942 = .ok (.aload_n 2, 1) := by decide +kernel
theorem dL_law_943 : decode cL_law 943 = .ok (.invokevirtual 154, 3) := by decide +kernel
theorem dL_law_946 : decode cL_law 946 = .ok (.iload 6, 2) := by decide +kernel
theorem dL_law_948 : decode cL_law 948 = .ok (.if_icmp .eq 5, 3) := by decide +kernel
theorem dL_law_951 : decode cL_law 951 = .ok (.iconst 0, 1) := by decide +kernel
theorem dL_law_952 : decode cL_law 952 = .ok (.ireturn, 1) := by decide +kernel
theorem dL_law_953 : decode cL_law 953 = .ok (.iload 6, 2) := by decide +kernel
theorem dL_law_955 : decode cL_law 955 = .ok (.ifCond .ne 15, 3) := by decide +kernel
theorem dL_law_958 : decode cL_law 958 = .ok (.aload_n 3, 1) := by decide +kernel
theorem dL_law_959 : decode cL_law 959 = .ok (.iconst 0, 1) := by decide +kernel
theorem dL_law_960 : decode cL_law 960 = .ok (.laload, 1) := by decide +kernel
theorem dL_law_961 : decode cL_law 961 = .ok (.iload 7, 2) := by decide +kernel
theorem dL_law_963 : decode cL_law 963 = .ok (.i2l, 1) := by decide +kernel
theorem dL_law_964 : decode cL_law 964 = .ok (.lcmp, 1) := by decide +kernel
theorem dL_law_965 : decode cL_law 965 = .ok (.ifCond .eq 5, 3) := by decide +kernel
theorem dL_law_968 : decode cL_law 968 = .ok (.iconst 0, 1) := by decide +kernel
theorem dL_law_969 : decode cL_law 969 = .ok (.ireturn, 1) := by decide +kernel
theorem dL_law_970 : decode cL_law 970 = .ok (.goto 1916, 3) := by decide +kernel
theorem dL_law_973 : decode cL_law 973 = .ok (.aload_n 1, 1) := by decide +kernel
theorem dL_law_974 : decode cL_law 974 = .ok (.aload_n 0, 1) := by decide +kernel
theorem dL_law_975 : decode cL_law 975 = .ok (.iload 5, 2) := by decide +kernel
theorem dL_law_977 : decode cL_law 977 = .ok (.iconst 1, 1) := by decide +kernel
theorem dL_law_978 : decode cL_law 978 = .ok (.iadd, 1) := by decide +kernel
theorem dL_law_979 : decode cL_law 979 = .ok (.iaload, 1) := by decide +kernel
theorem dL_law_980 : decode cL_law 980 = .ok (.aload_n 0, 1) := by decide +kernel
theorem dL_law_981 : decode cL_law 981 = .ok (.iload 5, 2) := by decide +kernel
theorem dL_law_983 : decode cL_law 983 = .ok (.iconst 2, 1) := by decide +kernel
theorem dL_law_984 : decode cL_law 984 = .ok (.iadd, 1) := by decide +kernel
theorem dL_law_985 : decode cL_law 985 = .ok (.iaload, 1) := by decide +kernel
theorem dL_law_986 : decode cL_law 986 = .ok (.aload_n 0, 1) := by decide +kernel
theorem dL_law_987 : decode cL_law 987 = .ok (.iload 5, 2) := by decide +kernel
theorem dL_law_989 : decode cL_law 989 = .ok (.iconst 3, 1) := by decide +kernel
theorem dL_law_990 : decode cL_law 990 = .ok (.iadd, 1) := by decide +kernel
theorem dL_law_991 : decode cL_law 991 = .ok (.iaload, 1) := by decide +kernel
theorem dL_law_992 : decode cL_law 992 = .ok (.ifCond .eq 7, 3) := by decide +kernel
theorem dL_law_995 : decode cL_law 995 = .ok (.iconst 1, 1) := by decide +kernel
theorem dL_law_996 : decode cL_law 996 = .ok (.goto 4, 3) := by decide +kernel
theorem dL_law_999 : decode cL_law 999 = .ok (.iconst 0, 1) := by decide +kernel
theorem dL_law_1000 : decode cL_law 1000 = .ok (.aload_n 3, 1) := by decide +kernel
theorem dL_law_1001 : decode cL_law 1001 = .ok (.invokestatic 186, 3) := by decide +kernel
theorem dL_law_1004 : decode cL_law 1004 = .ok (.istore 6, 2) := by decide +kernel
theorem dL_law_1006 : decode cL_law 1006 = .ok (.aload_n 2, 1) := by decide +kernel
theorem dL_law_1007 : decode cL_law 1007 = .ok (.aload_n 0, 1) := by decide +kernel
theorem dL_law_1008 : decode cL_law 1008 = .ok (.iload 5, 2) := by decide +kernel
theorem dL_law_1010 : decode cL_law 1010 = .ok (.iconst 1, 1) := by decide +kernel
theorem dL_law_1011 : decode cL_law 1011 = .ok (.iadd, 1) := by decide +kernel
theorem dL_law_1012 : decode cL_law 1012 = .ok (.iaload, 1) := by decide +kernel
theorem dL_law_1013 : decode cL_law 1013 = .ok (.aload_n 0, 1) := by decide +kernel
theorem dL_law_1014 : decode cL_law 1014 = .ok (.iload 5, 2) := by decide +kernel
theorem dL_law_1016 : decode cL_law 1016 = .ok (.iconst 2, 1) := by decide +kernel
theorem dL_law_1017 : decode cL_law 1017 = .ok (.iadd, 1) := by decide +kernel
theorem dL_law_1018 : decode cL_law 1018 = .ok (.iaload, 1) := by decide +kernel
theorem dL_law_1019 : decode cL_law 1019 = .ok (.aload_n 0, 1) := by decide +kernel
theorem dL_law_1020 : decode cL_law 1020 = .ok (.iload 5, 2) := by decide +kernel
theorem dL_law_1022 : decode cL_law 1022 = .ok (.iconst 3, 1) := by decide +kernel
theorem dL_law_1023 : decode cL_law 1023 = .ok (.iadd, 1) := by decide +kernel
theorem dL_law_1024 : decode cL_law 1024 = .ok (.iaload, 1) := by decide +kernel
theorem dL_law_1025 : decode cL_law 1025 = .ok (.ifCond .eq 7, 3) := by decide +kernel
theorem dL_law_1028 : decode cL_law 1028 = .ok (.iconst 1, 1) := by decide +kernel
theorem dL_law_1029 : decode cL_law 1029 = .ok (.goto 4, 3) := by decide +kernel
theorem dL_law_1032 : decode cL_law 1032 = .ok (.iconst 0, 1) := by decide +kernel
theorem dL_law_1033 : decode cL_law 1033 = .ok (.invokevirtual 188, 3) := by decide +kernel
theorem dL_law_1036 : decode cL_law 1036 = .ok (.istore 7, 2) := by decide +kernel
theorem dL_law_1038 : decode cL_law 1038 = .ok (.aload_n 2, 1) := by decide +kernel
theorem dL_law_1039 : decode cL_law 1039 = .ok (.invokevirtual 154, 3) := by decide +kernel
theorem dL_law_1042 : decode cL_law 1042 = .ok (.iload 6, 2) := by decide +kernel
theorem dL_law_1044 : decode cL_law 1044 = .ok (.if_icmp .eq 5, 3) := by decide +kernel
theorem dL_law_1047 : decode cL_law 1047 = .ok (.iconst 0, 1) := by decide +kernel
theorem dL_law_1048 : decode cL_law 1048 = .ok (.ireturn, 1) := by decide +kernel
theorem dL_law_1049 : decode cL_law 1049 = .ok (.iload 6, 2) := by decide +kernel
theorem dL_law_1051 : decode cL_law 1051 = .ok (.ifCond .ne 22, 3) := by decide +kernel
theorem dL_law_1054 : decode cL_law 1054 = .ok (.aload_n 3, 1) := by decide +kernel
theorem dL_law_1055 : decode cL_law 1055 = .ok (.iconst 0, 1) := by decide +kernel
theorem dL_law_1056 : decode cL_law 1056 = .ok (.laload, 1) := by decide +kernel
theorem dL_law_1057 : decode cL_law 1057 = .ok (.iload 7, 2) := by decide +kernel
theorem dL_law_1059 : decode cL_law 1059 = .ok (.ifCond .eq 7, 3) := by decide +kernel
theorem dL_law_1062 : decode cL_law 1062 = .ok (.lconst 1, 1) := by decide +kernel
theorem dL_law_1063 : decode cL_law 1063 = .ok (.goto 4, 3) := by decide +kernel
theorem dL_law_1066 : decode cL_law 1066 = .ok (.lconst 0, 1) := by decide +kernel
theorem dL_law_1067 : decode cL_law 1067 = .ok (.lcmp, 1) := by decide +kernel
theorem dL_law_1068 : decode cL_law 1068 = .ok (.ifCond .eq 5, 3) := by decide +kernel
theorem dL_law_1071 : decode cL_law 1071 = .ok (.iconst 0, 1) := by decide +kernel
theorem dL_law_1072 : decode cL_law 1072 = .ok (.ireturn, 1) := by decide +kernel
theorem dL_law_1073 : decode cL_law 1073 = .ok (.goto 1813, 3) := by decide +kernel
theorem dL_law_1076 : decode cL_law 1076 = .ok (.aload_n 1, 1) := by decide +kernel
theorem dL_law_1077 : decode cL_law 1077 = .ok (.aload_n 0, 1) := by decide +kernel
theorem dL_law_1078 : decode cL_law 1078 = .ok (.iload 5, 2) := by decide +kernel
theorem dL_law_1080 : decode cL_law 1080 = .ok (.iconst 1, 1) := by decide +kernel
theorem dL_law_1081 : decode cL_law 1081 = .ok (.iadd, 1) := by decide +kernel
theorem dL_law_1082 : decode cL_law 1082 = .ok (.iaload, 1) := by decide +kernel
theorem dL_law_1083 : decode cL_law 1083 = .ok (.i2c, 1) := by decide +kernel
theorem dL_law_1084 : decode cL_law 1084 = .ok (.aload_n 0, 1) := by decide +kernel
theorem dL_law_1085 : decode cL_law 1085 = .ok (.iload 5, 2) := by decide +kernel
theorem dL_law_1087 : decode cL_law 1087 = .ok (.iconst 2, 1) := by decide +kernel
theorem dL_law_1088 : decode cL_law 1088 = .ok (.iadd, 1) := by decide +kernel
theorem dL_law_1089 : decode cL_law 1089 = .ok (.iaload, 1) := by decide +kernel
theorem dL_law_1090 : decode cL_law 1090 = .ok (.aload_n 0, 1) := by decide +kernel
theorem dL_law_1091 : decode cL_law 1091 = .ok (.iload 5, 2) := by decide +kernel
theorem dL_law_1093 : decode cL_law 1093 = .ok (.iconst 3, 1) := by decide +kernel
theorem dL_law_1094 : decode cL_law 1094 = .ok (.iadd, 1) := by decide +kernel
theorem dL_law_1095 : decode cL_law 1095 = .ok (.iaload, 1) := by decide +kernel
theorem dL_law_1096 : decode cL_law 1096 = .ok (.aload_n 0, 1) := by decide +kernel
theorem dL_law_1097 : decode cL_law 1097 = .ok (.iload 5, 2) := by decide +kernel
theorem dL_law_1099 : decode cL_law 1099 = .ok (.iconst 4, 1) := by decide +kernel
theorem dL_law_1100 : decode cL_law 1100 = .ok (.iadd, 1) := by decide +kernel
theorem dL_law_1101 : decode cL_law 1101 = .ok (.iaload, 1) := by decide +kernel
theorem dL_law_1102 : decode cL_law 1102 = .ok (.aload_n 0, 1) := by decide +kernel
theorem dL_law_1103 : decode cL_law 1103 = .ok (.iload 5, 2) := by decide +kernel
theorem dL_law_1105 : decode cL_law 1105 = .ok (.iconst 5, 1) := by decide +kernel
theorem dL_law_1106 : decode cL_law 1106 = .ok (.iadd, 1) := by decide +kernel
theorem dL_law_1107 : decode cL_law 1107 = .ok (.iaload, 1) := by decide +kernel
theorem dL_law_1108 : decode cL_law 1108 = .ok (.aload_n 3, 1) := by decide +kernel
theorem dL_law_1109 : decode cL_law 1109 = .ok (.invokestatic 189, 3) := by decide +kernel
theorem dL_law_1112 : decode cL_law 1112 = .ok (.istore 6, 2) := by decide +kernel
theorem dL_law_1114 : decode cL_law 1114 = .ok (.aload_n 2, 1) := by decide +kernel
theorem dL_law_1115 : decode cL_law 1115 = .ok (.aload_n 0, 1) := by decide +kernel
theorem dL_law_1116 : decode cL_law 1116 = .ok (.iload 5, 2) := by decide +kernel
theorem dL_law_1118 : decode cL_law 1118 = .ok (.iconst 1, 1) := by decide +kernel
theorem dL_law_1119 : decode cL_law 1119 = .ok (.iadd, 1) := by decide +kernel
theorem dL_law_1120 : decode cL_law 1120 = .ok (.iaload, 1) := by decide +kernel
theorem dL_law_1121 : decode cL_law 1121 = .ok (.i2c, 1) := by decide +kernel
theorem dL_law_1122 : decode cL_law 1122 = .ok (.aload_n 0, 1) := by decide +kernel
theorem dL_law_1123 : decode cL_law 1123 = .ok (.iload 5, 2) := by decide +kernel
theorem dL_law_1125 : decode cL_law 1125 = .ok (.iconst 2, 1) := by decide +kernel
theorem dL_law_1126 : decode cL_law 1126 = .ok (.iadd, 1) := by decide +kernel
theorem dL_law_1127 : decode cL_law 1127 = .ok (.iaload, 1) := by decide +kernel
theorem dL_law_1128 : decode cL_law 1128 = .ok (.aload_n 0, 1) := by decide +kernel
theorem dL_law_1129 : decode cL_law 1129 = .ok (.iload 5, 2) := by decide +kernel
theorem dL_law_1131 : decode cL_law 1131 = .ok (.iconst 3, 1) := by decide +kernel
theorem dL_law_1132 : decode cL_law 1132 = .ok (.iadd, 1) := by decide +kernel
theorem dL_law_1133 : decode cL_law 1133 = .ok (.iaload, 1) := by decide +kernel
theorem dL_law_1134 : decode cL_law 1134 = .ok (.aload_n 0, 1) := by decide +kernel
theorem dL_law_1135 : decode cL_law 1135 = .ok (.iload 5, 2) := by decide +kernel
theorem dL_law_1137 : decode cL_law 1137 = .ok (.iconst 4, 1) := by decide +kernel
theorem dL_law_1138 : decode cL_law 1138 = .ok (.iadd, 1) := by decide +kernel
theorem dL_law_1139 : decode cL_law 1139 = .ok (.iaload, 1) := by decide +kernel
theorem dL_law_1140 : decode cL_law 1140 = .ok (.aload_n 0, 1) := by decide +kernel
theorem dL_law_1141 : decode cL_law 1141 = .ok (.iload 5, 2) := by decide +kernel
theorem dL_law_1143 : decode cL_law 1143 = .ok (.iconst 5, 1) := by decide +kernel
theorem dL_law_1144 : decode cL_law 1144 = .ok (.iadd, 1) := by decide +kernel
theorem dL_law_1145 : decode cL_law 1145 = .ok (.iaload, 1) := by decide +kernel
theorem dL_law_1146 : decode cL_law 1146 = .ok (.invokevirtual 192, 3) := by decide +kernel
theorem dL_law_1149 : decode cL_law 1149 = .ok (.istore 7, 2) := by decide +kernel
theorem dL_law_1151 : decode cL_law 1151 = .ok (.aload_n 2, 1) := by decide +kernel
theorem dL_law_1152 : decode cL_law 1152 = .ok (.invokevirtual 154, 3) := by decide +kernel
theorem dL_law_1155 : decode cL_law 1155 = .ok (.iload 6, 2) := by decide +kernel
theorem dL_law_1157 : decode cL_law 1157 = .ok (.if_icmp .eq 5, 3) := by decide +kernel
theorem dL_law_1160 : decode cL_law 1160 = .ok (.iconst 0, 1) := by decide +kernel
theorem dL_law_1161 : decode cL_law 1161 = .ok (.ireturn, 1) := by decide +kernel
theorem dL_law_1162 : decode cL_law 1162 = .ok (.iload 6, 2) := by decide +kernel
theorem dL_law_1164 : decode cL_law 1164 = .ok (.ifCond .ne 15, 3) := by decide +kernel
theorem dL_law_1167 : decode cL_law 1167 = .ok (.aload_n 3, 1) := by decide +kernel
theorem dL_law_1168 : decode cL_law 1168 = .ok (.iconst 0, 1) := by decide +kernel
theorem dL_law_1169 : decode cL_law 1169 = .ok (.laload, 1) := by decide +kernel
theorem dL_law_1170 : decode cL_law 1170 = .ok (.iload 7, 2) := by decide +kernel
theorem dL_law_1172 : decode cL_law 1172 = .ok (.i2l, 1) := by decide +kernel
theorem dL_law_1173 : decode cL_law 1173 = .ok (.lcmp, 1) := by decide +kernel
theorem dL_law_1174 : decode cL_law 1174 = .ok (.ifCond .eq 5, 3) := by decide +kernel
theorem dL_law_1177 : decode cL_law 1177 = .ok (.iconst 0, 1) := by decide +kernel
theorem dL_law_1178 : decode cL_law 1178 = .ok (.ireturn, 1) := by decide +kernel
theorem dL_law_1179 : decode cL_law 1179 = .ok (.goto 1707, 3) := by decide +kernel
theorem dL_law_1182 : decode cL_law 1182 = .ok (.aload_n 1, 1) := by decide +kernel
theorem dL_law_1183 : decode cL_law 1183 = .ok (.aload_n 0, 1) := by decide +kernel
theorem dL_law_1184 : decode cL_law 1184 = .ok (.iload 5, 2) := by decide +kernel
theorem dL_law_1186 : decode cL_law 1186 = .ok (.iconst 1, 1) := by decide +kernel
theorem dL_law_1187 : decode cL_law 1187 = .ok (.iadd, 1) := by decide +kernel
theorem dL_law_1188 : decode cL_law 1188 = .ok (.iaload, 1) := by decide +kernel
theorem dL_law_1189 : decode cL_law 1189 = .ok (.aload_n 0, 1) := by decide +kernel
theorem dL_law_1190 : decode cL_law 1190 = .ok (.iload 5, 2) := by decide +kernel
theorem dL_law_1192 : decode cL_law 1192 = .ok (.iconst 2, 1) := by decide +kernel
theorem dL_law_1193 : decode cL_law 1193 = .ok (.iadd, 1) := by decide +kernel
theorem dL_law_1194 : decode cL_law 1194 = .ok (.iaload, 1) := by decide +kernel
theorem dL_law_1195 : decode cL_law 1195 = .ok (.aload_n 3, 1) := by decide +kernel
theorem dL_law_1196 : decode cL_law 1196 = .ok (.invokestatic 193, 3) := by decide +kernel
theorem dL_law_1199 : decode cL_law 1199 = .ok (.istore 6, 2) := by decide +kernel
theorem dL_law_1201 : decode cL_law 1201 = .ok (.aload_n 2, 1) := by decide +kernel
theorem dL_law_1202 : decode cL_law 1202 = .ok (.aload_n 0, 1) := by decide +kernel
theorem dL_law_1203 : decode cL_law 1203 = .ok (.iload 5, 2) := by decide +kernel
theorem dL_law_1205 : decode cL_law 1205 = .ok (.iconst 1, 1) := by decide +kernel
theorem dL_law_1206 : decode cL_law 1206 = .ok (.iadd, 1) := by decide +kernel
theorem dL_law_1207 : decode cL_law 1207 = .ok (.iaload, 1) := by decide +kernel
theorem dL_law_1208 : decode cL_law 1208 = .ok (.aload_n 0, 1) := by decide +kernel
theorem dL_law_1209 : decode cL_law 1209 = .ok (.iload 5, 2) := by decide +kernel
theorem dL_law_1211 : decode cL_law 1211 = .ok (.iconst 2, 1) := by decide +kernel
theorem dL_law_1212 : decode cL_law 1212 = .ok (.iadd, 1) := by decide +kernel
theorem dL_law_1213 : decode cL_law 1213 = .ok (.iaload, 1) := by decide +kernel
theorem dL_law_1214 : decode cL_law 1214 = .ok (.invokevirtual 195, 3) := by decide +kernel
theorem dL_law_1217 : decode cL_law 1217 = .ok (.istore 7, 2) := by decide +kernel
theorem dL_law_1219 : decode cL_law 1219 = .ok (.aload_n 2, 1) := by decide +kernel
theorem dL_law_1220 : decode cL_law 1220 = .ok (.invokevirtual 154, 3) := by decide +kernel
theorem dL_law_1223 : decode cL_law 1223 = .ok (.iload 6, 2) := by decide +kernel
theorem dL_law_1225 : decode cL_law 1225 = .ok (.if_icmp .eq 5, 3) := by decide +kernel
theorem dL_law_1228 : decode cL_law 1228 = .ok (.iconst 0, 1) := by decide +kernel
theorem dL_law_1229 : decode cL_law 1229 = .ok (.ireturn, 1) := by decide +kernel
theorem dL_law_1230 : decode cL_law 1230 = .ok (.iload 6, 2) := by decide +kernel
theorem dL_law_1232 : decode cL_law 1232 = .ok (.ifCond .ne 15, 3) := by decide +kernel
theorem dL_law_1235 : decode cL_law 1235 = .ok (.aload_n 3, 1) := by decide +kernel
theorem dL_law_1236 : decode cL_law 1236 = .ok (.iconst 0, 1) := by decide +kernel
theorem dL_law_1237 : decode cL_law 1237 = .ok (.laload, 1) := by decide +kernel
theorem dL_law_1238 : decode cL_law 1238 = .ok (.iload 7, 2) := by decide +kernel
theorem dL_law_1240 : decode cL_law 1240 = .ok (.i2l, 1) := by decide +kernel
theorem dL_law_1241 : decode cL_law 1241 = .ok (.lcmp, 1) := by decide +kernel
theorem dL_law_1242 : decode cL_law 1242 = .ok (.ifCond .eq 5, 3) := by decide +kernel
theorem dL_law_1245 : decode cL_law 1245 = .ok (.iconst 0, 1) := by decide +kernel
theorem dL_law_1246 : decode cL_law 1246 = .ok (.ireturn, 1) := by decide +kernel
theorem dL_law_1247 : decode cL_law 1247 = .ok (.goto 1639, 3) := by decide +kernel
theorem dL_law_1250 : decode cL_law 1250 = .ok (.aload_n 1, 1) := by decide +kernel
theorem dL_law_1251 : decode cL_law 1251 = .ok (.aload_n 0, 1) := by decide +kernel
theorem dL_law_1252 : decode cL_law 1252 = .ok (.iload 5, 2) := by decide +kernel
theorem dL_law_1254 : decode cL_law 1254 = .ok (.iconst 1, 1) := by decide +kernel
theorem dL_law_1255 : decode cL_law 1255 = .ok (.iadd, 1) := by decide +kernel
theorem dL_law_1256 : decode cL_law 1256 = .ok (.iaload, 1) := by decide +kernel
theorem dL_law_1257 : decode cL_law 1257 = .ok (.aload_n 0, 1) := by decide +kernel
theorem dL_law_1258 : decode cL_law 1258 = .ok (.iload 5, 2) := by decide +kernel
theorem dL_law_1260 : decode cL_law 1260 = .ok (.iconst 2, 1) := by decide +kernel
theorem dL_law_1261 : decode cL_law 1261 = .ok (.iadd, 1) := by decide +kernel
theorem dL_law_1262 : decode cL_law 1262 = .ok (.iaload, 1) := by decide +kernel
theorem dL_law_1263 : decode cL_law 1263 = .ok (.aload_n 3, 1) := by decide +kernel
theorem dL_law_1264 : decode cL_law 1264 = .ok (.invokestatic 196, 3) := by decide +kernel
theorem dL_law_1267 : decode cL_law 1267 = .ok (.istore 6, 2) := by decide +kernel
theorem dL_law_1269 : decode cL_law 1269 = .ok (.aload_n 2, 1) := by decide +kernel
theorem dL_law_1270 : decode cL_law 1270 = .ok (.aload_n 0, 1) := by decide +kernel
theorem dL_law_1271 : decode cL_law 1271 = .ok (.iload 5, 2) := by decide +kernel
theorem dL_law_1273 : decode cL_law 1273 = .ok (.iconst 1, 1) := by decide +kernel
theorem dL_law_1274 : decode cL_law 1274 = .ok (.iadd, 1) := by decide +kernel
theorem dL_law_1275 : decode cL_law 1275 = .ok (.iaload, 1) := by decide +kernel
theorem dL_law_1276 : decode cL_law 1276 = .ok (.aload_n 0, 1) := by decide +kernel
theorem dL_law_1277 : decode cL_law 1277 = .ok (.iload 5, 2) := by decide +kernel
theorem dL_law_1279 : decode cL_law 1279 = .ok (.iconst 2, 1) := by decide +kernel
theorem dL_law_1280 : decode cL_law 1280 = .ok (.iadd, 1) := by decide +kernel
theorem dL_law_1281 : decode cL_law 1281 = .ok (.iaload, 1) := by decide +kernel
theorem dL_law_1282 : decode cL_law 1282 = .ok (.invokevirtual 198, 3) := by decide +kernel
theorem dL_law_1285 : decode cL_law 1285 = .ok (.istore 7, 2) := by decide +kernel
theorem dL_law_1287 : decode cL_law 1287 = .ok (.aload_n 2, 1) := by decide +kernel
theorem dL_law_1288 : decode cL_law 1288 = .ok (.invokevirtual 154, 3) := by decide +kernel
theorem dL_law_1291 : decode cL_law 1291 = .ok (.iload 6, 2) := by decide +kernel
theorem dL_law_1293 : decode cL_law 1293 = .ok (.if_icmp .eq 5, 3) := by decide +kernel
theorem dL_law_1296 : decode cL_law 1296 = .ok (.iconst 0, 1) := by decide +kernel
theorem dL_law_1297 : decode cL_law 1297 = .ok (.ireturn, 1) := by decide +kernel
theorem dL_law_1298 : decode cL_law 1298 = .ok (.iload 6, 2) := by decide +kernel
theorem dL_law_1300 : decode cL_law 1300 = .ok (.ifCond .ne 15, 3) := by decide +kernel
theorem dL_law_1303 : decode cL_law 1303 = .ok (.aload_n 3, 1) := by decide +kernel
theorem dL_law_1304 : decode cL_law 1304 = .ok (.iconst 0, 1) := by decide +kernel
theorem dL_law_1305 : decode cL_law 1305 = .ok (.laload, 1) := by decide +kernel
theorem dL_law_1306 : decode cL_law 1306 = .ok (.iload 7, 2) := by decide +kernel
theorem dL_law_1308 : decode cL_law 1308 = .ok (.i2l, 1) := by decide +kernel
theorem dL_law_1309 : decode cL_law 1309 = .ok (.lcmp, 1) := by decide +kernel
theorem dL_law_1310 : decode cL_law 1310 = .ok (.ifCond .eq 5, 3) := by decide +kernel
theorem dL_law_1313 : decode cL_law 1313 = .ok (.iconst 0, 1) := by decide +kernel
theorem dL_law_1314 : decode cL_law 1314 = .ok (.ireturn, 1) := by decide +kernel
theorem dL_law_1315 : decode cL_law 1315 = .ok (.goto 1571, 3) := by decide +kernel
theorem dL_law_1318 : decode cL_law 1318 = .ok (.aload_n 1, 1) := by decide +kernel
theorem dL_law_1319 : decode cL_law 1319 = .ok (.aload_n 0, 1) := by decide +kernel
theorem dL_law_1320 : decode cL_law 1320 = .ok (.iload 5, 2) := by decide +kernel
theorem dL_law_1322 : decode cL_law 1322 = .ok (.iconst 1, 1) := by decide +kernel
theorem dL_law_1323 : decode cL_law 1323 = .ok (.iadd, 1) := by decide +kernel
theorem dL_law_1324 : decode cL_law 1324 = .ok (.iaload, 1) := by decide +kernel
theorem dL_law_1325 : decode cL_law 1325 = .ok (.aload_n 0, 1) := by decide +kernel
theorem dL_law_1326 : decode cL_law 1326 = .ok (.iload 5, 2) := by decide +kernel
theorem dL_law_1328 : decode cL_law 1328 = .ok (.iconst 2, 1) := by decide +kernel
theorem dL_law_1329 : decode cL_law 1329 = .ok (.iadd, 1) := by decide +kernel
theorem dL_law_1330 : decode cL_law 1330 = .ok (.iaload, 1) := by decide +kernel
theorem dL_law_1331 : decode cL_law 1331 = .ok (.aload_n 3, 1) := by decide +kernel
theorem dL_law_1332 : decode cL_law 1332 = .ok (.invokestatic 199, 3) := by decide +kernel
theorem dL_law_1335 : decode cL_law 1335 = .ok (.istore 6, 2) := by decide +kernel
theorem dL_law_1337 : decode cL_law 1337 = .ok (.aload_n 2, 1) := by decide +kernel
theorem dL_law_1338 : decode cL_law 1338 = .ok (.aload_n 0, 1) := by decide +kernel
theorem dL_law_1339 : decode cL_law 1339 = .ok (.iload 5, 2) := by decide +kernel
theorem dL_law_1341 : decode cL_law 1341 = .ok (.iconst 1, 1) := by decide +kernel
theorem dL_law_1342 : decode cL_law 1342 = .ok (.iadd, 1) := by decide +kernel
theorem dL_law_1343 : decode cL_law 1343 = .ok (.iaload, 1) := by decide +kernel
theorem dL_law_1344 : decode cL_law 1344 = .ok (.aload_n 0, 1) := by decide +kernel
theorem dL_law_1345 : decode cL_law 1345 = .ok (.iload 5, 2) := by decide +kernel
theorem dL_law_1347 : decode cL_law 1347 = .ok (.iconst 2, 1) := by decide +kernel
theorem dL_law_1348 : decode cL_law 1348 = .ok (.iadd, 1) := by decide +kernel
theorem dL_law_1349 : decode cL_law 1349 = .ok (.iaload, 1) := by decide +kernel
theorem dL_law_1350 : decode cL_law 1350 = .ok (.invokevirtual 201, 3) := by decide +kernel
theorem dL_law_1353 : decode cL_law 1353 = .ok (.istore 7, 2) := by decide +kernel
theorem dL_law_1355 : decode cL_law 1355 = .ok (.aload_n 2, 1) := by decide +kernel
theorem dL_law_1356 : decode cL_law 1356 = .ok (.invokevirtual 154, 3) := by decide +kernel
theorem dL_law_1359 : decode cL_law 1359 = .ok (.iload 6, 2) := by decide +kernel
theorem dL_law_1361 : decode cL_law 1361 = .ok (.if_icmp .eq 5, 3) := by decide +kernel
theorem dL_law_1364 : decode cL_law 1364 = .ok (.iconst 0, 1) := by decide +kernel
theorem dL_law_1365 : decode cL_law 1365 = .ok (.ireturn, 1) := by decide +kernel
theorem dL_law_1366 : decode cL_law 1366 = .ok (.iload 6, 2) := by decide +kernel
theorem dL_law_1368 : decode cL_law 1368 = .ok (.ifCond .ne 15, 3) := by decide +kernel
theorem dL_law_1371 : decode cL_law 1371 = .ok (.aload_n 3, 1) := by decide +kernel
theorem dL_law_1372 : decode cL_law 1372 = .ok (.iconst 0, 1) := by decide +kernel
theorem dL_law_1373 : decode cL_law 1373 = .ok (.laload, 1) := by decide +kernel
theorem dL_law_1374 : decode cL_law 1374 = .ok (.iload 7, 2) := by decide +kernel
theorem dL_law_1376 : decode cL_law 1376 = .ok (.i2l, 1) := by decide +kernel
theorem dL_law_1377 : decode cL_law 1377 = .ok (.lcmp, 1) := by decide +kernel
theorem dL_law_1378 : decode cL_law 1378 = .ok (.ifCond .eq 5, 3) := by decide +kernel
theorem dL_law_1381 : decode cL_law 1381 = .ok (.iconst 0, 1) := by decide +kernel
theorem dL_law_1382 : decode cL_law 1382 = .ok (.ireturn, 1) := by decide +kernel
theorem dL_law_1383 : decode cL_law 1383 = .ok (.goto 1503, 3) := by decide +kernel
theorem dL_law_1386 : decode cL_law 1386 = .ok (.aload_n 1, 1) := by decide +kernel
theorem dL_law_1387 : decode cL_law 1387 = .ok (.aload_n 0, 1) := by decide +kernel
theorem dL_law_1388 : decode cL_law 1388 = .ok (.iload 5, 2) := by decide +kernel
theorem dL_law_1390 : decode cL_law 1390 = .ok (.iconst 1, 1) := by decide +kernel
theorem dL_law_1391 : decode cL_law 1391 = .ok (.iadd, 1) := by decide +kernel
theorem dL_law_1392 : decode cL_law 1392 = .ok (.iaload, 1) := by decide +kernel
theorem dL_law_1393 : decode cL_law 1393 = .ok (.aload_n 0, 1) := by decide +kernel
theorem dL_law_1394 : decode cL_law 1394 = .ok (.iload 5, 2) := by decide +kernel
theorem dL_law_1396 : decode cL_law 1396 = .ok (.iconst 2, 1) := by decide +kernel
theorem dL_law_1397 : decode cL_law 1397 = .ok (.iadd, 1) := by decide +kernel
theorem dL_law_1398 : decode cL_law 1398 = .ok (.iaload, 1) := by decide +kernel
theorem dL_law_1399 : decode cL_law 1399 = .ok (.aload_n 3, 1) := by decide +kernel
theorem dL_law_1400 : decode cL_law 1400 = .ok (.invokestatic 202, 3) := by decide +kernel
theorem dL_law_1403 : decode cL_law 1403 = .ok (.istore 6, 2) := by decide +kernel
theorem dL_law_1405 : decode cL_law 1405 = .ok (.aload_n 2, 1) := by decide +kernel
theorem dL_law_1406 : decode cL_law 1406 = .ok (.aload_n 0, 1) := by decide +kernel
theorem dL_law_1407 : decode cL_law 1407 = .ok (.iload 5, 2) := by decide +kernel
theorem dL_law_1409 : decode cL_law 1409 = .ok (.iconst 1, 1) := by decide +kernel
theorem dL_law_1410 : decode cL_law 1410 = .ok (.iadd, 1) := by decide +kernel
theorem dL_law_1411 : decode cL_law 1411 = .ok (.iaload, 1) := by decide +kernel
theorem dL_law_1412 : decode cL_law 1412 = .ok (.aload_n 0, 1) := by decide +kernel
theorem dL_law_1413 : decode cL_law 1413 = .ok (.iload 5, 2) := by decide +kernel
theorem dL_law_1415 : decode cL_law 1415 = .ok (.iconst 2, 1) := by decide +kernel
theorem dL_law_1416 : decode cL_law 1416 = .ok (.iadd, 1) := by decide +kernel
theorem dL_law_1417 : decode cL_law 1417 = .ok (.iaload, 1) := by decide +kernel
theorem dL_law_1418 : decode cL_law 1418 = .ok (.invokevirtual 204, 3) := by decide +kernel
theorem dL_law_1421 : decode cL_law 1421 = .ok (.istore 7, 2) := by decide +kernel
theorem dL_law_1423 : decode cL_law 1423 = .ok (.aload_n 2, 1) := by decide +kernel
theorem dL_law_1424 : decode cL_law 1424 = .ok (.invokevirtual 154, 3) := by decide +kernel
theorem dL_law_1427 : decode cL_law 1427 = .ok (.iload 6, 2) := by decide +kernel
theorem dL_law_1429 : decode cL_law 1429 = .ok (.if_icmp .eq 5, 3) := by decide +kernel
theorem dL_law_1432 : decode cL_law 1432 = .ok (.iconst 0, 1) := by decide +kernel
theorem dL_law_1433 : decode cL_law 1433 = .ok (.ireturn, 1) := by decide +kernel
theorem dL_law_1434 : decode cL_law 1434 = .ok (.iload 6, 2) := by decide +kernel
theorem dL_law_1436 : decode cL_law 1436 = .ok (.ifCond .ne 15, 3) := by decide +kernel
theorem dL_law_1439 : decode cL_law 1439 = .ok (.aload_n 3, 1) := by decide +kernel
theorem dL_law_1440 : decode cL_law 1440 = .ok (.iconst 0, 1) := by decide +kernel
theorem dL_law_1441 : decode cL_law 1441 = .ok (.laload, 1) := by decide +kernel
theorem dL_law_1442 : decode cL_law 1442 = .ok (.iload 7, 2) := by decide +kernel
theorem dL_law_1444 : decode cL_law 1444 = .ok (.i2l, 1) := by decide +kernel
theorem dL_law_1445 : decode cL_law 1445 = .ok (.lcmp, 1) := by decide +kernel
theorem dL_law_1446 : decode cL_law 1446 = .ok (.ifCond .eq 5, 3) := by decide +kernel
theorem dL_law_1449 : decode cL_law 1449 = .ok (.iconst 0, 1) := by decide +kernel
theorem dL_law_1450 : decode cL_law 1450 = .ok (.ireturn, 1) := by decide +kernel
theorem dL_law_1451 : decode cL_law 1451 = .ok (.goto 1435, 3) := by decide +kernel
theorem dL_law_1454 : decode cL_law 1454 = .ok (.aload_n 1, 1) := by decide +kernel
theorem dL_law_1455 : decode cL_law 1455 = .ok (.aload_n 0, 1) := by decide +kernel
theorem dL_law_1456 : decode cL_law 1456 = .ok (.iload 5, 2) := by decide +kernel
theorem dL_law_1458 : decode cL_law 1458 = .ok (.iconst 1, 1) := by decide +kernel
theorem dL_law_1459 : decode cL_law 1459 = .ok (.iadd, 1) := by decide +kernel
theorem dL_law_1460 : decode cL_law 1460 = .ok (.iaload, 1) := by decide +kernel
theorem dL_law_1461 : decode cL_law 1461 = .ok (.aload_n 0, 1) := by decide +kernel
theorem dL_law_1462 : decode cL_law 1462 = .ok (.iload 5, 2) := by decide +kernel
theorem dL_law_1464 : decode cL_law 1464 = .ok (.iconst 2, 1) := by decide +kernel
theorem dL_law_1465 : decode cL_law 1465 = .ok (.iadd, 1) := by decide +kernel
theorem dL_law_1466 : decode cL_law 1466 = .ok (.iaload, 1) := by decide +kernel
theorem dL_law_1467 : decode cL_law 1467 = .ok (.aload_n 3, 1) := by decide +kernel
theorem dL_law_1468 : decode cL_law 1468 = .ok (.invokestatic 205, 3) := by decide +kernel
theorem dL_law_1471 : decode cL_law 1471 = .ok (.istore 6, 2) := by decide +kernel
theorem dL_law_1473 : decode cL_law 1473 = .ok (.aload_n 2, 1) := by decide +kernel
theorem dL_law_1474 : decode cL_law 1474 = .ok (.aload_n 0, 1) := by decide +kernel
theorem dL_law_1475 : decode cL_law 1475 = .ok (.iload 5, 2) := by decide +kernel
theorem dL_law_1477 : decode cL_law 1477 = .ok (.iconst 1, 1) := by decide +kernel
theorem dL_law_1478 : decode cL_law 1478 = .ok (.iadd, 1) := by decide +kernel
theorem dL_law_1479 : decode cL_law 1479 = .ok (.iaload, 1) := by decide +kernel
theorem dL_law_1480 : decode cL_law 1480 = .ok (.aload_n 0, 1) := by decide +kernel
theorem dL_law_1481 : decode cL_law 1481 = .ok (.iload 5, 2) := by decide +kernel
theorem dL_law_1483 : decode cL_law 1483 = .ok (.iconst 2, 1) := by decide +kernel
theorem dL_law_1484 : decode cL_law 1484 = .ok (.iadd, 1) := by decide +kernel
theorem dL_law_1485 : decode cL_law 1485 = .ok (.iaload, 1) := by decide +kernel
theorem dL_law_1486 : decode cL_law 1486 = .ok (.invokevirtual 207, 3) := by decide +kernel
theorem dL_law_1489 : decode cL_law 1489 = .ok (.istore 7, 2) := by decide +kernel
theorem dL_law_1491 : decode cL_law 1491 = .ok (.aload_n 2, 1) := by decide +kernel
theorem dL_law_1492 : decode cL_law 1492 = .ok (.invokevirtual 154, 3) := by decide +kernel
theorem dL_law_1495 : decode cL_law 1495 = .ok (.iload 6, 2) := by decide +kernel
theorem dL_law_1497 : decode cL_law 1497 = .ok (.if_icmp .eq 5, 3) := by decide +kernel
theorem dL_law_1500 : decode cL_law 1500 = .ok (.iconst 0, 1) := by decide +kernel
theorem dL_law_1501 : decode cL_law 1501 = .ok (.ireturn, 1) := by decide +kernel
theorem dL_law_1502 : decode cL_law 1502 = .ok (.iload 6, 2) := by decide +kernel
theorem dL_law_1504 : decode cL_law 1504 = .ok (.ifCond .ne 15, 3) := by decide +kernel
theorem dL_law_1507 : decode cL_law 1507 = .ok (.aload_n 3, 1) := by decide +kernel
theorem dL_law_1508 : decode cL_law 1508 = .ok (.iconst 0, 1) := by decide +kernel
theorem dL_law_1509 : decode cL_law 1509 = .ok (.laload, 1) := by decide +kernel
theorem dL_law_1510 : decode cL_law 1510 = .ok (.iload 7, 2) := by decide +kernel
theorem dL_law_1512 : decode cL_law 1512 = .ok (.i2l, 1) := by decide +kernel
theorem dL_law_1513 : decode cL_law 1513 = .ok (.lcmp, 1) := by decide +kernel
theorem dL_law_1514 : decode cL_law 1514 = .ok (.ifCond .eq 5, 3) := by decide +kernel
theorem dL_law_1517 : decode cL_law 1517 = .ok (.iconst 0, 1) := by decide +kernel
theorem dL_law_1518 : decode cL_law 1518 = .ok (.ireturn, 1) := by decide +kernel
theorem dL_law_1519 : decode cL_law 1519 = .ok (.goto 1367, 3) := by decide +kernel
theorem dL_law_1522 : decode cL_law 1522 = .ok (.aload_n 1, 1) := by decide +kernel
theorem dL_law_1523 : decode cL_law 1523 = .ok (.aload_n 0, 1) := by decide +kernel
theorem dL_law_1524 : decode cL_law 1524 = .ok (.iload 5, 2) := by decide +kernel
theorem dL_law_1526 : decode cL_law 1526 = .ok (.iconst 1, 1) := by decide +kernel
theorem dL_law_1527 : decode cL_law 1527 = .ok (.iadd, 1) := by decide +kernel
theorem dL_law_1528 : decode cL_law 1528 = .ok (.iaload, 1) := by decide +kernel
theorem dL_law_1529 : decode cL_law 1529 = .ok (.aload_n 0, 1) := by decide +kernel
theorem dL_law_1530 : decode cL_law 1530 = .ok (.iload 5, 2) := by decide +kernel
theorem dL_law_1532 : decode cL_law 1532 = .ok (.iconst 2, 1) := by decide +kernel
theorem dL_law_1533 : decode cL_law 1533 = .ok (.iadd, 1) := by decide +kernel
theorem dL_law_1534 : decode cL_law 1534 = .ok (.iaload, 1) := by decide +kernel
theorem dL_law_1535 : decode cL_law 1535 = .ok (.aload_n 3, 1) := by decide +kernel
theorem dL_law_1536 : decode cL_law 1536 = .ok (.invokestatic 208, 3) := by decide +kernel
theorem dL_law_1539 : decode cL_law 1539 = .ok (.istore 6, 2) := by decide +kernel
theorem dL_law_1541 : decode cL_law 1541 = .ok (.aload_n 2, 1) := by decide +kernel
theorem dL_law_1542 : decode cL_law 1542 = .ok (.aload_n 0, 1) := by decide +kernel
theorem dL_law_1543 : decode cL_law 1543 = .ok (.iload 5, 2) := by decide +kernel
theorem dL_law_1545 : decode cL_law 1545 = .ok (.iconst 1, 1) := by decide +kernel
theorem dL_law_1546 : decode cL_law 1546 = .ok (.iadd, 1) := by decide +kernel
theorem dL_law_1547 : decode cL_law 1547 = .ok (.iaload, 1) := by decide +kernel
theorem dL_law_1548 : decode cL_law 1548 = .ok (.aload_n 0, 1) := by decide +kernel
theorem dL_law_1549 : decode cL_law 1549 = .ok (.iload 5, 2) := by decide +kernel
theorem dL_law_1551 : decode cL_law 1551 = .ok (.iconst 2, 1) := by decide +kernel
theorem dL_law_1552 : decode cL_law 1552 = .ok (.iadd, 1) := by decide +kernel
theorem dL_law_1553 : decode cL_law 1553 = .ok (.iaload, 1) := by decide +kernel
theorem dL_law_1554 : decode cL_law 1554 = .ok (.invokevirtual 210, 3) := by decide +kernel
theorem dL_law_1557 : decode cL_law 1557 = .ok (.istore 7, 2) := by decide +kernel
theorem dL_law_1559 : decode cL_law 1559 = .ok (.aload_n 2, 1) := by decide +kernel
theorem dL_law_1560 : decode cL_law 1560 = .ok (.invokevirtual 154, 3) := by decide +kernel
theorem dL_law_1563 : decode cL_law 1563 = .ok (.iload 6, 2) := by decide +kernel
theorem dL_law_1565 : decode cL_law 1565 = .ok (.if_icmp .eq 5, 3) := by decide +kernel
theorem dL_law_1568 : decode cL_law 1568 = .ok (.iconst 0, 1) := by decide +kernel
theorem dL_law_1569 : decode cL_law 1569 = .ok (.ireturn, 1) := by decide +kernel
theorem dL_law_1570 : decode cL_law 1570 = .ok (.iload 6, 2) := by decide +kernel
theorem dL_law_1572 : decode cL_law 1572 = .ok (.ifCond .ne 15, 3) := by decide +kernel
theorem dL_law_1575 : decode cL_law 1575 = .ok (.aload_n 3, 1) := by decide +kernel
theorem dL_law_1576 : decode cL_law 1576 = .ok (.iconst 0, 1) := by decide +kernel
theorem dL_law_1577 : decode cL_law 1577 = .ok (.laload, 1) := by decide +kernel
theorem dL_law_1578 : decode cL_law 1578 = .ok (.iload 7, 2) := by decide +kernel
theorem dL_law_1580 : decode cL_law 1580 = .ok (.i2l, 1) := by decide +kernel
theorem dL_law_1581 : decode cL_law 1581 = .ok (.lcmp, 1) := by decide +kernel
theorem dL_law_1582 : decode cL_law 1582 = .ok (.ifCond .eq 5, 3) := by decide +kernel
theorem dL_law_1585 : decode cL_law 1585 = .ok (.iconst 0, 1) := by decide +kernel
theorem dL_law_1586 : decode cL_law 1586 = .ok (.ireturn, 1) := by decide +kernel
theorem dL_law_1587 : decode cL_law 1587 = .ok (.goto 1299, 3) := by decide +kernel
theorem dL_law_1590 : decode cL_law 1590 = .ok (.aload_n 1, 1) := by decide +kernel
theorem dL_law_1591 : decode cL_law 1591 = .ok (.aload_n 0, 1) := by decide +kernel
theorem dL_law_1592 : decode cL_law 1592 = .ok (.iload 5, 2) := by decide +kernel
theorem dL_law_1594 : decode cL_law 1594 = .ok (.iconst 1, 1) := by decide +kernel
theorem dL_law_1595 : decode cL_law 1595 = .ok (.iadd, 1) := by decide +kernel
theorem dL_law_1596 : decode cL_law 1596 = .ok (.iaload, 1) := by decide +kernel
theorem dL_law_1597 : decode cL_law 1597 = .ok (.aload_n 3, 1) := by decide +kernel
theorem dL_law_1598 : decode cL_law 1598 = .ok (.invokestatic 211, 3) := by decide +kernel
theorem dL_law_1601 : decode cL_law 1601 = .ok (.istore 6, 2) := by decide +kernel
theorem dL_law_1603 : decode cL_law 1603 = .ok (.aload_n 2, 1) := by decide +kernel
theorem dL_law_1604 : decode cL_law 1604 = .ok (.aload_n 0, 1) := by decide +kernel
theorem dL_law_1605 : decode cL_law 1605 = .ok (.iload 5, 2) := by decide +kernel
theorem dL_law_1607 : decode cL_law 1607 = .ok (.iconst 1, 1) := by decide +kernel
theorem dL_law_1608 : decode cL_law 1608 = .ok (.iadd, 1) := by decide +kernel
theorem dL_law_1609 : decode cL_law 1609 = .ok (.iaload, 1) := by decide +kernel
theorem dL_law_1610 : decode cL_law 1610 = .ok (.invokevirtual 214, 3) := by decide +kernel
theorem dL_law_1613 : decode cL_law 1613 = .ok (.istore 7, 2) := by decide +kernel
theorem dL_law_1615 : decode cL_law 1615 = .ok (.aload_n 2, 1) := by decide +kernel
theorem dL_law_1616 : decode cL_law 1616 = .ok (.invokevirtual 154, 3) := by decide +kernel
theorem dL_law_1619 : decode cL_law 1619 = .ok (.iload 6, 2) := by decide +kernel
theorem dL_law_1621 : decode cL_law 1621 = .ok (.if_icmp .eq 5, 3) := by decide +kernel
theorem dL_law_1624 : decode cL_law 1624 = .ok (.iconst 0, 1) := by decide +kernel
theorem dL_law_1625 : decode cL_law 1625 = .ok (.ireturn, 1) := by decide +kernel
theorem dL_law_1626 : decode cL_law 1626 = .ok (.iload 6, 2) := by decide +kernel
theorem dL_law_1628 : decode cL_law 1628 = .ok (.ifCond .ne 15, 3) := by decide +kernel
theorem dL_law_1631 : decode cL_law 1631 = .ok (.aload_n 3, 1) := by decide +kernel
theorem dL_law_1632 : decode cL_law 1632 = .ok (.iconst 0, 1) := by decide +kernel
theorem dL_law_1633 : decode cL_law 1633 = .ok (.laload, 1) := by decide +kernel
theorem dL_law_1634 : decode cL_law 1634 = .ok (.iload 7, 2) := by decide +kernel
theorem dL_law_1636 : decode cL_law 1636 = .ok (.i2l, 1) := by decide +kernel
theorem dL_law_1637 : decode cL_law 1637 = .ok (.lcmp, 1) := by decide +kernel
theorem dL_law_1638 : decode cL_law 1638 = .ok (.ifCond .eq 5, 3) := by decide +kernel
theorem dL_law_1641 : decode cL_law 1641 = .ok (.iconst 0, 1) := by decide +kernel
theorem dL_law_1642 : decode cL_law 1642 = .ok (.ireturn, 1) := by decide +kernel
theorem dL_law_1643 : decode cL_law 1643 = .ok (.goto 1243, 3) := by decide +kernel
theorem dL_law_1646 : decode cL_law 1646 = .ok (.aload_n 1, 1) := by decide +kernel
theorem dL_law_1647 : decode cL_law 1647 = .ok (.aload_n 0, 1) := by decide +kernel
theorem dL_law_1648 : decode cL_law 1648 = .ok (.iload 5, 2) := by decide +kernel
theorem dL_law_1650 : decode cL_law 1650 = .ok (.iconst 1, 1) := by decide +kernel
theorem dL_law_1651 : decode cL_law 1651 = .ok (.iadd, 1) := by decide +kernel
theorem dL_law_1652 : decode cL_law 1652 = .ok (.iaload, 1) := by decide +kernel
theorem dL_law_1653 : decode cL_law 1653 = .ok (.aload_n 3, 1) := by decide +kernel
theorem dL_law_1654 : decode cL_law 1654 = .ok (.invokestatic 215, 3) := by decide +kernel
theorem dL_law_1657 : decode cL_law 1657 = .ok (.istore 6, 2) := by decide +kernel
theorem dL_law_1659 : decode cL_law 1659 = .ok (.aload_n 2, 1) := by decide +kernel
theorem dL_law_1660 : decode cL_law 1660 = .ok (.aload_n 0, 1) := by decide +kernel
theorem dL_law_1661 : decode cL_law 1661 = .ok (.iload 5, 2) := by decide +kernel
theorem dL_law_1663 : decode cL_law 1663 = .ok (.iconst 1, 1) := by decide +kernel
theorem dL_law_1664 : decode cL_law 1664 = .ok (.iadd, 1) := by decide +kernel
theorem dL_law_1665 : decode cL_law 1665 = .ok (.iaload, 1) := by decide +kernel
theorem dL_law_1666 : decode cL_law 1666 = .ok (.invokevirtual 217, 3) := by decide +kernel
theorem dL_law_1669 : decode cL_law 1669 = .ok (.istore 7, 2) := by decide +kernel
theorem dL_law_1671 : decode cL_law 1671 = .ok (.aload_n 2, 1) := by decide +kernel
theorem dL_law_1672 : decode cL_law 1672 = .ok (.invokevirtual 154, 3) := by decide +kernel
theorem dL_law_1675 : decode cL_law 1675 = .ok (.iload 6, 2) := by decide +kernel
theorem dL_law_1677 : decode cL_law 1677 = .ok (.if_icmp .eq 5, 3) := by decide +kernel
theorem dL_law_1680 : decode cL_law 1680 = .ok (.iconst 0, 1) := by decide +kernel
theorem dL_law_1681 : decode cL_law 1681 = .ok (.ireturn, 1) := by decide +kernel
theorem dL_law_1682 : decode cL_law 1682 = .ok (.iload 6, 2) := by decide +kernel
theorem dL_law_1684 : decode cL_law 1684 = .ok (.ifCond .ne 15, 3) := by decide +kernel
theorem dL_law_1687 : decode cL_law 1687 = .ok (.aload_n 3, 1) := by decide +kernel
theorem dL_law_1688 : decode cL_law 1688 = .ok (.iconst 0, 1) := by decide +kernel
theorem dL_law_1689 : decode cL_law 1689 = .ok (.laload, 1) := by decide +kernel
theorem dL_law_1690 : decode cL_law 1690 = .ok (.iload 7, 2) := by decide +kernel
theorem dL_law_1692 : decode cL_law 1692 = .ok (.i2l, 1) := by decide +kernel
theorem dL_law_1693 : decode cL_law 1693 = .ok (.lcmp, 1) := by decide +kernel
theorem dL_law_1694 : decode cL_law 1694 = .ok (.ifCond .eq 5, 3) := by decide +kernel
theorem dL_law_1697 : decode cL_law 1697 = .ok (.iconst 0, 1) := by decide +kernel
theorem dL_law_1698 : decode cL_law 1698 = .ok (.ireturn, 1) := by decide +kernel
theorem dL_law_1699 : decode cL_law 1699 = .ok (.goto 1187, 3) := by decide +kernel
theorem dL_law_1702 : decode cL_law 1702 = .ok (.aload_n 1, 1) := by decide +kernel
theorem dL_law_1703 : decode cL_law 1703 = .ok (.aload_n 0, 1) := by decide +kernel
theorem dL_law_1704 : decode cL_law 1704 = .ok (.iload 5, 2) := by decide +kernel
theorem dL_law_1706 : decode cL_law 1706 = .ok (.iconst 1, 1) := by decide +kernel
theorem dL_law_1707 : decode cL_law 1707 = .ok (.iadd, 1) := by decide +kernel
theorem dL_law_1708 : decode cL_law 1708 = .ok (.iaload, 1) := by decide +kernel
theorem dL_law_1709 : decode cL_law 1709 = .ok (.aload_n 3, 1) := by decide +kernel
theorem dL_law_1710 : decode cL_law 1710 = .ok (.invokestatic 218, 3) := by decide +kernel
theorem dL_law_1713 : decode cL_law 1713 = .ok (.istore 6, 2) := by decide +kernel
theorem dL_law_1715 : decode cL_law 1715 = .ok (.aload_n 2, 1) := by decide +kernel
theorem dL_law_1716 : decode cL_law 1716 = .ok (.aload_n 0, 1) := by decide +kernel
theorem dL_law_1717 : decode cL_law 1717 = .ok (.iload 5, 2) := by decide +kernel
theorem dL_law_1719 : decode cL_law 1719 = .ok (.iconst 1, 1) := by decide +kernel
theorem dL_law_1720 : decode cL_law 1720 = .ok (.iadd, 1) := by decide +kernel
theorem dL_law_1721 : decode cL_law 1721 = .ok (.iaload, 1) := by decide +kernel
theorem dL_law_1722 : decode cL_law 1722 = .ok (.invokevirtual 220, 3) := by decide +kernel
theorem dL_law_1725 : decode cL_law 1725 = .ok (.istore 7, 2) := by decide +kernel
theorem dL_law_1727 : decode cL_law 1727 = .ok (.aload_n 2, 1) := by decide +kernel
theorem dL_law_1728 : decode cL_law 1728 = .ok (.invokevirtual 154, 3) := by decide +kernel
theorem dL_law_1731 : decode cL_law 1731 = .ok (.iload 6, 2) := by decide +kernel
theorem dL_law_1733 : decode cL_law 1733 = .ok (.if_icmp .eq 5, 3) := by decide +kernel
theorem dL_law_1736 : decode cL_law 1736 = .ok (.iconst 0, 1) := by decide +kernel
theorem dL_law_1737 : decode cL_law 1737 = .ok (.ireturn, 1) := by decide +kernel
theorem dL_law_1738 : decode cL_law 1738 = .ok (.iload 6, 2) := by decide +kernel
theorem dL_law_1740 : decode cL_law 1740 = .ok (.ifCond .ne 15, 3) := by decide +kernel
theorem dL_law_1743 : decode cL_law 1743 = .ok (.aload_n 3, 1) := by decide +kernel
theorem dL_law_1744 : decode cL_law 1744 = .ok (.iconst 0, 1) := by decide +kernel
theorem dL_law_1745 : decode cL_law 1745 = .ok (.laload, 1) := by decide +kernel
theorem dL_law_1746 : decode cL_law 1746 = .ok (.iload 7, 2) := by decide +kernel
theorem dL_law_1748 : decode cL_law 1748 = .ok (.i2l, 1) := by decide +kernel
theorem dL_law_1749 : decode cL_law 1749 = .ok (.lcmp, 1) := by decide +kernel
theorem dL_law_1750 : decode cL_law 1750 = .ok (.ifCond .eq 5, 3) := by decide +kernel
theorem dL_law_1753 : decode cL_law 1753 = .ok (.iconst 0, 1) := by decide +kernel
theorem dL_law_1754 : decode cL_law 1754 = .ok (.ireturn, 1) := by decide +kernel
theorem dL_law_1755 : decode cL_law 1755 = .ok (.goto 1131, 3) := by decide +kernel
theorem dL_law_1758 : decode cL_law 1758 = .ok (.aload_n 1, 1) := by decide +kernel
theorem dL_law_1759 : decode cL_law 1759 = .ok (.aload_n 0, 1) := by decide +kernel
theorem dL_law_1760 : decode cL_law 1760 = .ok (.iload 5, 2) := by decide +kernel
theorem dL_law_1762 : decode cL_law 1762 = .ok (.iconst 1, 1) := by decide +kernel
theorem dL_law_1763 : decode cL_law 1763 = .ok (.iadd, 1) := by decide +kernel
theorem dL_law_1764 : decode cL_law 1764 = .ok (.iaload, 1) := by decide +kernel
theorem dL_law_1765 : decode cL_law 1765 = .ok (.aload_n 3, 1) := by decide +kernel
theorem dL_law_1766 : decode cL_law 1766 = .ok (.invokestatic 221, 3) := by decide +kernel
theorem dL_law_1769 : decode cL_law 1769 = .ok (.istore 6, 2) := by decide +kernel
theorem dL_law_1771 : decode cL_law 1771 = .ok (.aload_n 2, 1) := by decide +kernel
theorem dL_law_1772 : decode cL_law 1772 = .ok (.aload_n 0, 1) := by decide +kernel
theorem dL_law_1773 : decode cL_law 1773 = .ok (.iload 5, 2) := by decide +kernel
theorem dL_law_1775 : decode cL_law 1775 = .ok (.iconst 1, 1) := by decide +kernel
theorem dL_law_1776 : decode cL_law 1776 = .ok (.iadd, 1) := by decide +kernel
theorem dL_law_1777 : decode cL_law 1777 = .ok (.iaload, 1) := by decide +kernel
theorem dL_law_1778 : decode cL_law 1778 = .ok (.invokevirtual 223, 3) := by decide +kernel
theorem dL_law_1781 : decode cL_law 1781 = .ok (.istore 7, 2) := by decide +kernel
theorem dL_law_1783 : decode cL_law 1783 = .ok (.aload_n 2, 1) := by decide +kernel
theorem dL_law_1784 : decode cL_law 1784 = .ok (.invokevirtual 154, 3) := by decide +kernel
theorem dL_law_1787 : decode cL_law 1787 = .ok (.iload 6, 2) := by decide +kernel
theorem dL_law_1789 : decode cL_law 1789 = .ok (.if_icmp .eq 5, 3) := by decide +kernel
theorem dL_law_1792 : decode cL_law 1792 = .ok (.iconst 0, 1) := by decide +kernel
theorem dL_law_1793 : decode cL_law 1793 = .ok (.ireturn, 1) := by decide +kernel
theorem dL_law_1794 : decode cL_law 1794 = .ok (.iload 6, 2) := by decide +kernel
theorem dL_law_1796 : decode cL_law 1796 = .ok (.ifCond .ne 15, 3) := by decide +kernel
theorem dL_law_1799 : decode cL_law 1799 = .ok (.aload_n 3, 1) := by decide +kernel
theorem dL_law_1800 : decode cL_law 1800 = .ok (.iconst 0, 1) := by decide +kernel
theorem dL_law_1801 : decode cL_law 1801 = .ok (.laload, 1) := by decide +kernel
theorem dL_law_1802 : decode cL_law 1802 = .ok (.iload 7, 2) := by decide +kernel
theorem dL_law_1804 : decode cL_law 1804 = .ok (.i2l, 1) := by decide +kernel
theorem dL_law_1805 : decode cL_law 1805 = .ok (.lcmp, 1) := by decide +kernel
theorem dL_law_1806 : decode cL_law 1806 = .ok (.ifCond .eq 5, 3) := by decide +kernel
theorem dL_law_1809 : decode cL_law 1809 = .ok (.iconst 0, 1) := by decide +kernel
theorem dL_law_1810 : decode cL_law 1810 = .ok (.ireturn, 1) := by decide +kernel
theorem dL_law_1811 : decode cL_law 1811 = .ok (.goto 1075, 3) := by decide +kernel
theorem dL_law_1814 : decode cL_law 1814 = .ok (.aload_n 1, 1) := by decide +kernel
theorem dL_law_1815 : decode cL_law 1815 = .ok (.aload_n 0, 1) := by decide +kernel
theorem dL_law_1816 : decode cL_law 1816 = .ok (.iload 5, 2) := by decide +kernel
theorem dL_law_1818 : decode cL_law 1818 = .ok (.iconst 1, 1) := by decide +kernel
theorem dL_law_1819 : decode cL_law 1819 = .ok (.iadd, 1) := by decide +kernel
theorem dL_law_1820 : decode cL_law 1820 = .ok (.iaload, 1) := by decide +kernel
theorem dL_law_1821 : decode cL_law 1821 = .ok (.aload_n 3, 1) := by decide +kernel
theorem dL_law_1822 : decode cL_law 1822 = .ok (.invokestatic 224, 3) := by decide +kernel
theorem dL_law_1825 : decode cL_law 1825 = .ok (.istore 6, 2) := by decide +kernel
theorem dL_law_1827 : decode cL_law 1827 = .ok (.aload_n 2, 1) := by decide +kernel
theorem dL_law_1828 : decode cL_law 1828 = .ok (.aload_n 0, 1) := by decide +kernel
theorem dL_law_1829 : decode cL_law 1829 = .ok (.iload 5, 2) := by decide +kernel
theorem dL_law_1831 : decode cL_law 1831 = .ok (.iconst 1, 1) := by decide +kernel
theorem dL_law_1832 : decode cL_law 1832 = .ok (.iadd, 1) := by decide +kernel
theorem dL_law_1833 : decode cL_law 1833 = .ok (.iaload, 1) := by decide +kernel
theorem dL_law_1834 : decode cL_law 1834 = .ok (.invokevirtual 226, 3) := by decide +kernel
theorem dL_law_1837 : decode cL_law 1837 = .ok (.istore 7, 2) := by decide +kernel
theorem dL_law_1839 : decode cL_law 1839 = .ok (.aload_n 2, 1) := by decide +kernel
theorem dL_law_1840 : decode cL_law 1840 = .ok (.invokevirtual 154, 3) := by decide +kernel
theorem dL_law_1843 : decode cL_law 1843 = .ok (.iload 6, 2) := by decide +kernel
theorem dL_law_1845 : decode cL_law 1845 = .ok (.if_icmp .eq 5, 3) := by decide +kernel
theorem dL_law_1848 : decode cL_law 1848 = .ok (.iconst 0, 1) := by decide +kernel
theorem dL_law_1849 : decode cL_law 1849 = .ok (.ireturn, 1) := by decide +kernel
theorem dL_law_1850 : decode cL_law 1850 = .ok (.iload 6, 2) := by decide +kernel
theorem dL_law_1852 : decode cL_law 1852 = .ok (.ifCond .ne 22, 3) := by decide +kernel
theorem dL_law_1855 : decode cL_law 1855 = .ok (.aload_n 3, 1) := by decide +kernel
theorem dL_law_1856 : decode cL_law 1856 = .ok (.iconst 0, 1) := by decide +kernel
theorem dL_law_1857 : decode cL_law 1857 = .ok (.laload, 1) := by decide +kernel
theorem dL_law_1858 : decode cL_law 1858 = .ok (.iload 7, 2) := by decide +kernel
theorem dL_law_1860 : decode cL_law 1860 = .ok (.ifCond .eq 7, 3) := by decide +kernel
theorem dL_law_1863 : decode cL_law 1863 = .ok (.lconst 1, 1) := by decide +kernel
theorem dL_law_1864 : decode cL_law 1864 = .ok (.goto 4, 3) := by decide +kernel
theorem dL_law_1867 : decode cL_law 1867 = .ok (.lconst 0, 1) := by decide +kernel
theorem dL_law_1868 : decode cL_law 1868 = .ok (.lcmp, 1) := by decide +kernel
theorem dL_law_1869 : decode cL_law 1869 = .ok (.ifCond .eq 5, 3) := by decide +kernel
theorem dL_law_1872 : decode cL_law 1872 = .ok (.iconst 0, 1) := by decide +kernel
theorem dL_law_1873 : decode cL_law 1873 = .ok (.ireturn, 1) := by decide +kernel
theorem dL_law_1874 : decode cL_law 1874 = .ok (.goto 1012, 3) := by decide +kernel
theorem dL_law_1877 : decode cL_law 1877 = .ok (.aload_n 1, 1) := by decide +kernel
theorem dL_law_1878 : decode cL_law 1878 = .ok (.aload_n 0, 1) := by decide +kernel
theorem dL_law_1879 : decode cL_law 1879 = .ok (.iload 5, 2) := by decide +kernel
theorem dL_law_1881 : decode cL_law 1881 = .ok (.iconst 1, 1) := by decide +kernel
theorem dL_law_1882 : decode cL_law 1882 = .ok (.iadd, 1) := by decide +kernel
theorem dL_law_1883 : decode cL_law 1883 = .ok (.iaload, 1) := by decide +kernel
theorem dL_law_1884 : decode cL_law 1884 = .ok (.aload_n 0, 1) := by decide +kernel
theorem dL_law_1885 : decode cL_law 1885 = .ok (.iload 5, 2) := by decide +kernel
theorem dL_law_1887 : decode cL_law 1887 = .ok (.iconst 2, 1) := by decide +kernel
theorem dL_law_1888 : decode cL_law 1888 = .ok (.iadd, 1) := by decide +kernel
theorem dL_law_1889 : decode cL_law 1889 = .ok (.iaload, 1) := by decide +kernel
theorem dL_law_1890 : decode cL_law 1890 = .ok (.aload_n 3, 1) := by decide +kernel
theorem dL_law_1891 : decode cL_law 1891 = .ok (.invokestatic 227, 3) := by decide +kernel
theorem dL_law_1894 : decode cL_law 1894 = .ok (.istore 6, 2) := by decide +kernel
theorem dL_law_1896 : decode cL_law 1896 = .ok (.aload_n 2, 1) := by decide +kernel
theorem dL_law_1897 : decode cL_law 1897 = .ok (.aload_n 0, 1) := by decide +kernel
theorem dL_law_1898 : decode cL_law 1898 = .ok (.iload 5, 2) := by decide +kernel
theorem dL_law_1900 : decode cL_law 1900 = .ok (.iconst 1, 1) := by decide +kernel
theorem dL_law_1901 : decode cL_law 1901 = .ok (.iadd, 1) := by decide +kernel
theorem dL_law_1902 : decode cL_law 1902 = .ok (.iaload, 1) := by decide +kernel
theorem dL_law_1903 : decode cL_law 1903 = .ok (.aload_n 0, 1) := by decide +kernel
theorem dL_law_1904 : decode cL_law 1904 = .ok (.iload 5, 2) := by decide +kernel
theorem dL_law_1906 : decode cL_law 1906 = .ok (.iconst 2, 1) := by decide +kernel
theorem dL_law_1907 : decode cL_law 1907 = .ok (.iadd, 1) := by decide +kernel
theorem dL_law_1908 : decode cL_law 1908 = .ok (.iaload, 1) := by decide +kernel
theorem dL_law_1909 : decode cL_law 1909 = .ok (.invokevirtual 229, 3) := by decide +kernel
theorem dL_law_1912 : decode cL_law 1912 = .ok (.istore 7, 2) := by decide +kernel
theorem dL_law_1914 : decode cL_law 1914 = .ok (.aload_n 2, 1) := by decide +kernel
theorem dL_law_1915 : decode cL_law 1915 = .ok (.invokevirtual 154, 3) := by decide +kernel
theorem dL_law_1918 : decode cL_law 1918 = .ok (.iload 6, 2) := by decide +kernel
theorem dL_law_1920 : decode cL_law 1920 = .ok (.if_icmp .eq 5, 3) := by decide +kernel
theorem dL_law_1923 : decode cL_law 1923 = .ok (.iconst 0, 1) := by decide +kernel
theorem dL_law_1924 : decode cL_law 1924 = .ok (.ireturn, 1) := by decide +kernel
theorem dL_law_1925 : decode cL_law 1925 = .ok (.iload 6, 2) := by decide +kernel
theorem dL_law_1927 : decode cL_law 1927 = .ok (.ifCond .ne 15, 3) := by decide +kernel
theorem dL_law_1930 : decode cL_law 1930 = .ok (.aload_n 3, 1) := by decide +kernel
theorem dL_law_1931 : decode cL_law 1931 = .ok (.iconst 0, 1) := by decide +kernel
theorem dL_law_1932 : decode cL_law 1932 = .ok (.laload, 1) := by decide +kernel
theorem dL_law_1933 : decode cL_law 1933 = .ok (.iload 7, 2) := by decide +kernel
theorem dL_law_1935 : decode cL_law 1935 = .ok (.i2l, 1) := by decide +kernel
theorem dL_law_1936 : decode cL_law 1936 = .ok (.lcmp, 1) := by decide +kernel
theorem dL_law_1937 : decode cL_law 1937 = .ok (.ifCond .eq 5, 3) := by decide +kernel
theorem dL_law_1940 : decode cL_law 1940 = .ok (.iconst 0, 1) := by decide +kernel
theorem dL_law_1941 : decode cL_law 1941 = .ok (.ireturn, 1) := by decide +kernel
theorem dL_law_1942 : decode cL_law 1942 = .ok (.goto 944, 3) := by decide +kernel
theorem dL_law_1945 : decode cL_law 1945 = .ok (.aload_n 1, 1) := by decide +kernel
theorem dL_law_1946 : decode cL_law 1946 = .ok (.aload_n 0, 1) := by decide +kernel
theorem dL_law_1947 : decode cL_law 1947 = .ok (.iload 5, 2) := by decide +kernel
theorem dL_law_1949 : decode cL_law 1949 = .ok (.iconst 1, 1) := by decide +kernel
theorem dL_law_1950 : decode cL_law 1950 = .ok (.iadd, 1) := by decide +kernel
theorem dL_law_1951 : decode cL_law 1951 = .ok (.iaload, 1) := by decide +kernel
theorem dL_law_1952 : decode cL_law 1952 = .ok (.aload_n 0, 1) := by decide +kernel
theorem dL_law_1953 : decode cL_law 1953 = .ok (.iload 5, 2) := by decide +kernel
theorem dL_law_1955 : decode cL_law 1955 = .ok (.iconst 2, 1) := by decide +kernel
theorem dL_law_1956 : decode cL_law 1956 = .ok (.iadd, 1) := by decide +kernel
theorem dL_law_1957 : decode cL_law 1957 = .ok (.iaload, 1) := by decide +kernel
theorem dL_law_1958 : decode cL_law 1958 = .ok (.aload_n 3, 1) := by decide +kernel
theorem dL_law_1959 : decode cL_law 1959 = .ok (.invokestatic 230, 3) := by decide +kernel
theorem dL_law_1962 : decode cL_law 1962 = .ok (.istore 6, 2) := by decide +kernel
theorem dL_law_1964 : decode cL_law 1964 = .ok (.aload_n 2, 1) := by decide +kernel
theorem dL_law_1965 : decode cL_law 1965 = .ok (.aload_n 0, 1) := by decide +kernel
theorem dL_law_1966 : decode cL_law 1966 = .ok (.iload 5, 2) := by decide +kernel
theorem dL_law_1968 : decode cL_law 1968 = .ok (.iconst 1, 1) := by decide +kernel
theorem dL_law_1969 : decode cL_law 1969 = .ok (.iadd, 1) := by decide +kernel
theorem dL_law_1970 : decode cL_law 1970 = .ok (.iaload, 1) := by decide +kernel
theorem dL_law_1971 : decode cL_law 1971 = .ok (.aload_n 0, 1) := by decide +kernel
theorem dL_law_1972 : decode cL_law 1972 = .ok (.iload 5, 2) := by decide +kernel
theorem dL_law_1974 : decode cL_law 1974 = .ok (.iconst 2, 1) := by decide +kernel
theorem dL_law_1975 : decode cL_law 1975 = .ok (.iadd, 1) := by decide +kernel
theorem dL_law_1976 : decode cL_law 1976 = .ok (.iaload, 1) := by decide +kernel
theorem dL_law_1977 : decode cL_law 1977 = .ok (.invokevirtual 232, 3) := by decide +kernel
theorem dL_law_1980 : decode cL_law 1980 = .ok (.istore 7, 2) := by decide +kernel
theorem dL_law_1982 : decode cL_law 1982 = .ok (.aload_n 2, 1) := by decide +kernel
theorem dL_law_1983 : decode cL_law 1983 = .ok (.invokevirtual 154, 3) := by decide +kernel
theorem dL_law_1986 : decode cL_law 1986 = .ok (.iload 6, 2) := by decide +kernel
theorem dL_law_1988 : decode cL_law 1988 = .ok (.if_icmp .eq 5, 3) := by decide +kernel
theorem dL_law_1991 : decode cL_law 1991 = .ok (.iconst 0, 1) := by decide +kernel
theorem dL_law_1992 : decode cL_law 1992 = .ok (.ireturn, 1) := by decide +kernel
theorem dL_law_1993 : decode cL_law 1993 = .ok (.iload 6, 2) := by decide +kernel
theorem dL_law_1995 : decode cL_law 1995 = .ok (.ifCond .ne 22, 3) := by decide +kernel
theorem dL_law_1998 : decode cL_law 1998 = .ok (.aload_n 3, 1) := by decide +kernel
theorem dL_law_1999 : decode cL_law 1999 = .ok (.iconst 0, 1) := by decide +kernel
theorem dL_law_2000 : decode cL_law 2000 = .ok (.laload, 1) := by decide +kernel
theorem dL_law_2001 : decode cL_law 2001 = .ok (.iload 7, 2) := by decide +kernel
theorem dL_law_2003 : decode cL_law 2003 = .ok (.ifCond .eq 7, 3) := by decide +kernel
theorem dL_law_2006 : decode cL_law 2006 = .ok (.lconst 1, 1) := by decide +kernel
theorem dL_law_2007 : decode cL_law 2007 = .ok (.goto 4, 3) := by decide +kernel
theorem dL_law_2010 : decode cL_law 2010 = .ok (.lconst 0, 1) := by decide +kernel
theorem dL_law_2011 : decode cL_law 2011 = .ok (.lcmp, 1) := by decide +kernel
theorem dL_law_2012 : decode cL_law 2012 = .ok (.ifCond .eq 5, 3) := by decide +kernel
theorem dL_law_2015 : decode cL_law 2015 = .ok (.iconst 0, 1) := by decide +kernel
theorem dL_law_2016 : decode cL_law 2016 = .ok (.ireturn, 1) := by decide +kernel
theorem dL_law_2017 : decode cL_law 2017 = .ok (.goto 869, 3) := by decide +kernel
theorem dL_law_2020 : decode cL_law 2020 = .ok (.aload_n 1, 1) := by decide +kernel
theorem dL_law_2021 : decode cL_law 2021 = .ok (.aload_n 0, 1) := by decide +kernel
theorem dL_law_2022 : decode cL_law 2022 = .ok (.iload 5, 2) := by decide +kernel
theorem dL_law_2024 : decode cL_law 2024 = .ok (.iconst 1, 1) := by decide +kernel
theorem dL_law_2025 : decode cL_law 2025 = .ok (.iadd, 1) := by decide +kernel
theorem dL_law_2026 : decode cL_law 2026 = .ok (.iaload, 1) := by decide +kernel
theorem dL_law_2027 : decode cL_law 2027 = .ok (.aload_n 0, 1) := by decide +kernel
theorem dL_law_2028 : decode cL_law 2028 = .ok (.iload 5, 2) := by decide +kernel
theorem dL_law_2030 : decode cL_law 2030 = .ok (.iconst 2, 1) := by decide +kernel
theorem dL_law_2031 : decode cL_law 2031 = .ok (.iadd, 1) := by decide +kernel
theorem dL_law_2032 : decode cL_law 2032 = .ok (.iaload, 1) := by decide +kernel
theorem dL_law_2033 : decode cL_law 2033 = .ok (.aload_n 0, 1) := by decide +kernel
theorem dL_law_2034 : decode cL_law 2034 = .ok (.iload 5, 2) := by decide +kernel
theorem dL_law_2036 : decode cL_law 2036 = .ok (.iconst 3, 1) := by decide +kernel
theorem dL_law_2037 : decode cL_law 2037 = .ok (.iadd, 1) := by decide +kernel
theorem dL_law_2038 : decode cL_law 2038 = .ok (.iaload, 1) := by decide +kernel
theorem dL_law_2039 : decode cL_law 2039 = .ok (.aload_n 3, 1) := by decide +kernel
theorem dL_law_2040 : decode cL_law 2040 = .ok (.invokestatic 233, 3) := by decide +kernel
theorem dL_law_2043 : decode cL_law 2043 = .ok (.istore 6, 2) := by decide +kernel
theorem dL_law_2045 : decode cL_law 2045 = .ok (.aload_n 2, 1) := by decide +kernel
theorem dL_law_2046 : decode cL_law 2046 = .ok (.aload_n 0, 1) := by decide +kernel
theorem dL_law_2047 : decode cL_law 2047 = .ok (.iload 5, 2) := by decide +kernel
theorem dL_law_2049 : decode cL_law 2049 = .ok (.iconst 1, 1) := by decide +kernel
theorem dL_law_2050 : decode cL_law 2050 = .ok (.iadd, 1) := by decide +kernel
theorem dL_law_2051 : decode cL_law 2051 = .ok (.iaload, 1) := by decide +kernel
theorem dL_law_2052 : decode cL_law 2052 = .ok (.aload_n 0, 1) := by decide +kernel
theorem dL_law_2053 : decode cL_law 2053 = .ok (.iload 5, 2) := by decide +kernel
theorem dL_law_2055 : decode cL_law 2055 = .ok (.iconst 2, 1) := by decide +kernel
theorem dL_law_2056 : decode cL_law 2056 = .ok (.iadd, 1) := by decide +kernel
theorem dL_law_2057 : decode cL_law 2057 = .ok (.iaload, 1) := by decide +kernel
theorem dL_law_2058 : decode cL_law 2058 = .ok (.aload_n 0, 1) := by decide +kernel
theorem dL_law_2059 : decode cL_law 2059 = .ok (.iload 5, 2) := by decide +kernel
theorem dL_law_2061 : decode cL_law 2061 = .ok (.iconst 3, 1) := by decide +kernel
theorem dL_law_2062 : decode cL_law 2062 = .ok (.iadd, 1) := by decide +kernel
theorem dL_law_2063 : decode cL_law 2063 = .ok (.iaload, 1) := by decide +kernel
theorem dL_law_2064 : decode cL_law 2064 = .ok (.invokevirtual 235, 3) := by decide +kernel
theorem dL_law_2067 : decode cL_law 2067 = .ok (.istore 7, 2) := by decide +kernel
theorem dL_law_2069 : decode cL_law 2069 = .ok (.aload_n 2, 1) := by decide +kernel
theorem dL_law_2070 : decode cL_law 2070 = .ok (.invokevirtual 154, 3) := by decide +kernel
theorem dL_law_2073 : decode cL_law 2073 = .ok (.iload 6, 2) := by decide +kernel
theorem dL_law_2075 : decode cL_law 2075 = .ok (.if_icmp .eq 5, 3) := by decide +kernel
theorem dL_law_2078 : decode cL_law 2078 = .ok (.iconst 0, 1) := by decide +kernel
theorem dL_law_2079 : decode cL_law 2079 = .ok (.ireturn, 1) := by decide +kernel
theorem dL_law_2080 : decode cL_law 2080 = .ok (.iload 6, 2) := by decide +kernel
theorem dL_law_2082 : decode cL_law 2082 = .ok (.ifCond .ne 15, 3) := by decide +kernel
theorem dL_law_2085 : decode cL_law 2085 = .ok (.aload_n 3, 1) := by decide +kernel
theorem dL_law_2086 : decode cL_law 2086 = .ok (.iconst 0, 1) := by decide +kernel
theorem dL_law_2087 : decode cL_law 2087 = .ok (.laload, 1) := by decide +kernel
theorem dL_law_2088 : decode cL_law 2088 = .ok (.iload 7, 2) := by decide +kernel
theorem dL_law_2090 : decode cL_law 2090 = .ok (.i2l, 1) := by decide +kernel
theorem dL_law_2091 : decode cL_law 2091 = .ok (.lcmp, 1) := by decide +kernel
theorem dL_law_2092 : decode cL_law 2092 = .ok (.ifCond .eq 5, 3) := by decide +kernel
theorem dL_law_2095 : decode cL_law 2095 = .ok (.iconst 0, 1) := by decide +kernel
theorem dL_law_2096 : decode cL_law 2096 = .ok (.ireturn, 1) := by decide +kernel
theorem dL_law_2097 : decode cL_law 2097 = .ok (.goto 789, 3) := by decide +kernel
theorem dL_law_2100 : decode cL_law 2100 = .ok (.aload_n 1, 1) := by decide +kernel
theorem dL_law_2101 : decode cL_law 2101 = .ok (.aload_n 0, 1) := by decide +kernel
theorem dL_law_2102 : decode cL_law 2102 = .ok (.iload 5, 2) := by decide +kernel
theorem dL_law_2104 : decode cL_law 2104 = .ok (.iconst 1, 1) := by decide +kernel
theorem dL_law_2105 : decode cL_law 2105 = .ok (.iadd, 1) := by decide +kernel
theorem dL_law_2106 : decode cL_law 2106 = .ok (.iaload, 1) := by decide +kernel
theorem dL_law_2107 : decode cL_law 2107 = .ok (.aload_n 3, 1) := by decide +kernel
theorem dL_law_2108 : decode cL_law 2108 = .ok (.invokestatic 236, 3) := by decide +kernel
theorem dL_law_2111 : decode cL_law 2111 = .ok (.istore 6, 2) := by decide +kernel
theorem dL_law_2113 : decode cL_law 2113 = .ok (.aload_n 2, 1) := by decide +kernel
theorem dL_law_2114 : decode cL_law 2114 = .ok (.aload_n 0, 1) := by decide +kernel
theorem dL_law_2115 : decode cL_law 2115 = .ok (.iload 5, 2) := by decide +kernel
theorem dL_law_2117 : decode cL_law 2117 = .ok (.iconst 1, 1) := by decide +kernel
theorem dL_law_2118 : decode cL_law 2118 = .ok (.iadd, 1) := by decide +kernel
theorem dL_law_2119 : decode cL_law 2119 = .ok (.iaload, 1) := by decide +kernel
theorem dL_law_2120 : decode cL_law 2120 = .ok (.invokevirtual 238, 3) := by decide +kernel
theorem dL_law_2123 : decode cL_law 2123 = .ok (.istore 7, 2) := by decide +kernel
theorem dL_law_2125 : decode cL_law 2125 = .ok (.aload_n 2, 1) := by decide +kernel
theorem dL_law_2126 : decode cL_law 2126 = .ok (.invokevirtual 154, 3) := by decide +kernel
theorem dL_law_2129 : decode cL_law 2129 = .ok (.iload 6, 2) := by decide +kernel
theorem dL_law_2131 : decode cL_law 2131 = .ok (.if_icmp .eq 5, 3) := by decide +kernel
theorem dL_law_2134 : decode cL_law 2134 = .ok (.iconst 0, 1) := by decide +kernel
theorem dL_law_2135 : decode cL_law 2135 = .ok (.ireturn, 1) := by decide +kernel
theorem dL_law_2136 : decode cL_law 2136 = .ok (.iload 6, 2) := by decide +kernel
theorem dL_law_2138 : decode cL_law 2138 = .ok (.ifCond .ne 15, 3) := by decide +kernel
theorem dL_law_2141 : decode cL_law 2141 = .ok (.aload_n 3, 1) := by decide +kernel
theorem dL_law_2142 : decode cL_law 2142 = .ok (.iconst 0, 1) := by decide +kernel
theorem dL_law_2143 : decode cL_law 2143 = .ok (.laload, 1) := by decide +kernel
theorem dL_law_2144 : decode cL_law 2144 = .ok (.iload 7, 2) := by decide +kernel
theorem dL_law_2146 : decode cL_law 2146 = .ok (.i2l, 1) := by decide +kernel
theorem dL_law_2147 : decode cL_law 2147 = .ok (.lcmp, 1) := by decide +kernel
theorem dL_law_2148 : decode cL_law 2148 = .ok (.ifCond .eq 5, 3) := by decide +kernel
theorem dL_law_2151 : decode cL_law 2151 = .ok (.iconst 0, 1) := by decide +kernel
theorem dL_law_2152 : decode cL_law 2152 = .ok (.ireturn, 1) := by decide +kernel
theorem dL_law_2153 : decode cL_law 2153 = .ok (.goto 733, 3) := by decide +kernel
theorem dL_law_2156 : decode cL_law 2156 = .ok (.aload_n 1, 1) := by decide +kernel
theorem dL_law_2157 : decode cL_law 2157 = .ok (.aload_n 0, 1) := by decide +kernel
theorem dL_law_2158 : decode cL_law 2158 = .ok (.iload 5, 2) := by decide +kernel
theorem dL_law_2160 : decode cL_law 2160 = .ok (.iconst 1, 1) := by decide +kernel
theorem dL_law_2161 : decode cL_law 2161 = .ok (.iadd, 1) := by decide +kernel
theorem dL_law_2162 : decode cL_law 2162 = .ok (.iaload, 1) := by decide +kernel
theorem dL_law_2163 : decode cL_law 2163 = .ok (.aload_n 0, 1) := by decide +kernel
theorem dL_law_2164 : decode cL_law 2164 = .ok (.iload 5, 2) := by decide +kernel
theorem dL_law_2166 : decode cL_law 2166 = .ok (.iconst 2, 1) := by decide +kernel
theorem dL_law_2167 : decode cL_law 2167 = .ok (.iadd, 1) := by decide +kernel
theorem dL_law_2168 : decode cL_law 2168 = .ok (.iaload, 1) := by decide +kernel
theorem dL_law_2169 : decode cL_law 2169 = .ok (.aload_n 3, 1) := by decide +kernel
theorem dL_law_2170 : decode cL_law 2170 = .ok (.invokestatic 239, 3) := by decide +kernel
theorem dL_law_2173 : decode cL_law 2173 = .ok (.istore 6, 2) := by decide +kernel
theorem dL_law_2175 : decode cL_law 2175 = .ok (.aload_n 2, 1) := by decide +kernel
theorem dL_law_2176 : decode cL_law 2176 = .ok (.aload_n 0, 1) := by decide +kernel
theorem dL_law_2177 : decode cL_law 2177 = .ok (.iload 5, 2) := by decide +kernel
theorem dL_law_2179 : decode cL_law 2179 = .ok (.iconst 1, 1) := by decide +kernel
theorem dL_law_2180 : decode cL_law 2180 = .ok (.iadd, 1) := by decide +kernel
theorem dL_law_2181 : decode cL_law 2181 = .ok (.iaload, 1) := by decide +kernel
theorem dL_law_2182 : decode cL_law 2182 = .ok (.aload_n 0, 1) := by decide +kernel
theorem dL_law_2183 : decode cL_law 2183 = .ok (.iload 5, 2) := by decide +kernel
theorem dL_law_2185 : decode cL_law 2185 = .ok (.iconst 2, 1) := by decide +kernel
theorem dL_law_2186 : decode cL_law 2186 = .ok (.iadd, 1) := by decide +kernel
theorem dL_law_2187 : decode cL_law 2187 = .ok (.iaload, 1) := by decide +kernel
theorem dL_law_2188 : decode cL_law 2188 = .ok (.invokevirtual 241, 3) := by decide +kernel
theorem dL_law_2191 : decode cL_law 2191 = .ok (.istore 7, 2) := by decide +kernel
theorem dL_law_2193 : decode cL_law 2193 = .ok (.aload_n 2, 1) := by decide +kernel
theorem dL_law_2194 : decode cL_law 2194 = .ok (.invokevirtual 154, 3) := by decide +kernel
theorem dL_law_2197 : decode cL_law 2197 = .ok (.iload 6, 2) := by decide +kernel
theorem dL_law_2199 : decode cL_law 2199 = .ok (.if_icmp .eq 5, 3) := by decide +kernel
theorem dL_law_2202 : decode cL_law 2202 = .ok (.iconst 0, 1) := by decide +kernel
theorem dL_law_2203 : decode cL_law 2203 = .ok (.ireturn, 1) := by decide +kernel
theorem dL_law_2204 : decode cL_law 2204 = .ok (.iload 6, 2) := by decide +kernel
theorem dL_law_2206 : decode cL_law 2206 = .ok (.ifCond .ne 22, 3) := by decide +kernel
theorem dL_law_2209 : decode cL_law 2209 = .ok (.aload_n 3, 1) := by decide +kernel
theorem dL_law_2210 : decode cL_law 2210 = .ok (.iconst 0, 1) := by decide +kernel
theorem dL_law_2211 : decode cL_law 2211 = .ok (.laload, 1) := by decide +kernel
theorem dL_law_2212 : decode cL_law 2212 = .ok (.iload 7, 2) := by decide +kernel
theorem dL_law_2214 : decode cL_law 2214 = .ok (.ifCond .eq 7, 3) := by decide +kernel
theorem dL_law_2217 : decode cL_law 2217 = .ok (.lconst 1, 1) := by decide +kernel
theorem dL_law_2218 : decode cL_law 2218 = .ok (.goto 4, 3) := by decide +kernel
theorem dL_law_2221 : decode cL_law 2221 = .ok (.lconst 0, 1) := by decide +kernel
theorem dL_law_2222 : decode cL_law 2222 = .ok (.lcmp, 1) := by decide +kernel
theorem dL_law_2223 : decode cL_law 2223 = .ok (.ifCond .eq 5, 3) := by decide +kernel
theorem dL_law_2226 : decode cL_law 2226 = .ok (.iconst 0, 1) := by decide +kernel
theorem dL_law_2227 : decode cL_law 2227 = .ok (.ireturn, 1) := by decide +kernel
theorem dL_law_2228 : decode cL_law 2228 = .ok (.goto 658, 3) := by decide +kernel
theorem dL_law_2231 : decode cL_law 2231 = .ok (.aload_n 1, 1) := by decide +kernel
theorem dL_law_2232 : decode cL_law 2232 = .ok (.aload_n 0, 1) := by decide +kernel
theorem dL_law_2233 : decode cL_law 2233 = .ok (.iload 5, 2) := by decide +kernel
theorem dL_law_2235 : decode cL_law 2235 = .ok (.iconst 1, 1) := by decide +kernel
theorem dL_law_2236 : decode cL_law 2236 = .ok (.iadd, 1) := by decide +kernel
theorem dL_law_2237 : decode cL_law 2237 = .ok (.iaload, 1) := by decide +kernel
theorem dL_law_2238 : decode cL_law 2238 = .ok (.aload_n 3, 1) := by decide +kernel
theorem dL_law_2239 : decode cL_law 2239 = .ok (.invokestatic 242, 3) := by decide +kernel
theorem dL_law_2242 : decode cL_law 2242 = .ok (.istore 6, 2) := by decide +kernel
theorem dL_law_2244 : decode cL_law 2244 = .ok (.aload_n 2, 1) := by decide +kernel
theorem dL_law_2245 : decode cL_law 2245 = .ok (.aload_n 0, 1) := by decide +kernel
theorem dL_law_2246 : decode cL_law 2246 = .ok (.iload 5, 2) := by decide +kernel
theorem dL_law_2248 : decode cL_law 2248 = .ok (.iconst 1, 1) := by decide +kernel
theorem dL_law_2249 : decode cL_law 2249 = .ok (.iadd, 1) := by decide +kernel
theorem dL_law_2250 : decode cL_law 2250 = .ok (.iaload, 1) := by decide +kernel
theorem dL_law_2251 : decode cL_law 2251 = .ok (.invokevirtual 244, 3) := by decide +kernel
theorem dL_law_2254 : decode cL_law 2254 = .ok (.istore 7, 2) := by decide +kernel
theorem dL_law_2256 : decode cL_law 2256 = .ok (.aload_n 2, 1) := by decide +kernel
theorem dL_law_2257 : decode cL_law 2257 = .ok (.invokevirtual 154, 3) := by decide +kernel
theorem dL_law_2260 : decode cL_law 2260 = .ok (.iload 6, 2) := by decide +kernel
theorem dL_law_2262 : decode cL_law 2262 = .ok (.if_icmp .eq 5, 3) := by decide +kernel
theorem dL_law_2265 : decode cL_law 2265 = .ok (.iconst 0, 1) := by decide +kernel
theorem dL_law_2266 : decode cL_law 2266 = .ok (.ireturn, 1) := by decide +kernel
theorem dL_law_2267 : decode cL_law 2267 = .ok (.iload 6, 2) := by decide +kernel
theorem dL_law_2269 : decode cL_law 2269 = .ok (.ifCond .ne 15, 3) := by decide +kernel
theorem dL_law_2272 : decode cL_law 2272 = .ok (.aload_n 3, 1) := by decide +kernel
theorem dL_law_2273 : decode cL_law 2273 = .ok (.iconst 0, 1) := by decide +kernel
theorem dL_law_2274 : decode cL_law 2274 = .ok (.laload, 1) := by decide +kernel
theorem dL_law_2275 : decode cL_law 2275 = .ok (.iload 7, 2) := by decide +kernel
theorem dL_law_2277 : decode cL_law 2277 = .ok (.i2l, 1) := by decide +kernel
theorem dL_law_2278 : decode cL_law 2278 = .ok (.lcmp, 1) := by decide +kernel
theorem dL_law_2279 : decode cL_law 2279 = .ok (.ifCond .eq 5, 3) := by decide +kernel
theorem dL_law_2282 : decode cL_law 2282 = .ok (.iconst 0, 1) := by decide +kernel
theorem dL_law_2283 : decode cL_law 2283 = .ok (.ireturn, 1) := by decide +kernel
theorem dL_law_2284 : decode cL_law 2284 = .ok (.goto 602, 3) := by decide +kernel
theorem dL_law_2287 : decode cL_law 2287 = .ok (.aload_n 1, 1) := by decide +kernel
theorem dL_law_2288 : decode cL_law 2288 = .ok (.aload_n 0, 1) := by decide +kernel
theorem dL_law_2289 : decode cL_law 2289 = .ok (.iload 5, 2) := by decide +kernel
theorem dL_law_2291 : decode cL_law 2291 = .ok (.iconst 1, 1) := by decide +kernel
theorem dL_law_2292 : decode cL_law 2292 = .ok (.iadd, 1) := by decide +kernel
theorem dL_law_2293 : decode cL_law 2293 = .ok (.iaload, 1) := by decide +kernel
theorem dL_law_2294 : decode cL_law 2294 = .ok (.aload_n 0, 1) := by decide +kernel
theorem dL_law_2295 : decode cL_law 2295 = .ok (.iload 5, 2) := by decide +kernel
theorem dL_law_2297 : decode cL_law 2297 = .ok (.iconst 2, 1) := by decide +kernel
theorem dL_law_2298 : decode cL_law 2298 = .ok (.iadd, 1) := by decide +kernel
theorem dL_law_2299 : decode cL_law 2299 = .ok (.iaload, 1) := by decide +kernel
theorem dL_law_2300 : decode cL_law 2300 = .ok (.aload_n 3, 1) := by decide +kernel
theorem dL_law_2301 : decode cL_law 2301 = .ok (.invokestatic 245, 3) := by decide +kernel
theorem dL_law_2304 : decode cL_law 2304 = .ok (.istore 6, 2) := by decide +kernel
theorem dL_law_2306 : decode cL_law 2306 = .ok (.aload_n 2, 1) := by decide +kernel
theorem dL_law_2307 : decode cL_law 2307 = .ok (.aload_n 0, 1) := by decide +kernel
theorem dL_law_2308 : decode cL_law 2308 = .ok (.iload 5, 2) := by decide +kernel
theorem dL_law_2310 : decode cL_law 2310 = .ok (.iconst 1, 1) := by decide +kernel
theorem dL_law_2311 : decode cL_law 2311 = .ok (.iadd, 1) := by decide +kernel
theorem dL_law_2312 : decode cL_law 2312 = .ok (.iaload, 1) := by decide +kernel
theorem dL_law_2313 : decode cL_law 2313 = .ok (.aload_n 0, 1) := by decide +kernel
theorem dL_law_2314 : decode cL_law 2314 = .ok (.iload 5, 2) := by decide +kernel
theorem dL_law_2316 : decode cL_law 2316 = .ok (.iconst 2, 1) := by decide +kernel
theorem dL_law_2317 : decode cL_law 2317 = .ok (.iadd, 1) := by decide +kernel
theorem dL_law_2318 : decode cL_law 2318 = .ok (.iaload, 1) := by decide +kernel
theorem dL_law_2319 : decode cL_law 2319 = .ok (.invokevirtual 247, 3) := by decide +kernel
theorem dL_law_2322 : decode cL_law 2322 = .ok (.istore 7, 2) := by decide +kernel
theorem dL_law_2324 : decode cL_law 2324 = .ok (.aload_n 2, 1) := by decide +kernel
theorem dL_law_2325 : decode cL_law 2325 = .ok (.invokevirtual 154, 3) := by decide +kernel
theorem dL_law_2328 : decode cL_law 2328 = .ok (.iload 6, 2) := by decide +kernel
theorem dL_law_2330 : decode cL_law 2330 = .ok (.if_icmp .eq 5, 3) := by decide +kernel
theorem dL_law_2333 : decode cL_law 2333 = .ok (.iconst 0, 1) := by decide +kernel
theorem dL_law_2334 : decode cL_law 2334 = .ok (.ireturn, 1) := by decide +kernel
theorem dL_law_2335 : decode cL_law 2335 = .ok (.iload 6, 2) := by decide +kernel
theorem dL_law_2337 : decode cL_law 2337 = .ok (.ifCond .ne 15, 3) := by decide +kernel
theorem dL_law_2340 : decode cL_law 2340 = .ok (.aload_n 3, 1) := by decide +kernel
theorem dL_law_2341 : decode cL_law 2341 = .ok (.iconst 0, 1) := by decide +kernel
theorem dL_law_2342 : decode cL_law 2342 = .ok (.laload, 1) := by decide +kernel
theorem dL_law_2343 : decode cL_law 2343 = .ok (.iload 7, 2) := by decide +kernel
theorem dL_law_2345 : decode cL_law 2345 = .ok (.i2l, 1) := by decide +kernel
theorem dL_law_2346 : decode cL_law 2346 = .ok (.lcmp, 1) := by decide +kernel
theorem dL_law_2347 : decode cL_law 2347 = .ok (.ifCond .eq 5, 3) := by decide +kernel
theorem dL_law_2350 : decode cL_law 2350 = .ok (.iconst 0, 1) := by decide +kernel
theorem dL_law_2351 : decode cL_law 2351 = .ok (.ireturn, 1) := by decide +kernel
theorem dL_law_2352 : decode cL_law 2352 = .ok (.goto 534, 3) := by decide +kernel
theorem dL_law_2355 : decode cL_law 2355 = .ok (.aload_n 1, 1) := by decide +kernel
theorem dL_law_2356 : decode cL_law 2356 = .ok (.aload_n 0, 1) := by decide +kernel
theorem dL_law_2357 : decode cL_law 2357 = .ok (.iload 5, 2) := by decide +kernel
theorem dL_law_2359 : decode cL_law 2359 = .ok (.iconst 1, 1) := by decide +kernel
theorem dL_law_2360 : decode cL_law 2360 = .ok (.iadd, 1) := by decide +kernel
theorem dL_law_2361 : decode cL_law 2361 = .ok (.iaload, 1) := by decide +kernel
theorem dL_law_2362 : decode cL_law 2362 = .ok (.aload_n 3, 1) := by decide +kernel
theorem dL_law_2363 : decode cL_law 2363 = .ok (.invokestatic 248, 3) := by decide +kernel
theorem dL_law_2366 : decode cL_law 2366 = .ok (.istore 6, 2) := by decide +kernel
theorem dL_law_2368 : decode cL_law 2368 = .ok (.aload_n 2, 1) := by decide +kernel
theorem dL_law_2369 : decode cL_law 2369 = .ok (.aload_n 0, 1) := by decide +kernel
theorem dL_law_2370 : decode cL_law 2370 = .ok (.iload 5, 2) := by decide +kernel
theorem dL_law_2372 : decode cL_law 2372 = .ok (.iconst 1, 1) := by decide +kernel
theorem dL_law_2373 : decode cL_law 2373 = .ok (.iadd, 1) := by decide +kernel
theorem dL_law_2374 : decode cL_law 2374 = .ok (.iaload, 1) := by decide +kernel
theorem dL_law_2375 : decode cL_law 2375 = .ok (.invokevirtual 250, 3) := by decide +kernel
theorem dL_law_2378 : decode cL_law 2378 = .ok (.istore 7, 2) := by decide +kernel
theorem dL_law_2380 : decode cL_law 2380 = .ok (.aload_n 2, 1) := by decide +kernel
theorem dL_law_2381 : decode cL_law 2381 = .ok (.invokevirtual 154, 3) := by decide +kernel
theorem dL_law_2384 : decode cL_law 2384 = .ok (.iload 6, 2) := by decide +kernel
theorem dL_law_2386 : decode cL_law 2386 = .ok (.if_icmp .eq 5, 3) := by decide +kernel
theorem dL_law_2389 : decode cL_law 2389 = .ok (.iconst 0, 1) := by decide +kernel
theorem dL_law_2390 : decode cL_law 2390 = .ok (.ireturn, 1) := by decide +kernel
theorem dL_law_2391 : decode cL_law 2391 = .ok (.iload 6, 2) := by decide +kernel
theorem dL_law_2393 : decode cL_law 2393 = .ok (.ifCond .ne 15, 3) := by decide +kernel
theorem dL_law_2396 : decode cL_law 2396 = .ok (.aload_n 3, 1) := by decide +kernel
theorem dL_law_2397 : decode cL_law 2397 = .ok (.iconst 0, 1) := by decide +kernel
theorem dL_law_2398 : decode cL_law 2398 = .ok (.laload, 1) := by decide +kernel
theorem dL_law_2399 : decode cL_law 2399 = .ok (.iload 7, 2) := by decide +kernel
theorem dL_law_2401 : decode cL_law 2401 = .ok (.i2l, 1) := by decide +kernel
theorem dL_law_2402 : decode cL_law 2402 = .ok (.lcmp, 1) := by decide +kernel
theorem dL_law_2403 : decode cL_law 2403 = .ok (.ifCond .eq 5, 3) := by decide +kernel
theorem dL_law_2406 : decode cL_law 2406 = .ok (.iconst 0, 1) := by decide +kernel
theorem dL_law_2407 : decode cL_law 2407 = .ok (.ireturn, 1) := by decide +kernel
theorem dL_law_2408 : decode cL_law 2408 = .ok (.goto 478, 3) := by decide +kernel
theorem dL_law_2411 : decode cL_law 2411 = .ok (.aload_n 1, 1) := by decide +kernel
theorem dL_law_2412 : decode cL_law 2412 = .ok (.aload_n 0, 1) := by decide +kernel
theorem dL_law_2413 : decode cL_law 2413 = .ok (.iload 5, 2) := by decide +kernel
theorem dL_law_2415 : decode cL_law 2415 = .ok (.iconst 1, 1) := by decide +kernel
theorem dL_law_2416 : decode cL_law 2416 = .ok (.iadd, 1) := by decide +kernel
theorem dL_law_2417 : decode cL_law 2417 = .ok (.iaload, 1) := by decide +kernel
theorem dL_law_2418 : decode cL_law 2418 = .ok (.aload_n 0, 1) := by decide +kernel
theorem dL_law_2419 : decode cL_law 2419 = .ok (.iload 5, 2) := by decide +kernel
theorem dL_law_2421 : decode cL_law 2421 = .ok (.iconst 2, 1) := by decide +kernel
theorem dL_law_2422 : decode cL_law 2422 = .ok (.iadd, 1) := by decide +kernel
theorem dL_law_2423 : decode cL_law 2423 = .ok (.iaload, 1) := by decide +kernel
theorem dL_law_2424 : decode cL_law 2424 = .ok (.aload_n 3, 1) := by decide +kernel
theorem dL_law_2425 : decode cL_law 2425 = .ok (.invokestatic 251, 3) := by decide +kernel
theorem dL_law_2428 : decode cL_law 2428 = .ok (.istore 6, 2) := by decide +kernel
theorem dL_law_2430 : decode cL_law 2430 = .ok (.aload_n 2, 1) := by decide +kernel
theorem dL_law_2431 : decode cL_law 2431 = .ok (.aload_n 0, 1) := by decide +kernel
theorem dL_law_2432 : decode cL_law 2432 = .ok (.iload 5, 2) := by decide +kernel
theorem dL_law_2434 : decode cL_law 2434 = .ok (.iconst 1, 1) := by decide +kernel
theorem dL_law_2435 : decode cL_law 2435 = .ok (.iadd, 1) := by decide +kernel
theorem dL_law_2436 : decode cL_law 2436 = .ok (.iaload, 1) := by decide +kernel
theorem dL_law_2437 : decode cL_law 2437 = .ok (.aload_n 0, 1) := by decide +kernel
theorem dL_law_2438 : decode cL_law 2438 = .ok (.iload 5, 2) := by decide +kernel
theorem dL_law_2440 : decode cL_law 2440 = .ok (.iconst 2, 1) := by decide +kernel
theorem dL_law_2441 : decode cL_law 2441 = .ok (.iadd, 1) := by decide +kernel
theorem dL_law_2442 : decode cL_law 2442 = .ok (.iaload, 1) := by decide +kernel
theorem dL_law_2443 : decode cL_law 2443 = .ok (.invokevirtual 253, 3) := by decide +kernel
theorem dL_law_2446 : decode cL_law 2446 = .ok (.istore 7, 2) := by decide +kernel
theorem dL_law_2448 : decode cL_law 2448 = .ok (.aload_n 2, 1) := by decide +kernel
theorem dL_law_2449 : decode cL_law 2449 = .ok (.invokevirtual 154, 3) := by decide +kernel
theorem dL_law_2452 : decode cL_law 2452 = .ok (.iload 6, 2) := by decide +kernel
theorem dL_law_2454 : decode cL_law 2454 = .ok (.if_icmp .eq 5, 3) := by decide +kernel
theorem dL_law_2457 : decode cL_law 2457 = .ok (.iconst 0, 1) := by decide +kernel
theorem dL_law_2458 : decode cL_law 2458 = .ok (.ireturn, 1) := by decide +kernel
theorem dL_law_2459 : decode cL_law 2459 = .ok (.iload 6, 2) := by decide +kernel
theorem dL_law_2461 : decode cL_law 2461 = .ok (.ifCond .ne 15, 3) := by decide +kernel
theorem dL_law_2464 : decode cL_law 2464 = .ok (.aload_n 3, 1) := by decide +kernel
theorem dL_law_2465 : decode cL_law 2465 = .ok (.iconst 0, 1) := by decide +kernel
theorem dL_law_2466 : decode cL_law 2466 = .ok (.laload, 1) := by decide +kernel
theorem dL_law_2467 : decode cL_law 2467 = .ok (.iload 7, 2) := by decide +kernel
theorem dL_law_2469 : decode cL_law 2469 = .ok (.i2l, 1) := by decide +kernel
theorem dL_law_2470 : decode cL_law 2470 = .ok (.lcmp, 1) := by decide +kernel
theorem dL_law_2471 : decode cL_law 2471 = .ok (.ifCond .eq 5, 3) := by decide +kernel
theorem dL_law_2474 : decode cL_law 2474 = .ok (.iconst 0, 1) := by decide +kernel
theorem dL_law_2475 : decode cL_law 2475 = .ok (.ireturn, 1) := by decide +kernel
theorem dL_law_2476 : decode cL_law 2476 = .ok (.goto 410, 3) := by decide +kernel
theorem dL_law_2479 : decode cL_law 2479 = .ok (.aload_n 1, 1) := by decide +kernel
theorem dL_law_2480 : decode cL_law 2480 = .ok (.aload_n 0, 1) := by decide +kernel
theorem dL_law_2481 : decode cL_law 2481 = .ok (.iload 5, 2) := by decide +kernel
theorem dL_law_2483 : decode cL_law 2483 = .ok (.iconst 1, 1) := by decide +kernel
theorem dL_law_2484 : decode cL_law 2484 = .ok (.iadd, 1) := by decide +kernel
theorem dL_law_2485 : decode cL_law 2485 = .ok (.iaload, 1) := by decide +kernel
theorem dL_law_2486 : decode cL_law 2486 = .ok (.aload_n 3, 1) := by decide +kernel
theorem dL_law_2487 : decode cL_law 2487 = .ok (.invokestatic 254, 3) := by decide +kernel
theorem dL_law_2490 : decode cL_law 2490 = .ok (.istore 6, 2) := by decide +kernel
theorem dL_law_2492 : decode cL_law 2492 = .ok (.aload_n 2, 1) := by decide +kernel
theorem dL_law_2493 : decode cL_law 2493 = .ok (.aload_n 0, 1) := by decide +kernel
theorem dL_law_2494 : decode cL_law 2494 = .ok (.iload 5, 2) := by decide +kernel
theorem dL_law_2496 : decode cL_law 2496 = .ok (.iconst 1, 1) := by decide +kernel
theorem dL_law_2497 : decode cL_law 2497 = .ok (.iadd, 1) := by decide +kernel
theorem dL_law_2498 : decode cL_law 2498 = .ok (.iaload, 1) := by decide +kernel
theorem dL_law_2499 : decode cL_law 2499 = .ok (.invokevirtual 256, 3) := by decide +kernel
theorem dL_law_2502 : decode cL_law 2502 = .ok (.istore 7, 2) := by decide +kernel
theorem dL_law_2504 : decode cL_law 2504 = .ok (.aload_n 2, 1) := by decide +kernel
theorem dL_law_2505 : decode cL_law 2505 = .ok (.invokevirtual 154, 3) := by decide +kernel
theorem dL_law_2508 : decode cL_law 2508 = .ok (.iload 6, 2) := by decide +kernel
theorem dL_law_2510 : decode cL_law 2510 = .ok (.if_icmp .eq 5, 3) := by decide +kernel
theorem dL_law_2513 : decode cL_law 2513 = .ok (.iconst 0, 1) := by decide +kernel
theorem dL_law_2514 : decode cL_law 2514 = .ok (.ireturn, 1) := by decide +kernel
theorem dL_law_2515 : decode cL_law 2515 = .ok (.iload 6, 2) := by decide +kernel
theorem dL_law_2517 : decode cL_law 2517 = .ok (.ifCond .ne 15, 3) := by decide +kernel
theorem dL_law_2520 : decode cL_law 2520 = .ok (.aload_n 3, 1) := by decide +kernel
theorem dL_law_2521 : decode cL_law 2521 = .ok (.iconst 0, 1) := by decide +kernel
theorem dL_law_2522 : decode cL_law 2522 = .ok (.laload, 1) := by decide +kernel
theorem dL_law_2523 : decode cL_law 2523 = .ok (.iload 7, 2) := by decide +kernel
theorem dL_law_2525 : decode cL_law 2525 = .ok (.i2l, 1) := by decide +kernel
theorem dL_law_2526 : decode cL_law 2526 = .ok (.lcmp, 1) := by decide +kernel
theorem dL_law_2527 : decode cL_law 2527 = .ok (.ifCond .eq 5, 3) := by decide +kernel
theorem dL_law_2530 : decode cL_law 2530 = .ok (.iconst 0, 1) := by decide +kernel
theorem dL_law_2531 : decode cL_law 2531 = .ok (.ireturn, 1) := by decide +kernel
theorem dL_law_2532 : decode cL_law 2532 = .ok (.goto 354, 3) := by decide +kernel
theorem dL_law_2535 : decode cL_law 2535 = .ok (.aload_n 1, 1) := by decide +kernel
theorem dL_law_2536 : decode cL_law 2536 = .ok (.aload_n 0, 1) := by decide +kernel
theorem dL_law_2537 : decode cL_law 2537 = .ok (.iload 5, 2) := by decide +kernel
theorem dL_law_2539 : decode cL_law 2539 = .ok (.iconst 1, 1) := by decide +kernel
theorem dL_law_2540 : decode cL_law 2540 = .ok (.iadd, 1) := by decide +kernel
theorem dL_law_2541 : decode cL_law 2541 = .ok (.iaload, 1) := by decide +kernel
theorem dL_law_2542 : decode cL_law 2542 = .ok (.aload_n 3, 1) := by decide +kernel
theorem dL_law_2543 : decode cL_law 2543 = .ok (.invokestatic 257, 3) := by decide +kernel
theorem dL_law_2546 : decode cL_law 2546 = .ok (.istore 6, 2) := by decide +kernel
theorem dL_law_2548 : decode cL_law 2548 = .ok (.aload_n 2, 1) := by decide +kernel
theorem dL_law_2549 : decode cL_law 2549 = .ok (.aload_n 0, 1) := by decide +kernel
theorem dL_law_2550 : decode cL_law 2550 = .ok (.iload 5, 2) := by decide +kernel
theorem dL_law_2552 : decode cL_law 2552 = .ok (.iconst 1, 1) := by decide +kernel
theorem dL_law_2553 : decode cL_law 2553 = .ok (.iadd, 1) := by decide +kernel
theorem dL_law_2554 : decode cL_law 2554 = .ok (.iaload, 1) := by decide +kernel
theorem dL_law_2555 : decode cL_law 2555 = .ok (.invokevirtual 259, 3) := by decide +kernel
theorem dL_law_2558 : decode cL_law 2558 = .ok (.istore 7, 2) := by decide +kernel
theorem dL_law_2560 : decode cL_law 2560 = .ok (.aload_n 2, 1) := by decide +kernel
theorem dL_law_2561 : decode cL_law 2561 = .ok (.invokevirtual 154, 3) := by decide +kernel
theorem dL_law_2564 : decode cL_law 2564 = .ok (.iload 6, 2) := by decide +kernel
theorem dL_law_2566 : decode cL_law 2566 = .ok (.if_icmp .eq 5, 3) := by decide +kernel
theorem dL_law_2569 : decode cL_law 2569 = .ok (.iconst 0, 1) := by decide +kernel
theorem dL_law_2570 : decode cL_law 2570 = .ok (.ireturn, 1) := by decide +kernel
theorem dL_law_2571 : decode cL_law 2571 = .ok (.iload 6, 2) := by decide +kernel
theorem dL_law_2573 : decode cL_law 2573 = .ok (.ifCond .ne 15, 3) := by decide +kernel
theorem dL_law_2576 : decode cL_law 2576 = .ok (.aload_n 3, 1) := by decide +kernel
theorem dL_law_2577 : decode cL_law 2577 = .ok (.iconst 0, 1) := by decide +kernel
theorem dL_law_2578 : decode cL_law 2578 = .ok (.laload, 1) := by decide +kernel
theorem dL_law_2579 : decode cL_law 2579 = .ok (.iload 7, 2) := by decide +kernel
theorem dL_law_2581 : decode cL_law 2581 = .ok (.i2l, 1) := by decide +kernel
theorem dL_law_2582 : decode cL_law 2582 = .ok (.lcmp, 1) := by decide +kernel
theorem dL_law_2583 : decode cL_law 2583 = .ok (.ifCond .eq 5, 3) := by decide +kernel
theorem dL_law_2586 : decode cL_law 2586 = .ok (.iconst 0, 1) := by decide +kernel
theorem dL_law_2587 : decode cL_law 2587 = .ok (.ireturn, 1) := by decide +kernel
theorem dL_law_2588 : decode cL_law 2588 = .ok (.goto 298, 3) := by decide +kernel
theorem dL_law_2591 : decode cL_law 2591 = .ok (.aload_n 1, 1) := by decide +kernel
theorem dL_law_2592 : decode cL_law 2592 = .ok (.aload_n 0, 1) := by decide +kernel
theorem dL_law_2593 : decode cL_law 2593 = .ok (.iload 5, 2) := by decide +kernel
theorem dL_law_2595 : decode cL_law 2595 = .ok (.iconst 1, 1) := by decide +kernel
theorem dL_law_2596 : decode cL_law 2596 = .ok (.iadd, 1) := by decide +kernel
theorem dL_law_2597 : decode cL_law 2597 = .ok (.iaload, 1) := by decide +kernel
theorem dL_law_2598 : decode cL_law 2598 = .ok (.aload_n 0, 1) := by decide +kernel
theorem dL_law_2599 : decode cL_law 2599 = .ok (.iload 5, 2) := by decide +kernel
theorem dL_law_2601 : decode cL_law 2601 = .ok (.iconst 2, 1) := by decide +kernel
theorem dL_law_2602 : decode cL_law 2602 = .ok (.iadd, 1) := by decide +kernel
theorem dL_law_2603 : decode cL_law 2603 = .ok (.iaload, 1) := by decide +kernel
theorem dL_law_2604 : decode cL_law 2604 = .ok (.aload_n 3, 1) := by decide +kernel
theorem dL_law_2605 : decode cL_law 2605 = .ok (.invokestatic 260, 3) := by decide +kernel
theorem dL_law_2608 : decode cL_law 2608 = .ok (.istore 6, 2) := by decide +kernel
theorem dL_law_2610 : decode cL_law 2610 = .ok (.aload_n 2, 1) := by decide +kernel
theorem dL_law_2611 : decode cL_law 2611 = .ok (.aload_n 0, 1) := by decide +kernel
theorem dL_law_2612 : decode cL_law 2612 = .ok (.iload 5, 2) := by decide +kernel
theorem dL_law_2614 : decode cL_law 2614 = .ok (.iconst 1, 1) := by decide +kernel
theorem dL_law_2615 : decode cL_law 2615 = .ok (.iadd, 1) := by decide +kernel
theorem dL_law_2616 : decode cL_law 2616 = .ok (.iaload, 1) := by decide +kernel
theorem dL_law_2617 : decode cL_law 2617 = .ok (.aload_n 0, 1) := by decide +kernel
theorem dL_law_2618 : decode cL_law 2618 = .ok (.iload 5, 2) := by decide +kernel
theorem dL_law_2620 : decode cL_law 2620 = .ok (.iconst 2, 1) := by decide +kernel
theorem dL_law_2621 : decode cL_law 2621 = .ok (.iadd, 1) := by decide +kernel
theorem dL_law_2622 : decode cL_law 2622 = .ok (.iaload, 1) := by decide +kernel
theorem dL_law_2623 : decode cL_law 2623 = .ok (.invokevirtual 262, 3) := by decide +kernel
theorem dL_law_2626 : decode cL_law 2626 = .ok (.istore 7, 2) := by decide +kernel
theorem dL_law_2628 : decode cL_law 2628 = .ok (.aload_n 2, 1) := by decide +kernel
theorem dL_law_2629 : decode cL_law 2629 = .ok (.invokevirtual 154, 3) := by decide +kernel
theorem dL_law_2632 : decode cL_law 2632 = .ok (.iload 6, 2) := by decide +kernel
theorem dL_law_2634 : decode cL_law 2634 = .ok (.if_icmp .eq 5, 3) := by decide +kernel
theorem dL_law_2637 : decode cL_law 2637 = .ok (.iconst 0, 1) := by decide +kernel
theorem dL_law_2638 : decode cL_law 2638 = .ok (.ireturn, 1) := by decide +kernel
theorem dL_law_2639 : decode cL_law 2639 = .ok (.iload 6, 2) := by decide +kernel
theorem dL_law_2641 : decode cL_law 2641 = .ok (.ifCond .ne 15, 3) := by decide +kernel
theorem dL_law_2644 : decode cL_law 2644 = .ok (.aload_n 3, 1) := by decide +kernel
theorem dL_law_2645 : decode cL_law 2645 = .ok (.iconst 0, 1) := by decide +kernel
theorem dL_law_2646 : decode cL_law 2646 = .ok (.laload, 1) := by decide +kernel
theorem dL_law_2647 : decode cL_law 2647 = .ok (.iload 7, 2) := by decide +kernel
theorem dL_law_2649 : decode cL_law 2649 = .ok (.i2l, 1) := by decide +kernel
theorem dL_law_2650 : decode cL_law 2650 = .ok (.lcmp, 1) := by decide +kernel
theorem dL_law_2651 : decode cL_law 2651 = .ok (.ifCond .eq 5, 3) := by decide +kernel
theorem dL_law_2654 : decode cL_law 2654 = .ok (.iconst 0, 1) := by decide +kernel
theorem dL_law_2655 : decode cL_law 2655 = .ok (.ireturn, 1) := by decide +kernel
theorem dL_law_2656 : decode cL_law 2656 = .ok (.goto 230, 3) := by decide +kernel
theorem dL_law_2659 : decode cL_law 2659 = .ok (.aload_n 1, 1) := by decide +kernel
theorem dL_law_2660 : decode cL_law 2660 = .ok (.invokevirtual 263, 3) := by decide +kernel
theorem dL_law_2663 : decode cL_law 2663 = .ok (.aload_n 2, 1) := by decide +kernel
theorem dL_law_2664 : decode cL_law 2664 = .ok (.invokevirtual 266, 3) := by decide +kernel
theorem dL_law_2667 : decode cL_law 2667 = .ok (.if_icmp .eq 219, 3) := by decide +kernel
theorem dL_law_2670 : decode cL_law 2670 = .ok (.iconst 0, 1) := by decide +kernel
theorem dL_law_2671 : decode cL_law 2671 = .ok (.ireturn, 1) := by decide +kernel
theorem dL_law_2672 : decode cL_law 2672 = .ok (.aload_n 1, 1) := by decide +kernel
theorem dL_law_2673 : decode cL_law 2673 = .ok (.aload_n 0, 1) := by decide +kernel
theorem dL_law_2674 : decode cL_law 2674 = .ok (.iload 5, 2) := by decide +kernel
theorem dL_law_2676 : decode cL_law 2676 = .ok (.iconst 1, 1) := by decide +kernel
theorem dL_law_2677 : decode cL_law 2677 = .ok (.iadd, 1) := by decide +kernel
theorem dL_law_2678 : decode cL_law 2678 = .ok (.iaload, 1) := by decide +kernel
theorem dL_law_2679 : decode cL_law 2679 = .ok (.aload_n 3, 1) := by decide +kernel
theorem dL_law_2680 : decode cL_law 2680 = .ok (.invokestatic 267, 3) := by decide +kernel
theorem dL_law_2683 : decode cL_law 2683 = .ok (.istore 6, 2) := by decide +kernel
theorem dL_law_2685 : decode cL_law 2685 = .ok (.aload_n 2, 1) := by decide +kernel
theorem dL_law_2686 : decode cL_law 2686 = .ok (.aload_n 0, 1) := by decide +kernel
theorem dL_law_2687 : decode cL_law 2687 = .ok (.iload 5, 2) := by decide +kernel
theorem dL_law_2689 : decode cL_law 2689 = .ok (.iconst 1, 1) := by decide +kernel
theorem dL_law_2690 : decode cL_law 2690 = .ok (.iadd, 1) := by decide +kernel
theorem dL_law_2691 : decode cL_law 2691 = .ok (.iaload, 1) := by decide +kernel
theorem dL_law_2692 : decode cL_law 2692 = .ok (.invokevirtual 269, 3) := by decide +kernel
theorem dL_law_2695 : decode cL_law 2695 = .ok (.istore 7, 2) := by decide +kernel
theorem dL_law_2697 : decode cL_law 2697 = .ok (.aload_n 2, 1) := by decide +kernel
theorem dL_law_2698 : decode cL_law 2698 = .ok (.invokevirtual 154, 3) := by decide +kernel
theorem dL_law_2701 : decode cL_law 2701 = .ok (.iload 6, 2) := by decide +kernel
theorem dL_law_2703 : decode cL_law 2703 = .ok (.if_icmp .eq 5, 3) := by decide +kernel
theorem dL_law_2706 : decode cL_law 2706 = .ok (.iconst 0, 1) := by decide +kernel
theorem dL_law_2707 : decode cL_law 2707 = .ok (.ireturn, 1) := by decide +kernel
theorem dL_law_2708 : decode cL_law 2708 = .ok (.iload 6, 2) := by decide +kernel
theorem dL_law_2710 : decode cL_law 2710 = .ok (.ifCond .ne 15, 3) := by decide +kernel
theorem dL_law_2713 : decode cL_law 2713 = .ok (.aload_n 3, 1) := by decide +kernel
theorem dL_law_2714 : decode cL_law 2714 = .ok (.iconst 0, 1) := by decide +kernel
theorem dL_law_2715 : decode cL_law 2715 = .ok (.laload, 1) := by decide +kernel
theorem dL_law_2716 : decode cL_law 2716 = .ok (.iload 7, 2) := by decide +kernel
theorem dL_law_2718 : decode cL_law 2718 = .ok (.i2l, 1) := by decide +kernel
theorem dL_law_2719 : decode cL_law 2719 = .ok (.lcmp, 1) := by decide +kernel
theorem dL_law_2720 : decode cL_law 2720 = .ok (.ifCond .eq 5, 3) := by decide +kernel
theorem dL_law_2723 : decode cL_law 2723 = .ok (.iconst 0, 1) := by decide +kernel
theorem dL_law_2724 : decode cL_law 2724 = .ok (.ireturn, 1) := by decide +kernel
theorem dL_law_2725 : decode cL_law 2725 = .ok (.goto 161, 3) := by decide +kernel
theorem dL_law_2728 : decode cL_law 2728 = .ok (.aload_n 1, 1) := by decide +kernel
theorem dL_law_2729 : decode cL_law 2729 = .ok (.invokevirtual 270, 3) := by decide +kernel
theorem dL_law_2732 : decode cL_law 2732 = .ok (.aload_n 2, 1) := by decide +kernel
theorem dL_law_2733 : decode cL_law 2733 = .ok (.invokevirtual 274, 3) := by decide +kernel
theorem dL_law_2736 : decode cL_law 2736 = .ok (.lcmp, 1) := by decide +kernel
theorem dL_law_2737 : decode cL_law 2737 = .ok (.ifCond .eq 149, 3) := by decide +kernel
theorem dL_law_2740 : decode cL_law 2740 = .ok (.iconst 0, 1) := by decide +kernel
theorem dL_law_2741 : decode cL_law 2741 = .ok (.ireturn, 1) := by decide +kernel
theorem dL_law_2742 : decode cL_law 2742 = .ok (.aload_n 1, 1) := by decide +kernel
theorem dL_law_2743 : decode cL_law 2743 = .ok (.aload 4, 2) := by decide +kernel
theorem dL_law_2745 : decode cL_law 2745 = .ok (.invokestatic 275, 3) := by decide +kernel
theorem dL_law_2748 : decode cL_law 2748 = .ok (.istore 6, 2) := by decide +kernel
theorem dL_law_2750 : decode cL_law 2750 = .ok (.aload_n 2, 1) := by decide +kernel
theorem dL_law_2751 : decode cL_law 2751 = .ok (.invokevirtual 278, 3) := by decide +kernel
theorem dL_law_2754 : decode cL_law 2754 = .ok (.fstore 7, 2) := by decide +kernel
theorem dL_law_2756 : decode cL_law 2756 = .ok (.aload_n 2, 1) := by decide +kernel
theorem dL_law_2757 : decode cL_law 2757 = .ok (.invokevirtual 154, 3) := by decide +kernel
theorem dL_law_2760 : decode cL_law 2760 = .ok (.iload 6, 2) := by decide +kernel
theorem dL_law_2762 : decode cL_law 2762 = .ok (.if_icmp .eq 5, 3) := by decide +kernel
theorem dL_law_2765 : decode cL_law 2765 = .ok (.iconst 0, 1) := by decide +kernel
theorem dL_law_2766 : decode cL_law 2766 = .ok (.ireturn, 1) := by decide +kernel
theorem dL_law_2767 : decode cL_law 2767 = .ok (.iload 6, 2) := by decide +kernel
theorem dL_law_2769 : decode cL_law 2769 = .ok (.ifCond .ne 36, 3) := by decide +kernel
theorem dL_law_2772 : decode cL_law 2772 = .ok (.aload 4, 2) := by decide +kernel
theorem dL_law_2774 : decode cL_law 2774 = .ok (.iconst 0, 1) := by decide +kernel
theorem dL_law_2775 : decode cL_law 2775 = .ok (.daload, 1) := by decide +kernel
theorem dL_law_2776 : decode cL_law 2776 = .ok (.fload 7, 2) := by decide +kernel
theorem dL_law_2778 : decode cL_law 2778 = .ok (.f2d, 1) := by decide +kernel
theorem dL_law_2779 : decode cL_law 2779 = .ok (.dcmp .l, 1) := by decide +kernel
theorem dL_law_2780 : decode cL_law 2780 = .ok (.ifCond .eq 25, 3) := by decide +kernel
theorem dL_law_2783 : decode cL_law 2783 = .ok (.aload 4, 2) := by decide +kernel
theorem dL_law_2785 : decode cL_law 2785 = .ok (.iconst 0, 1) := by decide +kernel
theorem dL_law_2786 : decode cL_law 2786 = .ok (.daload, 1) := by decide +kernel
theorem dL_law_2787 : decode cL_law 2787 = .ok (.aload 4, 2) := by decide +kernel
theorem dL_law_2789 : decode cL_law 2789 = .ok (.iconst 0, 1) := by decide +kernel
theorem dL_law_2790 : decode cL_law 2790 = .ok (.daload, 1) := by decide +kernel
theorem dL_law_2791 : decode cL_law 2791 = .ok (.dcmp .l, 1) := by decide +kernel
theorem dL_law_2792 : decode cL_law 2792 = .ok (.ifCond .eq 11, 3) := by decide +kernel
theorem dL_law_2795 : decode cL_law 2795 = .ok (.fload 7, 2) := by decide +kernel
theorem dL_law_2797 : decode cL_law 2797 = .ok (.fload 7, 2) := by decide +kernel
theorem dL_law_2799 : decode cL_law 2799 = .ok (.fcmp .l, 1) := by decide +kernel
theorem dL_law_2800 : decode cL_law 2800 = .ok (.ifCond .ne 5, 3) := by decide +kernel
theorem dL_law_2803 : decode cL_law 2803 = .ok (.iconst 0, 1) := by decide +kernel
theorem dL_law_2804 : decode cL_law 2804 = .ok (.ireturn, 1) := by decide +kernel
theorem dL_law_2805 : decode cL_law 2805 = .ok (.goto 81, 3) := by decide +kernel
theorem dL_law_2808 : decode cL_law 2808 = .ok (.aload_n 1, 1) := by decide +kernel
theorem dL_law_2809 : decode cL_law 2809 = .ok (.aload 4, 2) := by decide +kernel
theorem dL_law_2811 : decode cL_law 2811 = .ok (.invokestatic 279, 3) := by decide +kernel
theorem dL_law_2814 : decode cL_law 2814 = .ok (.istore 6, 2) := by decide +kernel
theorem dL_law_2816 : decode cL_law 2816 = .ok (.aload_n 2, 1) := by decide +kernel
theorem dL_law_2817 : decode cL_law 2817 = .ok (.invokevirtual 281, 3) := by decide +kernel
theorem dL_law_2820 : decode cL_law 2820 = .ok (.dstore 7, 2) := by decide +kernel
theorem dL_law_2822 : decode cL_law 2822 = .ok (.aload_n 2, 1) := by decide +kernel
theorem dL_law_2823 : decode cL_law 2823 = .ok (.invokevirtual 154, 3) := by decide +kernel
theorem dL_law_2826 : decode cL_law 2826 = .ok (.iload 6, 2) := by decide +kernel
theorem dL_law_2828 : decode cL_law 2828 = .ok (.if_icmp .eq 5, 3) := by decide +kernel
theorem dL_law_2831 : decode cL_law 2831 = .ok (.iconst 0, 1) := by decide +kernel
theorem dL_law_2832 : decode cL_law 2832 = .ok (.ireturn, 1) := by decide +kernel
theorem dL_law_2833 : decode cL_law 2833 = .ok (.iload 6, 2) := by decide +kernel
theorem dL_law_2835 : decode cL_law 2835 = .ok (.ifCond .ne 35, 3) := by decide +kernel
theorem dL_law_2838 : decode cL_law 2838 = .ok (.aload 4, 2) := by decide +kernel
theorem dL_law_2840 : decode cL_law 2840 = .ok (.iconst 0, 1) := by decide +kernel
theorem dL_law_2841 : decode cL_law 2841 = .ok (.daload, 1) := by decide +kernel
theorem dL_law_2842 : decode cL_law 2842 = .ok (.dload 7, 2) := by decide +kernel
theorem dL_law_2844 : decode cL_law 2844 = .ok (.dcmp .l, 1) := by decide +kernel
theorem dL_law_2845 : decode cL_law 2845 = .ok (.ifCond .eq 25, 3) := by decide +kernel
theorem dL_law_2848 : decode cL_law 2848 = .ok (.aload 4, 2) := by decide +kernel
theorem dL_law_2850 : decode cL_law 2850 = .ok (.iconst 0, 1) := by decide +kernel
theorem dL_law_2851 : decode cL_law 2851 = .ok (.daload, 1) := by decide +kernel
theorem dL_law_2852 : decode cL_law 2852 = .ok (.aload 4, 2) := by decide +kernel
theorem dL_law_2854 : decode cL_law 2854 = .ok (.iconst 0, 1) := by decide +kernel
theorem dL_law_2855 : decode cL_law 2855 = .ok (.daload, 1) := by decide +kernel
theorem dL_law_2856 : decode cL_law 2856 = .ok (.dcmp .l, 1) := by decide +kernel
theorem dL_law_2857 : decode cL_law 2857 = .ok (.ifCond .eq 11, 3) := by decide +kernel
theorem dL_law_2860 : decode cL_law 2860 = .ok (.dload 7, 2) := by decide +kernel
theorem dL_law_2862 : decode cL_law 2862 = .ok (.dload 7, 2) := by decide +kernel
theorem dL_law_2864 : decode cL_law 2864 = .ok (.dcmp .l, 1) := by decide +kernel
theorem dL_law_2865 : decode cL_law 2865 = .ok (.ifCond .ne 5, 3) := by decide +kernel
theorem dL_law_2868 : decode cL_law 2868 = .ok (.iconst 0, 1) := by decide +kernel
theorem dL_law_2869 : decode cL_law 2869 = .ok (.ireturn, 1) := by decide +kernel
theorem dL_law_2870 : decode cL_law 2870 = .ok (.goto 16, 3) := by decide +kernel
theorem dL_law_2873 : decode cL_law 2873 = .ok (.aload_n 1, 1) := by decide +kernel
theorem dL_law_2874 : decode cL_law 2874 = .ok (.invokevirtual 282, 3) := by decide +kernel
theorem dL_law_2877 : decode cL_law 2877 = .ok (.aload_n 2, 1) := by decide +kernel
theorem dL_law_2878 : decode cL_law 2878 = .ok (.invokevirtual 286, 3) := by decide +kernel
theorem dL_law_2881 : decode cL_law 2881 = .ok (.if_icmp .eq 5, 3) := by decide +kernel
theorem dL_law_2884 : decode cL_law 2884 = .ok (.iconst 0, 1) := by decide +kernel
theorem dL_law_2885 : decode cL_law 2885 = .ok (.ireturn, 1) := by decide +kernel
theorem dL_law_2886 : decode cL_law 2886 = .ok (.iinc 5 6, 3) := by decide +kernel
theorem dL_law_2889 : decode cL_law 2889 = .ok (.goto (-2861), 3) := by decide +kernel
theorem dL_law_2892 : decode cL_law 2892 = .ok (.iconst 1, 1) := by decide +kernel
theorem dL_law_2893 : decode cL_law 2893 = .ok (.ireturn, 1) := by decide +kernel
