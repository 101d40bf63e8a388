theorem dX0_init_0 : decode cX0_init 0 = .ok (.aload_n 0, 1) := by decide +kernel
theorem dX0_init_1 : decode cX0_init 1 = .ok (.invokespecial 3, 3) := by decide +kernel
theorem dX0_init_4 : decode cX0_init 4 = .ok (.aload_n 0, 1) := by decide +kernel
theorem dX0_init_5 : decode cX0_init 5 = .ok (.bipush 6, 2) := by decide +kernel
theorem dX0_init_7 : decode cX0_init 7 = .ok (.newarray .int, 2) := by decide +kernel
theorem dX0_init_9 : decode cX0_init 9 = .ok (.putfield 9, 3) := by decide +kernel
theorem dX0_init_12 : decode cX0_init 12 = .ok (.aload_n 0, 1) := by decide +kernel
theorem dX0_init_13 : decode cX0_init 13 = .ok (.bipush 6, 2) := by decide +kernel
theorem dX0_init_15 : decode cX0_init 15 = .ok (.newarray .int, 2) := by decide +kernel
theorem dX0_init_17 : decode cX0_init 17 = .ok (.putfield 15, 3) := by decide +kernel
theorem dX0_init_20 : decode cX0_init 20 = .ok (.aload_n 0, 1) := by decide +kernel
theorem dX0_init_21 : decode cX0_init 21 = .ok (.bipush 6, 2) := by decide +kernel
theorem dX0_init_23 : decode cX0_init 23 = .ok (.newarray .int, 2) := by decide +kernel
theorem dX0_init_25 : decode cX0_init 25 = .ok (.putfield 18, 3) := by decide +kernel
theorem dX0_init_28 : decode cX0_init 28 = .ok (.aload_n 0, 1) := by decide +kernel
theorem dX0_init_29 : decode cX0_init 29 = .ok (.bipush 64, 2) := by decide +kernel
theorem dX0_init_31 : decode cX0_init 31 = .ok (.newarray .int, 2) := by decide +kernel
theorem dX0_init_33 : decode cX0_init 33 = .ok (.putfield 21, 3) := by decide +kernel
theorem dX0_init_36 : decode cX0_init 36 = .ok (.return_, 1) := by decide +kernel
theorem dX0_clear_0 : decode cX0_clear 0 = .ok (.aload_n 0, 1) := by decide +kernel
theorem dX0_clear_1 : decode cX0_clear 1 = .ok (.iconst 0, 1) := by decide +kernel
theorem dX0_clear_2 : decode cX0_clear 2 = .ok (.putfield 24, 3) := by decide +kernel
theorem dX0_clear_5 : decode cX0_clear 5 = .ok (.return_, 1) := by decide +kernel
theorem dX0_include_0 : decode cX0_include 0 = .ok (.aload_n 0, 1) := by decide +kernel
theorem dX0_include_1 : decode cX0_include 1 = .ok (.getfield 24, 3) := by decide +kernel
theorem dX0_include_4 : decode cX0_include 4 = .ok (.bipush 6, 2) := by decide +kernel
theorem dX0_include_6 : decode cX0_include 6 = .ok (.if_icmp .ge 43, 3) := by decide +kernel
theorem dX0_include_9 : decode cX0_include 9 = .ok (.aload_n 0, 1) := by decide +kernel
theorem dX0_include_10 : decode cX0_include 10 = .ok (.getfield 9, 3) := by decide +kernel
theorem dX0_include_13 : decode cX0_include 13 = .ok (.aload_n 0, 1) := by decide +kernel
theorem dX0_include_14 : decode cX0_include 14 = .ok (.getfield 24, 3) := by decide +kernel
theorem dX0_include_17 : decode cX0_include 17 = .ok (.iload_n 1, 1) := by decide +kernel
theorem dX0_include_18 : decode cX0_include 18 = .ok (.iastore, 1) := by decide +kernel
theorem dX0_include_19 : decode cX0_include 19 = .ok (.aload_n 0, 1) := by decide +kernel
theorem dX0_include_20 : decode cX0_include 20 = .ok (.getfield 15, 3) := by decide +kernel
theorem dX0_include_23 : decode cX0_include 23 = .ok (.aload_n 0, 1) := by decide +kernel
theorem dX0_include_24 : decode cX0_include 24 = .ok (.getfield 24, 3) := by decide +kernel
theorem dX0_include_27 : decode cX0_include 27 = .ok (.iload_n 2, 1) := by decide +kernel
theorem dX0_include_28 : decode cX0_include 28 = .ok (.iastore, 1) := by decide +kernel
theorem dX0_include_29 : decode cX0_include 29 = .ok (.aload_n 0, 1) := by decide +kernel
theorem dX0_include_30 : decode cX0_include 30 = .ok (.getfield 18, 3) := by decide +kernel
theorem dX0_include_33 : decode cX0_include 33 = .ok (.aload_n 0, 1) := by decide +kernel
theorem dX0_include_34 : decode cX0_include 34 = .ok (.getfield 24, 3) := by decide +kernel
theorem dX0_include_37 : decode cX0_include 37 = .ok (.iload_n 3, 1) := by decide +kernel
theorem dX0_include_38 : decode cX0_include 38 = .ok (.iastore, 1) := by decide +kernel
theorem dX0_include_39 : decode cX0_include 39 = .ok (.aload_n 0, 1) := by decide +kernel
theorem dX0_include_40 : decode cX0_include 40 = .ok (.dup, 1) := by decide +kernel
theorem dX0_include_41 : decode cX0_include 41 = .ok (.getfield 24, 3) := by decide +kernel
theorem dX0_include_44 : decode cX0_include 44 = .ok (.iconst 1, 1) := by decide +kernel
theorem dX0_include_45 : decode cX0_include 45 = .ok (.iadd, 1) := by decide +kernel
theorem dX0_include_46 : decode cX0_include 46 = .ok (.putfield 24, 3) := by decide +kernel
theorem dX0_include_49 : decode cX0_include 49 = .ok (.return_, 1) := by decide +kernel
set_option maxRecDepth 20000 in
theorem ggX0_weigh_X7_hasBit : GoodIn wsX0_weigh wsX7_hasBit := goodIn_r _ [10] (by decide +kernel) (by decide +kernel)
set_option maxRecDepth 20000 in
theorem gX0_weigh_X7_hasBit_n29 : GoodIn wsX0_weigh (wsX7_hasBit) := ggX0_weigh_X7_hasBit
set_option maxRecDepth 20000 in
theorem ggX0_weigh_X0_waitingFrom : GoodIn wsX0_weigh wsX0_waitingFrom := goodIn_ca (goodIn_r _ [15, 1, 16, 17, 2, 8, 9, 10, 18, 19, 20, 21, 22, 23, 24, 25, 26, 27, 28, 29] (by decide +kernel) (by decide +kernel)) (goodIn_sub (fun _ h => List.mem_cons_of_mem _ (List.mem_append_right _ h)) (by decide +kernel))
set_option maxRecDepth 20000 in
theorem gX0_weigh_X0_waitingFrom : GoodIn wsX0_weigh (wsV RX0 33 RX0 yX0_waitingFrom wsX0_waitingFrom) := goodIn_app (goodIn_of _ (by decide +kernel)) ggX0_weigh_X0_waitingFrom
theorem dX0_weigh_0 : decode cX0_weigh 0 = .ok (.iconst 1, 1) := by decide +kernel
theorem dX0_weigh_1 : decode cX0_weigh 1 = .ok (.aload_n 0, 1) := by decide +kernel
theorem dX0_weigh_2 : decode cX0_weigh 2 = .ok (.getfield 24, 3) := by decide +kernel
theorem dX0_weigh_5 : decode cX0_weigh 5 = .ok (.ishl, 1) := by decide +kernel
theorem dX0_weigh_6 : decode cX0_weigh 6 = .ok (.iconst 1, 1) := by decide +kernel
theorem dX0_weigh_7 : decode cX0_weigh 7 = .ok (.isub, 1) := by decide +kernel
theorem dX0_weigh_8 : decode cX0_weigh 8 = .ok (.istore_n 1, 1) := by decide +kernel
theorem dX0_weigh_9 : decode cX0_weigh 9 = .ok (.aload_n 0, 1) := by decide +kernel
theorem dX0_weigh_10 : decode cX0_weigh 10 = .ok (.getfield 21, 3) := by decide +kernel
theorem dX0_weigh_13 : decode cX0_weigh 13 = .ok (.iload_n 1, 1) := by decide +kernel
theorem dX0_weigh_14 : decode cX0_weigh 14 = .ok (.iconst 0, 1) := by decide +kernel
theorem dX0_weigh_15 : decode cX0_weigh 15 = .ok (.iastore, 1) := by decide +kernel
theorem dX0_weigh_16 : decode cX0_weigh 16 = .ok (.iload_n 1, 1) := by decide +kernel
theorem dX0_weigh_17 : decode cX0_weigh 17 = .ok (.iconst 1, 1) := by decide +kernel
theorem dX0_weigh_18 : decode cX0_weigh 18 = .ok (.isub, 1) := by decide +kernel
theorem dX0_weigh_19 : decode cX0_weigh 19 = .ok (.istore_n 2, 1) := by decide +kernel
theorem dX0_weigh_20 : decode cX0_weigh 20 = .ok (.iload_n 2, 1) := by decide +kernel
theorem dX0_weigh_21 : decode cX0_weigh 21 = .ok (.ifCond .lt 62, 3) := by decide +kernel
theorem dX0_weigh_24 : decode cX0_weigh 24 = .ok (.aload_n 0, 1) := by decide +kernel
theorem dX0_weigh_25 : decode cX0_weigh 25 = .ok (.getfield 21, 3) := by decide +kernel
theorem dX0_weigh_28 : decode cX0_weigh 28 = .ok (.iload_n 2, 1) := by decide +kernel
theorem dX0_weigh_29 : decode cX0_weigh 29 = .ok (.ldc 28, 2) := by decide +kernel
theorem dX0_weigh_31 : decode cX0_weigh 31 = .ok (.iastore, 1) := by decide +kernel
theorem dX0_weigh_32 : decode cX0_weigh 32 = .ok (.iconst 0, 1) := by decide +kernel
theorem dX0_weigh_33 : decode cX0_weigh 33 = .ok (.istore_n 3, 1) := by decide +kernel
theorem dX0_weigh_34 : decode cX0_weigh 34 = .ok (.iload_n 3, 1) := by decide +kernel
theorem dX0_weigh_35 : decode cX0_weigh 35 = .ok (.aload_n 0, 1) := by decide +kernel
theorem dX0_weigh_36 : decode cX0_weigh 36 = .ok (.getfield 24, 3) := by decide +kernel
theorem dX0_weigh_39 : decode cX0_weigh 39 = .ok (.if_icmp .ge 38, 3) := by decide +kernel
theorem dX0_weigh_42 : decode cX0_weigh 42 = .ok (.iload_n 2, 1) := by decide +kernel
theorem dX0_weigh_43 : decode cX0_weigh 43 = .ok (.iload_n 3, 1) := by decide +kernel
theorem dX0_weigh_44 : decode cX0_weigh 44 = .ok (.invokestatic 29, 3) := by decide +kernel
theorem dX0_weigh_47 : decode cX0_weigh 47 = .ok (.ifCond .ne 24, 3) := by decide +kernel
theorem dX0_weigh_50 : decode cX0_weigh 50 = .ok (.aload_n 0, 1) := by decide +kernel
theorem dX0_weigh_51 : decode cX0_weigh 51 = .ok (.getfield 21, 3) := by decide +kernel
theorem dX0_weigh_54 : decode cX0_weigh 54 = .ok (.iload_n 2, 1) := by decide +kernel
theorem dX0_weigh_55 : decode cX0_weigh 55 = .ok (.aload_n 0, 1) := by decide +kernel
theorem dX0_weigh_56 : decode cX0_weigh 56 = .ok (.getfield 21, 3) := by decide +kernel
theorem dX0_weigh_59 : decode cX0_weigh 59 = .ok (.iload_n 2, 1) := by decide +kernel
theorem dX0_weigh_60 : decode cX0_weigh 60 = .ok (.iaload, 1) := by decide +kernel
theorem dX0_weigh_61 : decode cX0_weigh 61 = .ok (.aload_n 0, 1) := by decide +kernel
theorem dX0_weigh_62 : decode cX0_weigh 62 = .ok (.iload_n 2, 1) := by decide +kernel
theorem dX0_weigh_63 : decode cX0_weigh 63 = .ok (.iload_n 3, 1) := by decide +kernel
theorem dX0_weigh_64 : decode cX0_weigh 64 = .ok (.invokevirtual 33, 3) := by decide +kernel
theorem dX0_weigh_67 : decode cX0_weigh 67 = .ok (.invokestatic 37, 3) := by decide +kernel
theorem dX0_weigh_70 : decode cX0_weigh 70 = .ok (.iastore, 1) := by decide +kernel
theorem dX0_weigh_71 : decode cX0_weigh 71 = .ok (.iinc 3 1, 3) := by decide +kernel
theorem dX0_weigh_74 : decode cX0_weigh 74 = .ok (.goto (-40), 3) := by decide +kernel
theorem dX0_weigh_77 : decode cX0_weigh 77 = .ok (.iinc 2 (-1), 3) := by decide +kernel
theorem dX0_weigh_80 : decode cX0_weigh 80 = .ok (.goto (-60), 3) := by decide +kernel
theorem dX0_weigh_83 : decode cX0_weigh 83 = .ok (.return_, 1) := by decide +kernel
set_option maxRecDepth 20000 in
theorem ggX0_waitingFrom_X7_hasBit : GoodIn wsX0_waitingFrom wsX7_hasBit := goodIn_r _ [7] (by decide +kernel) (by decide +kernel)
set_option maxRecDepth 20000 in
theorem gX0_waitingFrom_X7_hasBit_n29 : GoodIn wsX0_waitingFrom (wsX7_hasBit) := ggX0_waitingFrom_X7_hasBit
set_option maxRecDepth 20000 in
theorem ggX0_waitingFrom_J6_bitCount_0f7a4 : GoodIn wsX0_waitingFrom wsJ6_bitCount_0f7a4 := goodIn_r _ [11, 12, 13, 14] (by decide +kernel) (by decide +kernel)
set_option maxRecDepth 20000 in
theorem gX0_waitingFrom_J6_bitCount_0f7a4 : GoodIn wsX0_waitingFrom (va_wsS RX0 42 yJ6_bitCount_0f7a4 wsJ6_bitCount_0f7a4) := goodIn_app (goodIn_of _ (by decide +kernel)) ggX0_waitingFrom_J6_bitCount_0f7a4
theorem dX0_waitingFrom_0 : decode cX0_waitingFrom 0 = .ok (.iconst 0, 1) := by decide +kernel
theorem dX0_waitingFrom_1 : decode cX0_waitingFrom 1 = .ok (.istore_n 3, 1) := by decide +kernel
theorem dX0_waitingFrom_2 : decode cX0_waitingFrom 2 = .ok (.iconst 0, 1) := by decide +kernel
theorem dX0_waitingFrom_3 : decode cX0_waitingFrom 3 = .ok (.istore 4, 2) := by decide +kernel
theorem dX0_waitingFrom_5 : decode cX0_waitingFrom 5 = .ok (.iconst 0, 1) := by decide +kernel
theorem dX0_waitingFrom_6 : decode cX0_waitingFrom 6 = .ok (.istore 5, 2) := by decide +kernel
theorem dX0_waitingFrom_8 : decode cX0_waitingFrom 8 = .ok (.iload 5, 2) := by decide +kernel
theorem dX0_waitingFrom_10 : decode cX0_waitingFrom 10 = .ok (.aload_n 0, 1) := by decide +kernel
theorem dX0_waitingFrom_11 : decode cX0_waitingFrom 11 = .ok (.getfield 24, 3) := by decide +kernel
theorem dX0_waitingFrom_14 : decode cX0_waitingFrom 14 = .ok (.if_icmp .ge 49, 3) := by decide +kernel
theorem dX0_waitingFrom_17 : decode cX0_waitingFrom 17 = .ok (.iload_n 1, 1) := by decide +kernel
theorem dX0_waitingFrom_18 : decode cX0_waitingFrom 18 = .ok (.iload 5, 2) := by decide +kernel
theorem dX0_waitingFrom_20 : decode cX0_waitingFrom 20 = .ok (.invokestatic 29, 3) := by decide +kernel
theorem dX0_waitingFrom_23 : decode cX0_waitingFrom 23 = .ok (.ifCond .eq 16, 3) := by decide +kernel
theorem dX0_waitingFrom_26 : decode cX0_waitingFrom 26 = .ok (.iload_n 3, 1) := by decide +kernel
theorem dX0_waitingFrom_27 : decode cX0_waitingFrom 27 = .ok (.aload_n 0, 1) := by decide +kernel
theorem dX0_waitingFrom_28 : decode cX0_waitingFrom 28 = .ok (.getfield 18, 3) := by decide +kernel
theorem dX0_waitingFrom_31 : decode cX0_waitingFrom 31 = .ok (.iload 5, 2) := by decide +kernel
theorem dX0_waitingFrom_33 : decode cX0_waitingFrom 33 = .ok (.iaload, 1) := by decide +kernel
theorem dX0_waitingFrom_34 : decode cX0_waitingFrom 34 = .ok (.ior, 1) := by decide +kernel
theorem dX0_waitingFrom_35 : decode cX0_waitingFrom 35 = .ok (.istore_n 3, 1) := by decide +kernel
theorem dX0_waitingFrom_36 : decode cX0_waitingFrom 36 = .ok (.goto 21, 3) := by decide +kernel
theorem dX0_waitingFrom_39 : decode cX0_waitingFrom 39 = .ok (.iload 5, 2) := by decide +kernel
theorem dX0_waitingFrom_41 : decode cX0_waitingFrom 41 = .ok (.iload_n 2, 1) := by decide +kernel
theorem dX0_waitingFrom_42 : decode cX0_waitingFrom 42 = .ok (.if_icmp .eq 15, 3) := by decide +kernel
theorem dX0_waitingFrom_45 : decode cX0_waitingFrom 45 = .ok (.iload 4, 2) := by decide +kernel
theorem dX0_waitingFrom_47 : decode cX0_waitingFrom 47 = .ok (.aload_n 0, 1) := by decide +kernel
theorem dX0_waitingFrom_48 : decode cX0_waitingFrom 48 = .ok (.getfield 18, 3) := by decide +kernel
theorem dX0_waitingFrom_51 : decode cX0_waitingFrom 51 = .ok (.iload 5, 2) := by decide +kernel
theorem dX0_waitingFrom_53 : decode cX0_waitingFrom 53 = .ok (.iaload, 1) := by decide +kernel
theorem dX0_waitingFrom_54 : decode cX0_waitingFrom 54 = .ok (.ior, 1) := by decide +kernel
theorem dX0_waitingFrom_55 : decode cX0_waitingFrom 55 = .ok (.istore 4, 2) := by decide +kernel
theorem dX0_waitingFrom_57 : decode cX0_waitingFrom 57 = .ok (.iinc 5 1, 3) := by decide +kernel
theorem dX0_waitingFrom_60 : decode cX0_waitingFrom 60 = .ok (.goto (-52), 3) := by decide +kernel
theorem dX0_waitingFrom_63 : decode cX0_waitingFrom 63 = .ok (.iload_n 3, 1) := by decide +kernel
theorem dX0_waitingFrom_64 : decode cX0_waitingFrom 64 = .ok (.iload 4, 2) := by decide +kernel
theorem dX0_waitingFrom_66 : decode cX0_waitingFrom 66 = .ok (.iand, 1) := by decide +kernel
theorem dX0_waitingFrom_67 : decode cX0_waitingFrom 67 = .ok (.aload_n 0, 1) := by decide +kernel
theorem dX0_waitingFrom_68 : decode cX0_waitingFrom 68 = .ok (.getfield 18, 3) := by decide +kernel
theorem dX0_waitingFrom_71 : decode cX0_waitingFrom 71 = .ok (.iload_n 2, 1) := by decide +kernel
theorem dX0_waitingFrom_72 : decode cX0_waitingFrom 72 = .ok (.iaload, 1) := by decide +kernel
theorem dX0_waitingFrom_73 : decode cX0_waitingFrom 73 = .ok (.iconst (-1), 1) := by decide +kernel
theorem dX0_waitingFrom_74 : decode cX0_waitingFrom 74 = .ok (.ixor, 1) := by decide +kernel
theorem dX0_waitingFrom_75 : decode cX0_waitingFrom 75 = .ok (.iand, 1) := by decide +kernel
theorem dX0_waitingFrom_76 : decode cX0_waitingFrom 76 = .ok (.istore 5, 2) := by decide +kernel
theorem dX0_waitingFrom_78 : decode cX0_waitingFrom 78 = .ok (.aload_n 0, 1) := by decide +kernel
theorem dX0_waitingFrom_79 : decode cX0_waitingFrom 79 = .ok (.getfield 15, 3) := by decide +kernel
theorem dX0_waitingFrom_82 : decode cX0_waitingFrom 82 = .ok (.iload_n 2, 1) := by decide +kernel
theorem dX0_waitingFrom_83 : decode cX0_waitingFrom 83 = .ok (.iaload, 1) := by decide +kernel
theorem dX0_waitingFrom_84 : decode cX0_waitingFrom 84 = .ok (.iload 5, 2) := by decide +kernel
theorem dX0_waitingFrom_86 : decode cX0_waitingFrom 86 = .ok (.invokestatic 42, 3) := by decide +kernel
theorem dX0_waitingFrom_89 : decode cX0_waitingFrom 89 = .ok (.imul, 1) := by decide +kernel
theorem dX0_waitingFrom_90 : decode cX0_waitingFrom 90 = .ok (.aload_n 0, 1) := by decide +kernel
theorem dX0_waitingFrom_91 : decode cX0_waitingFrom 91 = .ok (.getfield 21, 3) := by decide +kernel
theorem dX0_waitingFrom_94 : decode cX0_waitingFrom 94 = .ok (.iload_n 1, 1) := by decide +kernel
theorem dX0_waitingFrom_95 : decode cX0_waitingFrom 95 = .ok (.iconst 1, 1) := by decide +kernel
theorem dX0_waitingFrom_96 : decode cX0_waitingFrom 96 = .ok (.iload_n 2, 1) := by decide +kernel
theorem dX0_waitingFrom_97 : decode cX0_waitingFrom 97 = .ok (.ishl, 1) := by decide +kernel
theorem dX0_waitingFrom_98 : decode cX0_waitingFrom 98 = .ok (.ior, 1) := by decide +kernel
theorem dX0_waitingFrom_99 : decode cX0_waitingFrom 99 = .ok (.iaload, 1) := by decide +kernel
theorem dX0_waitingFrom_100 : decode cX0_waitingFrom 100 = .ok (.iadd, 1) := by decide +kernel
theorem dX0_waitingFrom_101 : decode cX0_waitingFrom 101 = .ok (.ireturn, 1) := by decide +kernel
set_option maxRecDepth 20000 in
theorem ggX0_workAt_X0_firstOfBest : GoodIn wsX0_workAt wsX0_firstOfBest := goodIn_ca (goodIn_r _ [6, 7, 8, 9, 10, 11, 12, 13, 14, 5, 15, 16, 17, 18, 19, 20, 21, 22, 23, 24, 25, 26, 27, 28, 29] (by decide +kernel) (by decide +kernel)) (goodIn_sub (fun _ h => List.mem_cons_of_mem _ (List.mem_append_right _ h)) (by decide +kernel))
set_option maxRecDepth 20000 in
theorem gX0_workAt_X0_firstOfBest : GoodIn wsX0_workAt (wsV RX0 48 RX0 yX0_firstOfBest wsX0_firstOfBest) := goodIn_app (goodIn_of _ (by decide +kernel)) ggX0_workAt_X0_firstOfBest
theorem dX0_workAt_0 : decode cX0_workAt 0 = .ok (.iconst 0, 1) := by decide +kernel
theorem dX0_workAt_1 : decode cX0_workAt 1 = .ok (.istore_n 2, 1) := by decide +kernel
theorem dX0_workAt_2 : decode cX0_workAt 2 = .ok (.aload_n 0, 1) := by decide +kernel
theorem dX0_workAt_3 : decode cX0_workAt 3 = .ok (.iload_n 2, 1) := by decide +kernel
theorem dX0_workAt_4 : decode cX0_workAt 4 = .ok (.invokevirtual 48, 3) := by decide +kernel
theorem dX0_workAt_7 : decode cX0_workAt 7 = .ok (.istore_n 3, 1) := by decide +kernel
theorem dX0_workAt_8 : decode cX0_workAt 8 = .ok (.iconst 0, 1) := by decide +kernel
theorem dX0_workAt_9 : decode cX0_workAt 9 = .ok (.istore 4, 2) := by decide +kernel
theorem dX0_workAt_11 : decode cX0_workAt 11 = .ok (.iload 4, 2) := by decide +kernel
theorem dX0_workAt_13 : decode cX0_workAt 13 = .ok (.iload_n 1, 1) := by decide +kernel
theorem dX0_workAt_14 : decode cX0_workAt 14 = .ok (.if_icmp .ge 21, 3) := by decide +kernel
theorem dX0_workAt_17 : decode cX0_workAt 17 = .ok (.iload_n 2, 1) := by decide +kernel
theorem dX0_workAt_18 : decode cX0_workAt 18 = .ok (.iconst 1, 1) := by decide +kernel
theorem dX0_workAt_19 : decode cX0_workAt 19 = .ok (.iload_n 3, 1) := by decide +kernel
theorem dX0_workAt_20 : decode cX0_workAt 20 = .ok (.ishl, 1) := by decide +kernel
theorem dX0_workAt_21 : decode cX0_workAt 21 = .ok (.ior, 1) := by decide +kernel
theorem dX0_workAt_22 : decode cX0_workAt 22 = .ok (.istore_n 2, 1) := by decide +kernel
theorem dX0_workAt_23 : decode cX0_workAt 23 = .ok (.aload_n 0, 1) := by decide +kernel
theorem dX0_workAt_24 : decode cX0_workAt 24 = .ok (.iload_n 2, 1) := by decide +kernel
theorem dX0_workAt_25 : decode cX0_workAt 25 = .ok (.invokevirtual 48, 3) := by decide +kernel
theorem dX0_workAt_28 : decode cX0_workAt 28 = .ok (.istore_n 3, 1) := by decide +kernel
theorem dX0_workAt_29 : decode cX0_workAt 29 = .ok (.iinc 4 1, 3) := by decide +kernel
theorem dX0_workAt_32 : decode cX0_workAt 32 = .ok (.goto (-21), 3) := by decide +kernel
theorem dX0_workAt_35 : decode cX0_workAt 35 = .ok (.aload_n 0, 1) := by decide +kernel
theorem dX0_workAt_36 : decode cX0_workAt 36 = .ok (.getfield 9, 3) := by decide +kernel
theorem dX0_workAt_39 : decode cX0_workAt 39 = .ok (.iload_n 3, 1) := by decide +kernel
theorem dX0_workAt_40 : decode cX0_workAt 40 = .ok (.iaload, 1) := by decide +kernel
theorem dX0_workAt_41 : decode cX0_workAt 41 = .ok (.ireturn, 1) := by decide +kernel
set_option maxRecDepth 20000 in
theorem ggX0_firstOfBest_X7_hasBit : GoodIn wsX0_firstOfBest wsX7_hasBit := goodIn_r _ [5] (by decide +kernel) (by decide +kernel)
set_option maxRecDepth 20000 in
theorem gX0_firstOfBest_X7_hasBit_n29 : GoodIn wsX0_firstOfBest (wsX7_hasBit) := ggX0_firstOfBest_X7_hasBit
set_option maxRecDepth 20000 in
theorem ggX0_firstOfBest_X0_waitingFrom : GoodIn wsX0_firstOfBest wsX0_waitingFrom := goodIn_ca (goodIn_r _ [10, 1, 11, 12, 2, 3, 4, 5, 13, 14, 15, 16, 17, 18, 19, 20, 21, 22, 23, 24] (by decide +kernel) (by decide +kernel)) (goodIn_sub (fun _ h => List.mem_cons_of_mem _ (List.mem_append_right _ h)) (by decide +kernel))
set_option maxRecDepth 20000 in
theorem gX0_firstOfBest_X0_waitingFrom : GoodIn wsX0_firstOfBest (wsV RX0 33 RX0 yX0_waitingFrom wsX0_waitingFrom) := goodIn_app (goodIn_of _ (by decide +kernel)) ggX0_firstOfBest_X0_waitingFrom
theorem dX0_firstOfBest_0 : decode cX0_firstOfBest 0 = .ok (.iconst 0, 1) := by decide +kernel
theorem dX0_firstOfBest_1 : decode cX0_firstOfBest 1 = .ok (.istore_n 2, 1) := by decide +kernel
theorem dX0_firstOfBest_2 : decode cX0_firstOfBest 2 = .ok (.iload_n 2, 1) := by decide +kernel
theorem dX0_firstOfBest_3 : decode cX0_firstOfBest 3 = .ok (.aload_n 0, 1) := by decide +kernel
theorem dX0_firstOfBest_4 : decode cX0_firstOfBest 4 = .ok (.getfield 24, 3) := by decide +kernel
theorem dX0_firstOfBest_7 : decode cX0_firstOfBest 7 = .ok (.iconst 1, 1) := by decide +kernel
theorem dX0_firstOfBest_8 : decode cX0_firstOfBest 8 = .ok (.isub, 1) := by decide +kernel
theorem dX0_firstOfBest_9 : decode cX0_firstOfBest 9 = .ok (.if_icmp .ge 32, 3) := by decide +kernel
theorem dX0_firstOfBest_12 : decode cX0_firstOfBest 12 = .ok (.iload_n 1, 1) := by decide +kernel
theorem dX0_firstOfBest_13 : decode cX0_firstOfBest 13 = .ok (.iload_n 2, 1) := by decide +kernel
theorem dX0_firstOfBest_14 : decode cX0_firstOfBest 14 = .ok (.invokestatic 29, 3) := by decide +kernel
theorem dX0_firstOfBest_17 : decode cX0_firstOfBest 17 = .ok (.ifCond .ne 18, 3) := by decide +kernel
theorem dX0_firstOfBest_20 : decode cX0_firstOfBest 20 = .ok (.aload_n 0, 1) := by decide +kernel
theorem dX0_firstOfBest_21 : decode cX0_firstOfBest 21 = .ok (.iload_n 1, 1) := by decide +kernel
theorem dX0_firstOfBest_22 : decode cX0_firstOfBest 22 = .ok (.iload_n 2, 1) := by decide +kernel
theorem dX0_firstOfBest_23 : decode cX0_firstOfBest 23 = .ok (.invokevirtual 33, 3) := by decide +kernel
theorem dX0_firstOfBest_26 : decode cX0_firstOfBest 26 = .ok (.aload_n 0, 1) := by decide +kernel
theorem dX0_firstOfBest_27 : decode cX0_firstOfBest 27 = .ok (.getfield 21, 3) := by decide +kernel
theorem dX0_firstOfBest_30 : decode cX0_firstOfBest 30 = .ok (.iload_n 1, 1) := by decide +kernel
theorem dX0_firstOfBest_31 : decode cX0_firstOfBest 31 = .ok (.iaload, 1) := by decide +kernel
theorem dX0_firstOfBest_32 : decode cX0_firstOfBest 32 = .ok (.if_icmp .eq 9, 3) := by decide +kernel
theorem dX0_firstOfBest_35 : decode cX0_firstOfBest 35 = .ok (.iinc 2 1, 3) := by decide +kernel
theorem dX0_firstOfBest_38 : decode cX0_firstOfBest 38 = .ok (.goto (-36), 3) := by decide +kernel
theorem dX0_firstOfBest_41 : decode cX0_firstOfBest 41 = .ok (.iload_n 2, 1) := by decide +kernel
theorem dX0_firstOfBest_42 : decode cX0_firstOfBest 42 = .ok (.ireturn, 1) := by decide +kernel
theorem dX1_init_0 : decode cX1_init 0 = .ok (.aload_n 0, 1) := by decide +kernel
theorem dX1_init_1 : decode cX1_init 1 = .ok (.invokespecial 5, 3) := by decide +kernel
theorem dX1_init_4 : decode cX1_init 4 = .ok (.aload_n 0, 1) := by decide +kernel
theorem dX1_init_5 : decode cX1_init 5 = .ok (.bipush 14, 2) := by decide +kernel
theorem dX1_init_7 : decode cX1_init 7 = .ok (.newarray .int, 2) := by decide +kernel
theorem dX1_init_9 : decode cX1_init 9 = .ok (.putfield 11, 3) := by decide +kernel
theorem dX1_init_12 : decode cX1_init 12 = .ok (.aload_n 0, 1) := by decide +kernel
theorem dX1_init_13 : decode cX1_init 13 = .ok (.bipush 6, 2) := by decide +kernel
theorem dX1_init_15 : decode cX1_init 15 = .ok (.newarray .long, 2) := by decide +kernel
theorem dX1_init_17 : decode cX1_init 17 = .ok (.putfield 15, 3) := by decide +kernel
theorem dX1_init_20 : decode cX1_init 20 = .ok (.aload_n 0, 1) := by decide +kernel
theorem dX1_init_21 : decode cX1_init 21 = .ok (.bipush 6, 2) := by decide +kernel
theorem dX1_init_23 : decode cX1_init 23 = .ok (.newarray .int, 2) := by decide +kernel
theorem dX1_init_25 : decode cX1_init 25 = .ok (.putfield 19, 3) := by decide +kernel
theorem dX1_init_28 : decode cX1_init 28 = .ok (.aload_n 0, 1) := by decide +kernel
theorem dX1_init_29 : decode cX1_init 29 = .ok (.bipush 6, 2) := by decide +kernel
theorem dX1_init_31 : decode cX1_init 31 = .ok (.newarray .int, 2) := by decide +kernel
theorem dX1_init_33 : decode cX1_init 33 = .ok (.putfield 22, 3) := by decide +kernel
theorem dX1_init_36 : decode cX1_init 36 = .ok (.aload_n 0, 1) := by decide +kernel
theorem dX1_init_37 : decode cX1_init 37 = .ok (.sipush 324, 3) := by decide +kernel
theorem dX1_init_40 : decode cX1_init 40 = .ok (.newarray .int, 2) := by decide +kernel
theorem dX1_init_42 : decode cX1_init 42 = .ok (.putfield 25, 3) := by decide +kernel
theorem dX1_init_45 : decode cX1_init 45 = .ok (.aload_n 0, 1) := by decide +kernel
theorem dX1_init_46 : decode cX1_init 46 = .ok (.sipush 324, 3) := by decide +kernel
theorem dX1_init_49 : decode cX1_init 49 = .ok (.newarray .long, 2) := by decide +kernel
theorem dX1_init_51 : decode cX1_init 51 = .ok (.putfield 28, 3) := by decide +kernel
theorem dX1_init_54 : decode cX1_init 54 = .ok (.return_, 1) := by decide +kernel
theorem dX1_shiftOf_0 : decode cX1_shiftOf 0 = .ok (.iconst 4, 1) := by decide +kernel
theorem dX1_shiftOf_1 : decode cX1_shiftOf 1 = .ok (.bipush 9, 2) := by decide +kernel
theorem dX1_shiftOf_3 : decode cX1_shiftOf 3 = .ok (.iload_n 0, 1) := by decide +kernel
theorem dX1_shiftOf_4 : decode cX1_shiftOf 4 = .ok (.isub, 1) := by decide +kernel
theorem dX1_shiftOf_5 : decode cX1_shiftOf 5 = .ok (.imul, 1) := by decide +kernel
theorem dX1_shiftOf_6 : decode cX1_shiftOf 6 = .ok (.ireturn, 1) := by decide +kernel
set_option maxRecDepth 20000 in
theorem ggX1_playerOf_X1_shiftOf : GoodIn wsX1_playerOf wsX1_shiftOf := goodIn_r _ [4] (by decide +kernel) (by decide +kernel)
set_option maxRecDepth 20000 in
theorem gX1_playerOf_X1_shiftOf : GoodIn wsX1_playerOf (va_wsS RX1 31 yX1_shiftOf wsX1_shiftOf) := goodIn_app (goodIn_of _ (by decide +kernel)) ggX1_playerOf_X1_shiftOf
theorem dX1_playerOf_0 : decode cX1_playerOf 0 = .ok (.lload_n 0, 1) := by decide +kernel
theorem dX1_playerOf_1 : decode cX1_playerOf 1 = .ok (.iload_n 2, 1) := by decide +kernel
theorem dX1_playerOf_2 : decode cX1_playerOf 2 = .ok (.invokestatic 31, 3) := by decide +kernel
theorem dX1_playerOf_5 : decode cX1_playerOf 5 = .ok (.lshr, 1) := by decide +kernel
theorem dX1_playerOf_6 : decode cX1_playerOf 6 = .ok (.l2i, 1) := by decide +kernel
theorem dX1_playerOf_7 : decode cX1_playerOf 7 = .ok (.bipush 15, 2) := by decide +kernel
theorem dX1_playerOf_9 : decode cX1_playerOf 9 = .ok (.iand, 1) := by decide +kernel
theorem dX1_playerOf_10 : decode cX1_playerOf 10 = .ok (.ireturn, 1) := by decide +kernel
set_option maxRecDepth 20000 in
theorem ggX1_playersOf_X1_playerOf : GoodIn wsX1_playersOf wsX1_playerOf := goodIn_r _ [4, 5, 6, 3, 7] (by decide +kernel) (by decide +kernel)
set_option maxRecDepth 20000 in
theorem gX1_playersOf_X1_playerOf : GoodIn wsX1_playersOf (va_wsS RX1 35 yX1_playerOf wsX1_playerOf) := goodIn_app (goodIn_of _ (by decide +kernel)) ggX1_playersOf_X1_playerOf
theorem dX1_playersOf_0 : decode cX1_playersOf 0 = .ok (.iconst 0, 1) := by decide +kernel
theorem dX1_playersOf_1 : decode cX1_playersOf 1 = .ok (.istore_n 3, 1) := by decide +kernel
theorem dX1_playersOf_2 : decode cX1_playersOf 2 = .ok (.iconst 0, 1) := by decide +kernel
theorem dX1_playersOf_3 : decode cX1_playersOf 3 = .ok (.istore 4, 2) := by decide +kernel
theorem dX1_playersOf_5 : decode cX1_playersOf 5 = .ok (.iload 4, 2) := by decide +kernel
theorem dX1_playersOf_7 : decode cX1_playersOf 7 = .ok (.iload_n 2, 1) := by decide +kernel
theorem dX1_playersOf_8 : decode cX1_playersOf 8 = .ok (.if_icmp .ge 20, 3) := by decide +kernel
theorem dX1_playersOf_11 : decode cX1_playersOf 11 = .ok (.iload_n 3, 1) := by decide +kernel
theorem dX1_playersOf_12 : decode cX1_playersOf 12 = .ok (.iconst 1, 1) := by decide +kernel
theorem dX1_playersOf_13 : decode cX1_playersOf 13 = .ok (.lload_n 0, 1) := by decide +kernel
theorem dX1_playersOf_14 : decode cX1_playersOf 14 = .ok (.iload 4, 2) := by decide +kernel
theorem dX1_playersOf_16 : decode cX1_playersOf 16 = .ok (.invokestatic 35, 3) := by decide +kernel
theorem dX1_playersOf_19 : decode cX1_playersOf 19 = .ok (.ishl, 1) := by decide +kernel
theorem dX1_playersOf_20 : decode cX1_playersOf 20 = .ok (.ior, 1) := by decide +kernel
theorem dX1_playersOf_21 : decode cX1_playersOf 21 = .ok (.istore_n 3, 1) := by decide +kernel
theorem dX1_playersOf_22 : decode cX1_playersOf 22 = .ok (.iinc 4 1, 3) := by decide +kernel
theorem dX1_playersOf_25 : decode cX1_playersOf 25 = .ok (.goto (-20), 3) := by decide +kernel
theorem dX1_playersOf_28 : decode cX1_playersOf 28 = .ok (.iload_n 3, 1) := by decide +kernel
theorem dX1_playersOf_29 : decode cX1_playersOf 29 = .ok (.ireturn, 1) := by decide +kernel
set_option maxRecDepth 20000 in
theorem ggX1_find_X1_layOutStates : GoodIn wsX1_find wsX1_layOutStates := goodIn_ca (goodIn_r _ [9, 2, 10, 11, 12, 1, 3, 13, 14, 15, 8, 16, 54, 55, 56, 57, 58, 59, 60, 61, 62, 63, 64, 65, 66, 67, 68, 69] (by decide +kernel) (by decide +kernel)) (goodIn_sub (fun _ h => List.mem_cons_of_mem _ (List.mem_append_right _ h)) (by decide +kernel))
set_option maxRecDepth 20000 in
theorem gX1_find_X1_layOutStates : GoodIn wsX1_find (wsV RX1 39 RX1 yX1_layOutStates wsX1_layOutStates) := goodIn_app (goodIn_of _ (by decide +kernel)) ggX1_find_X1_layOutStates
set_option maxRecDepth 20000 in
theorem ggX1_find_X7_hasBit : GoodIn wsX1_find wsX7_hasBit := goodIn_r _ [19] (by decide +kernel) (by decide +kernel)
set_option maxRecDepth 20000 in
theorem gX1_find_X7_hasBit_n43 : GoodIn wsX1_find (wsX7_hasBit) := ggX1_find_X7_hasBit
set_option maxRecDepth 20000 in
theorem ggX1_find_X1_offer : GoodIn wsX1_find wsX1_offer := goodIn_ca (goodIn_r _ [23, 2, 10, 24, 3, 12, 11, 25, 26, 27, 8, 28, 29, 30, 31, 32, 33, 34, 35, 17, 18, 19, 36, 37, 38, 39, 40, 41, 42, 1, 43, 44, 45, 46, 54, 55, 56, 57, 58, 59, 60, 47, 48, 49, 50, 51, 52, 53] (by decide +kernel) (by decide +kernel)) (goodIn_sub (fun _ h => List.mem_cons_of_mem _ (List.mem_append_right _ h)) (by decide +kernel))
set_option maxRecDepth 20000 in
theorem gX1_find_X1_offer : GoodIn wsX1_find (wsV RX1 53 RX1 yX1_offer wsX1_offer) := goodIn_app (goodIn_of _ (by decide +kernel)) ggX1_find_X1_offer
theorem dX1_find_0 : decode cX1_find 0 = .ok (.aload_n 0, 1) := by decide +kernel
theorem dX1_find_1 : decode cX1_find 1 = .ok (.aload_n 1, 1) := by decide +kernel
theorem dX1_find_2 : decode cX1_find 2 = .ok (.invokevirtual 39, 3) := by decide +kernel
theorem dX1_find_5 : decode cX1_find 5 = .ok (.iconst 0, 1) := by decide +kernel
theorem dX1_find_6 : decode cX1_find 6 = .ok (.istore 5, 2) := by decide +kernel
theorem dX1_find_8 : decode cX1_find 8 = .ok (.iload 5, 2) := by decide +kernel
theorem dX1_find_10 : decode cX1_find 10 = .ok (.aload_n 2, 1) := by decide +kernel
theorem dX1_find_11 : decode cX1_find 11 = .ok (.arraylength, 1) := by decide +kernel
theorem dX1_find_12 : decode cX1_find 12 = .ok (.if_icmp .ge 49, 3) := by decide +kernel
theorem dX1_find_15 : decode cX1_find 15 = .ok (.iload_n 3, 1) := by decide +kernel
theorem dX1_find_16 : decode cX1_find 16 = .ok (.iload 5, 2) := by decide +kernel
theorem dX1_find_18 : decode cX1_find 18 = .ok (.invokestatic 43, 3) := by decide +kernel
theorem dX1_find_21 : decode cX1_find 21 = .ok (.ifCond .eq 34, 3) := by decide +kernel
theorem dX1_find_24 : decode cX1_find 24 = .ok (.aload_n 0, 1) := by decide +kernel
theorem dX1_find_25 : decode cX1_find 25 = .ok (.aload_n 2, 1) := by decide +kernel
theorem dX1_find_26 : decode cX1_find 26 = .ok (.iload 5, 2) := by decide +kernel
theorem dX1_find_28 : decode cX1_find 28 = .ok (.aaload, 1) := by decide +kernel
theorem dX1_find_29 : decode cX1_find 29 = .ok (.iload 5, 2) := by decide +kernel
theorem dX1_find_31 : decode cX1_find 31 = .ok (.iload 4, 2) := by decide +kernel
theorem dX1_find_33 : decode cX1_find 33 = .ok (.iload 5, 2) := by decide +kernel
theorem dX1_find_35 : decode cX1_find 35 = .ok (.invokestatic 43, 3) := by decide +kernel
theorem dX1_find_38 : decode cX1_find 38 = .ok (.ifCond .eq 7, 3) := by decide +kernel
theorem dX1_find_41 : decode cX1_find 41 = .ok (.iconst 0, 1) := by decide +kernel
theorem dX1_find_42 : decode cX1_find 42 = .ok (.goto 10, 3) := by decide +kernel
theorem dX1_find_45 : decode cX1_find 45 = .ok (.aload_n 2, 1) := by decide +kernel
theorem dX1_find_46 : decode cX1_find 46 = .ok (.iload 5, 2) := by decide +kernel
theorem dX1_find_48 : decode cX1_find 48 = .ok (.aaload, 1) := by decide +kernel
theorem dX1_find_49 : decode cX1_find 49 = .ok (.getfield 47, 3) := by decide +kernel
theorem dX1_find_52 : decode cX1_find 52 = .ok (.invokevirtual 53, 3) := by decide +kernel
theorem dX1_find_55 : decode cX1_find 55 = .ok (.iinc 5 1, 3) := by decide +kernel
theorem dX1_find_58 : decode cX1_find 58 = .ok (.goto (-50), 3) := by decide +kernel
theorem dX1_find_61 : decode cX1_find 61 = .ok (.aload_n 0, 1) := by decide +kernel
theorem dX1_find_62 : decode cX1_find 62 = .ok (.getfield 28, 3) := by decide +kernel
theorem dX1_find_65 : decode cX1_find 65 = .ok (.aload_n 0, 1) := by decide +kernel
theorem dX1_find_66 : decode cX1_find 66 = .ok (.getfield 57, 3) := by decide +kernel
theorem dX1_find_69 : decode cX1_find 69 = .ok (.iconst 1, 1) := by decide +kernel
theorem dX1_find_70 : decode cX1_find 70 = .ok (.isub, 1) := by decide +kernel
theorem dX1_find_71 : decode cX1_find 71 = .ok (.laload, 1) := by decide +kernel
theorem dX1_find_72 : decode cX1_find 72 = .ok (.lstore 5, 2) := by decide +kernel
theorem dX1_find_74 : decode cX1_find 74 = .ok (.lload 5, 2) := by decide +kernel
theorem dX1_find_76 : decode cX1_find 76 = .ok (.ldc2_w 60, 3) := by decide +kernel
theorem dX1_find_79 : decode cX1_find 79 = .ok (.lcmp, 1) := by decide +kernel
theorem dX1_find_80 : decode cX1_find 80 = .ok (.ifCond .ne 9, 3) := by decide +kernel
theorem dX1_find_83 : decode cX1_find 83 = .ok (.ldc2_w 60, 3) := by decide +kernel
theorem dX1_find_86 : decode cX1_find 86 = .ok (.goto 9, 3) := by decide +kernel
theorem dX1_find_89 : decode cX1_find 89 = .ok (.lload 5, 2) := by decide +kernel
theorem dX1_find_91 : decode cX1_find 91 = .ok (.ldc2_w 62, 3) := by decide +kernel
theorem dX1_find_94 : decode cX1_find 94 = .ok (.land, 1) := by decide +kernel
theorem dX1_find_95 : decode cX1_find 95 = .ok (.lreturn, 1) := by decide +kernel
set_option maxRecDepth 20000 in
theorem ggX1_layOutStates_X1_repeatStates : GoodIn wsX1_layOutStates wsX1_repeatStates := goodIn_ca (goodIn_r _ [11, 1, 2, 12, 13, 14, 15, 16, 17, 18] (by decide +kernel) (by decide +kernel)) (goodIn_sub (fun _ h => List.mem_cons_of_mem _ (List.mem_append_right _ h)) (by decide +kernel))
set_option maxRecDepth 20000 in
theorem gX1_layOutStates_X1_repeatStates : GoodIn wsX1_layOutStates (wsV RX1 69 RX1 yX1_repeatStates wsX1_repeatStates) := goodIn_app (goodIn_of _ (by decide +kernel)) ggX1_layOutStates_X1_repeatStates
theorem dX1_layOutStates_0 : decode cX1_layOutStates 0 = .ok (.aload_n 0, 1) := by decide +kernel
theorem dX1_layOutStates_1 : decode cX1_layOutStates 1 = .ok (.iconst 1, 1) := by decide +kernel
theorem dX1_layOutStates_2 : decode cX1_layOutStates 2 = .ok (.putfield 57, 3) := by decide +kernel
theorem dX1_layOutStates_5 : decode cX1_layOutStates 5 = .ok (.aload_n 0, 1) := by decide +kernel
theorem dX1_layOutStates_6 : decode cX1_layOutStates 6 = .ok (.getfield 25, 3) := by decide +kernel
theorem dX1_layOutStates_9 : decode cX1_layOutStates 9 = .ok (.iconst 0, 1) := by decide +kernel
theorem dX1_layOutStates_10 : decode cX1_layOutStates 10 = .ok (.iconst 0, 1) := by decide +kernel
theorem dX1_layOutStates_11 : decode cX1_layOutStates 11 = .ok (.iastore, 1) := by decide +kernel
theorem dX1_layOutStates_12 : decode cX1_layOutStates 12 = .ok (.iconst 0, 1) := by decide +kernel
theorem dX1_layOutStates_13 : decode cX1_layOutStates 13 = .ok (.istore_n 2, 1) := by decide +kernel
theorem dX1_layOutStates_14 : decode cX1_layOutStates 14 = .ok (.iconst 0, 1) := by decide +kernel
theorem dX1_layOutStates_15 : decode cX1_layOutStates 15 = .ok (.istore_n 3, 1) := by decide +kernel
theorem dX1_layOutStates_16 : decode cX1_layOutStates 16 = .ok (.iload_n 3, 1) := by decide +kernel
theorem dX1_layOutStates_17 : decode cX1_layOutStates 17 = .ok (.bipush 6, 2) := by decide +kernel
theorem dX1_layOutStates_19 : decode cX1_layOutStates 19 = .ok (.if_icmp .ge 46, 3) := by decide +kernel
theorem dX1_layOutStates_22 : decode cX1_layOutStates 22 = .ok (.aload_n 0, 1) := by decide +kernel
theorem dX1_layOutStates_23 : decode cX1_layOutStates 23 = .ok (.getfield 19, 3) := by decide +kernel
theorem dX1_layOutStates_26 : decode cX1_layOutStates 26 = .ok (.iload_n 3, 1) := by decide +kernel
theorem dX1_layOutStates_27 : decode cX1_layOutStates 27 = .ok (.aload_n 0, 1) := by decide +kernel
theorem dX1_layOutStates_28 : decode cX1_layOutStates 28 = .ok (.getfield 57, 3) := by decide +kernel
theorem dX1_layOutStates_31 : decode cX1_layOutStates 31 = .ok (.iastore, 1) := by decide +kernel
theorem dX1_layOutStates_32 : decode cX1_layOutStates 32 = .ok (.aload_n 0, 1) := by decide +kernel
theorem dX1_layOutStates_33 : decode cX1_layOutStates 33 = .ok (.getfield 22, 3) := by decide +kernel
theorem dX1_layOutStates_36 : decode cX1_layOutStates 36 = .ok (.iload_n 3, 1) := by decide +kernel
theorem dX1_layOutStates_37 : decode cX1_layOutStates 37 = .ok (.iload_n 2, 1) := by decide +kernel
theorem dX1_layOutStates_38 : decode cX1_layOutStates 38 = .ok (.iastore, 1) := by decide +kernel
theorem dX1_layOutStates_39 : decode cX1_layOutStates 39 = .ok (.iload_n 2, 1) := by decide +kernel
theorem dX1_layOutStates_40 : decode cX1_layOutStates 40 = .ok (.aload_n 1, 1) := by decide +kernel
theorem dX1_layOutStates_41 : decode cX1_layOutStates 41 = .ok (.getfield 64, 3) := by decide +kernel
theorem dX1_layOutStates_44 : decode cX1_layOutStates 44 = .ok (.iload_n 3, 1) := by decide +kernel
theorem dX1_layOutStates_45 : decode cX1_layOutStates 45 = .ok (.iaload, 1) := by decide +kernel
theorem dX1_layOutStates_46 : decode cX1_layOutStates 46 = .ok (.iadd, 1) := by decide +kernel
theorem dX1_layOutStates_47 : decode cX1_layOutStates 47 = .ok (.istore_n 2, 1) := by decide +kernel
theorem dX1_layOutStates_48 : decode cX1_layOutStates 48 = .ok (.aload_n 0, 1) := by decide +kernel
theorem dX1_layOutStates_49 : decode cX1_layOutStates 49 = .ok (.iload_n 3, 1) := by decide +kernel
theorem dX1_layOutStates_50 : decode cX1_layOutStates 50 = .ok (.aload_n 1, 1) := by decide +kernel
theorem dX1_layOutStates_51 : decode cX1_layOutStates 51 = .ok (.getfield 64, 3) := by decide +kernel
theorem dX1_layOutStates_54 : decode cX1_layOutStates 54 = .ok (.iload_n 3, 1) := by decide +kernel
theorem dX1_layOutStates_55 : decode cX1_layOutStates 55 = .ok (.iaload, 1) := by decide +kernel
theorem dX1_layOutStates_56 : decode cX1_layOutStates 56 = .ok (.invokevirtual 69, 3) := by decide +kernel
theorem dX1_layOutStates_59 : decode cX1_layOutStates 59 = .ok (.iinc 3 1, 3) := by decide +kernel
theorem dX1_layOutStates_62 : decode cX1_layOutStates 62 = .ok (.goto (-46), 3) := by decide +kernel
theorem dX1_layOutStates_65 : decode cX1_layOutStates 65 = .ok (.aload_n 0, 1) := by decide +kernel
theorem dX1_layOutStates_66 : decode cX1_layOutStates 66 = .ok (.getfield 28, 3) := by decide +kernel
theorem dX1_layOutStates_69 : decode cX1_layOutStates 69 = .ok (.iconst 0, 1) := by decide +kernel
theorem dX1_layOutStates_70 : decode cX1_layOutStates 70 = .ok (.lconst 0, 1) := by decide +kernel
theorem dX1_layOutStates_71 : decode cX1_layOutStates 71 = .ok (.lastore, 1) := by decide +kernel
theorem dX1_layOutStates_72 : decode cX1_layOutStates 72 = .ok (.iconst 1, 1) := by decide +kernel
theorem dX1_layOutStates_73 : decode cX1_layOutStates 73 = .ok (.istore_n 3, 1) := by decide +kernel
theorem dX1_layOutStates_74 : decode cX1_layOutStates 74 = .ok (.iload_n 3, 1) := by decide +kernel
theorem dX1_layOutStates_75 : decode cX1_layOutStates 75 = .ok (.aload_n 0, 1) := by decide +kernel
theorem dX1_layOutStates_76 : decode cX1_layOutStates 76 = .ok (.getfield 57, 3) := by decide +kernel
theorem dX1_layOutStates_79 : decode cX1_layOutStates 79 = .ok (.if_icmp .ge 18, 3) := by decide +kernel
theorem dX1_layOutStates_82 : decode cX1_layOutStates 82 = .ok (.aload_n 0, 1) := by decide +kernel
theorem dX1_layOutStates_83 : decode cX1_layOutStates 83 = .ok (.getfield 28, 3) := by decide +kernel
theorem dX1_layOutStates_86 : decode cX1_layOutStates 86 = .ok (.iload_n 3, 1) := by decide +kernel
theorem dX1_layOutStates_87 : decode cX1_layOutStates 87 = .ok (.ldc2_w 60, 3) := by decide +kernel
theorem dX1_layOutStates_90 : decode cX1_layOutStates 90 = .ok (.lastore, 1) := by decide +kernel
theorem dX1_layOutStates_91 : decode cX1_layOutStates 91 = .ok (.iinc 3 1, 3) := by decide +kernel
theorem dX1_layOutStates_94 : decode cX1_layOutStates 94 = .ok (.goto (-20), 3) := by decide +kernel
theorem dX1_layOutStates_97 : decode cX1_layOutStates 97 = .ok (.return_, 1) := by decide +kernel
theorem dX1_repeatStates_0 : decode cX1_repeatStates 0 = .ok (.aload_n 0, 1) := by decide +kernel
theorem dX1_repeatStates_1 : decode cX1_repeatStates 1 = .ok (.getfield 57, 3) := by decide +kernel
theorem dX1_repeatStates_4 : decode cX1_repeatStates 4 = .ok (.istore_n 3, 1) := by decide +kernel
theorem dX1_repeatStates_5 : decode cX1_repeatStates 5 = .ok (.iconst 1, 1) := by decide +kernel
theorem dX1_repeatStates_6 : decode cX1_repeatStates 6 = .ok (.istore 4, 2) := by decide +kernel
theorem dX1_repeatStates_8 : decode cX1_repeatStates 8 = .ok (.iload 4, 2) := by decide +kernel
theorem dX1_repeatStates_10 : decode cX1_repeatStates 10 = .ok (.iload_n 2, 1) := by decide +kernel
theorem dX1_repeatStates_11 : decode cX1_repeatStates 11 = .ok (.if_icmp .gt 67, 3) := by decide +kernel
theorem dX1_repeatStates_14 : decode cX1_repeatStates 14 = .ok (.iconst 0, 1) := by decide +kernel
theorem dX1_repeatStates_15 : decode cX1_repeatStates 15 = .ok (.istore 5, 2) := by decide +kernel
theorem dX1_repeatStates_17 : decode cX1_repeatStates 17 = .ok (.iload 5, 2) := by decide +kernel
theorem dX1_repeatStates_19 : decode cX1_repeatStates 19 = .ok (.iload_n 3, 1) := by decide +kernel
theorem dX1_repeatStates_20 : decode cX1_repeatStates 20 = .ok (.if_icmp .ge 52, 3) := by decide +kernel
theorem dX1_repeatStates_23 : decode cX1_repeatStates 23 = .ok (.aload_n 0, 1) := by decide +kernel
theorem dX1_repeatStates_24 : decode cX1_repeatStates 24 = .ok (.getfield 57, 3) := by decide +kernel
theorem dX1_repeatStates_27 : decode cX1_repeatStates 27 = .ok (.sipush 324, 3) := by decide +kernel
theorem dX1_repeatStates_30 : decode cX1_repeatStates 30 = .ok (.if_icmp .ge 42, 3) := by decide +kernel
theorem dX1_repeatStates_33 : decode cX1_repeatStates 33 = .ok (.aload_n 0, 1) := by decide +kernel
theorem dX1_repeatStates_34 : decode cX1_repeatStates 34 = .ok (.getfield 25, 3) := by decide +kernel
theorem dX1_repeatStates_37 : decode cX1_repeatStates 37 = .ok (.aload_n 0, 1) := by decide +kernel
theorem dX1_repeatStates_38 : decode cX1_repeatStates 38 = .ok (.getfield 57, 3) := by decide +kernel
theorem dX1_repeatStates_41 : decode cX1_repeatStates 41 = .ok (.aload_n 0, 1) := by decide +kernel
theorem dX1_repeatStates_42 : decode cX1_repeatStates 42 = .ok (.getfield 25, 3) := by decide +kernel
theorem dX1_repeatStates_45 : decode cX1_repeatStates 45 = .ok (.iload 5, 2) := by decide +kernel
theorem dX1_repeatStates_47 : decode cX1_repeatStates 47 = .ok (.iaload, 1) := by decide +kernel
theorem dX1_repeatStates_48 : decode cX1_repeatStates 48 = .ok (.iload 4, 2) := by decide +kernel
theorem dX1_repeatStates_50 : decode cX1_repeatStates 50 = .ok (.iconst 3, 1) := by decide +kernel
theorem dX1_repeatStates_51 : decode cX1_repeatStates 51 = .ok (.iload_n 1, 1) := by decide +kernel
theorem dX1_repeatStates_52 : decode cX1_repeatStates 52 = .ok (.imul, 1) := by decide +kernel
theorem dX1_repeatStates_53 : decode cX1_repeatStates 53 = .ok (.ishl, 1) := by decide +kernel
theorem dX1_repeatStates_54 : decode cX1_repeatStates 54 = .ok (.ior, 1) := by decide +kernel
theorem dX1_repeatStates_55 : decode cX1_repeatStates 55 = .ok (.iastore, 1) := by decide +kernel
theorem dX1_repeatStates_56 : decode cX1_repeatStates 56 = .ok (.aload_n 0, 1) := by decide +kernel
theorem dX1_repeatStates_57 : decode cX1_repeatStates 57 = .ok (.dup, 1) := by decide +kernel
theorem dX1_repeatStates_58 : decode cX1_repeatStates 58 = .ok (.getfield 57, 3) := by decide +kernel
theorem dX1_repeatStates_61 : decode cX1_repeatStates 61 = .ok (.iconst 1, 1) := by decide +kernel
theorem dX1_repeatStates_62 : decode cX1_repeatStates 62 = .ok (.iadd, 1) := by decide +kernel
theorem dX1_repeatStates_63 : decode cX1_repeatStates 63 = .ok (.putfield 57, 3) := by decide +kernel
theorem dX1_repeatStates_66 : decode cX1_repeatStates 66 = .ok (.iinc 5 1, 3) := by decide +kernel
theorem dX1_repeatStates_69 : decode cX1_repeatStates 69 = .ok (.goto (-52), 3) := by decide +kernel
theorem dX1_repeatStates_72 : decode cX1_repeatStates 72 = .ok (.iinc 4 1, 3) := by decide +kernel
theorem dX1_repeatStates_75 : decode cX1_repeatStates 75 = .ok (.goto (-67), 3) := by decide +kernel
theorem dX1_repeatStates_78 : decode cX1_repeatStates 78 = .ok (.return_, 1) := by decide +kernel
set_option maxRecDepth 20000 in
theorem ggX1_offer_X1_keepOwnKeys : GoodIn wsX1_offer wsX1_keepOwnKeys := goodIn_ca (goodIn_r _ [11, 12, 3, 4, 13, 14, 15, 16, 17, 18, 19, 20, 21, 41, 42, 43, 44, 45, 46, 47, 34, 35, 36, 37, 38, 39, 40] (by decide +kernel) (by decide +kernel)) (goodIn_sub (fun _ h => List.mem_cons_of_mem _ (List.mem_append_right _ h)) (by decide +kernel))
set_option maxRecDepth 20000 in
theorem gX1_offer_X1_keepOwnKeys : GoodIn wsX1_offer (wsV RX1 73 RX1 yX1_keepOwnKeys wsX1_keepOwnKeys) := goodIn_app (goodIn_of _ (by decide +kernel)) ggX1_offer_X1_keepOwnKeys
set_option maxRecDepth 20000 in
theorem ggX1_offer_X1_shiftOf : GoodIn wsX1_offer wsX1_shiftOf := goodIn_r _ [24] (by decide +kernel) (by decide +kernel)
set_option maxRecDepth 20000 in
theorem gX1_offer_X1_shiftOf : GoodIn wsX1_offer (va_wsS RX1 31 yX1_shiftOf wsX1_shiftOf) := goodIn_app (goodIn_of _ (by decide +kernel)) ggX1_offer_X1_shiftOf
set_option maxRecDepth 20000 in
theorem ggX1_offer_X1_improve : GoodIn wsX1_offer wsX1_improve := goodIn_ca (goodIn_r _ [28, 29, 4, 30, 31, 32, 33, 34, 35, 36, 37, 38, 39, 40] (by decide +kernel) (by decide +kernel)) (goodIn_sub (fun _ h => List.mem_cons_of_mem _ (List.mem_append_right _ h)) (by decide +kernel))
set_option maxRecDepth 20000 in
theorem gX1_offer_X1_improve : GoodIn wsX1_offer (wsV RX1 76 RX1 yX1_improve wsX1_improve) := goodIn_app (goodIn_of _ (by decide +kernel)) ggX1_offer_X1_improve
theorem dX1_offer_0 : decode cX1_offer 0 = .ok (.aload_n 0, 1) := by decide +kernel
theorem dX1_offer_1 : decode cX1_offer 1 = .ok (.aload_n 1, 1) := by decide +kernel
theorem dX1_offer_2 : decode cX1_offer 2 = .ok (.iload_n 2, 1) := by decide +kernel
theorem dX1_offer_3 : decode cX1_offer 3 = .ok (.iload_n 3, 1) := by decide +kernel
theorem dX1_offer_4 : decode cX1_offer 4 = .ok (.invokevirtual 73, 3) := by decide +kernel
theorem dX1_offer_7 : decode cX1_offer 7 = .ok (.aload_n 0, 1) := by decide +kernel
theorem dX1_offer_8 : decode cX1_offer 8 = .ok (.getfield 57, 3) := by decide +kernel
theorem dX1_offer_11 : decode cX1_offer 11 = .ok (.iconst 1, 1) := by decide +kernel
theorem dX1_offer_12 : decode cX1_offer 12 = .ok (.isub, 1) := by decide +kernel
theorem dX1_offer_13 : decode cX1_offer 13 = .ok (.istore 4, 2) := by decide +kernel
theorem dX1_offer_15 : decode cX1_offer 15 = .ok (.iload 4, 2) := by decide +kernel
theorem dX1_offer_17 : decode cX1_offer 17 = .ok (.ifCond .le 111, 3) := by decide +kernel
theorem dX1_offer_20 : decode cX1_offer 20 = .ok (.iconst 0, 1) := by decide +kernel
theorem dX1_offer_21 : decode cX1_offer 21 = .ok (.istore 5, 2) := by decide +kernel
theorem dX1_offer_23 : decode cX1_offer 23 = .ok (.iload 5, 2) := by decide +kernel
theorem dX1_offer_25 : decode cX1_offer 25 = .ok (.bipush 6, 2) := by decide +kernel
theorem dX1_offer_27 : decode cX1_offer 27 = .ok (.if_icmp .ge 95, 3) := by decide +kernel
theorem dX1_offer_30 : decode cX1_offer 30 = .ok (.aload_n 0, 1) := by decide +kernel
theorem dX1_offer_31 : decode cX1_offer 31 = .ok (.getfield 25, 3) := by decide +kernel
theorem dX1_offer_34 : decode cX1_offer 34 = .ok (.iload 4, 2) := by decide +kernel
theorem dX1_offer_36 : decode cX1_offer 36 = .ok (.iaload, 1) := by decide +kernel
theorem dX1_offer_37 : decode cX1_offer 37 = .ok (.iconst 3, 1) := by decide +kernel
theorem dX1_offer_38 : decode cX1_offer 38 = .ok (.iload 5, 2) := by decide +kernel
theorem dX1_offer_40 : decode cX1_offer 40 = .ok (.imul, 1) := by decide +kernel
theorem dX1_offer_41 : decode cX1_offer 41 = .ok (.ishr, 1) := by decide +kernel
theorem dX1_offer_42 : decode cX1_offer 42 = .ok (.bipush 7, 2) := by decide +kernel
theorem dX1_offer_44 : decode cX1_offer 44 = .ok (.iand, 1) := by decide +kernel
theorem dX1_offer_45 : decode cX1_offer 45 = .ok (.istore 6, 2) := by decide +kernel
theorem dX1_offer_47 : decode cX1_offer 47 = .ok (.iload 6, 2) := by decide +kernel
theorem dX1_offer_49 : decode cX1_offer 49 = .ok (.ifCond .le 67, 3) := by decide +kernel
theorem dX1_offer_52 : decode cX1_offer 52 = .ok (.aload_n 0, 1) := by decide +kernel
theorem dX1_offer_53 : decode cX1_offer 53 = .ok (.getfield 15, 3) := by decide +kernel
theorem dX1_offer_56 : decode cX1_offer 56 = .ok (.iload 5, 2) := by decide +kernel
theorem dX1_offer_58 : decode cX1_offer 58 = .ok (.laload, 1) := by decide +kernel
theorem dX1_offer_59 : decode cX1_offer 59 = .ok (.ldc2_w 60, 3) := by decide +kernel
theorem dX1_offer_62 : decode cX1_offer 62 = .ok (.lcmp, 1) := by decide +kernel
theorem dX1_offer_63 : decode cX1_offer 63 = .ok (.ifCond .eq 53, 3) := by decide +kernel
theorem dX1_offer_66 : decode cX1_offer 66 = .ok (.aload_n 0, 1) := by decide +kernel
theorem dX1_offer_67 : decode cX1_offer 67 = .ok (.getfield 22, 3) := by decide +kernel
theorem dX1_offer_70 : decode cX1_offer 70 = .ok (.iload 5, 2) := by decide +kernel
theorem dX1_offer_72 : decode cX1_offer 72 = .ok (.iaload, 1) := by decide +kernel
theorem dX1_offer_73 : decode cX1_offer 73 = .ok (.iload 6, 2) := by decide +kernel
theorem dX1_offer_75 : decode cX1_offer 75 = .ok (.iadd, 1) := by decide +kernel
theorem dX1_offer_76 : decode cX1_offer 76 = .ok (.iconst 1, 1) := by decide +kernel
theorem dX1_offer_77 : decode cX1_offer 77 = .ok (.isub, 1) := by decide +kernel
theorem dX1_offer_78 : decode cX1_offer 78 = .ok (.istore 7, 2) := by decide +kernel
theorem dX1_offer_80 : decode cX1_offer 80 = .ok (.aload_n 0, 1) := by decide +kernel
theorem dX1_offer_81 : decode cX1_offer 81 = .ok (.getfield 15, 3) := by decide +kernel
theorem dX1_offer_84 : decode cX1_offer 84 = .ok (.iload 5, 2) := by decide +kernel
theorem dX1_offer_86 : decode cX1_offer 86 = .ok (.laload, 1) := by decide +kernel
theorem dX1_offer_87 : decode cX1_offer 87 = .ok (.iload_n 2, 1) := by decide +kernel
theorem dX1_offer_88 : decode cX1_offer 88 = .ok (.i2l, 1) := by decide +kernel
theorem dX1_offer_89 : decode cX1_offer 89 = .ok (.iload 7, 2) := by decide +kernel
theorem dX1_offer_91 : decode cX1_offer 91 = .ok (.invokestatic 31, 3) := by decide +kernel
theorem dX1_offer_94 : decode cX1_offer 94 = .ok (.lshl, 1) := by decide +kernel
theorem dX1_offer_95 : decode cX1_offer 95 = .ok (.ladd, 1) := by decide +kernel
theorem dX1_offer_96 : decode cX1_offer 96 = .ok (.lstore 8, 2) := by decide +kernel
theorem dX1_offer_98 : decode cX1_offer 98 = .ok (.aload_n 0, 1) := by decide +kernel
theorem dX1_offer_99 : decode cX1_offer 99 = .ok (.iload 4, 2) := by decide +kernel
theorem dX1_offer_101 : decode cX1_offer 101 = .ok (.iload 4, 2) := by decide +kernel
theorem dX1_offer_103 : decode cX1_offer 103 = .ok (.aload_n 0, 1) := by decide +kernel
theorem dX1_offer_104 : decode cX1_offer 104 = .ok (.getfield 19, 3) := by decide +kernel
theorem dX1_offer_107 : decode cX1_offer 107 = .ok (.iload 5, 2) := by decide +kernel
theorem dX1_offer_109 : decode cX1_offer 109 = .ok (.iaload, 1) := by decide +kernel
theorem dX1_offer_110 : decode cX1_offer 110 = .ok (.isub, 1) := by decide +kernel
theorem dX1_offer_111 : decode cX1_offer 111 = .ok (.lload 8, 2) := by decide +kernel
theorem dX1_offer_113 : decode cX1_offer 113 = .ok (.invokevirtual 76, 3) := by decide +kernel
theorem dX1_offer_116 : decode cX1_offer 116 = .ok (.iinc 5 1, 3) := by decide +kernel
theorem dX1_offer_119 : decode cX1_offer 119 = .ok (.goto (-96), 3) := by decide +kernel
theorem dX1_offer_122 : decode cX1_offer 122 = .ok (.iinc 4 (-1), 3) := by decide +kernel
theorem dX1_offer_125 : decode cX1_offer 125 = .ok (.goto (-110), 3) := by decide +kernel
theorem dX1_offer_128 : decode cX1_offer 128 = .ok (.return_, 1) := by decide +kernel
set_option maxRecDepth 20000 in
theorem ggX1_keepOwnKeys_X4_canPlay : GoodIn wsX1_keepOwnKeys wsX4_canPlay := goodIn_r _ [7, 8, 9, 10, 11, 12, 13, 14, 15, 16, 17, 18, 19] (by decide +kernel) (by decide +kernel)
set_option maxRecDepth 20000 in
theorem gX1_keepOwnKeys_X4_canPlay_n83 : GoodIn wsX1_keepOwnKeys (wsX4_canPlay) := ggX1_keepOwnKeys_X4_canPlay
theorem dX1_keepOwnKeys_0 : decode cX1_keepOwnKeys 0 = .ok (.iconst 0, 1) := by decide +kernel
theorem dX1_keepOwnKeys_1 : decode cX1_keepOwnKeys 1 = .ok (.istore 4, 2) := by decide +kernel
theorem dX1_keepOwnKeys_3 : decode cX1_keepOwnKeys 3 = .ok (.iload 4, 2) := by decide +kernel
theorem dX1_keepOwnKeys_5 : decode cX1_keepOwnKeys 5 = .ok (.bipush 6, 2) := by decide +kernel
theorem dX1_keepOwnKeys_7 : decode cX1_keepOwnKeys 7 = .ok (.if_icmp .ge 71, 3) := by decide +kernel
theorem dX1_keepOwnKeys_10 : decode cX1_keepOwnKeys 10 = .ok (.iload 4, 2) := by decide +kernel
theorem dX1_keepOwnKeys_12 : decode cX1_keepOwnKeys 12 = .ok (.aload_n 1, 1) := by decide +kernel
theorem dX1_keepOwnKeys_13 : decode cX1_keepOwnKeys 13 = .ok (.getfield 80, 3) := by decide +kernel
theorem dX1_keepOwnKeys_16 : decode cX1_keepOwnKeys 16 = .ok (.if_icmp .ne 7, 3) := by decide +kernel
theorem dX1_keepOwnKeys_19 : decode cX1_keepOwnKeys 19 = .ok (.iload_n 3, 1) := by decide +kernel
theorem dX1_keepOwnKeys_20 : decode cX1_keepOwnKeys 20 = .ok (.goto 7, 3) := by decide +kernel
theorem dX1_keepOwnKeys_23 : decode cX1_keepOwnKeys 23 = .ok (.iload_n 3, 1) := by decide +kernel
theorem dX1_keepOwnKeys_24 : decode cX1_keepOwnKeys 24 = .ok (.bipush 10, 2) := by decide +kernel
theorem dX1_keepOwnKeys_26 : decode cX1_keepOwnKeys 26 = .ok (.iadd, 1) := by decide +kernel
theorem dX1_keepOwnKeys_27 : decode cX1_keepOwnKeys 27 = .ok (.istore 5, 2) := by decide +kernel
theorem dX1_keepOwnKeys_29 : decode cX1_keepOwnKeys 29 = .ok (.iload 5, 2) := by decide +kernel
theorem dX1_keepOwnKeys_31 : decode cX1_keepOwnKeys 31 = .ok (.i2l, 1) := by decide +kernel
theorem dX1_keepOwnKeys_32 : decode cX1_keepOwnKeys 32 = .ok (.bipush 49, 2) := by decide +kernel
theorem dX1_keepOwnKeys_34 : decode cX1_keepOwnKeys 34 = .ok (.lshl, 1) := by decide +kernel
theorem dX1_keepOwnKeys_35 : decode cX1_keepOwnKeys 35 = .ok (.aload_n 0, 1) := by decide +kernel
theorem dX1_keepOwnKeys_36 : decode cX1_keepOwnKeys 36 = .ok (.getfield 11, 3) := by decide +kernel
theorem dX1_keepOwnKeys_39 : decode cX1_keepOwnKeys 39 = .ok (.iload_n 2, 1) := by decide +kernel
theorem dX1_keepOwnKeys_40 : decode cX1_keepOwnKeys 40 = .ok (.iaload, 1) := by decide +kernel
theorem dX1_keepOwnKeys_41 : decode cX1_keepOwnKeys 41 = .ok (.i2l, 1) := by decide +kernel
theorem dX1_keepOwnKeys_42 : decode cX1_keepOwnKeys 42 = .ok (.bipush 40, 2) := by decide +kernel
theorem dX1_keepOwnKeys_44 : decode cX1_keepOwnKeys 44 = .ok (.lshl, 1) := by decide +kernel
theorem dX1_keepOwnKeys_45 : decode cX1_keepOwnKeys 45 = .ok (.ladd, 1) := by decide +kernel
theorem dX1_keepOwnKeys_46 : decode cX1_keepOwnKeys 46 = .ok (.lstore 6, 2) := by decide +kernel
theorem dX1_keepOwnKeys_48 : decode cX1_keepOwnKeys 48 = .ok (.aload_n 0, 1) := by decide +kernel
theorem dX1_keepOwnKeys_49 : decode cX1_keepOwnKeys 49 = .ok (.getfield 15, 3) := by decide +kernel
theorem dX1_keepOwnKeys_52 : decode cX1_keepOwnKeys 52 = .ok (.iload 4, 2) := by decide +kernel
theorem dX1_keepOwnKeys_54 : decode cX1_keepOwnKeys 54 = .ok (.aload_n 1, 1) := by decide +kernel
theorem dX1_keepOwnKeys_55 : decode cX1_keepOwnKeys 55 = .ok (.iload 4, 2) := by decide +kernel
theorem dX1_keepOwnKeys_57 : decode cX1_keepOwnKeys 57 = .ok (.invokevirtual 83, 3) := by decide +kernel
theorem dX1_keepOwnKeys_60 : decode cX1_keepOwnKeys 60 = .ok (.ifCond .eq 8, 3) := by decide +kernel
theorem dX1_keepOwnKeys_63 : decode cX1_keepOwnKeys 63 = .ok (.lload 6, 2) := by decide +kernel
theorem dX1_keepOwnKeys_65 : decode cX1_keepOwnKeys 65 = .ok (.goto 6, 3) := by decide +kernel
theorem dX1_keepOwnKeys_68 : decode cX1_keepOwnKeys 68 = .ok (.ldc2_w 60, 3) := by decide +kernel
theorem dX1_keepOwnKeys_71 : decode cX1_keepOwnKeys 71 = .ok (.lastore, 1) := by decide +kernel
theorem dX1_keepOwnKeys_72 : decode cX1_keepOwnKeys 72 = .ok (.iinc 4 1, 3) := by decide +kernel
theorem dX1_keepOwnKeys_75 : decode cX1_keepOwnKeys 75 = .ok (.goto (-72), 3) := by decide +kernel
theorem dX1_keepOwnKeys_78 : decode cX1_keepOwnKeys 78 = .ok (.return_, 1) := by decide +kernel
theorem dX1_improve_0 : decode cX1_improve 0 = .ok (.iload_n 2, 1) := by decide +kernel
theorem dX1_improve_1 : decode cX1_improve 1 = .ok (.ifCond .lt 39, 3) := by decide +kernel
theorem dX1_improve_4 : decode cX1_improve 4 = .ok (.aload_n 0, 1) := by decide +kernel
theorem dX1_improve_5 : decode cX1_improve 5 = .ok (.getfield 28, 3) := by decide +kernel
theorem dX1_improve_8 : decode cX1_improve 8 = .ok (.iload_n 2, 1) := by decide +kernel
theorem dX1_improve_9 : decode cX1_improve 9 = .ok (.laload, 1) := by decide +kernel
theorem dX1_improve_10 : decode cX1_improve 10 = .ok (.ldc2_w 60, 3) := by decide +kernel
theorem dX1_improve_13 : decode cX1_improve 13 = .ok (.lcmp, 1) := by decide +kernel
theorem dX1_improve_14 : decode cX1_improve 14 = .ok (.ifCond .eq 26, 3) := by decide +kernel
theorem dX1_improve_17 : decode cX1_improve 17 = .ok (.aload_n 0, 1) := by decide +kernel
theorem dX1_improve_18 : decode cX1_improve 18 = .ok (.getfield 28, 3) := by decide +kernel
theorem dX1_improve_21 : decode cX1_improve 21 = .ok (.iload_n 1, 1) := by decide +kernel
theorem dX1_improve_22 : decode cX1_improve 22 = .ok (.aload_n 0, 1) := by decide +kernel
theorem dX1_improve_23 : decode cX1_improve 23 = .ok (.getfield 28, 3) := by decide +kernel
theorem dX1_improve_26 : decode cX1_improve 26 = .ok (.iload_n 1, 1) := by decide +kernel
theorem dX1_improve_27 : decode cX1_improve 27 = .ok (.laload, 1) := by decide +kernel
theorem dX1_improve_28 : decode cX1_improve 28 = .ok (.aload_n 0, 1) := by decide +kernel
theorem dX1_improve_29 : decode cX1_improve 29 = .ok (.getfield 28, 3) := by decide +kernel
theorem dX1_improve_32 : decode cX1_improve 32 = .ok (.iload_n 2, 1) := by decide +kernel
theorem dX1_improve_33 : decode cX1_improve 33 = .ok (.laload, 1) := by decide +kernel
theorem dX1_improve_34 : decode cX1_improve 34 = .ok (.lload_n 3, 1) := by decide +kernel
theorem dX1_improve_35 : decode cX1_improve 35 = .ok (.ladd, 1) := by decide +kernel
theorem dX1_improve_36 : decode cX1_improve 36 = .ok (.invokestatic 87, 3) := by decide +kernel
theorem dX1_improve_39 : decode cX1_improve 39 = .ok (.lastore, 1) := by decide +kernel
theorem dX1_improve_40 : decode cX1_improve 40 = .ok (.return_, 1) := by decide +kernel
theorem dX2_init_0 : decode cX2_init 0 = .ok (.aload_n 0, 1) := by decide +kernel
theorem dX2_init_1 : decode cX2_init 1 = .ok (.invokespecial 3, 3) := by decide +kernel
theorem dX2_init_4 : decode cX2_init 4 = .ok (.aload_n 0, 1) := by decide +kernel
theorem dX2_init_5 : decode cX2_init 5 = .ok (.bipush 20, 2) := by decide +kernel
theorem dX2_init_7 : decode cX2_init 7 = .ok (.newarray .int, 2) := by decide +kernel
theorem dX2_init_9 : decode cX2_init 9 = .ok (.putfield 9, 3) := by decide +kernel
theorem dX2_init_12 : decode cX2_init 12 = .ok (.return_, 1) := by decide +kernel
theorem dX2_noteElsewhere_0 : decode cX2_noteElsewhere 0 = .ok (.aload_n 0, 1) := by decide +kernel
theorem dX2_noteElsewhere_1 : decode cX2_noteElsewhere 1 = .ok (.getfield 15, 3) := by decide +kernel
theorem dX2_noteElsewhere_4 : decode cX2_noteElsewhere 4 = .ok (.bipush 20, 2) := by decide +kernel
theorem dX2_noteElsewhere_6 : decode cX2_noteElsewhere 6 = .ok (.if_icmp .ge 23, 3) := by decide +kernel
theorem dX2_noteElsewhere_9 : decode cX2_noteElsewhere 9 = .ok (.aload_n 0, 1) := by decide +kernel
theorem dX2_noteElsewhere_10 : decode cX2_noteElsewhere 10 = .ok (.getfield 9, 3) := by decide +kernel
theorem dX2_noteElsewhere_13 : decode cX2_noteElsewhere 13 = .ok (.aload_n 0, 1) := by decide +kernel
theorem dX2_noteElsewhere_14 : decode cX2_noteElsewhere 14 = .ok (.getfield 15, 3) := by decide +kernel
theorem dX2_noteElsewhere_17 : decode cX2_noteElsewhere 17 = .ok (.iload_n 1, 1) := by decide +kernel
theorem dX2_noteElsewhere_18 : decode cX2_noteElsewhere 18 = .ok (.iastore, 1) := by decide +kernel
theorem dX2_noteElsewhere_19 : decode cX2_noteElsewhere 19 = .ok (.aload_n 0, 1) := by decide +kernel
theorem dX2_noteElsewhere_20 : decode cX2_noteElsewhere 20 = .ok (.dup, 1) := by decide +kernel
theorem dX2_noteElsewhere_21 : decode cX2_noteElsewhere 21 = .ok (.getfield 15, 3) := by decide +kernel
theorem dX2_noteElsewhere_24 : decode cX2_noteElsewhere 24 = .ok (.iconst 1, 1) := by decide +kernel
theorem dX2_noteElsewhere_25 : decode cX2_noteElsewhere 25 = .ok (.iadd, 1) := by decide +kernel
theorem dX2_noteElsewhere_26 : decode cX2_noteElsewhere 26 = .ok (.putfield 15, 3) := by decide +kernel
theorem dX2_noteElsewhere_29 : decode cX2_noteElsewhere 29 = .ok (.return_, 1) := by decide +kernel
theorem dX2_isElsewhereNear_0 : decode cX2_isElsewhereNear 0 = .ok (.iconst 0, 1) := by decide +kernel
theorem dX2_isElsewhereNear_1 : decode cX2_isElsewhereNear 1 = .ok (.istore_n 3, 1) := by decide +kernel
theorem dX2_isElsewhereNear_2 : decode cX2_isElsewhereNear 2 = .ok (.iload_n 3, 1) := by decide +kernel
theorem dX2_isElsewhereNear_3 : decode cX2_isElsewhereNear 3 = .ok (.aload_n 0, 1) := by decide +kernel
theorem dX2_isElsewhereNear_4 : decode cX2_isElsewhereNear 4 = .ok (.getfield 15, 3) := by decide +kernel
theorem dX2_isElsewhereNear_7 : decode cX2_isElsewhereNear 7 = .ok (.if_icmp .ge 26, 3) := by decide +kernel
theorem dX2_isElsewhereNear_10 : decode cX2_isElsewhereNear 10 = .ok (.aload_n 0, 1) := by decide +kernel
theorem dX2_isElsewhereNear_11 : decode cX2_isElsewhereNear 11 = .ok (.getfield 9, 3) := by decide +kernel
theorem dX2_isElsewhereNear_14 : decode cX2_isElsewhereNear 14 = .ok (.iload_n 3, 1) := by decide +kernel
theorem dX2_isElsewhereNear_15 : decode cX2_isElsewhereNear 15 = .ok (.iaload, 1) := by decide +kernel
theorem dX2_isElsewhereNear_16 : decode cX2_isElsewhereNear 16 = .ok (.iload_n 1, 1) := by decide +kernel
theorem dX2_isElsewhereNear_17 : decode cX2_isElsewhereNear 17 = .ok (.isub, 1) := by decide +kernel
theorem dX2_isElsewhereNear_18 : decode cX2_isElsewhereNear 18 = .ok (.invokestatic 19, 3) := by decide +kernel
theorem dX2_isElsewhereNear_21 : decode cX2_isElsewhereNear 21 = .ok (.iload_n 2, 1) := by decide +kernel
theorem dX2_isElsewhereNear_22 : decode cX2_isElsewhereNear 22 = .ok (.if_icmp .ge 5, 3) := by decide +kernel
theorem dX2_isElsewhereNear_25 : decode cX2_isElsewhereNear 25 = .ok (.iconst 1, 1) := by decide +kernel
theorem dX2_isElsewhereNear_26 : decode cX2_isElsewhereNear 26 = .ok (.ireturn, 1) := by decide +kernel
theorem dX2_isElsewhereNear_27 : decode cX2_isElsewhereNear 27 = .ok (.iinc 3 1, 3) := by decide +kernel
theorem dX2_isElsewhereNear_30 : decode cX2_isElsewhereNear 30 = .ok (.goto (-28), 3) := by decide +kernel
theorem dX2_isElsewhereNear_33 : decode cX2_isElsewhereNear 33 = .ok (.iconst 0, 1) := by decide +kernel
theorem dX2_isElsewhereNear_34 : decode cX2_isElsewhereNear 34 = .ok (.ireturn, 1) := by decide +kernel
theorem dX3_init_0 : decode cX3_init 0 = .ok (.aload_n 0, 1) := by decide +kernel
theorem dX3_init_1 : decode cX3_init 1 = .ok (.invokespecial 3, 3) := by decide +kernel
theorem dX3_init_4 : decode cX3_init 4 = .ok (.aload_n 0, 1) := by decide +kernel
theorem dX3_init_5 : decode cX3_init 5 = .ok (.bipush 13, 2) := by decide +kernel
theorem dX3_init_7 : decode cX3_init 7 = .ok (.newarray .int, 2) := by decide +kernel
theorem dX3_init_9 : decode cX3_init 9 = .ok (.putfield 11, 3) := by decide +kernel
theorem dX3_init_12 : decode cX3_init 12 = .ok (.return_, 1) := by decide +kernel
set_option maxRecDepth 20000 in
theorem ggX3_isGivenOn_X7_hasBit : GoodIn wsX3_isGivenOn wsX7_hasBit := goodIn_r _ [4] (by decide +kernel) (by decide +kernel)
set_option maxRecDepth 20000 in
theorem gX3_isGivenOn_X7_hasBit_n15 : GoodIn wsX3_isGivenOn (wsX7_hasBit) := ggX3_isGivenOn_X7_hasBit
theorem dX3_isGivenOn_0 : decode cX3_isGivenOn 0 = .ok (.aload_n 0, 1) := by decide +kernel
theorem dX3_isGivenOn_1 : decode cX3_isGivenOn 1 = .ok (.getfield 11, 3) := by decide +kernel
theorem dX3_isGivenOn_4 : decode cX3_isGivenOn 4 = .ok (.iload_n 1, 1) := by decide +kernel
theorem dX3_isGivenOn_5 : decode cX3_isGivenOn 5 = .ok (.bipush 32, 2) := by decide +kernel
theorem dX3_isGivenOn_7 : decode cX3_isGivenOn 7 = .ok (.idiv, 1) := by decide +kernel
theorem dX3_isGivenOn_8 : decode cX3_isGivenOn 8 = .ok (.iaload, 1) := by decide +kernel
theorem dX3_isGivenOn_9 : decode cX3_isGivenOn 9 = .ok (.iload_n 1, 1) := by decide +kernel
theorem dX3_isGivenOn_10 : decode cX3_isGivenOn 10 = .ok (.bipush 32, 2) := by decide +kernel
theorem dX3_isGivenOn_12 : decode cX3_isGivenOn 12 = .ok (.irem, 1) := by decide +kernel
theorem dX3_isGivenOn_13 : decode cX3_isGivenOn 13 = .ok (.invokestatic 15, 3) := by decide +kernel
theorem dX3_isGivenOn_16 : decode cX3_isGivenOn 16 = .ok (.ireturn, 1) := by decide +kernel
theorem dX3_noteGiven_0 : decode cX3_noteGiven 0 = .ok (.iconst 1, 1) := by decide +kernel
theorem dX3_noteGiven_1 : decode cX3_noteGiven 1 = .ok (.iload_n 1, 1) := by decide +kernel
theorem dX3_noteGiven_2 : decode cX3_noteGiven 2 = .ok (.bipush 32, 2) := by decide +kernel
theorem dX3_noteGiven_4 : decode cX3_noteGiven 4 = .ok (.irem, 1) := by decide +kernel
theorem dX3_noteGiven_5 : decode cX3_noteGiven 5 = .ok (.ishl, 1) := by decide +kernel
theorem dX3_noteGiven_6 : decode cX3_noteGiven 6 = .ok (.istore_n 3, 1) := by decide +kernel
theorem dX3_noteGiven_7 : decode cX3_noteGiven 7 = .ok (.aload_n 0, 1) := by decide +kernel
theorem dX3_noteGiven_8 : decode cX3_noteGiven 8 = .ok (.getfield 11, 3) := by decide +kernel
theorem dX3_noteGiven_11 : decode cX3_noteGiven 11 = .ok (.iload_n 1, 1) := by decide +kernel
theorem dX3_noteGiven_12 : decode cX3_noteGiven 12 = .ok (.bipush 32, 2) := by decide +kernel
theorem dX3_noteGiven_14 : decode cX3_noteGiven 14 = .ok (.idiv, 1) := by decide +kernel
theorem dX3_noteGiven_15 : decode cX3_noteGiven 15 = .ok (.iaload, 1) := by decide +kernel
theorem dX3_noteGiven_16 : decode cX3_noteGiven 16 = .ok (.istore 4, 2) := by decide +kernel
theorem dX3_noteGiven_18 : decode cX3_noteGiven 18 = .ok (.aload_n 0, 1) := by decide +kernel
theorem dX3_noteGiven_19 : decode cX3_noteGiven 19 = .ok (.getfield 11, 3) := by decide +kernel
theorem dX3_noteGiven_22 : decode cX3_noteGiven 22 = .ok (.iload_n 1, 1) := by decide +kernel
theorem dX3_noteGiven_23 : decode cX3_noteGiven 23 = .ok (.bipush 32, 2) := by decide +kernel
theorem dX3_noteGiven_25 : decode cX3_noteGiven 25 = .ok (.idiv, 1) := by decide +kernel
theorem dX3_noteGiven_26 : decode cX3_noteGiven 26 = .ok (.iload_n 2, 1) := by decide +kernel
theorem dX3_noteGiven_27 : decode cX3_noteGiven 27 = .ok (.ifCond .eq 10, 3) := by decide +kernel
theorem dX3_noteGiven_30 : decode cX3_noteGiven 30 = .ok (.iload 4, 2) := by decide +kernel
theorem dX3_noteGiven_32 : decode cX3_noteGiven 32 = .ok (.iload_n 3, 1) := by decide +kernel
theorem dX3_noteGiven_33 : decode cX3_noteGiven 33 = .ok (.ior, 1) := by decide +kernel
theorem dX3_noteGiven_34 : decode cX3_noteGiven 34 = .ok (.goto 9, 3) := by decide +kernel
theorem dX3_noteGiven_37 : decode cX3_noteGiven 37 = .ok (.iload 4, 2) := by decide +kernel
theorem dX3_noteGiven_39 : decode cX3_noteGiven 39 = .ok (.iload_n 3, 1) := by decide +kernel
theorem dX3_noteGiven_40 : decode cX3_noteGiven 40 = .ok (.iconst (-1), 1) := by decide +kernel
theorem dX3_noteGiven_41 : decode cX3_noteGiven 41 = .ok (.ixor, 1) := by decide +kernel
theorem dX3_noteGiven_42 : decode cX3_noteGiven 42 = .ok (.iand, 1) := by decide +kernel
theorem dX3_noteGiven_43 : decode cX3_noteGiven 43 = .ok (.iastore, 1) := by decide +kernel
theorem dX3_noteGiven_44 : decode cX3_noteGiven 44 = .ok (.return_, 1) := by decide +kernel
theorem dX4_init_0 : decode cX4_init 0 = .ok (.aload_n 0, 1) := by decide +kernel
theorem dX4_init_1 : decode cX4_init 1 = .ok (.invokespecial 3, 3) := by decide +kernel
theorem dX4_init_4 : decode cX4_init 4 = .ok (.aload_n 0, 1) := by decide +kernel
theorem dX4_init_5 : decode cX4_init 5 = .ok (.iconst 5, 1) := by decide +kernel
theorem dX4_init_6 : decode cX4_init 6 = .ok (.newarray .int, 2) := by decide +kernel
theorem dX4_init_8 : decode cX4_init 8 = .ok (.putfield 9, 3) := by decide +kernel
theorem dX4_init_11 : decode cX4_init 11 = .ok (.aload_n 0, 1) := by decide +kernel
theorem dX4_init_12 : decode cX4_init 12 = .ok (.iconst 5, 1) := by decide +kernel
theorem dX4_init_13 : decode cX4_init 13 = .ok (.newarray .int, 2) := by decide +kernel
theorem dX4_init_15 : decode cX4_init 15 = .ok (.putfield 15, 3) := by decide +kernel
theorem dX4_init_18 : decode cX4_init 18 = .ok (.return_, 1) := by decide +kernel
theorem dX4_noteLeave_0 : decode cX4_noteLeave 0 = .ok (.aload_n 0, 1) := by decide +kernel
theorem dX4_noteLeave_1 : decode cX4_noteLeave 1 = .ok (.getfield 18, 3) := by decide +kernel
theorem dX4_noteLeave_4 : decode cX4_noteLeave 4 = .ok (.iconst 5, 1) := by decide +kernel
theorem dX4_noteLeave_5 : decode cX4_noteLeave 5 = .ok (.if_icmp .ge 33, 3) := by decide +kernel
theorem dX4_noteLeave_8 : decode cX4_noteLeave 8 = .ok (.aload_n 0, 1) := by decide +kernel
theorem dX4_noteLeave_9 : decode cX4_noteLeave 9 = .ok (.getfield 9, 3) := by decide +kernel
theorem dX4_noteLeave_12 : decode cX4_noteLeave 12 = .ok (.aload_n 0, 1) := by decide +kernel
theorem dX4_noteLeave_13 : decode cX4_noteLeave 13 = .ok (.getfield 18, 3) := by decide +kernel
theorem dX4_noteLeave_16 : decode cX4_noteLeave 16 = .ok (.iload_n 1, 1) := by decide +kernel
theorem dX4_noteLeave_17 : decode cX4_noteLeave 17 = .ok (.iastore, 1) := by decide +kernel
theorem dX4_noteLeave_18 : decode cX4_noteLeave 18 = .ok (.aload_n 0, 1) := by decide +kernel
theorem dX4_noteLeave_19 : decode cX4_noteLeave 19 = .ok (.getfield 15, 3) := by decide +kernel
theorem dX4_noteLeave_22 : decode cX4_noteLeave 22 = .ok (.aload_n 0, 1) := by decide +kernel
theorem dX4_noteLeave_23 : decode cX4_noteLeave 23 = .ok (.getfield 18, 3) := by decide +kernel
theorem dX4_noteLeave_26 : decode cX4_noteLeave 26 = .ok (.iload_n 2, 1) := by decide +kernel
theorem dX4_noteLeave_27 : decode cX4_noteLeave 27 = .ok (.iastore, 1) := by decide +kernel
theorem dX4_noteLeave_28 : decode cX4_noteLeave 28 = .ok (.aload_n 0, 1) := by decide +kernel
theorem dX4_noteLeave_29 : decode cX4_noteLeave 29 = .ok (.dup, 1) := by decide +kernel
theorem dX4_noteLeave_30 : decode cX4_noteLeave 30 = .ok (.getfield 18, 3) := by decide +kernel
theorem dX4_noteLeave_33 : decode cX4_noteLeave 33 = .ok (.iconst 1, 1) := by decide +kernel
theorem dX4_noteLeave_34 : decode cX4_noteLeave 34 = .ok (.iadd, 1) := by decide +kernel
theorem dX4_noteLeave_35 : decode cX4_noteLeave 35 = .ok (.putfield 18, 3) := by decide +kernel
theorem dX4_noteLeave_38 : decode cX4_noteLeave 38 = .ok (.return_, 1) := by decide +kernel
theorem dX4_isOnLeave_0 : decode cX4_isOnLeave 0 = .ok (.iconst 0, 1) := by decide +kernel
theorem dX4_isOnLeave_1 : decode cX4_isOnLeave 1 = .ok (.istore_n 2, 1) := by decide +kernel
theorem dX4_isOnLeave_2 : decode cX4_isOnLeave 2 = .ok (.iload_n 2, 1) := by decide +kernel
theorem dX4_isOnLeave_3 : decode cX4_isOnLeave 3 = .ok (.aload_n 0, 1) := by decide +kernel
theorem dX4_isOnLeave_4 : decode cX4_isOnLeave 4 = .ok (.getfield 18, 3) := by decide +kernel
theorem dX4_isOnLeave_7 : decode cX4_isOnLeave 7 = .ok (.if_icmp .ge 31, 3) := by decide +kernel
theorem dX4_isOnLeave_10 : decode cX4_isOnLeave 10 = .ok (.iload_n 1, 1) := by decide +kernel
theorem dX4_isOnLeave_11 : decode cX4_isOnLeave 11 = .ok (.aload_n 0, 1) := by decide +kernel
theorem dX4_isOnLeave_12 : decode cX4_isOnLeave 12 = .ok (.getfield 9, 3) := by decide +kernel
theorem dX4_isOnLeave_15 : decode cX4_isOnLeave 15 = .ok (.iload_n 2, 1) := by decide +kernel
theorem dX4_isOnLeave_16 : decode cX4_isOnLeave 16 = .ok (.iaload, 1) := by decide +kernel
theorem dX4_isOnLeave_17 : decode cX4_isOnLeave 17 = .ok (.if_icmp .lt 15, 3) := by decide +kernel
theorem dX4_isOnLeave_20 : decode cX4_isOnLeave 20 = .ok (.iload_n 1, 1) := by decide +kernel
theorem dX4_isOnLeave_21 : decode cX4_isOnLeave 21 = .ok (.aload_n 0, 1) := by decide +kernel
theorem dX4_isOnLeave_22 : decode cX4_isOnLeave 22 = .ok (.getfield 15, 3) := by decide +kernel
theorem dX4_isOnLeave_25 : decode cX4_isOnLeave 25 = .ok (.iload_n 2, 1) := by decide +kernel
theorem dX4_isOnLeave_26 : decode cX4_isOnLeave 26 = .ok (.iaload, 1) := by decide +kernel
theorem dX4_isOnLeave_27 : decode cX4_isOnLeave 27 = .ok (.if_icmp .gt 5, 3) := by decide +kernel
theorem dX4_isOnLeave_30 : decode cX4_isOnLeave 30 = .ok (.iconst 1, 1) := by decide +kernel
theorem dX4_isOnLeave_31 : decode cX4_isOnLeave 31 = .ok (.ireturn, 1) := by decide +kernel
theorem dX4_isOnLeave_32 : decode cX4_isOnLeave 32 = .ok (.iinc 2 1, 3) := by decide +kernel
theorem dX4_isOnLeave_35 : decode cX4_isOnLeave 35 = .ok (.goto (-33), 3) := by decide +kernel
theorem dX4_isOnLeave_38 : decode cX4_isOnLeave 38 = .ok (.iconst 0, 1) := by decide +kernel
theorem dX4_isOnLeave_39 : decode cX4_isOnLeave 39 = .ok (.ireturn, 1) := by decide +kernel
set_option maxRecDepth 20000 in
theorem ggX4_canPlay_X7_hasBit : GoodIn wsX4_canPlay wsX7_hasBit := goodIn_r _ [5] (by decide +kernel) (by decide +kernel)
set_option maxRecDepth 20000 in
theorem gX4_canPlay_X7_hasBit_n28 : GoodIn wsX4_canPlay (wsX7_hasBit) := ggX4_canPlay_X7_hasBit
theorem dX4_canPlay_0 : decode cX4_canPlay 0 = .ok (.iload_n 1, 1) := by decide +kernel
theorem dX4_canPlay_1 : decode cX4_canPlay 1 = .ok (.aload_n 0, 1) := by decide +kernel
theorem dX4_canPlay_2 : decode cX4_canPlay 2 = .ok (.getfield 22, 3) := by decide +kernel
theorem dX4_canPlay_5 : decode cX4_canPlay 5 = .ok (.if_icmp .eq 18, 3) := by decide +kernel
theorem dX4_canPlay_8 : decode cX4_canPlay 8 = .ok (.iload_n 1, 1) := by decide +kernel
theorem dX4_canPlay_9 : decode cX4_canPlay 9 = .ok (.ifCond .lt 18, 3) := by decide +kernel
theorem dX4_canPlay_12 : decode cX4_canPlay 12 = .ok (.aload_n 0, 1) := by decide +kernel
theorem dX4_canPlay_13 : decode cX4_canPlay 13 = .ok (.getfield 25, 3) := by decide +kernel
theorem dX4_canPlay_16 : decode cX4_canPlay 16 = .ok (.iload_n 1, 1) := by decide +kernel
theorem dX4_canPlay_17 : decode cX4_canPlay 17 = .ok (.invokestatic 28, 3) := by decide +kernel
theorem dX4_canPlay_20 : decode cX4_canPlay 20 = .ok (.ifCond .eq 7, 3) := by decide +kernel
theorem dX4_canPlay_23 : decode cX4_canPlay 23 = .ok (.iconst 1, 1) := by decide +kernel
theorem dX4_canPlay_24 : decode cX4_canPlay 24 = .ok (.goto 4, 3) := by decide +kernel
theorem dX4_canPlay_27 : decode cX4_canPlay 27 = .ok (.iconst 0, 1) := by decide +kernel
theorem dX4_canPlay_28 : decode cX4_canPlay 28 = .ok (.ireturn, 1) := by decide +kernel
theorem dX5_init_0 : decode cX5_init 0 = .ok (.aload_n 0, 1) := by decide +kernel
theorem dX5_init_1 : decode cX5_init 1 = .ok (.invokespecial 3, 3) := by decide +kernel
theorem dX5_init_4 : decode cX5_init 4 = .ok (.aload_n 0, 1) := by decide +kernel
theorem dX5_init_5 : decode cX5_init 5 = .ok (.iconst (-1), 1) := by decide +kernel
theorem dX5_init_6 : decode cX5_init 6 = .ok (.putfield 9, 3) := by decide +kernel
theorem dX5_init_9 : decode cX5_init 9 = .ok (.aload_n 0, 1) := by decide +kernel
theorem dX5_init_10 : decode cX5_init 10 = .ok (.iconst (-1), 1) := by decide +kernel
theorem dX5_init_11 : decode cX5_init 11 = .ok (.putfield 15, 3) := by decide +kernel
theorem dX5_init_14 : decode cX5_init 14 = .ok (.aload_n 0, 1) := by decide +kernel
theorem dX5_init_15 : decode cX5_init 15 = .ok (.bipush 6, 2) := by decide +kernel
theorem dX5_init_17 : decode cX5_init 17 = .ok (.newarray .int, 2) := by decide +kernel
theorem dX5_init_19 : decode cX5_init 19 = .ok (.putfield 18, 3) := by decide +kernel
theorem dX5_init_22 : decode cX5_init 22 = .ok (.aload_n 0, 1) := by decide +kernel
theorem dX5_init_23 : decode cX5_init 23 = .ok (.bipush 6, 2) := by decide +kernel
theorem dX5_init_25 : decode cX5_init 25 = .ok (.newarray .long, 2) := by decide +kernel
theorem dX5_init_27 : decode cX5_init 27 = .ok (.putfield 22, 3) := by decide +kernel
theorem dX5_init_30 : decode cX5_init 30 = .ok (.return_, 1) := by decide +kernel
theorem dX5_mostMinutes_0 : decode cX5_mostMinutes 0 = .ok (.aload_n 0, 1) := by decide +kernel
theorem dX5_mostMinutes_1 : decode cX5_mostMinutes 1 = .ok (.getfield 26, 3) := by decide +kernel
theorem dX5_mostMinutes_4 : decode cX5_mostMinutes 4 = .ok (.aload_n 0, 1) := by decide +kernel
theorem dX5_mostMinutes_5 : decode cX5_mostMinutes 5 = .ok (.getfield 29, 3) := by decide +kernel
theorem dX5_mostMinutes_8 : decode cX5_mostMinutes 8 = .ok (.isub, 1) := by decide +kernel
theorem dX5_mostMinutes_9 : decode cX5_mostMinutes 9 = .ok (.bipush 15, 2) := by decide +kernel
theorem dX5_mostMinutes_11 : decode cX5_mostMinutes 11 = .ok (.imul, 1) := by decide +kernel
theorem dX5_mostMinutes_12 : decode cX5_mostMinutes 12 = .ok (.istore_n 1, 1) := by decide +kernel
theorem dX5_mostMinutes_13 : decode cX5_mostMinutes 13 = .ok (.aload_n 0, 1) := by decide +kernel
theorem dX5_mostMinutes_14 : decode cX5_mostMinutes 14 = .ok (.getfield 32, 3) := by decide +kernel
theorem dX5_mostMinutes_17 : decode cX5_mostMinutes 17 = .ok (.bipush 99, 2) := by decide +kernel
theorem dX5_mostMinutes_19 : decode cX5_mostMinutes 19 = .ok (.if_icmp .ne 10, 3) := by decide +kernel
theorem dX5_mostMinutes_22 : decode cX5_mostMinutes 22 = .ok (.iload_n 1, 1) := by decide +kernel
theorem dX5_mostMinutes_23 : decode cX5_mostMinutes 23 = .ok (.bipush 20, 2) := by decide +kernel
theorem dX5_mostMinutes_25 : decode cX5_mostMinutes 25 = .ok (.isub, 1) := by decide +kernel
theorem dX5_mostMinutes_26 : decode cX5_mostMinutes 26 = .ok (.goto 4, 3) := by decide +kernel
theorem dX5_mostMinutes_29 : decode cX5_mostMinutes 29 = .ok (.iload_n 1, 1) := by decide +kernel
theorem dX5_mostMinutes_30 : decode cX5_mostMinutes 30 = .ok (.ireturn, 1) := by decide +kernel
theorem dX5_placeOf_0 : decode cX5_placeOf 0 = .ok (.iconst 0, 1) := by decide +kernel
theorem dX5_placeOf_1 : decode cX5_placeOf 1 = .ok (.istore_n 2, 1) := by decide +kernel
theorem dX5_placeOf_2 : decode cX5_placeOf 2 = .ok (.iload_n 2, 1) := by decide +kernel
theorem dX5_placeOf_3 : decode cX5_placeOf 3 = .ok (.aload_n 0, 1) := by decide +kernel
theorem dX5_placeOf_4 : decode cX5_placeOf 4 = .ok (.getfield 36, 3) := by decide +kernel
theorem dX5_placeOf_7 : decode cX5_placeOf 7 = .ok (.if_icmp .ge 21, 3) := by decide +kernel
theorem dX5_placeOf_10 : decode cX5_placeOf 10 = .ok (.aload_n 0, 1) := by decide +kernel
theorem dX5_placeOf_11 : decode cX5_placeOf 11 = .ok (.getfield 18, 3) := by decide +kernel
theorem dX5_placeOf_14 : decode cX5_placeOf 14 = .ok (.iload_n 2, 1) := by decide +kernel
theorem dX5_placeOf_15 : decode cX5_placeOf 15 = .ok (.iaload, 1) := by decide +kernel
theorem dX5_placeOf_16 : decode cX5_placeOf 16 = .ok (.iload_n 1, 1) := by decide +kernel
theorem dX5_placeOf_17 : decode cX5_placeOf 17 = .ok (.if_icmp .ne 5, 3) := by decide +kernel
theorem dX5_placeOf_20 : decode cX5_placeOf 20 = .ok (.iload_n 2, 1) := by decide +kernel
theorem dX5_placeOf_21 : decode cX5_placeOf 21 = .ok (.ireturn, 1) := by decide +kernel
theorem dX5_placeOf_22 : decode cX5_placeOf 22 = .ok (.iinc 2 1, 3) := by decide +kernel
theorem dX5_placeOf_25 : decode cX5_placeOf 25 = .ok (.goto (-23), 3) := by decide +kernel
theorem dX5_placeOf_28 : decode cX5_placeOf 28 = .ok (.iconst (-1), 1) := by decide +kernel
theorem dX5_placeOf_29 : decode cX5_placeOf 29 = .ok (.ireturn, 1) := by decide +kernel
theorem dX5_allWorks_0 : decode cX5_allWorks 0 = .ok (.iconst 0, 1) := by decide +kernel
theorem dX5_allWorks_1 : decode cX5_allWorks 1 = .ok (.istore_n 1, 1) := by decide +kernel
theorem dX5_allWorks_2 : decode cX5_allWorks 2 = .ok (.iconst 0, 1) := by decide +kernel
theorem dX5_allWorks_3 : decode cX5_allWorks 3 = .ok (.istore_n 2, 1) := by decide +kernel
theorem dX5_allWorks_4 : decode cX5_allWorks 4 = .ok (.iload_n 2, 1) := by decide +kernel
theorem dX5_allWorks_5 : decode cX5_allWorks 5 = .ok (.aload_n 0, 1) := by decide +kernel
theorem dX5_allWorks_6 : decode cX5_allWorks 6 = .ok (.getfield 36, 3) := by decide +kernel
theorem dX5_allWorks_9 : decode cX5_allWorks 9 = .ok (.if_icmp .ge 20, 3) := by decide +kernel
theorem dX5_allWorks_12 : decode cX5_allWorks 12 = .ok (.iload_n 1, 1) := by decide +kernel
theorem dX5_allWorks_13 : decode cX5_allWorks 13 = .ok (.iconst 1, 1) := by decide +kernel
theorem dX5_allWorks_14 : decode cX5_allWorks 14 = .ok (.aload_n 0, 1) := by decide +kernel
theorem dX5_allWorks_15 : decode cX5_allWorks 15 = .ok (.getfield 18, 3) := by decide +kernel
theorem dX5_allWorks_18 : decode cX5_allWorks 18 = .ok (.iload_n 2, 1) := by decide +kernel
theorem dX5_allWorks_19 : decode cX5_allWorks 19 = .ok (.iaload, 1) := by decide +kernel
theorem dX5_allWorks_20 : decode cX5_allWorks 20 = .ok (.ishl, 1) := by decide +kernel
theorem dX5_allWorks_21 : decode cX5_allWorks 21 = .ok (.ior, 1) := by decide +kernel
theorem dX5_allWorks_22 : decode cX5_allWorks 22 = .ok (.istore_n 1, 1) := by decide +kernel
theorem dX5_allWorks_23 : decode cX5_allWorks 23 = .ok (.iinc 2 1, 3) := by decide +kernel
theorem dX5_allWorks_26 : decode cX5_allWorks 26 = .ok (.goto (-22), 3) := by decide +kernel
theorem dX5_allWorks_29 : decode cX5_allWorks 29 = .ok (.iload_n 1, 1) := by decide +kernel
theorem dX5_allWorks_30 : decode cX5_allWorks 30 = .ok (.ireturn, 1) := by decide +kernel
theorem dX5_append_0 : decode cX5_append 0 = .ok (.aload_n 0, 1) := by decide +kernel
theorem dX5_append_1 : decode cX5_append 1 = .ok (.getfield 36, 3) := by decide +kernel
theorem dX5_append_4 : decode cX5_append 4 = .ok (.bipush 6, 2) := by decide +kernel
theorem dX5_append_6 : decode cX5_append 6 = .ok (.if_icmp .ge 23, 3) := by decide +kernel
theorem dX5_append_9 : decode cX5_append 9 = .ok (.aload_n 0, 1) := by decide +kernel
theorem dX5_append_10 : decode cX5_append 10 = .ok (.getfield 18, 3) := by decide +kernel
theorem dX5_append_13 : decode cX5_append 13 = .ok (.aload_n 0, 1) := by decide +kernel
theorem dX5_append_14 : decode cX5_append 14 = .ok (.getfield 36, 3) := by decide +kernel
theorem dX5_append_17 : decode cX5_append 17 = .ok (.iload_n 1, 1) := by decide +kernel
theorem dX5_append_18 : decode cX5_append 18 = .ok (.iastore, 1) := by decide +kernel
theorem dX5_append_19 : decode cX5_append 19 = .ok (.aload_n 0, 1) := by decide +kernel
theorem dX5_append_20 : decode cX5_append 20 = .ok (.dup, 1) := by decide +kernel
theorem dX5_append_21 : decode cX5_append 21 = .ok (.getfield 36, 3) := by decide +kernel
theorem dX5_append_24 : decode cX5_append 24 = .ok (.iconst 1, 1) := by decide +kernel
theorem dX5_append_25 : decode cX5_append 25 = .ok (.iadd, 1) := by decide +kernel
theorem dX5_append_26 : decode cX5_append 26 = .ok (.putfield 36, 3) := by decide +kernel
theorem dX5_append_29 : decode cX5_append 29 = .ok (.return_, 1) := by decide +kernel
theorem dX5_takeOut_0 : decode cX5_takeOut 0 = .ok (.iload_n 1, 1) := by decide +kernel
theorem dX5_takeOut_1 : decode cX5_takeOut 1 = .ok (.iconst 1, 1) := by decide +kernel
theorem dX5_takeOut_2 : decode cX5_takeOut 2 = .ok (.iadd, 1) := by decide +kernel
theorem dX5_takeOut_3 : decode cX5_takeOut 3 = .ok (.istore_n 2, 1) := by decide +kernel
theorem dX5_takeOut_4 : decode cX5_takeOut 4 = .ok (.iload_n 2, 1) := by decide +kernel
theorem dX5_takeOut_5 : decode cX5_takeOut 5 = .ok (.aload_n 0, 1) := by decide +kernel
theorem dX5_takeOut_6 : decode cX5_takeOut 6 = .ok (.getfield 36, 3) := by decide +kernel
theorem dX5_takeOut_9 : decode cX5_takeOut 9 = .ok (.if_icmp .ge 23, 3) := by decide +kernel
theorem dX5_takeOut_12 : decode cX5_takeOut 12 = .ok (.aload_n 0, 1) := by decide +kernel
theorem dX5_takeOut_13 : decode cX5_takeOut 13 = .ok (.getfield 18, 3) := by decide +kernel
theorem dX5_takeOut_16 : decode cX5_takeOut 16 = .ok (.iload_n 2, 1) := by decide +kernel
theorem dX5_takeOut_17 : decode cX5_takeOut 17 = .ok (.iconst 1, 1) := by decide +kernel
theorem dX5_takeOut_18 : decode cX5_takeOut 18 = .ok (.isub, 1) := by decide +kernel
theorem dX5_takeOut_19 : decode cX5_takeOut 19 = .ok (.aload_n 0, 1) := by decide +kernel
theorem dX5_takeOut_20 : decode cX5_takeOut 20 = .ok (.getfield 18, 3) := by decide +kernel
theorem dX5_takeOut_23 : decode cX5_takeOut 23 = .ok (.iload_n 2, 1) := by decide +kernel
theorem dX5_takeOut_24 : decode cX5_takeOut 24 = .ok (.iaload, 1) := by decide +kernel
theorem dX5_takeOut_25 : decode cX5_takeOut 25 = .ok (.iastore, 1) := by decide +kernel
theorem dX5_takeOut_26 : decode cX5_takeOut 26 = .ok (.iinc 2 1, 3) := by decide +kernel
theorem dX5_takeOut_29 : decode cX5_takeOut 29 = .ok (.goto (-25), 3) := by decide +kernel
theorem dX5_takeOut_32 : decode cX5_takeOut 32 = .ok (.aload_n 0, 1) := by decide +kernel
theorem dX5_takeOut_33 : decode cX5_takeOut 33 = .ok (.dup, 1) := by decide +kernel
theorem dX5_takeOut_34 : decode cX5_takeOut 34 = .ok (.getfield 36, 3) := by decide +kernel
theorem dX5_takeOut_37 : decode cX5_takeOut 37 = .ok (.iconst 1, 1) := by decide +kernel
theorem dX5_takeOut_38 : decode cX5_takeOut 38 = .ok (.isub, 1) := by decide +kernel
theorem dX5_takeOut_39 : decode cX5_takeOut 39 = .ok (.putfield 36, 3) := by decide +kernel
theorem dX5_takeOut_42 : decode cX5_takeOut 42 = .ok (.return_, 1) := by decide +kernel
theorem dX5_isNear_0 : decode cX5_isNear 0 = .ok (.aload_n 0, 1) := by decide +kernel
theorem dX5_isNear_1 : decode cX5_isNear 1 = .ok (.getfield 39, 3) := by decide +kernel
theorem dX5_isNear_4 : decode cX5_isNear 4 = .ok (.iload_n 1, 1) := by decide +kernel
theorem dX5_isNear_5 : decode cX5_isNear 5 = .ok (.if_icmp .ne 29, 3) := by decide +kernel
theorem dX5_isNear_8 : decode cX5_isNear 8 = .ok (.iload_n 2, 1) := by decide +kernel
theorem dX5_isNear_9 : decode cX5_isNear 9 = .ok (.aload_n 0, 1) := by decide +kernel
theorem dX5_isNear_10 : decode cX5_isNear 10 = .ok (.getfield 26, 3) := by decide +kernel
theorem dX5_isNear_13 : decode cX5_isNear 13 = .ok (.iload 4, 2) := by decide +kernel
theorem dX5_isNear_15 : decode cX5_isNear 15 = .ok (.iadd, 1) := by decide +kernel
theorem dX5_isNear_16 : decode cX5_isNear 16 = .ok (.if_icmp .ge 18, 3) := by decide +kernel
theorem dX5_isNear_19 : decode cX5_isNear 19 = .ok (.aload_n 0, 1) := by decide +kernel
theorem dX5_isNear_20 : decode cX5_isNear 20 = .ok (.getfield 29, 3) := by decide +kernel
theorem dX5_isNear_23 : decode cX5_isNear 23 = .ok (.iload_n 3, 1) := by decide +kernel
theorem dX5_isNear_24 : decode cX5_isNear 24 = .ok (.iload 4, 2) := by decide +kernel
theorem dX5_isNear_26 : decode cX5_isNear 26 = .ok (.iadd, 1) := by decide +kernel
theorem dX5_isNear_27 : decode cX5_isNear 27 = .ok (.if_icmp .ge 7, 3) := by decide +kernel
theorem dX5_isNear_30 : decode cX5_isNear 30 = .ok (.iconst 1, 1) := by decide +kernel
theorem dX5_isNear_31 : decode cX5_isNear 31 = .ok (.goto 4, 3) := by decide +kernel
theorem dX5_isNear_34 : decode cX5_isNear 34 = .ok (.iconst 0, 1) := by decide +kernel
theorem dX5_isNear_35 : decode cX5_isNear 35 = .ok (.ireturn, 1) := by decide +kernel
set_option maxRecDepth 20000 in
theorem ggX5_leavesRestTo_X5_isNear : GoodIn wsX5_leavesRestTo wsX5_isNear := goodIn_r _ [8, 1, 2, 3, 9, 10, 11, 12, 13, 14, 15, 16, 17, 18, 19, 20, 21, 22, 23] (by decide +kernel) (by decide +kernel)
set_option maxRecDepth 20000 in
theorem gX5_leavesRestTo_X5_isNear : GoodIn wsX5_leavesRestTo (wsV RX5 42 RX5 yX5_isNear wsX5_isNear) := goodIn_app (goodIn_of _ (by decide +kernel)) ggX5_leavesRestTo_X5_isNear
theorem dX5_leavesRestTo_0 : decode cX5_leavesRestTo 0 = .ok (.aload_n 1, 1) := by decide +kernel
theorem dX5_leavesRestTo_1 : decode cX5_leavesRestTo 1 = .ok (.getfield 39, 3) := by decide +kernel
theorem dX5_leavesRestTo_4 : decode cX5_leavesRestTo 4 = .ok (.aload_n 0, 1) := by decide +kernel
theorem dX5_leavesRestTo_5 : decode cX5_leavesRestTo 5 = .ok (.getfield 39, 3) := by decide +kernel
theorem dX5_leavesRestTo_8 : decode cX5_leavesRestTo 8 = .ok (.iconst 1, 1) := by decide +kernel
theorem dX5_leavesRestTo_9 : decode cX5_leavesRestTo 9 = .ok (.iadd, 1) := by decide +kernel
theorem dX5_leavesRestTo_10 : decode cX5_leavesRestTo 10 = .ok (.if_icmp .ne 26, 3) := by decide +kernel
theorem dX5_leavesRestTo_13 : decode cX5_leavesRestTo 13 = .ok (.bipush 96, 2) := by decide +kernel
theorem dX5_leavesRestTo_15 : decode cX5_leavesRestTo 15 = .ok (.aload_n 0, 1) := by decide +kernel
theorem dX5_leavesRestTo_16 : decode cX5_leavesRestTo 16 = .ok (.getfield 26, 3) := by decide +kernel
theorem dX5_leavesRestTo_19 : decode cX5_leavesRestTo 19 = .ok (.isub, 1) := by decide +kernel
theorem dX5_leavesRestTo_20 : decode cX5_leavesRestTo 20 = .ok (.aload_n 1, 1) := by decide +kernel
theorem dX5_leavesRestTo_21 : decode cX5_leavesRestTo 21 = .ok (.getfield 29, 3) := by decide +kernel
theorem dX5_leavesRestTo_24 : decode cX5_leavesRestTo 24 = .ok (.iadd, 1) := by decide +kernel
theorem dX5_leavesRestTo_25 : decode cX5_leavesRestTo 25 = .ok (.bipush 44, 2) := by decide +kernel
theorem dX5_leavesRestTo_27 : decode cX5_leavesRestTo 27 = .ok (.if_icmp .lt 7, 3) := by decide +kernel
theorem dX5_leavesRestTo_30 : decode cX5_leavesRestTo 30 = .ok (.iconst 1, 1) := by decide +kernel
theorem dX5_leavesRestTo_31 : decode cX5_leavesRestTo 31 = .ok (.goto 4, 3) := by decide +kernel
theorem dX5_leavesRestTo_34 : decode cX5_leavesRestTo 34 = .ok (.iconst 0, 1) := by decide +kernel
theorem dX5_leavesRestTo_35 : decode cX5_leavesRestTo 35 = .ok (.ireturn, 1) := by decide +kernel
theorem dX5_leavesRestTo_36 : decode cX5_leavesRestTo 36 = .ok (.aload_n 0, 1) := by decide +kernel
theorem dX5_leavesRestTo_37 : decode cX5_leavesRestTo 37 = .ok (.aload_n 1, 1) := by decide +kernel
theorem dX5_leavesRestTo_38 : decode cX5_leavesRestTo 38 = .ok (.getfield 39, 3) := by decide +kernel
theorem dX5_leavesRestTo_41 : decode cX5_leavesRestTo 41 = .ok (.aload_n 1, 1) := by decide +kernel
theorem dX5_leavesRestTo_42 : decode cX5_leavesRestTo 42 = .ok (.getfield 29, 3) := by decide +kernel
theorem dX5_leavesRestTo_45 : decode cX5_leavesRestTo 45 = .ok (.aload_n 1, 1) := by decide +kernel
theorem dX5_leavesRestTo_46 : decode cX5_leavesRestTo 46 = .ok (.getfield 26, 3) := by decide +kernel
theorem dX5_leavesRestTo_49 : decode cX5_leavesRestTo 49 = .ok (.iconst 2, 1) := by decide +kernel
theorem dX5_leavesRestTo_50 : decode cX5_leavesRestTo 50 = .ok (.invokevirtual 42, 3) := by decide +kernel
theorem dX5_leavesRestTo_53 : decode cX5_leavesRestTo 53 = .ok (.ifCond .ne 7, 3) := by decide +kernel
theorem dX5_leavesRestTo_56 : decode cX5_leavesRestTo 56 = .ok (.iconst 1, 1) := by decide +kernel
theorem dX5_leavesRestTo_57 : decode cX5_leavesRestTo 57 = .ok (.goto 4, 3) := by decide +kernel
theorem dX5_leavesRestTo_60 : decode cX5_leavesRestTo 60 = .ok (.iconst 0, 1) := by decide +kernel
theorem dX5_leavesRestTo_61 : decode cX5_leavesRestTo 61 = .ok (.ireturn, 1) := by decide +kernel
theorem dX5_dropCasts_0 : decode cX5_dropCasts 0 = .ok (.aload_n 0, 1) := by decide +kernel
theorem dX5_dropCasts_1 : decode cX5_dropCasts 1 = .ok (.iconst 0, 1) := by decide +kernel
theorem dX5_dropCasts_2 : decode cX5_dropCasts 2 = .ok (.putfield 46, 3) := by decide +kernel
theorem dX5_dropCasts_5 : decode cX5_dropCasts 5 = .ok (.aload_n 0, 1) := by decide +kernel
theorem dX5_dropCasts_6 : decode cX5_dropCasts 6 = .ok (.iconst 0, 1) := by decide +kernel
theorem dX5_dropCasts_7 : decode cX5_dropCasts 7 = .ok (.putfield 49, 3) := by decide +kernel
theorem dX5_dropCasts_10 : decode cX5_dropCasts 10 = .ok (.return_, 1) := by decide +kernel
set_option maxRecDepth 20000 in
theorem ggX5_putCast_X1_playersOf : GoodIn wsX5_putCast wsX1_playersOf := goodIn_r _ [7, 8, 9, 6, 10, 11, 12, 13] (by decide +kernel) (by decide +kernel)
set_option maxRecDepth 20000 in
theorem gX5_putCast_X1_playersOf_n52 : GoodIn wsX5_putCast (wsX1_playersOf) := ggX5_putCast_X1_playersOf
theorem dX5_putCast_0 : decode cX5_putCast 0 = .ok (.aload_n 0, 1) := by decide +kernel
theorem dX5_putCast_1 : decode cX5_putCast 1 = .ok (.getfield 22, 3) := by decide +kernel
theorem dX5_putCast_4 : decode cX5_putCast 4 = .ok (.iload_n 1, 1) := by decide +kernel
theorem dX5_putCast_5 : decode cX5_putCast 5 = .ok (.lload_n 2, 1) := by decide +kernel
theorem dX5_putCast_6 : decode cX5_putCast 6 = .ok (.lastore, 1) := by decide +kernel
theorem dX5_putCast_7 : decode cX5_putCast 7 = .ok (.aload_n 0, 1) := by decide +kernel
theorem dX5_putCast_8 : decode cX5_putCast 8 = .ok (.dup, 1) := by decide +kernel
theorem dX5_putCast_9 : decode cX5_putCast 9 = .ok (.getfield 46, 3) := by decide +kernel
theorem dX5_putCast_12 : decode cX5_putCast 12 = .ok (.iconst 1, 1) := by decide +kernel
theorem dX5_putCast_13 : decode cX5_putCast 13 = .ok (.aload_n 0, 1) := by decide +kernel
theorem dX5_putCast_14 : decode cX5_putCast 14 = .ok (.getfield 18, 3) := by decide +kernel
theorem dX5_putCast_17 : decode cX5_putCast 17 = .ok (.iload_n 1, 1) := by decide +kernel
theorem dX5_putCast_18 : decode cX5_putCast 18 = .ok (.iaload, 1) := by decide +kernel
theorem dX5_putCast_19 : decode cX5_putCast 19 = .ok (.ishl, 1) := by decide +kernel
theorem dX5_putCast_20 : decode cX5_putCast 20 = .ok (.ior, 1) := by decide +kernel
theorem dX5_putCast_21 : decode cX5_putCast 21 = .ok (.putfield 46, 3) := by decide +kernel
theorem dX5_putCast_24 : decode cX5_putCast 24 = .ok (.aload_n 0, 1) := by decide +kernel
theorem dX5_putCast_25 : decode cX5_putCast 25 = .ok (.dup, 1) := by decide +kernel
theorem dX5_putCast_26 : decode cX5_putCast 26 = .ok (.getfield 49, 3) := by decide +kernel
theorem dX5_putCast_29 : decode cX5_putCast 29 = .ok (.lload_n 2, 1) := by decide +kernel
theorem dX5_putCast_30 : decode cX5_putCast 30 = .ok (.iload 4, 2) := by decide +kernel
theorem dX5_putCast_32 : decode cX5_putCast 32 = .ok (.invokestatic 52, 3) := by decide +kernel
theorem dX5_putCast_35 : decode cX5_putCast 35 = .ok (.ior, 1) := by decide +kernel
theorem dX5_putCast_36 : decode cX5_putCast 36 = .ok (.putfield 49, 3) := by decide +kernel
theorem dX5_putCast_39 : decode cX5_putCast 39 = .ok (.return_, 1) := by decide +kernel
theorem dX6_init_0 : decode cX6_init 0 = .ok (.aload_n 0, 1) := by decide +kernel
theorem dX6_init_1 : decode cX6_init 1 = .ok (.invokespecial 3, 3) := by decide +kernel
theorem dX6_init_4 : decode cX6_init 4 = .ok (.aload_n 0, 1) := by decide +kernel
theorem dX6_init_5 : decode cX6_init 5 = .ok (.bipush 6, 2) := by decide +kernel
theorem dX6_init_7 : decode cX6_init 7 = .ok (.newarray .int, 2) := by decide +kernel
theorem dX6_init_9 : decode cX6_init 9 = .ok (.putfield 9, 3) := by decide +kernel
theorem dX6_init_12 : decode cX6_init 12 = .ok (.aload_n 0, 1) := by decide +kernel
theorem dX6_init_13 : decode cX6_init 13 = .ok (.bipush 6, 2) := by decide +kernel
theorem dX6_init_15 : decode cX6_init 15 = .ok (.newarray .int, 2) := by decide +kernel
theorem dX6_init_17 : decode cX6_init 17 = .ok (.putfield 15, 3) := by decide +kernel
theorem dX6_init_20 : decode cX6_init 20 = .ok (.aload_n 0, 1) := by decide +kernel
theorem dX6_init_21 : decode cX6_init 21 = .ok (.bipush 6, 2) := by decide +kernel
theorem dX6_init_23 : decode cX6_init 23 = .ok (.newarray .int, 2) := by decide +kernel
theorem dX6_init_25 : decode cX6_init 25 = .ok (.putfield 18, 3) := by decide +kernel
theorem dX6_init_28 : decode cX6_init 28 = .ok (.return_, 1) := by decide +kernel
theorem dX6_noteHire_0 : decode cX6_noteHire 0 = .ok (.aload_n 0, 1) := by decide +kernel
theorem dX6_noteHire_1 : decode cX6_noteHire 1 = .ok (.getfield 21, 3) := by decide +kernel
theorem dX6_noteHire_4 : decode cX6_noteHire 4 = .ok (.bipush 6, 2) := by decide +kernel
theorem dX6_noteHire_6 : decode cX6_noteHire 6 = .ok (.if_icmp .ge 33, 3) := by decide +kernel
theorem dX6_noteHire_9 : decode cX6_noteHire 9 = .ok (.aload_n 0, 1) := by decide +kernel
theorem dX6_noteHire_10 : decode cX6_noteHire 10 = .ok (.getfield 15, 3) := by decide +kernel
theorem dX6_noteHire_13 : decode cX6_noteHire 13 = .ok (.aload_n 0, 1) := by decide +kernel
theorem dX6_noteHire_14 : decode cX6_noteHire 14 = .ok (.getfield 21, 3) := by decide +kernel
theorem dX6_noteHire_17 : decode cX6_noteHire 17 = .ok (.iload_n 1, 1) := by decide +kernel
theorem dX6_noteHire_18 : decode cX6_noteHire 18 = .ok (.iastore, 1) := by decide +kernel
theorem dX6_noteHire_19 : decode cX6_noteHire 19 = .ok (.aload_n 0, 1) := by decide +kernel
theorem dX6_noteHire_20 : decode cX6_noteHire 20 = .ok (.getfield 18, 3) := by decide +kernel
theorem dX6_noteHire_23 : decode cX6_noteHire 23 = .ok (.aload_n 0, 1) := by decide +kernel
theorem dX6_noteHire_24 : decode cX6_noteHire 24 = .ok (.getfield 21, 3) := by decide +kernel
theorem dX6_noteHire_27 : decode cX6_noteHire 27 = .ok (.iload_n 2, 1) := by decide +kernel
theorem dX6_noteHire_28 : decode cX6_noteHire 28 = .ok (.iastore, 1) := by decide +kernel
theorem dX6_noteHire_29 : decode cX6_noteHire 29 = .ok (.aload_n 0, 1) := by decide +kernel
theorem dX6_noteHire_30 : decode cX6_noteHire 30 = .ok (.dup, 1) := by decide +kernel
theorem dX6_noteHire_31 : decode cX6_noteHire 31 = .ok (.getfield 21, 3) := by decide +kernel
theorem dX6_noteHire_34 : decode cX6_noteHire 34 = .ok (.iconst 1, 1) := by decide +kernel
theorem dX6_noteHire_35 : decode cX6_noteHire 35 = .ok (.iadd, 1) := by decide +kernel
theorem dX6_noteHire_36 : decode cX6_noteHire 36 = .ok (.putfield 21, 3) := by decide +kernel
theorem dX6_noteHire_39 : decode cX6_noteHire 39 = .ok (.return_, 1) := by decide +kernel
theorem dX6_hasScoreOn_0 : decode cX6_hasScoreOn 0 = .ok (.iconst 0, 1) := by decide +kernel
theorem dX6_hasScoreOn_1 : decode cX6_hasScoreOn 1 = .ok (.istore_n 2, 1) := by decide +kernel
theorem dX6_hasScoreOn_2 : decode cX6_hasScoreOn 2 = .ok (.iload_n 2, 1) := by decide +kernel
theorem dX6_hasScoreOn_3 : decode cX6_hasScoreOn 3 = .ok (.aload_n 0, 1) := by decide +kernel
theorem dX6_hasScoreOn_4 : decode cX6_hasScoreOn 4 = .ok (.getfield 21, 3) := by decide +kernel
theorem dX6_hasScoreOn_7 : decode cX6_hasScoreOn 7 = .ok (.if_icmp .ge 31, 3) := by decide +kernel
theorem dX6_hasScoreOn_10 : decode cX6_hasScoreOn 10 = .ok (.iload_n 1, 1) := by decide +kernel
theorem dX6_hasScoreOn_11 : decode cX6_hasScoreOn 11 = .ok (.aload_n 0, 1) := by decide +kernel
theorem dX6_hasScoreOn_12 : decode cX6_hasScoreOn 12 = .ok (.getfield 15, 3) := by decide +kernel
theorem dX6_hasScoreOn_15 : decode cX6_hasScoreOn 15 = .ok (.iload_n 2, 1) := by decide +kernel
theorem dX6_hasScoreOn_16 : decode cX6_hasScoreOn 16 = .ok (.iaload, 1) := by decide +kernel
theorem dX6_hasScoreOn_17 : decode cX6_hasScoreOn 17 = .ok (.if_icmp .lt 15, 3) := by decide +kernel
theorem dX6_hasScoreOn_20 : decode cX6_hasScoreOn 20 = .ok (.iload_n 1, 1) := by decide +kernel
theorem dX6_hasScoreOn_21 : decode cX6_hasScoreOn 21 = .ok (.aload_n 0, 1) := by decide +kernel
theorem dX6_hasScoreOn_22 : decode cX6_hasScoreOn 22 = .ok (.getfield 18, 3) := by decide +kernel
theorem dX6_hasScoreOn_25 : decode cX6_hasScoreOn 25 = .ok (.iload_n 2, 1) := by decide +kernel
theorem dX6_hasScoreOn_26 : decode cX6_hasScoreOn 26 = .ok (.iaload, 1) := by decide +kernel
theorem dX6_hasScoreOn_27 : decode cX6_hasScoreOn 27 = .ok (.if_icmp .ge 5, 3) := by decide +kernel
theorem dX6_hasScoreOn_30 : decode cX6_hasScoreOn 30 = .ok (.iconst 1, 1) := by decide +kernel
theorem dX6_hasScoreOn_31 : decode cX6_hasScoreOn 31 = .ok (.ireturn, 1) := by decide +kernel
theorem dX6_hasScoreOn_32 : decode cX6_hasScoreOn 32 = .ok (.iinc 2 1, 3) := by decide +kernel
theorem dX6_hasScoreOn_35 : decode cX6_hasScoreOn 35 = .ok (.goto (-33), 3) := by decide +kernel
theorem dX6_hasScoreOn_38 : decode cX6_hasScoreOn 38 = .ok (.aload_n 0, 1) := by decide +kernel
theorem dX6_hasScoreOn_39 : decode cX6_hasScoreOn 39 = .ok (.getfield 25, 3) := by decide +kernel
theorem dX6_hasScoreOn_42 : decode cX6_hasScoreOn 42 = .ok (.ireturn, 1) := by decide +kernel
theorem dX6_instrumentOf_0 : decode cX6_instrumentOf 0 = .ok (.iconst 0, 1) := by decide +kernel
theorem dX6_instrumentOf_1 : decode cX6_instrumentOf 1 = .ok (.istore_n 2, 1) := by decide +kernel
theorem dX6_instrumentOf_2 : decode cX6_instrumentOf 2 = .ok (.iconst 0, 1) := by decide +kernel
theorem dX6_instrumentOf_3 : decode cX6_instrumentOf 3 = .ok (.istore_n 3, 1) := by decide +kernel
theorem dX6_instrumentOf_4 : decode cX6_instrumentOf 4 = .ok (.iload_n 3, 1) := by decide +kernel
theorem dX6_instrumentOf_5 : decode cX6_instrumentOf 5 = .ok (.bipush 6, 2) := by decide +kernel
theorem dX6_instrumentOf_7 : decode cX6_instrumentOf 7 = .ok (.if_icmp .ge 25, 3) := by decide +kernel
theorem dX6_instrumentOf_10 : decode cX6_instrumentOf 10 = .ok (.iload_n 2, 1) := by decide +kernel
theorem dX6_instrumentOf_11 : decode cX6_instrumentOf 11 = .ok (.aload_n 0, 1) := by decide +kernel
theorem dX6_instrumentOf_12 : decode cX6_instrumentOf 12 = .ok (.getfield 9, 3) := by decide +kernel
theorem dX6_instrumentOf_15 : decode cX6_instrumentOf 15 = .ok (.iload_n 3, 1) := by decide +kernel
theorem dX6_instrumentOf_16 : decode cX6_instrumentOf 16 = .ok (.iaload, 1) := by decide +kernel
theorem dX6_instrumentOf_17 : decode cX6_instrumentOf 17 = .ok (.iadd, 1) := by decide +kernel
theorem dX6_instrumentOf_18 : decode cX6_instrumentOf 18 = .ok (.istore_n 2, 1) := by decide +kernel
theorem dX6_instrumentOf_19 : decode cX6_instrumentOf 19 = .ok (.iload_n 1, 1) := by decide +kernel
theorem dX6_instrumentOf_20 : decode cX6_instrumentOf 20 = .ok (.iload_n 2, 1) := by decide +kernel
theorem dX6_instrumentOf_21 : decode cX6_instrumentOf 21 = .ok (.if_icmp .ge 5, 3) := by decide +kernel
theorem dX6_instrumentOf_24 : decode cX6_instrumentOf 24 = .ok (.iload_n 3, 1) := by decide +kernel
theorem dX6_instrumentOf_25 : decode cX6_instrumentOf 25 = .ok (.ireturn, 1) := by decide +kernel
theorem dX6_instrumentOf_26 : decode cX6_instrumentOf 26 = .ok (.iinc 3 1, 3) := by decide +kernel
theorem dX6_instrumentOf_29 : decode cX6_instrumentOf 29 = .ok (.goto (-25), 3) := by decide +kernel
theorem dX6_instrumentOf_32 : decode cX6_instrumentOf 32 = .ok (.iconst (-1), 1) := by decide +kernel
theorem dX6_instrumentOf_33 : decode cX6_instrumentOf 33 = .ok (.ireturn, 1) := by decide +kernel
set_option maxRecDepth 20000 in
theorem ggX7_init_X1_init : GoodIn wsX7_init wsX1_init := goodIn_r _ [33, 34, 2, 3, 35, 36, 37, 38, 39, 40, 41, 42, 88, 89, 90, 91, 92, 93, 94] (by decide +kernel) (by decide +kernel)
set_option maxRecDepth 20000 in
theorem gX7_init_X1_init_n41 : GoodIn wsX7_init (wsX1_init) := ggX7_init_X1_init
set_option maxRecDepth 20000 in
theorem ggX7_init_X0_init : GoodIn wsX7_init wsX0_init := goodIn_r _ [44, 45, 2, 3, 35, 46, 47, 48, 49, 95, 96, 97, 98, 99] (by decide +kernel) (by decide +kernel)
set_option maxRecDepth 20000 in
theorem gX7_init_X0_init_n48 : GoodIn wsX7_init (wsX0_init) := ggX7_init_X0_init
set_option maxRecDepth 20000 in
theorem ggX7_init_X6_init : GoodIn wsX7_init wsX6_init := goodIn_r _ [51, 52, 2, 3, 35, 53, 54, 55, 100, 101, 102, 103, 104, 105, 106, 107, 108] (by decide +kernel) (by decide +kernel)
set_option maxRecDepth 20000 in
theorem gX7_init_X6_init_n53 : GoodIn wsX7_init (wsX6_init) := ggX7_init_X6_init
set_option maxRecDepth 20000 in
theorem ggX7_init_X4_init : GoodIn wsX7_init wsX4_init := goodIn_r _ [57, 58, 2, 3, 35, 59, 60, 109, 110, 111, 112, 113, 114, 115] (by decide +kernel) (by decide +kernel)
set_option maxRecDepth 20000 in
theorem gX7_init_X4_init_n54 : GoodIn wsX7_init (wsX4_init) := ggX7_init_X4_init
set_option maxRecDepth 20000 in
theorem ggX7_init_X3_init : GoodIn wsX7_init wsX3_init := goodIn_r _ [62, 63, 2, 3, 35, 64, 116, 117, 118] (by decide +kernel) (by decide +kernel)
set_option maxRecDepth 20000 in
theorem gX7_init_X3_init_n55 : GoodIn wsX7_init (wsX3_init) := ggX7_init_X3_init
set_option maxRecDepth 20000 in
theorem ggX7_init_X5_init : GoodIn wsX7_init wsX5_init := goodIn_r _ [66, 67, 2, 3, 68, 69, 35, 70, 37, 71, 119, 120, 121, 122, 123, 124, 125, 126, 127, 128, 129, 130, 131, 132, 133] (by decide +kernel) (by decide +kernel)
set_option maxRecDepth 20000 in
theorem gX7_init_X5_init_n56 : GoodIn wsX7_init (wsX5_init) := ggX7_init_X5_init
set_option maxRecDepth 20000 in
theorem ggX7_init_X2_init : GoodIn wsX7_init wsX2_init := goodIn_r _ [73, 74, 2, 3, 35, 75, 134, 135, 136, 137] (by decide +kernel) (by decide +kernel)
set_option maxRecDepth 20000 in
theorem gX7_init_X2_init_n57 : GoodIn wsX7_init (wsX2_init) := ggX7_init_X2_init
theorem dX7_init_0 : decode cX7_init 0 = .ok (.aload_n 0, 1) := by decide +kernel
theorem dX7_init_1 : decode cX7_init 1 = .ok (.invokespecial 1, 3) := by decide +kernel
theorem dX7_init_4 : decode cX7_init 4 = .ok (.aload_n 0, 1) := by decide +kernel
theorem dX7_init_5 : decode cX7_init 5 = .ok (.bipush 12, 2) := by decide +kernel
theorem dX7_init_7 : decode cX7_init 7 = .ok (.anewarray 9, 3) := by decide +kernel
theorem dX7_init_10 : decode cX7_init 10 = .ok (.putfield 11, 3) := by decide +kernel
theorem dX7_init_13 : decode cX7_init 13 = .ok (.aload_n 0, 1) := by decide +kernel
theorem dX7_init_14 : decode cX7_init 14 = .ok (.bipush 14, 2) := by decide +kernel
theorem dX7_init_16 : decode cX7_init 16 = .ok (.anewarray 15, 3) := by decide +kernel
theorem dX7_init_19 : decode cX7_init 19 = .ok (.putfield 17, 3) := by decide +kernel
theorem dX7_init_22 : decode cX7_init 22 = .ok (.aload_n 0, 1) := by decide +kernel
theorem dX7_init_23 : decode cX7_init 23 = .ok (.iconst 4, 1) := by decide +kernel
theorem dX7_init_24 : decode cX7_init 24 = .ok (.anewarray 21, 3) := by decide +kernel
theorem dX7_init_27 : decode cX7_init 27 = .ok (.putfield 23, 3) := by decide +kernel
theorem dX7_init_30 : decode cX7_init 30 = .ok (.aload_n 0, 1) := by decide +kernel
theorem dX7_init_31 : decode cX7_init 31 = .ok (.bipush 30, 2) := by decide +kernel
theorem dX7_init_33 : decode cX7_init 33 = .ok (.anewarray 27, 3) := by decide +kernel
theorem dX7_init_36 : decode cX7_init 36 = .ok (.putfield 29, 3) := by decide +kernel
theorem dX7_init_39 : decode cX7_init 39 = .ok (.aload_n 0, 1) := by decide +kernel
theorem dX7_init_40 : decode cX7_init 40 = .ok (.iconst 5, 1) := by decide +kernel
theorem dX7_init_41 : decode cX7_init 41 = .ok (.anewarray 33, 3) := by decide +kernel
theorem dX7_init_44 : decode cX7_init 44 = .ok (.putfield 35, 3) := by decide +kernel
theorem dX7_init_47 : decode cX7_init 47 = .ok (.aload_n 0, 1) := by decide +kernel
theorem dX7_init_48 : decode cX7_init 48 = .ok (.new 39, 3) := by decide +kernel
theorem dX7_init_51 : decode cX7_init 51 = .ok (.dup, 1) := by decide +kernel
theorem dX7_init_52 : decode cX7_init 52 = .ok (.invokespecial 41, 3) := by decide +kernel
theorem dX7_init_55 : decode cX7_init 55 = .ok (.putfield 42, 3) := by decide +kernel
theorem dX7_init_58 : decode cX7_init 58 = .ok (.aload_n 0, 1) := by decide +kernel
theorem dX7_init_59 : decode cX7_init 59 = .ok (.new 46, 3) := by decide +kernel
theorem dX7_init_62 : decode cX7_init 62 = .ok (.dup, 1) := by decide +kernel
theorem dX7_init_63 : decode cX7_init 63 = .ok (.invokespecial 48, 3) := by decide +kernel
theorem dX7_init_66 : decode cX7_init 66 = .ok (.putfield 49, 3) := by decide +kernel
theorem dX7_init_69 : decode cX7_init 69 = .ok (.iconst 0, 1) := by decide +kernel
theorem dX7_init_70 : decode cX7_init 70 = .ok (.istore_n 1, 1) := by decide +kernel
theorem dX7_init_71 : decode cX7_init 71 = .ok (.iload_n 1, 1) := by decide +kernel
theorem dX7_init_72 : decode cX7_init 72 = .ok (.bipush 12, 2) := by decide +kernel
theorem dX7_init_74 : decode cX7_init 74 = .ok (.if_icmp .ge 22, 3) := by decide +kernel
theorem dX7_init_77 : decode cX7_init 77 = .ok (.aload_n 0, 1) := by decide +kernel
theorem dX7_init_78 : decode cX7_init 78 = .ok (.getfield 11, 3) := by decide +kernel
theorem dX7_init_81 : decode cX7_init 81 = .ok (.iload_n 1, 1) := by decide +kernel
theorem dX7_init_82 : decode cX7_init 82 = .ok (.new 9, 3) := by decide +kernel
theorem dX7_init_85 : decode cX7_init 85 = .ok (.dup, 1) := by decide +kernel
theorem dX7_init_86 : decode cX7_init 86 = .ok (.invokespecial 53, 3) := by decide +kernel
theorem dX7_init_89 : decode cX7_init 89 = .ok (.aastore, 1) := by decide +kernel
theorem dX7_init_90 : decode cX7_init 90 = .ok (.iinc 1 1, 3) := by decide +kernel
theorem dX7_init_93 : decode cX7_init 93 = .ok (.goto (-22), 3) := by decide +kernel
theorem dX7_init_96 : decode cX7_init 96 = .ok (.iconst 0, 1) := by decide +kernel
theorem dX7_init_97 : decode cX7_init 97 = .ok (.istore_n 1, 1) := by decide +kernel
theorem dX7_init_98 : decode cX7_init 98 = .ok (.iload_n 1, 1) := by decide +kernel
theorem dX7_init_99 : decode cX7_init 99 = .ok (.bipush 14, 2) := by decide +kernel
theorem dX7_init_101 : decode cX7_init 101 = .ok (.if_icmp .ge 22, 3) := by decide +kernel
theorem dX7_init_104 : decode cX7_init 104 = .ok (.aload_n 0, 1) := by decide +kernel
theorem dX7_init_105 : decode cX7_init 105 = .ok (.getfield 17, 3) := by decide +kernel
theorem dX7_init_108 : decode cX7_init 108 = .ok (.iload_n 1, 1) := by decide +kernel
theorem dX7_init_109 : decode cX7_init 109 = .ok (.new 15, 3) := by decide +kernel
theorem dX7_init_112 : decode cX7_init 112 = .ok (.dup, 1) := by decide +kernel
theorem dX7_init_113 : decode cX7_init 113 = .ok (.invokespecial 54, 3) := by decide +kernel
theorem dX7_init_116 : decode cX7_init 116 = .ok (.aastore, 1) := by decide +kernel
theorem dX7_init_117 : decode cX7_init 117 = .ok (.iinc 1 1, 3) := by decide +kernel
theorem dX7_init_120 : decode cX7_init 120 = .ok (.goto (-22), 3) := by decide +kernel
theorem dX7_init_123 : decode cX7_init 123 = .ok (.iconst 0, 1) := by decide +kernel
theorem dX7_init_124 : decode cX7_init 124 = .ok (.istore_n 1, 1) := by decide +kernel
theorem dX7_init_125 : decode cX7_init 125 = .ok (.iload_n 1, 1) := by decide +kernel
theorem dX7_init_126 : decode cX7_init 126 = .ok (.iconst 4, 1) := by decide +kernel
theorem dX7_init_127 : decode cX7_init 127 = .ok (.if_icmp .ge 22, 3) := by decide +kernel
theorem dX7_init_130 : decode cX7_init 130 = .ok (.aload_n 0, 1) := by decide +kernel
theorem dX7_init_131 : decode cX7_init 131 = .ok (.getfield 23, 3) := by decide +kernel
theorem dX7_init_134 : decode cX7_init 134 = .ok (.iload_n 1, 1) := by decide +kernel
theorem dX7_init_135 : decode cX7_init 135 = .ok (.new 21, 3) := by decide +kernel
theorem dX7_init_138 : decode cX7_init 138 = .ok (.dup, 1) := by decide +kernel
theorem dX7_init_139 : decode cX7_init 139 = .ok (.invokespecial 55, 3) := by decide +kernel
theorem dX7_init_142 : decode cX7_init 142 = .ok (.aastore, 1) := by decide +kernel
theorem dX7_init_143 : decode cX7_init 143 = .ok (.iinc 1 1, 3) := by decide +kernel
theorem dX7_init_146 : decode cX7_init 146 = .ok (.goto (-21), 3) := by decide +kernel
theorem dX7_init_149 : decode cX7_init 149 = .ok (.iconst 0, 1) := by decide +kernel
theorem dX7_init_150 : decode cX7_init 150 = .ok (.istore_n 1, 1) := by decide +kernel
theorem dX7_init_151 : decode cX7_init 151 = .ok (.iload_n 1, 1) := by decide +kernel
theorem dX7_init_152 : decode cX7_init 152 = .ok (.bipush 30, 2) := by decide +kernel
theorem dX7_init_154 : decode cX7_init 154 = .ok (.if_icmp .ge 22, 3) := by decide +kernel
theorem dX7_init_157 : decode cX7_init 157 = .ok (.aload_n 0, 1) := by decide +kernel
theorem dX7_init_158 : decode cX7_init 158 = .ok (.getfield 29, 3) := by decide +kernel
theorem dX7_init_161 : decode cX7_init 161 = .ok (.iload_n 1, 1) := by decide +kernel
theorem dX7_init_162 : decode cX7_init 162 = .ok (.new 27, 3) := by decide +kernel
theorem dX7_init_165 : decode cX7_init 165 = .ok (.dup, 1) := by decide +kernel
theorem dX7_init_166 : decode cX7_init 166 = .ok (.invokespecial 56, 3) := by decide +kernel
theorem dX7_init_169 : decode cX7_init 169 = .ok (.aastore, 1) := by decide +kernel
theorem dX7_init_170 : decode cX7_init 170 = .ok (.iinc 1 1, 3) := by decide +kernel
theorem dX7_init_173 : decode cX7_init 173 = .ok (.goto (-22), 3) := by decide +kernel
theorem dX7_init_176 : decode cX7_init 176 = .ok (.iconst 0, 1) := by decide +kernel
theorem dX7_init_177 : decode cX7_init 177 = .ok (.istore_n 1, 1) := by decide +kernel
theorem dX7_init_178 : decode cX7_init 178 = .ok (.iload_n 1, 1) := by decide +kernel
theorem dX7_init_179 : decode cX7_init 179 = .ok (.iconst 5, 1) := by decide +kernel
theorem dX7_init_180 : decode cX7_init 180 = .ok (.if_icmp .ge 22, 3) := by decide +kernel
theorem dX7_init_183 : decode cX7_init 183 = .ok (.aload_n 0, 1) := by decide +kernel
theorem dX7_init_184 : decode cX7_init 184 = .ok (.getfield 35, 3) := by decide +kernel
theorem dX7_init_187 : decode cX7_init 187 = .ok (.iload_n 1, 1) := by decide +kernel
theorem dX7_init_188 : decode cX7_init 188 = .ok (.new 33, 3) := by decide +kernel
theorem dX7_init_191 : decode cX7_init 191 = .ok (.dup, 1) := by decide +kernel
theorem dX7_init_192 : decode cX7_init 192 = .ok (.invokespecial 57, 3) := by decide +kernel
theorem dX7_init_195 : decode cX7_init 195 = .ok (.aastore, 1) := by decide +kernel
theorem dX7_init_196 : decode cX7_init 196 = .ok (.iinc 1 1, 3) := by decide +kernel
theorem dX7_init_199 : decode cX7_init 199 = .ok (.goto (-21), 3) := by decide +kernel
theorem dX7_init_202 : decode cX7_init 202 = .ok (.return_, 1) := by decide +kernel
set_option maxRecDepth 20000 in
theorem ggX7_addWork_X7_checkRange : GoodIn wsX7_addWork wsX7_checkRange := goodIn_ca (goodIn_r _ [8, 9, 10] (by decide +kernel) (by decide +kernel)) (goodIn_sub (fun _ h => List.mem_cons_of_mem _ (List.mem_append_right _ h)) (by decide +kernel))
set_option maxRecDepth 20000 in
theorem gX7_addWork_X7_checkRange : GoodIn wsX7_addWork (va_wsS RX7 58 yX7_checkRange wsX7_checkRange) := goodIn_app (goodIn_of _ (by decide +kernel)) ggX7_addWork_X7_checkRange
theorem dX7_addWork_0 : decode cX7_addWork 0 = .ok (.iload_n 1, 1) := by decide +kernel
theorem dX7_addWork_1 : decode cX7_addWork 1 = .ok (.iconst 1, 1) := by decide +kernel
theorem dX7_addWork_2 : decode cX7_addWork 2 = .ok (.bipush 90, 2) := by decide +kernel
theorem dX7_addWork_4 : decode cX7_addWork 4 = .ok (.invokestatic 58, 3) := by decide +kernel
theorem dX7_addWork_7 : decode cX7_addWork 7 = .ok (.aload_n 0, 1) := by decide +kernel
theorem dX7_addWork_8 : decode cX7_addWork 8 = .ok (.getfield 62, 3) := by decide +kernel
theorem dX7_addWork_11 : decode cX7_addWork 11 = .ok (.bipush 12, 2) := by decide +kernel
theorem dX7_addWork_13 : decode cX7_addWork 13 = .ok (.if_icmp .lt 13, 3) := by decide +kernel
theorem dX7_addWork_16 : decode cX7_addWork 16 = .ok (.new 66, 3) := by decide +kernel
theorem dX7_addWork_19 : decode cX7_addWork 19 = .ok (.dup, 1) := by decide +kernel
theorem dX7_addWork_20 : decode cX7_addWork 20 = .ok (.ldc 68, 2) := by decide +kernel
theorem dX7_addWork_22 : decode cX7_addWork 22 = .ok (.invokespecial 70, 3) := by decide +kernel
theorem dX7_addWork_25 : decode cX7_addWork 25 = .ok (.athrow, 1) := by decide +kernel
theorem dX7_addWork_26 : decode cX7_addWork 26 = .ok (.aload_n 0, 1) := by decide +kernel
theorem dX7_addWork_27 : decode cX7_addWork 27 = .ok (.getfield 11, 3) := by decide +kernel
theorem dX7_addWork_30 : decode cX7_addWork 30 = .ok (.aload_n 0, 1) := by decide +kernel
theorem dX7_addWork_31 : decode cX7_addWork 31 = .ok (.getfield 62, 3) := by decide +kernel
theorem dX7_addWork_34 : decode cX7_addWork 34 = .ok (.aaload, 1) := by decide +kernel
theorem dX7_addWork_35 : decode cX7_addWork 35 = .ok (.astore_n 3, 1) := by decide +kernel
theorem dX7_addWork_36 : decode cX7_addWork 36 = .ok (.aload_n 3, 1) := by decide +kernel
theorem dX7_addWork_37 : decode cX7_addWork 37 = .ok (.iload_n 1, 1) := by decide +kernel
theorem dX7_addWork_38 : decode cX7_addWork 38 = .ok (.putfield 73, 3) := by decide +kernel
theorem dX7_addWork_41 : decode cX7_addWork 41 = .ok (.aload_n 3, 1) := by decide +kernel
theorem dX7_addWork_42 : decode cX7_addWork 42 = .ok (.iload_n 2, 1) := by decide +kernel
theorem dX7_addWork_43 : decode cX7_addWork 43 = .ok (.putfield 76, 3) := by decide +kernel
theorem dX7_addWork_46 : decode cX7_addWork 46 = .ok (.aload_n 0, 1) := by decide +kernel
theorem dX7_addWork_47 : decode cX7_addWork 47 = .ok (.dup, 1) := by decide +kernel
theorem dX7_addWork_48 : decode cX7_addWork 48 = .ok (.getfield 62, 3) := by decide +kernel
theorem dX7_addWork_51 : decode cX7_addWork 51 = .ok (.iconst 1, 1) := by decide +kernel
theorem dX7_addWork_52 : decode cX7_addWork 52 = .ok (.iadd, 1) := by decide +kernel
theorem dX7_addWork_53 : decode cX7_addWork 53 = .ok (.putfield 62, 3) := by decide +kernel
theorem dX7_addWork_56 : decode cX7_addWork 56 = .ok (.aload_n 0, 1) := by decide +kernel
theorem dX7_addWork_57 : decode cX7_addWork 57 = .ok (.getfield 62, 3) := by decide +kernel
theorem dX7_addWork_60 : decode cX7_addWork 60 = .ok (.iconst 1, 1) := by decide +kernel
theorem dX7_addWork_61 : decode cX7_addWork 61 = .ok (.isub, 1) := by decide +kernel
theorem dX7_addWork_62 : decode cX7_addWork 62 = .ok (.ireturn, 1) := by decide +kernel
set_option maxRecDepth 20000 in
theorem ggX7_setParts_X7_workRow : GoodIn wsX7_setParts wsX7_workRow := goodIn_ca (goodIn_r _ [7, 8, 9, 10, 11, 6, 12, 13, 14, 15, 16, 17, 18, 45, 46, 47, 48, 49, 50, 51, 52, 53, 54, 55, 56] (by decide +kernel) (by decide +kernel)) (goodIn_sub (fun _ h => List.mem_cons_of_mem _ (List.mem_append_left _ (List.mem_append_right _ h))) (by decide +kernel))
set_option maxRecDepth 20000 in
theorem gX7_setParts_X7_workRow : GoodIn wsX7_setParts (wsV RX7 80 RX7 yX7_workRow wsX7_workRow) := goodIn_app (goodIn_of _ (by decide +kernel)) ggX7_setParts_X7_workRow
set_option maxRecDepth 20000 in
theorem ggX7_setParts_X7_checkRange : GoodIn wsX7_setParts wsX7_checkRange := goodIn_ca (goodIn_r _ [21, 22, 23] (by decide +kernel) (by decide +kernel)) (goodIn_sub (fun _ h => List.mem_cons_of_mem _ (List.mem_append_right _ h)) (by decide +kernel))
set_option maxRecDepth 20000 in
theorem gX7_setParts_X7_checkRange : GoodIn wsX7_setParts (va_wsS RX7 58 yX7_checkRange wsX7_checkRange) := goodIn_app (goodIn_of _ (by decide +kernel)) ggX7_setParts_X7_checkRange
set_option maxRecDepth 20000 in
theorem ggX7_setParts_X7_isInAnyService : GoodIn wsX7_setParts wsX7_isInAnyService := goodIn_ca (goodIn_r _ [27, 28, 29, 30, 31, 32, 33, 34, 35, 45, 46, 47, 48, 49, 50, 51, 52, 53, 54, 55, 56, 57, 58, 59, 60, 61, 62, 63, 64, 65, 66, 67, 68, 69, 70, 71] (by decide +kernel) (by decide +kernel)) (goodIn_sub (fun _ h => List.mem_cons_of_mem _ (List.mem_append_left _ (List.mem_append_left _ (List.mem_append_left _ (List.mem_append_right _ h))))) (by decide +kernel))
set_option maxRecDepth 20000 in
theorem gX7_setParts_X7_isInAnyService : GoodIn wsX7_setParts (wsV RX7 91 RX7 yX7_isInAnyService wsX7_isInAnyService) := goodIn_app (goodIn_of _ (by decide +kernel)) ggX7_setParts_X7_isInAnyService
theorem dX7_setParts_0 : decode cX7_setParts 0 = .ok (.aload_n 0, 1) := by decide +kernel
theorem dX7_setParts_1 : decode cX7_setParts 1 = .ok (.iload_n 1, 1) := by decide +kernel
theorem dX7_setParts_2 : decode cX7_setParts 2 = .ok (.invokevirtual 80, 3) := by decide +kernel
theorem dX7_setParts_5 : decode cX7_setParts 5 = .ok (.astore 4, 2) := by decide +kernel
theorem dX7_setParts_7 : decode cX7_setParts 7 = .ok (.iload_n 2, 1) := by decide +kernel
theorem dX7_setParts_8 : decode cX7_setParts 8 = .ok (.iconst 0, 1) := by decide +kernel
theorem dX7_setParts_9 : decode cX7_setParts 9 = .ok (.iconst 5, 1) := by decide +kernel
theorem dX7_setParts_10 : decode cX7_setParts 10 = .ok (.invokestatic 58, 3) := by decide +kernel
theorem dX7_setParts_13 : decode cX7_setParts 13 = .ok (.iload_n 3, 1) := by decide +kernel
theorem dX7_setParts_14 : decode cX7_setParts 14 = .ok (.iconst 0, 1) := by decide +kernel
theorem dX7_setParts_15 : decode cX7_setParts 15 = .ok (.iconst 4, 1) := by decide +kernel
theorem dX7_setParts_16 : decode cX7_setParts 16 = .ok (.invokestatic 58, 3) := by decide +kernel
theorem dX7_setParts_19 : decode cX7_setParts 19 = .ok (.aload 4, 2) := by decide +kernel
theorem dX7_setParts_21 : decode cX7_setParts 21 = .ok (.getfield 84, 3) := by decide +kernel
theorem dX7_setParts_24 : decode cX7_setParts 24 = .ok (.aload 4, 2) := by decide +kernel
theorem dX7_setParts_26 : decode cX7_setParts 26 = .ok (.getfield 87, 3) := by decide +kernel
theorem dX7_setParts_29 : decode cX7_setParts 29 = .ok (.iload_n 2, 1) := by decide +kernel
theorem dX7_setParts_30 : decode cX7_setParts 30 = .ok (.iaload, 1) := by decide +kernel
theorem dX7_setParts_31 : decode cX7_setParts 31 = .ok (.isub, 1) := by decide +kernel
theorem dX7_setParts_32 : decode cX7_setParts 32 = .ok (.iload_n 3, 1) := by decide +kernel
theorem dX7_setParts_33 : decode cX7_setParts 33 = .ok (.iadd, 1) := by decide +kernel
theorem dX7_setParts_34 : decode cX7_setParts 34 = .ok (.istore 5, 2) := by decide +kernel
theorem dX7_setParts_36 : decode cX7_setParts 36 = .ok (.aload_n 0, 1) := by decide +kernel
theorem dX7_setParts_37 : decode cX7_setParts 37 = .ok (.iload_n 1, 1) := by decide +kernel
theorem dX7_setParts_38 : decode cX7_setParts 38 = .ok (.invokevirtual 91, 3) := by decide +kernel
theorem dX7_setParts_41 : decode cX7_setParts 41 = .ok (.ifCond .ne 10, 3) := by decide +kernel
theorem dX7_setParts_44 : decode cX7_setParts 44 = .ok (.iload 5, 2) := by decide +kernel
theorem dX7_setParts_46 : decode cX7_setParts 46 = .ok (.bipush 10, 2) := by decide +kernel
theorem dX7_setParts_48 : decode cX7_setParts 48 = .ok (.if_icmp .le 13, 3) := by decide +kernel
theorem dX7_setParts_51 : decode cX7_setParts 51 = .ok (.new 95, 3) := by decide +kernel
theorem dX7_setParts_54 : decode cX7_setParts 54 = .ok (.dup, 1) := by decide +kernel
theorem dX7_setParts_55 : decode cX7_setParts 55 = .ok (.ldc 97, 2) := by decide +kernel
theorem dX7_setParts_57 : decode cX7_setParts 57 = .ok (.invokespecial 99, 3) := by decide +kernel
theorem dX7_setParts_60 : decode cX7_setParts 60 = .ok (.athrow, 1) := by decide +kernel
theorem dX7_setParts_61 : decode cX7_setParts 61 = .ok (.aload 4, 2) := by decide +kernel
theorem dX7_setParts_63 : decode cX7_setParts 63 = .ok (.getfield 87, 3) := by decide +kernel
theorem dX7_setParts_66 : decode cX7_setParts 66 = .ok (.iload_n 2, 1) := by decide +kernel
theorem dX7_setParts_67 : decode cX7_setParts 67 = .ok (.iload_n 3, 1) := by decide +kernel
theorem dX7_setParts_68 : decode cX7_setParts 68 = .ok (.iastore, 1) := by decide +kernel
theorem dX7_setParts_69 : decode cX7_setParts 69 = .ok (.aload 4, 2) := by decide +kernel
theorem dX7_setParts_71 : decode cX7_setParts 71 = .ok (.iload 5, 2) := by decide +kernel
theorem dX7_setParts_73 : decode cX7_setParts 73 = .ok (.putfield 84, 3) := by decide +kernel
theorem dX7_setParts_76 : decode cX7_setParts 76 = .ok (.iload 5, 2) := by decide +kernel
theorem dX7_setParts_78 : decode cX7_setParts 78 = .ok (.ireturn, 1) := by decide +kernel
set_option maxRecDepth 20000 in
theorem ggX7_setSolo_X7_workRow : GoodIn wsX7_setSolo wsX7_workRow := goodIn_ca (goodIn_r _ [7, 8, 9, 10, 11, 6, 12, 13, 14, 15, 16, 17, 18, 40, 41, 42, 43, 44, 45, 46, 47, 48, 49, 50, 51] (by decide +kernel) (by decide +kernel)) (goodIn_sub (fun _ h => List.mem_cons_of_mem _ (List.mem_append_left _ (List.mem_append_right _ h))) (by decide +kernel))
set_option maxRecDepth 20000 in
theorem gX7_setSolo_X7_workRow : GoodIn wsX7_setSolo (wsV RX7 80 RX7 yX7_workRow wsX7_workRow) := goodIn_app (goodIn_of _ (by decide +kernel)) ggX7_setSolo_X7_workRow
set_option maxRecDepth 20000 in
theorem ggX7_setSolo_X7_isInAnyService : GoodIn wsX7_setSolo wsX7_isInAnyService := goodIn_ca (goodIn_r _ [22, 23, 24, 25, 26, 27, 28, 29, 30, 40, 41, 42, 43, 44, 45, 46, 47, 48, 49, 50, 51, 52, 53, 54, 55, 56, 57, 58, 59, 60, 61, 62, 63, 64, 65, 66] (by decide +kernel) (by decide +kernel)) (goodIn_sub (fun _ h => List.mem_cons_of_mem _ (List.mem_append_right _ h)) (by decide +kernel))
set_option maxRecDepth 20000 in
theorem gX7_setSolo_X7_isInAnyService : GoodIn wsX7_setSolo (wsV RX7 91 RX7 yX7_isInAnyService wsX7_isInAnyService) := goodIn_app (goodIn_of _ (by decide +kernel)) ggX7_setSolo_X7_isInAnyService
theorem dX7_setSolo_0 : decode cX7_setSolo 0 = .ok (.aload_n 0, 1) := by decide +kernel
theorem dX7_setSolo_1 : decode cX7_setSolo 1 = .ok (.iload_n 1, 1) := by decide +kernel
theorem dX7_setSolo_2 : decode cX7_setSolo 2 = .ok (.invokevirtual 80, 3) := by decide +kernel
theorem dX7_setSolo_5 : decode cX7_setSolo 5 = .ok (.astore_n 3, 1) := by decide +kernel
theorem dX7_setSolo_6 : decode cX7_setSolo 6 = .ok (.aload_n 0, 1) := by decide +kernel
theorem dX7_setSolo_7 : decode cX7_setSolo 7 = .ok (.iload_n 1, 1) := by decide +kernel
theorem dX7_setSolo_8 : decode cX7_setSolo 8 = .ok (.invokevirtual 91, 3) := by decide +kernel
theorem dX7_setSolo_11 : decode cX7_setSolo 11 = .ok (.ifCond .eq 13, 3) := by decide +kernel
theorem dX7_setSolo_14 : decode cX7_setSolo 14 = .ok (.new 95, 3) := by decide +kernel
theorem dX7_setSolo_17 : decode cX7_setSolo 17 = .ok (.dup, 1) := by decide +kernel
theorem dX7_setSolo_18 : decode cX7_setSolo 18 = .ok (.ldc 100, 2) := by decide +kernel
theorem dX7_setSolo_20 : decode cX7_setSolo 20 = .ok (.invokespecial 99, 3) := by decide +kernel
theorem dX7_setSolo_23 : decode cX7_setSolo 23 = .ok (.athrow, 1) := by decide +kernel
theorem dX7_setSolo_24 : decode cX7_setSolo 24 = .ok (.aload_n 3, 1) := by decide +kernel
theorem dX7_setSolo_25 : decode cX7_setSolo 25 = .ok (.getfield 102, 3) := by decide +kernel
theorem dX7_setSolo_28 : decode cX7_setSolo 28 = .ok (.istore 4, 2) := by decide +kernel
theorem dX7_setSolo_30 : decode cX7_setSolo 30 = .ok (.aload_n 3, 1) := by decide +kernel
theorem dX7_setSolo_31 : decode cX7_setSolo 31 = .ok (.iload_n 2, 1) := by decide +kernel
theorem dX7_setSolo_32 : decode cX7_setSolo 32 = .ok (.putfield 102, 3) := by decide +kernel
theorem dX7_setSolo_35 : decode cX7_setSolo 35 = .ok (.iload 4, 2) := by decide +kernel
theorem dX7_setSolo_37 : decode cX7_setSolo 37 = .ok (.ireturn, 1) := by decide +kernel
set_option maxRecDepth 20000 in
theorem ggX7_hire_X7_workRow : GoodIn wsX7_hire wsX7_workRow := goodIn_ca (goodIn_r _ [9, 10, 11, 12, 13, 8, 14, 15, 16, 17, 18, 19, 20, 42, 43, 44, 45, 46, 47, 48, 49, 50, 51, 52, 53] (by decide +kernel) (by decide +kernel)) (goodIn_sub (fun _ h => List.mem_cons_of_mem _ (List.mem_append_left _ (List.mem_append_left _ (List.mem_append_right _ h)))) (by decide +kernel))
set_option maxRecDepth 20000 in
theorem gX7_hire_X7_workRow : GoodIn wsX7_hire (wsV RX7 80 RX7 yX7_workRow wsX7_workRow) := goodIn_app (goodIn_of _ (by decide +kernel)) ggX7_hire_X7_workRow
set_option maxRecDepth 20000 in
theorem ggX7_hire_X7_checkRange : GoodIn wsX7_hire wsX7_checkRange := goodIn_ca (goodIn_r _ [23, 24, 25] (by decide +kernel) (by decide +kernel)) (goodIn_sub (fun _ h => List.mem_cons_of_mem _ (List.mem_append_left _ (List.mem_append_right _ h))) (by decide +kernel))
set_option maxRecDepth 20000 in
theorem gX7_hire_X7_checkRange : GoodIn wsX7_hire (va_wsS RX7 58 yX7_checkRange wsX7_checkRange) := goodIn_app (goodIn_of _ (by decide +kernel)) ggX7_hire_X7_checkRange
set_option maxRecDepth 20000 in
theorem ggX7_hire_X6_noteHire : GoodIn wsX7_hire wsX6_noteHire := goodIn_ca (goodIn_r _ [29, 30, 31, 32, 33, 34, 35, 36, 37, 38, 39, 40, 41] (by decide +kernel) (by decide +kernel)) (goodIn_sub (fun _ h => List.mem_cons_of_mem _ (List.mem_append_right _ h)) (by decide +kernel))
set_option maxRecDepth 20000 in
theorem gX7_hire_X6_noteHire_n112 : GoodIn wsX7_hire (wsX6_noteHire) := ggX7_hire_X6_noteHire
theorem dX7_hire_0 : decode cX7_hire 0 = .ok (.aload_n 0, 1) := by decide +kernel
theorem dX7_hire_1 : decode cX7_hire 1 = .ok (.iload_n 1, 1) := by decide +kernel
theorem dX7_hire_2 : decode cX7_hire 2 = .ok (.invokevirtual 80, 3) := by decide +kernel
theorem dX7_hire_5 : decode cX7_hire 5 = .ok (.astore 5, 2) := by decide +kernel
theorem dX7_hire_7 : decode cX7_hire 7 = .ok (.iload_n 2, 1) := by decide +kernel
theorem dX7_hire_8 : decode cX7_hire 8 = .ok (.iconst 0, 1) := by decide +kernel
theorem dX7_hire_9 : decode cX7_hire 9 = .ok (.sipush 399, 3) := by decide +kernel
theorem dX7_hire_12 : decode cX7_hire 12 = .ok (.invokestatic 58, 3) := by decide +kernel
theorem dX7_hire_15 : decode cX7_hire 15 = .ok (.iload_n 3, 1) := by decide +kernel
theorem dX7_hire_16 : decode cX7_hire 16 = .ok (.iconst 1, 1) := by decide +kernel
theorem dX7_hire_17 : decode cX7_hire 17 = .ok (.bipush 20, 2) := by decide +kernel
theorem dX7_hire_19 : decode cX7_hire 19 = .ok (.invokestatic 58, 3) := by decide +kernel
theorem dX7_hire_22 : decode cX7_hire 22 = .ok (.iload 4, 2) := by decide +kernel
theorem dX7_hire_24 : decode cX7_hire 24 = .ok (.iconst 1, 1) := by decide +kernel
theorem dX7_hire_25 : decode cX7_hire 25 = .ok (.sipush 999, 3) := by decide +kernel
theorem dX7_hire_28 : decode cX7_hire 28 = .ok (.invokestatic 58, 3) := by decide +kernel
theorem dX7_hire_31 : decode cX7_hire 31 = .ok (.aload 5, 2) := by decide +kernel
theorem dX7_hire_33 : decode cX7_hire 33 = .ok (.getfield 76, 3) := by decide +kernel
theorem dX7_hire_36 : decode cX7_hire 36 = .ok (.ifCond .eq 13, 3) := by decide +kernel
theorem dX7_hire_39 : decode cX7_hire 39 = .ok (.new 95, 3) := by decide +kernel
theorem dX7_hire_42 : decode cX7_hire 42 = .ok (.dup, 1) := by decide +kernel
theorem dX7_hire_43 : decode cX7_hire 43 = .ok (.ldc 105, 2) := by decide +kernel
theorem dX7_hire_45 : decode cX7_hire 45 = .ok (.invokespecial 99, 3) := by decide +kernel
theorem dX7_hire_48 : decode cX7_hire 48 = .ok (.athrow, 1) := by decide +kernel
theorem dX7_hire_49 : decode cX7_hire 49 = .ok (.aload 5, 2) := by decide +kernel
theorem dX7_hire_51 : decode cX7_hire 51 = .ok (.getfield 107, 3) := by decide +kernel
theorem dX7_hire_54 : decode cX7_hire 54 = .ok (.bipush 6, 2) := by decide +kernel
theorem dX7_hire_56 : decode cX7_hire 56 = .ok (.if_icmp .lt 13, 3) := by decide +kernel
theorem dX7_hire_59 : decode cX7_hire 59 = .ok (.new 66, 3) := by decide +kernel
theorem dX7_hire_62 : decode cX7_hire 62 = .ok (.dup, 1) := by decide +kernel
theorem dX7_hire_63 : decode cX7_hire 63 = .ok (.ldc 110, 2) := by decide +kernel
theorem dX7_hire_65 : decode cX7_hire 65 = .ok (.invokespecial 70, 3) := by decide +kernel
theorem dX7_hire_68 : decode cX7_hire 68 = .ok (.athrow, 1) := by decide +kernel
theorem dX7_hire_69 : decode cX7_hire 69 = .ok (.aload 5, 2) := by decide +kernel
theorem dX7_hire_71 : decode cX7_hire 71 = .ok (.iload_n 2, 1) := by decide +kernel
theorem dX7_hire_72 : decode cX7_hire 72 = .ok (.iload_n 2, 1) := by decide +kernel
theorem dX7_hire_73 : decode cX7_hire 73 = .ok (.iload_n 3, 1) := by decide +kernel
theorem dX7_hire_74 : decode cX7_hire 74 = .ok (.bipush 7, 2) := by decide +kernel
theorem dX7_hire_76 : decode cX7_hire 76 = .ok (.imul, 1) := by decide +kernel
theorem dX7_hire_77 : decode cX7_hire 77 = .ok (.iadd, 1) := by decide +kernel
theorem dX7_hire_78 : decode cX7_hire 78 = .ok (.invokevirtual 112, 3) := by decide +kernel
theorem dX7_hire_81 : decode cX7_hire 81 = .ok (.aload 5, 2) := by decide +kernel
theorem dX7_hire_83 : decode cX7_hire 83 = .ok (.dup, 1) := by decide +kernel
theorem dX7_hire_84 : decode cX7_hire 84 = .ok (.getfield 116, 3) := by decide +kernel
theorem dX7_hire_87 : decode cX7_hire 87 = .ok (.iload_n 3, 1) := by decide +kernel
theorem dX7_hire_88 : decode cX7_hire 88 = .ok (.iload 4, 2) := by decide +kernel
theorem dX7_hire_90 : decode cX7_hire 90 = .ok (.imul, 1) := by decide +kernel
theorem dX7_hire_91 : decode cX7_hire 91 = .ok (.iadd, 1) := by decide +kernel
theorem dX7_hire_92 : decode cX7_hire 92 = .ok (.putfield 116, 3) := by decide +kernel
theorem dX7_hire_95 : decode cX7_hire 95 = .ok (.iload_n 3, 1) := by decide +kernel
theorem dX7_hire_96 : decode cX7_hire 96 = .ok (.iload 4, 2) := by decide +kernel
theorem dX7_hire_98 : decode cX7_hire 98 = .ok (.imul, 1) := by decide +kernel
theorem dX7_hire_99 : decode cX7_hire 99 = .ok (.ireturn, 1) := by decide +kernel
set_option maxRecDepth 20000 in
theorem ggX7_isScoreThere_X7_workRow : GoodIn wsX7_isScoreThere wsX7_workRow := goodIn_ca (goodIn_r _ [5, 6, 7, 8, 9, 4, 10, 11, 12, 13, 14, 15, 16, 30, 31, 32, 33, 34, 35, 36, 37, 38, 39, 40, 41] (by decide +kernel) (by decide +kernel)) (goodIn_sub (fun _ h => List.mem_cons_of_mem _ (List.mem_append_left _ (List.mem_append_left _ (List.mem_append_right _ h)))) (by decide +kernel))
set_option maxRecDepth 20000 in
theorem gX7_isScoreThere_X7_workRow : GoodIn wsX7_isScoreThere (wsV RX7 80 RX7 yX7_workRow wsX7_workRow) := goodIn_app (goodIn_of _ (by decide +kernel)) ggX7_isScoreThere_X7_workRow
set_option maxRecDepth 20000 in
theorem ggX7_isScoreThere_X7_checkRange : GoodIn wsX7_isScoreThere wsX7_checkRange := goodIn_ca (goodIn_r _ [19, 20, 21] (by decide +kernel) (by decide +kernel)) (goodIn_sub (fun _ h => List.mem_cons_of_mem _ (List.mem_append_left _ (List.mem_append_right _ h))) (by decide +kernel))
set_option maxRecDepth 20000 in
theorem gX7_isScoreThere_X7_checkRange : GoodIn wsX7_isScoreThere (va_wsS RX7 58 yX7_checkRange wsX7_checkRange) := goodIn_app (goodIn_of _ (by decide +kernel)) ggX7_isScoreThere_X7_checkRange
set_option maxRecDepth 20000 in
theorem ggX7_isScoreThere_X6_hasScoreOn : GoodIn wsX7_isScoreThere wsX6_hasScoreOn := goodIn_ca (goodIn_r _ [25, 26, 27, 28, 29, 42, 43, 44, 45, 46, 47, 48, 49, 50] (by decide +kernel) (by decide +kernel)) (goodIn_sub (fun _ h => List.mem_cons_of_mem _ (List.mem_append_right _ h)) (by decide +kernel))
set_option maxRecDepth 20000 in
theorem gX7_isScoreThere_X6_hasScoreOn_n119 : GoodIn wsX7_isScoreThere (wsX6_hasScoreOn) := ggX7_isScoreThere_X6_hasScoreOn
theorem dX7_isScoreThere_0 : decode cX7_isScoreThere 0 = .ok (.aload_n 0, 1) := by decide +kernel
theorem dX7_isScoreThere_1 : decode cX7_isScoreThere 1 = .ok (.iload_n 1, 1) := by decide +kernel
theorem dX7_isScoreThere_2 : decode cX7_isScoreThere 2 = .ok (.invokevirtual 80, 3) := by decide +kernel
theorem dX7_isScoreThere_5 : decode cX7_isScoreThere 5 = .ok (.astore_n 3, 1) := by decide +kernel
theorem dX7_isScoreThere_6 : decode cX7_isScoreThere 6 = .ok (.iload_n 2, 1) := by decide +kernel
theorem dX7_isScoreThere_7 : decode cX7_isScoreThere 7 = .ok (.iconst 0, 1) := by decide +kernel
theorem dX7_isScoreThere_8 : decode cX7_isScoreThere 8 = .ok (.sipush 399, 3) := by decide +kernel
theorem dX7_isScoreThere_11 : decode cX7_isScoreThere 11 = .ok (.invokestatic 58, 3) := by decide +kernel
theorem dX7_isScoreThere_14 : decode cX7_isScoreThere 14 = .ok (.aload_n 3, 1) := by decide +kernel
theorem dX7_isScoreThere_15 : decode cX7_isScoreThere 15 = .ok (.iload_n 2, 1) := by decide +kernel
theorem dX7_isScoreThere_16 : decode cX7_isScoreThere 16 = .ok (.invokevirtual 119, 3) := by decide +kernel
theorem dX7_isScoreThere_19 : decode cX7_isScoreThere 19 = .ok (.ireturn, 1) := by decide +kernel
set_option maxRecDepth 20000 in
theorem ggX7_addPlayer_X7_checkRange : GoodIn wsX7_addPlayer wsX7_checkRange := goodIn_ca (goodIn_r _ [8, 9, 10] (by decide +kernel) (by decide +kernel)) (goodIn_sub (fun _ h => List.mem_cons_of_mem _ (List.mem_append_right _ h)) (by decide +kernel))
set_option maxRecDepth 20000 in
theorem gX7_addPlayer_X7_checkRange : GoodIn wsX7_addPlayer (va_wsS RX7 58 yX7_checkRange wsX7_checkRange) := goodIn_app (goodIn_of _ (by decide +kernel)) ggX7_addPlayer_X7_checkRange
theorem dX7_addPlayer_0 : decode cX7_addPlayer 0 = .ok (.iload_n 1, 1) := by decide +kernel
theorem dX7_addPlayer_1 : decode cX7_addPlayer 1 = .ok (.iconst 0, 1) := by decide +kernel
theorem dX7_addPlayer_2 : decode cX7_addPlayer 2 = .ok (.iconst 5, 1) := by decide +kernel
theorem dX7_addPlayer_3 : decode cX7_addPlayer 3 = .ok (.invokestatic 58, 3) := by decide +kernel
theorem dX7_addPlayer_6 : decode cX7_addPlayer 6 = .ok (.iload_n 2, 1) := by decide +kernel
theorem dX7_addPlayer_7 : decode cX7_addPlayer 7 = .ok (.iconst 0, 1) := by decide +kernel
theorem dX7_addPlayer_8 : decode cX7_addPlayer 8 = .ok (.bipush 63, 2) := by decide +kernel
theorem dX7_addPlayer_10 : decode cX7_addPlayer 10 = .ok (.invokestatic 58, 3) := by decide +kernel
theorem dX7_addPlayer_13 : decode cX7_addPlayer 13 = .ok (.iload_n 3, 1) := by decide +kernel
theorem dX7_addPlayer_14 : decode cX7_addPlayer 14 = .ok (.iconst 1, 1) := by decide +kernel
theorem dX7_addPlayer_15 : decode cX7_addPlayer 15 = .ok (.sipush 999, 3) := by decide +kernel
theorem dX7_addPlayer_18 : decode cX7_addPlayer 18 = .ok (.invokestatic 58, 3) := by decide +kernel
theorem dX7_addPlayer_21 : decode cX7_addPlayer 21 = .ok (.aload_n 0, 1) := by decide +kernel
theorem dX7_addPlayer_22 : decode cX7_addPlayer 22 = .ok (.getfield 122, 3) := by decide +kernel
theorem dX7_addPlayer_25 : decode cX7_addPlayer 25 = .ok (.bipush 14, 2) := by decide +kernel
theorem dX7_addPlayer_27 : decode cX7_addPlayer 27 = .ok (.if_icmp .lt 13, 3) := by decide +kernel
theorem dX7_addPlayer_30 : decode cX7_addPlayer 30 = .ok (.new 66, 3) := by decide +kernel
theorem dX7_addPlayer_33 : decode cX7_addPlayer 33 = .ok (.dup, 1) := by decide +kernel
theorem dX7_addPlayer_34 : decode cX7_addPlayer 34 = .ok (.ldc 125, 2) := by decide +kernel
theorem dX7_addPlayer_36 : decode cX7_addPlayer 36 = .ok (.invokespecial 70, 3) := by decide +kernel
theorem dX7_addPlayer_39 : decode cX7_addPlayer 39 = .ok (.athrow, 1) := by decide +kernel
theorem dX7_addPlayer_40 : decode cX7_addPlayer 40 = .ok (.aload_n 0, 1) := by decide +kernel
theorem dX7_addPlayer_41 : decode cX7_addPlayer 41 = .ok (.getfield 17, 3) := by decide +kernel
theorem dX7_addPlayer_44 : decode cX7_addPlayer 44 = .ok (.aload_n 0, 1) := by decide +kernel
theorem dX7_addPlayer_45 : decode cX7_addPlayer 45 = .ok (.getfield 122, 3) := by decide +kernel
theorem dX7_addPlayer_48 : decode cX7_addPlayer 48 = .ok (.aaload, 1) := by decide +kernel
theorem dX7_addPlayer_49 : decode cX7_addPlayer 49 = .ok (.astore 4, 2) := by decide +kernel
theorem dX7_addPlayer_51 : decode cX7_addPlayer 51 = .ok (.aload 4, 2) := by decide +kernel
theorem dX7_addPlayer_53 : decode cX7_addPlayer 53 = .ok (.iload_n 1, 1) := by decide +kernel
theorem dX7_addPlayer_54 : decode cX7_addPlayer 54 = .ok (.putfield 127, 3) := by decide +kernel
theorem dX7_addPlayer_57 : decode cX7_addPlayer 57 = .ok (.aload 4, 2) := by decide +kernel
theorem dX7_addPlayer_59 : decode cX7_addPlayer 59 = .ok (.iload_n 2, 1) := by decide +kernel
theorem dX7_addPlayer_60 : decode cX7_addPlayer 60 = .ok (.putfield 130, 3) := by decide +kernel
theorem dX7_addPlayer_63 : decode cX7_addPlayer 63 = .ok (.aload 4, 2) := by decide +kernel
theorem dX7_addPlayer_65 : decode cX7_addPlayer 65 = .ok (.iload_n 3, 1) := by decide +kernel
theorem dX7_addPlayer_66 : decode cX7_addPlayer 66 = .ok (.putfield 133, 3) := by decide +kernel
theorem dX7_addPlayer_69 : decode cX7_addPlayer 69 = .ok (.aload_n 0, 1) := by decide +kernel
theorem dX7_addPlayer_70 : decode cX7_addPlayer 70 = .ok (.dup, 1) := by decide +kernel
theorem dX7_addPlayer_71 : decode cX7_addPlayer 71 = .ok (.getfield 122, 3) := by decide +kernel
theorem dX7_addPlayer_74 : decode cX7_addPlayer 74 = .ok (.iconst 1, 1) := by decide +kernel
theorem dX7_addPlayer_75 : decode cX7_addPlayer 75 = .ok (.iadd, 1) := by decide +kernel
theorem dX7_addPlayer_76 : decode cX7_addPlayer 76 = .ok (.putfield 122, 3) := by decide +kernel
theorem dX7_addPlayer_79 : decode cX7_addPlayer 79 = .ok (.aload_n 0, 1) := by decide +kernel
theorem dX7_addPlayer_80 : decode cX7_addPlayer 80 = .ok (.getfield 122, 3) := by decide +kernel
theorem dX7_addPlayer_83 : decode cX7_addPlayer 83 = .ok (.iconst 1, 1) := by decide +kernel
theorem dX7_addPlayer_84 : decode cX7_addPlayer 84 = .ok (.isub, 1) := by decide +kernel
theorem dX7_addPlayer_85 : decode cX7_addPlayer 85 = .ok (.ireturn, 1) := by decide +kernel
set_option maxRecDepth 20000 in
theorem ggX7_leave_X7_playerRow : GoodIn wsX7_leave wsX7_playerRow := goodIn_ca (goodIn_r _ [9, 10, 11, 12, 13, 8, 14, 15, 16, 17, 18, 19, 20, 49, 50, 51, 52, 53, 54, 55, 56, 57, 58, 59, 60] (by decide +kernel) (by decide +kernel)) (goodIn_sub (fun _ h => List.mem_cons_of_mem _ (List.mem_append_left _ (List.mem_append_left _ (List.mem_append_right _ h)))) (by decide +kernel))
set_option maxRecDepth 20000 in
theorem gX7_leave_X7_playerRow : GoodIn wsX7_leave (wsV RX7 136 RX7 yX7_playerRow wsX7_playerRow) := goodIn_app (goodIn_of _ (by decide +kernel)) ggX7_leave_X7_playerRow
set_option maxRecDepth 20000 in
theorem ggX7_leave_X7_checkRange : GoodIn wsX7_leave wsX7_checkRange := goodIn_ca (goodIn_r _ [23, 24, 25] (by decide +kernel) (by decide +kernel)) (goodIn_sub (fun _ h => List.mem_cons_of_mem _ (List.mem_append_left _ (List.mem_append_right _ h))) (by decide +kernel))
set_option maxRecDepth 20000 in
theorem gX7_leave_X7_checkRange : GoodIn wsX7_leave (va_wsS RX7 58 yX7_checkRange wsX7_checkRange) := goodIn_app (goodIn_of _ (by decide +kernel)) ggX7_leave_X7_checkRange
set_option maxRecDepth 20000 in
theorem ggX7_leave_X7_isCastBetween : GoodIn wsX7_leave wsX7_isCastBetween := goodIn_r _ [29, 30, 31, 32, 33, 8, 34, 49, 50, 51, 52, 53, 54, 55, 56, 57, 58, 59, 60, 61, 62, 63, 64, 65, 66, 67, 68, 69, 70, 71, 72, 73, 74, 75] (by decide +kernel) (by decide +kernel)
set_option maxRecDepth 20000 in
theorem gX7_leave_X7_isCastBetween : GoodIn wsX7_leave (wsV RX7 140 RX7 yX7_isCastBetween wsX7_isCastBetween) := goodIn_app (goodIn_of _ (by decide +kernel)) ggX7_leave_X7_isCastBetween
set_option maxRecDepth 20000 in
theorem ggX7_leave_X4_noteLeave : GoodIn wsX7_leave wsX4_noteLeave := goodIn_ca (goodIn_r _ [38, 39, 40, 41, 42, 43, 44, 45, 46, 47, 48] (by decide +kernel) (by decide +kernel)) (goodIn_sub (fun _ h => List.mem_cons_of_mem _ (List.mem_append_right _ h)) (by decide +kernel))
set_option maxRecDepth 20000 in
theorem gX7_leave_X4_noteLeave_n151 : GoodIn wsX7_leave (wsX4_noteLeave) := ggX7_leave_X4_noteLeave
theorem dX7_leave_0 : decode cX7_leave 0 = .ok (.aload_n 0, 1) := by decide +kernel
theorem dX7_leave_1 : decode cX7_leave 1 = .ok (.iload_n 1, 1) := by decide +kernel
theorem dX7_leave_2 : decode cX7_leave 2 = .ok (.invokevirtual 136, 3) := by decide +kernel
theorem dX7_leave_5 : decode cX7_leave 5 = .ok (.astore 4, 2) := by decide +kernel
theorem dX7_leave_7 : decode cX7_leave 7 = .ok (.iload_n 2, 1) := by decide +kernel
theorem dX7_leave_8 : decode cX7_leave 8 = .ok (.iconst 0, 1) := by decide +kernel
theorem dX7_leave_9 : decode cX7_leave 9 = .ok (.sipush 399, 3) := by decide +kernel
theorem dX7_leave_12 : decode cX7_leave 12 = .ok (.invokestatic 58, 3) := by decide +kernel
theorem dX7_leave_15 : decode cX7_leave 15 = .ok (.iload_n 3, 1) := by decide +kernel
theorem dX7_leave_16 : decode cX7_leave 16 = .ok (.iload_n 2, 1) := by decide +kernel
theorem dX7_leave_17 : decode cX7_leave 17 = .ok (.sipush 399, 3) := by decide +kernel
theorem dX7_leave_20 : decode cX7_leave 20 = .ok (.invokestatic 58, 3) := by decide +kernel
theorem dX7_leave_23 : decode cX7_leave 23 = .ok (.aload_n 0, 1) := by decide +kernel
theorem dX7_leave_24 : decode cX7_leave 24 = .ok (.iload_n 1, 1) := by decide +kernel
theorem dX7_leave_25 : decode cX7_leave 25 = .ok (.iload_n 2, 1) := by decide +kernel
theorem dX7_leave_26 : decode cX7_leave 26 = .ok (.iload_n 3, 1) := by decide +kernel
theorem dX7_leave_27 : decode cX7_leave 27 = .ok (.invokevirtual 140, 3) := by decide +kernel
theorem dX7_leave_30 : decode cX7_leave 30 = .ok (.ifCond .eq 13, 3) := by decide +kernel
theorem dX7_leave_33 : decode cX7_leave 33 = .ok (.new 95, 3) := by decide +kernel
theorem dX7_leave_36 : decode cX7_leave 36 = .ok (.dup, 1) := by decide +kernel
theorem dX7_leave_37 : decode cX7_leave 37 = .ok (.ldc 144, 2) := by decide +kernel
theorem dX7_leave_39 : decode cX7_leave 39 = .ok (.invokespecial 99, 3) := by decide +kernel
theorem dX7_leave_42 : decode cX7_leave 42 = .ok (.athrow, 1) := by decide +kernel
theorem dX7_leave_43 : decode cX7_leave 43 = .ok (.aload 4, 2) := by decide +kernel
theorem dX7_leave_45 : decode cX7_leave 45 = .ok (.getfield 146, 3) := by decide +kernel
theorem dX7_leave_48 : decode cX7_leave 48 = .ok (.iconst 5, 1) := by decide +kernel
theorem dX7_leave_49 : decode cX7_leave 49 = .ok (.if_icmp .lt 13, 3) := by decide +kernel
theorem dX7_leave_52 : decode cX7_leave 52 = .ok (.new 66, 3) := by decide +kernel
theorem dX7_leave_55 : decode cX7_leave 55 = .ok (.dup, 1) := by decide +kernel
theorem dX7_leave_56 : decode cX7_leave 56 = .ok (.ldc 149, 2) := by decide +kernel
theorem dX7_leave_58 : decode cX7_leave 58 = .ok (.invokespecial 70, 3) := by decide +kernel
theorem dX7_leave_61 : decode cX7_leave 61 = .ok (.athrow, 1) := by decide +kernel
theorem dX7_leave_62 : decode cX7_leave 62 = .ok (.aload 4, 2) := by decide +kernel
theorem dX7_leave_64 : decode cX7_leave 64 = .ok (.iload_n 2, 1) := by decide +kernel
theorem dX7_leave_65 : decode cX7_leave 65 = .ok (.iload_n 3, 1) := by decide +kernel
theorem dX7_leave_66 : decode cX7_leave 66 = .ok (.invokevirtual 151, 3) := by decide +kernel
theorem dX7_leave_69 : decode cX7_leave 69 = .ok (.aload 4, 2) := by decide +kernel
theorem dX7_leave_71 : decode cX7_leave 71 = .ok (.getfield 146, 3) := by decide +kernel
theorem dX7_leave_74 : decode cX7_leave 74 = .ok (.ireturn, 1) := by decide +kernel
set_option maxRecDepth 20000 in
theorem ggX7_refuse_X7_playerRow : GoodIn wsX7_refuse wsX7_playerRow := goodIn_ca (goodIn_r _ [5, 6, 7, 8, 9, 4, 10, 11, 12, 13, 14, 15, 16, 32, 33, 34, 35, 36, 37, 38, 39, 40, 41, 42, 43] (by decide +kernel) (by decide +kernel)) (goodIn_sub (fun _ h => List.mem_cons_of_mem _ (List.mem_append_right _ h)) (by decide +kernel))
set_option maxRecDepth 20000 in
theorem gX7_refuse_X7_playerRow : GoodIn wsX7_refuse (wsV RX7 136 RX7 yX7_playerRow wsX7_playerRow) := goodIn_app (goodIn_of _ (by decide +kernel)) ggX7_refuse_X7_playerRow
set_option maxRecDepth 20000 in
theorem ggX7_refuse_X7_checkWork : GoodIn wsX7_refuse wsX7_checkWork := goodIn_ca (goodIn_r _ [20, 21, 12, 13, 4, 14, 15, 16, 32, 33, 34, 35, 36, 37, 38, 39, 40, 41, 42, 43] (by decide +kernel) (by decide +kernel)) (goodIn_sub (fun _ h => List.mem_cons_of_mem _ (List.mem_append_right _ h)) (by decide +kernel))
set_option maxRecDepth 20000 in
theorem gX7_refuse_X7_checkWork : GoodIn wsX7_refuse (wsV RX7 154 RX7 yX7_checkWork wsX7_checkWork) := goodIn_app (goodIn_of _ (by decide +kernel)) ggX7_refuse_X7_checkWork
set_option maxRecDepth 20000 in
theorem ggX7_refuse_X7_hasBit : GoodIn wsX7_refuse wsX7_hasBit := goodIn_r _ [24] (by decide +kernel) (by decide +kernel)
set_option maxRecDepth 20000 in
theorem gX7_refuse_X7_hasBit : GoodIn wsX7_refuse (va_wsS RX7 161 yX7_hasBit wsX7_hasBit) := goodIn_app (goodIn_of _ (by decide +kernel)) ggX7_refuse_X7_hasBit
theorem dX7_refuse_0 : decode cX7_refuse 0 = .ok (.aload_n 0, 1) := by decide +kernel
theorem dX7_refuse_1 : decode cX7_refuse 1 = .ok (.iload_n 1, 1) := by decide +kernel
theorem dX7_refuse_2 : decode cX7_refuse 2 = .ok (.invokevirtual 136, 3) := by decide +kernel
theorem dX7_refuse_5 : decode cX7_refuse 5 = .ok (.astore 4, 2) := by decide +kernel
theorem dX7_refuse_7 : decode cX7_refuse 7 = .ok (.aload_n 0, 1) := by decide +kernel
theorem dX7_refuse_8 : decode cX7_refuse 8 = .ok (.iload_n 2, 1) := by decide +kernel
theorem dX7_refuse_9 : decode cX7_refuse 9 = .ok (.invokevirtual 154, 3) := by decide +kernel
theorem dX7_refuse_12 : decode cX7_refuse 12 = .ok (.aload 4, 2) := by decide +kernel
theorem dX7_refuse_14 : decode cX7_refuse 14 = .ok (.getfield 158, 3) := by decide +kernel
theorem dX7_refuse_17 : decode cX7_refuse 17 = .ok (.iload_n 2, 1) := by decide +kernel
theorem dX7_refuse_18 : decode cX7_refuse 18 = .ok (.invokestatic 161, 3) := by decide +kernel
theorem dX7_refuse_21 : decode cX7_refuse 21 = .ok (.istore 5, 2) := by decide +kernel
theorem dX7_refuse_23 : decode cX7_refuse 23 = .ok (.aload 4, 2) := by decide +kernel
theorem dX7_refuse_25 : decode cX7_refuse 25 = .ok (.iload_n 3, 1) := by decide +kernel
theorem dX7_refuse_26 : decode cX7_refuse 26 = .ok (.ifCond .eq 15, 3) := by decide +kernel
theorem dX7_refuse_29 : decode cX7_refuse 29 = .ok (.aload 4, 2) := by decide +kernel
theorem dX7_refuse_31 : decode cX7_refuse 31 = .ok (.getfield 158, 3) := by decide +kernel
theorem dX7_refuse_34 : decode cX7_refuse 34 = .ok (.iconst 1, 1) := by decide +kernel
theorem dX7_refuse_35 : decode cX7_refuse 35 = .ok (.iload_n 2, 1) := by decide +kernel
theorem dX7_refuse_36 : decode cX7_refuse 36 = .ok (.ishl, 1) := by decide +kernel
theorem dX7_refuse_37 : decode cX7_refuse 37 = .ok (.ior, 1) := by decide +kernel
theorem dX7_refuse_38 : decode cX7_refuse 38 = .ok (.goto 14, 3) := by decide +kernel
theorem dX7_refuse_41 : decode cX7_refuse 41 = .ok (.aload 4, 2) := by decide +kernel
theorem dX7_refuse_43 : decode cX7_refuse 43 = .ok (.getfield 158, 3) := by decide +kernel
theorem dX7_refuse_46 : decode cX7_refuse 46 = .ok (.iconst 1, 1) := by decide +kernel
theorem dX7_refuse_47 : decode cX7_refuse 47 = .ok (.iload_n 2, 1) := by decide +kernel
theorem dX7_refuse_48 : decode cX7_refuse 48 = .ok (.ishl, 1) := by decide +kernel
theorem dX7_refuse_49 : decode cX7_refuse 49 = .ok (.iconst (-1), 1) := by decide +kernel
theorem dX7_refuse_50 : decode cX7_refuse 50 = .ok (.ixor, 1) := by decide +kernel
theorem dX7_refuse_51 : decode cX7_refuse 51 = .ok (.iand, 1) := by decide +kernel
theorem dX7_refuse_52 : decode cX7_refuse 52 = .ok (.putfield 158, 3) := by decide +kernel
theorem dX7_refuse_55 : decode cX7_refuse 55 = .ok (.iload 5, 2) := by decide +kernel
theorem dX7_refuse_57 : decode cX7_refuse 57 = .ok (.ireturn, 1) := by decide +kernel
set_option maxRecDepth 20000 in
theorem ggX7_addHall_X7_checkRange : GoodIn wsX7_addHall wsX7_checkRange := goodIn_ca (goodIn_r _ [8, 9, 10] (by decide +kernel) (by decide +kernel)) (goodIn_sub (fun _ h => List.mem_cons_of_mem _ (List.mem_append_right _ h)) (by decide +kernel))
set_option maxRecDepth 20000 in
theorem gX7_addHall_X7_checkRange : GoodIn wsX7_addHall (va_wsS RX7 58 yX7_checkRange wsX7_checkRange) := goodIn_app (goodIn_of _ (by decide +kernel)) ggX7_addHall_X7_checkRange
theorem dX7_addHall_0 : decode cX7_addHall 0 = .ok (.iload_n 1, 1) := by decide +kernel
theorem dX7_addHall_1 : decode cX7_addHall 1 = .ok (.iconst 0, 1) := by decide +kernel
theorem dX7_addHall_2 : decode cX7_addHall 2 = .ok (.bipush 92, 2) := by decide +kernel
theorem dX7_addHall_4 : decode cX7_addHall 4 = .ok (.invokestatic 58, 3) := by decide +kernel
theorem dX7_addHall_7 : decode cX7_addHall 7 = .ok (.iload_n 2, 1) := by decide +kernel
theorem dX7_addHall_8 : decode cX7_addHall 8 = .ok (.iload_n 1, 1) := by decide +kernel
theorem dX7_addHall_9 : decode cX7_addHall 9 = .ok (.iconst 4, 1) := by decide +kernel
theorem dX7_addHall_10 : decode cX7_addHall 10 = .ok (.iadd, 1) := by decide +kernel
theorem dX7_addHall_11 : decode cX7_addHall 11 = .ok (.bipush 96, 2) := by decide +kernel
theorem dX7_addHall_13 : decode cX7_addHall 13 = .ok (.invokestatic 58, 3) := by decide +kernel
theorem dX7_addHall_16 : decode cX7_addHall 16 = .ok (.aload_n 0, 1) := by decide +kernel
theorem dX7_addHall_17 : decode cX7_addHall 17 = .ok (.getfield 165, 3) := by decide +kernel
theorem dX7_addHall_20 : decode cX7_addHall 20 = .ok (.iconst 4, 1) := by decide +kernel
theorem dX7_addHall_21 : decode cX7_addHall 21 = .ok (.if_icmp .lt 13, 3) := by decide +kernel
theorem dX7_addHall_24 : decode cX7_addHall 24 = .ok (.new 66, 3) := by decide +kernel
theorem dX7_addHall_27 : decode cX7_addHall 27 = .ok (.dup, 1) := by decide +kernel
theorem dX7_addHall_28 : decode cX7_addHall 28 = .ok (.ldc 168, 2) := by decide +kernel
theorem dX7_addHall_30 : decode cX7_addHall 30 = .ok (.invokespecial 70, 3) := by decide +kernel
theorem dX7_addHall_33 : decode cX7_addHall 33 = .ok (.athrow, 1) := by decide +kernel
theorem dX7_addHall_34 : decode cX7_addHall 34 = .ok (.aload_n 0, 1) := by decide +kernel
theorem dX7_addHall_35 : decode cX7_addHall 35 = .ok (.getfield 23, 3) := by decide +kernel
theorem dX7_addHall_38 : decode cX7_addHall 38 = .ok (.aload_n 0, 1) := by decide +kernel
theorem dX7_addHall_39 : decode cX7_addHall 39 = .ok (.getfield 165, 3) := by decide +kernel
theorem dX7_addHall_42 : decode cX7_addHall 42 = .ok (.aaload, 1) := by decide +kernel
theorem dX7_addHall_43 : decode cX7_addHall 43 = .ok (.astore_n 3, 1) := by decide +kernel
theorem dX7_addHall_44 : decode cX7_addHall 44 = .ok (.aload_n 3, 1) := by decide +kernel
theorem dX7_addHall_45 : decode cX7_addHall 45 = .ok (.iload_n 1, 1) := by decide +kernel
theorem dX7_addHall_46 : decode cX7_addHall 46 = .ok (.putfield 170, 3) := by decide +kernel
theorem dX7_addHall_49 : decode cX7_addHall 49 = .ok (.aload_n 3, 1) := by decide +kernel
theorem dX7_addHall_50 : decode cX7_addHall 50 = .ok (.iload_n 2, 1) := by decide +kernel
theorem dX7_addHall_51 : decode cX7_addHall 51 = .ok (.putfield 173, 3) := by decide +kernel
theorem dX7_addHall_54 : decode cX7_addHall 54 = .ok (.aload_n 0, 1) := by decide +kernel
theorem dX7_addHall_55 : decode cX7_addHall 55 = .ok (.dup, 1) := by decide +kernel
theorem dX7_addHall_56 : decode cX7_addHall 56 = .ok (.getfield 165, 3) := by decide +kernel
theorem dX7_addHall_59 : decode cX7_addHall 59 = .ok (.iconst 1, 1) := by decide +kernel
theorem dX7_addHall_60 : decode cX7_addHall 60 = .ok (.iadd, 1) := by decide +kernel
theorem dX7_addHall_61 : decode cX7_addHall 61 = .ok (.putfield 165, 3) := by decide +kernel
theorem dX7_addHall_64 : decode cX7_addHall 64 = .ok (.aload_n 0, 1) := by decide +kernel
theorem dX7_addHall_65 : decode cX7_addHall 65 = .ok (.getfield 165, 3) := by decide +kernel
theorem dX7_addHall_68 : decode cX7_addHall 68 = .ok (.iconst 1, 1) := by decide +kernel
theorem dX7_addHall_69 : decode cX7_addHall 69 = .ok (.isub, 1) := by decide +kernel
theorem dX7_addHall_70 : decode cX7_addHall 70 = .ok (.ireturn, 1) := by decide +kernel
set_option maxRecDepth 20000 in
theorem ggX7_give_X7_hallRow : GoodIn wsX7_give wsX7_hallRow := goodIn_ca (goodIn_r _ [7, 8, 9, 10, 11, 6, 12, 13, 14, 36, 37, 38, 39, 40, 41, 42, 43, 44, 45, 46, 47] (by decide +kernel) (by decide +kernel)) (goodIn_sub (fun _ h => List.mem_cons_of_mem _ (List.mem_append_left _ (List.mem_append_left _ (List.mem_append_right _ h)))) (by decide +kernel))
set_option maxRecDepth 20000 in
theorem gX7_give_X7_hallRow : GoodIn wsX7_give (wsV RX7 176 RX7 yX7_hallRow wsX7_hallRow) := goodIn_app (goodIn_of _ (by decide +kernel)) ggX7_give_X7_hallRow
set_option maxRecDepth 20000 in
theorem ggX7_give_X7_checkRange : GoodIn wsX7_give wsX7_checkRange := goodIn_ca (goodIn_r _ [17, 18, 19] (by decide +kernel) (by decide +kernel)) (goodIn_sub (fun _ h => List.mem_cons_of_mem _ (List.mem_append_left _ (List.mem_append_right _ h))) (by decide +kernel))
set_option maxRecDepth 20000 in
theorem gX7_give_X7_checkRange : GoodIn wsX7_give (va_wsS RX7 58 yX7_checkRange wsX7_checkRange) := goodIn_app (goodIn_of _ (by decide +kernel)) ggX7_give_X7_checkRange
set_option maxRecDepth 20000 in
theorem ggX7_give_X7_isHallUsed : GoodIn wsX7_give wsX7_isHallUsed := goodIn_r _ [23, 24, 25, 36, 37, 38, 39, 40, 41, 42, 43, 44, 45, 46, 47, 48, 49, 50, 51, 52, 53, 54, 55, 56, 57, 58, 59, 60, 61, 62] (by decide +kernel) (by decide +kernel)
set_option maxRecDepth 20000 in
theorem gX7_give_X7_isHallUsed : GoodIn wsX7_give (wsV RX7 180 RX7 yX7_isHallUsed wsX7_isHallUsed) := goodIn_app (goodIn_of _ (by decide +kernel)) ggX7_give_X7_isHallUsed
set_option maxRecDepth 20000 in
theorem ggX7_give_X3_isGivenOn : GoodIn wsX7_give wsX3_isGivenOn := goodIn_ca (goodIn_r _ [29, 30, 31, 6, 32, 63, 64, 65] (by decide +kernel) (by decide +kernel)) (goodIn_sub (fun _ h => List.mem_cons_of_mem _ (List.mem_append_right _ h)) (by decide +kernel))
set_option maxRecDepth 20000 in
theorem gX7_give_X3_isGivenOn_n185 : GoodIn wsX7_give (wsX3_isGivenOn) := ggX7_give_X3_isGivenOn
set_option maxRecDepth 20000 in
theorem ggX7_give_X3_noteGiven : GoodIn wsX7_give wsX3_noteGiven := goodIn_ca (goodIn_r _ [35, 30, 63, 64, 65] (by decide +kernel) (by decide +kernel)) (goodIn_sub (fun _ h => List.mem_cons_of_mem _ (List.mem_append_right _ h)) (by decide +kernel))
set_option maxRecDepth 20000 in
theorem gX7_give_X3_noteGiven_n188 : GoodIn wsX7_give (wsX3_noteGiven) := ggX7_give_X3_noteGiven
theorem dX7_give_0 : decode cX7_give 0 = .ok (.aload_n 0, 1) := by decide +kernel
theorem dX7_give_1 : decode cX7_give 1 = .ok (.iload_n 1, 1) := by decide +kernel
theorem dX7_give_2 : decode cX7_give 2 = .ok (.invokevirtual 176, 3) := by decide +kernel
theorem dX7_give_5 : decode cX7_give 5 = .ok (.astore 4, 2) := by decide +kernel
theorem dX7_give_7 : decode cX7_give 7 = .ok (.iload_n 2, 1) := by decide +kernel
theorem dX7_give_8 : decode cX7_give 8 = .ok (.iconst 0, 1) := by decide +kernel
theorem dX7_give_9 : decode cX7_give 9 = .ok (.sipush 399, 3) := by decide +kernel
theorem dX7_give_12 : decode cX7_give 12 = .ok (.invokestatic 58, 3) := by decide +kernel
theorem dX7_give_15 : decode cX7_give 15 = .ok (.aload_n 0, 1) := by decide +kernel
theorem dX7_give_16 : decode cX7_give 16 = .ok (.iload_n 1, 1) := by decide +kernel
theorem dX7_give_17 : decode cX7_give 17 = .ok (.iload_n 2, 1) := by decide +kernel
theorem dX7_give_18 : decode cX7_give 18 = .ok (.invokevirtual 180, 3) := by decide +kernel
theorem dX7_give_21 : decode cX7_give 21 = .ok (.ifCond .eq 13, 3) := by decide +kernel
theorem dX7_give_24 : decode cX7_give 24 = .ok (.new 95, 3) := by decide +kernel
theorem dX7_give_27 : decode cX7_give 27 = .ok (.dup, 1) := by decide +kernel
theorem dX7_give_28 : decode cX7_give 28 = .ok (.ldc 183, 2) := by decide +kernel
theorem dX7_give_30 : decode cX7_give 30 = .ok (.invokespecial 99, 3) := by decide +kernel
theorem dX7_give_33 : decode cX7_give 33 = .ok (.athrow, 1) := by decide +kernel
theorem dX7_give_34 : decode cX7_give 34 = .ok (.aload 4, 2) := by decide +kernel
theorem dX7_give_36 : decode cX7_give 36 = .ok (.iload_n 2, 1) := by decide +kernel
theorem dX7_give_37 : decode cX7_give 37 = .ok (.invokevirtual 185, 3) := by decide +kernel
theorem dX7_give_40 : decode cX7_give 40 = .ok (.istore 5, 2) := by decide +kernel
theorem dX7_give_42 : decode cX7_give 42 = .ok (.aload 4, 2) := by decide +kernel
theorem dX7_give_44 : decode cX7_give 44 = .ok (.iload_n 2, 1) := by decide +kernel
theorem dX7_give_45 : decode cX7_give 45 = .ok (.iload_n 3, 1) := by decide +kernel
theorem dX7_give_46 : decode cX7_give 46 = .ok (.invokevirtual 188, 3) := by decide +kernel
theorem dX7_give_49 : decode cX7_give 49 = .ok (.iload 5, 2) := by decide +kernel
theorem dX7_give_51 : decode cX7_give 51 = .ok (.ireturn, 1) := by decide +kernel
set_option maxRecDepth 20000 in
theorem ggX7_addService_X7_hallRow : GoodIn wsX7_addService wsX7_hallRow := goodIn_ca (goodIn_r _ [11, 12, 13, 14, 15, 10, 16, 17, 18, 48, 49, 50, 51, 52, 53, 54, 55, 56, 57, 58, 59] (by decide +kernel) (by decide +kernel)) (goodIn_sub (fun _ h => List.mem_cons_of_mem _ (List.mem_append_left _ (List.mem_append_left _ (List.mem_append_right _ h)))) (by decide +kernel))
set_option maxRecDepth 20000 in
theorem gX7_addService_X7_hallRow : GoodIn wsX7_addService (wsV RX7 176 RX7 yX7_hallRow wsX7_hallRow) := goodIn_app (goodIn_of _ (by decide +kernel)) ggX7_addService_X7_hallRow
set_option maxRecDepth 20000 in
theorem ggX7_addService_X7_checkKind : GoodIn wsX7_addService wsX7_checkKind := goodIn_ca (goodIn_r _ [21, 22, 23] (by decide +kernel) (by decide +kernel)) (goodIn_sub (fun _ h => List.mem_cons_of_mem _ (List.mem_append_left _ (List.mem_append_right _ h))) (by decide +kernel))
set_option maxRecDepth 20000 in
theorem gX7_addService_X7_checkKind : GoodIn wsX7_addService (va_wsS RX7 192 yX7_checkKind wsX7_checkKind) := goodIn_app (goodIn_of _ (by decide +kernel)) ggX7_addService_X7_checkKind
set_option maxRecDepth 20000 in
theorem ggX7_addService_X7_checkRange : GoodIn wsX7_addService wsX7_checkRange := goodIn_ca (goodIn_r _ [26, 22, 23] (by decide +kernel) (by decide +kernel)) (goodIn_sub (fun _ h => List.mem_cons_of_mem _ (List.mem_append_left _ (List.mem_append_right _ h))) (by decide +kernel))
set_option maxRecDepth 20000 in
theorem gX7_addService_X7_checkRange : GoodIn wsX7_addService (va_wsS RX7 58 yX7_checkRange wsX7_checkRange) := goodIn_app (goodIn_of _ (by decide +kernel)) ggX7_addService_X7_checkRange
set_option maxRecDepth 20000 in
theorem ggX7_addService_X3_isGivenOn : GoodIn wsX7_addService wsX3_isGivenOn := goodIn_ca (goodIn_r _ [30, 31, 32, 10, 33, 45, 46, 47] (by decide +kernel) (by decide +kernel)) (goodIn_sub (fun _ h => List.mem_cons_of_mem _ (List.mem_append_right _ h)) (by decide +kernel))
set_option maxRecDepth 20000 in
theorem gX7_addService_X3_isGivenOn_n185 : GoodIn wsX7_addService (wsX3_isGivenOn) := ggX7_addService_X3_isGivenOn
set_option maxRecDepth 20000 in
theorem ggX7_addService_X7_isHallTaken : GoodIn wsX7_addService wsX7_isHallTaken := goodIn_r _ [37, 5, 6, 38, 39, 40, 41, 42, 43, 44, 48, 49, 50, 51, 52, 53, 54, 55, 56, 57, 58, 59, 60, 61, 62, 63, 64, 65, 66, 67, 68, 69, 70, 71, 72, 73, 74] (by decide +kernel) (by decide +kernel)
set_option maxRecDepth 20000 in
theorem gX7_addService_X7_isHallTaken : GoodIn wsX7_addService (wsV RX7 196 RX7 yX7_isHallTaken wsX7_isHallTaken) := goodIn_app (goodIn_of _ (by decide +kernel)) ggX7_addService_X7_isHallTaken
theorem dX7_addService_0 : decode cX7_addService 0 = .ok (.aload_n 0, 1) := by decide +kernel
theorem dX7_addService_1 : decode cX7_addService 1 = .ok (.iload 5, 2) := by decide +kernel
theorem dX7_addService_3 : decode cX7_addService 3 = .ok (.invokevirtual 176, 3) := by decide +kernel
theorem dX7_addService_6 : decode cX7_addService 6 = .ok (.astore 6, 2) := by decide +kernel
theorem dX7_addService_8 : decode cX7_addService 8 = .ok (.iload_n 1, 1) := by decide +kernel
theorem dX7_addService_9 : decode cX7_addService 9 = .ok (.invokestatic 192, 3) := by decide +kernel
theorem dX7_addService_12 : decode cX7_addService 12 = .ok (.iload_n 2, 1) := by decide +kernel
theorem dX7_addService_13 : decode cX7_addService 13 = .ok (.iconst 0, 1) := by decide +kernel
theorem dX7_addService_14 : decode cX7_addService 14 = .ok (.sipush 399, 3) := by decide +kernel
theorem dX7_addService_17 : decode cX7_addService 17 = .ok (.invokestatic 58, 3) := by decide +kernel
theorem dX7_addService_20 : decode cX7_addService 20 = .ok (.iload_n 3, 1) := by decide +kernel
theorem dX7_addService_21 : decode cX7_addService 21 = .ok (.iconst 0, 1) := by decide +kernel
theorem dX7_addService_22 : decode cX7_addService 22 = .ok (.bipush 95, 2) := by decide +kernel
theorem dX7_addService_24 : decode cX7_addService 24 = .ok (.invokestatic 58, 3) := by decide +kernel
theorem dX7_addService_27 : decode cX7_addService 27 = .ok (.iload 4, 2) := by decide +kernel
theorem dX7_addService_29 : decode cX7_addService 29 = .ok (.iconst 4, 1) := by decide +kernel
theorem dX7_addService_30 : decode cX7_addService 30 = .ok (.bipush 16, 2) := by decide +kernel
theorem dX7_addService_32 : decode cX7_addService 32 = .ok (.invokestatic 58, 3) := by decide +kernel
theorem dX7_addService_35 : decode cX7_addService 35 = .ok (.iload_n 3, 1) := by decide +kernel
theorem dX7_addService_36 : decode cX7_addService 36 = .ok (.iload 4, 2) := by decide +kernel
theorem dX7_addService_38 : decode cX7_addService 38 = .ok (.iadd, 1) := by decide +kernel
theorem dX7_addService_39 : decode cX7_addService 39 = .ok (.istore 7, 2) := by decide +kernel
theorem dX7_addService_41 : decode cX7_addService 41 = .ok (.iload_n 3, 1) := by decide +kernel
theorem dX7_addService_42 : decode cX7_addService 42 = .ok (.aload 6, 2) := by decide +kernel
theorem dX7_addService_44 : decode cX7_addService 44 = .ok (.getfield 170, 3) := by decide +kernel
theorem dX7_addService_47 : decode cX7_addService 47 = .ok (.if_icmp .lt 35, 3) := by decide +kernel
theorem dX7_addService_50 : decode cX7_addService 50 = .ok (.iload 7, 2) := by decide +kernel
theorem dX7_addService_52 : decode cX7_addService 52 = .ok (.aload 6, 2) := by decide +kernel
theorem dX7_addService_54 : decode cX7_addService 54 = .ok (.getfield 173, 3) := by decide +kernel
theorem dX7_addService_57 : decode cX7_addService 57 = .ok (.if_icmp .gt 25, 3) := by decide +kernel
theorem dX7_addService_60 : decode cX7_addService 60 = .ok (.aload 6, 2) := by decide +kernel
theorem dX7_addService_62 : decode cX7_addService 62 = .ok (.iload_n 2, 1) := by decide +kernel
theorem dX7_addService_63 : decode cX7_addService 63 = .ok (.invokevirtual 185, 3) := by decide +kernel
theorem dX7_addService_66 : decode cX7_addService 66 = .ok (.ifCond .ne 16, 3) := by decide +kernel
theorem dX7_addService_69 : decode cX7_addService 69 = .ok (.aload_n 0, 1) := by decide +kernel
theorem dX7_addService_70 : decode cX7_addService 70 = .ok (.iload 5, 2) := by decide +kernel
theorem dX7_addService_72 : decode cX7_addService 72 = .ok (.iload_n 2, 1) := by decide +kernel
theorem dX7_addService_73 : decode cX7_addService 73 = .ok (.iload_n 3, 1) := by decide +kernel
theorem dX7_addService_74 : decode cX7_addService 74 = .ok (.iload 7, 2) := by decide +kernel
theorem dX7_addService_76 : decode cX7_addService 76 = .ok (.invokevirtual 196, 3) := by decide +kernel
theorem dX7_addService_79 : decode cX7_addService 79 = .ok (.ifCond .eq 13, 3) := by decide +kernel
theorem dX7_addService_82 : decode cX7_addService 82 = .ok (.new 95, 3) := by decide +kernel
theorem dX7_addService_85 : decode cX7_addService 85 = .ok (.dup, 1) := by decide +kernel
theorem dX7_addService_86 : decode cX7_addService 86 = .ok (.ldc 200, 2) := by decide +kernel
theorem dX7_addService_88 : decode cX7_addService 88 = .ok (.invokespecial 99, 3) := by decide +kernel
theorem dX7_addService_91 : decode cX7_addService 91 = .ok (.athrow, 1) := by decide +kernel
theorem dX7_addService_92 : decode cX7_addService 92 = .ok (.aload_n 0, 1) := by decide +kernel
theorem dX7_addService_93 : decode cX7_addService 93 = .ok (.getfield 202, 3) := by decide +kernel
theorem dX7_addService_96 : decode cX7_addService 96 = .ok (.bipush 30, 2) := by decide +kernel
theorem dX7_addService_98 : decode cX7_addService 98 = .ok (.if_icmp .lt 13, 3) := by decide +kernel
theorem dX7_addService_101 : decode cX7_addService 101 = .ok (.new 66, 3) := by decide +kernel
theorem dX7_addService_104 : decode cX7_addService 104 = .ok (.dup, 1) := by decide +kernel
theorem dX7_addService_105 : decode cX7_addService 105 = .ok (.ldc 205, 2) := by decide +kernel
theorem dX7_addService_107 : decode cX7_addService 107 = .ok (.invokespecial 70, 3) := by decide +kernel
theorem dX7_addService_110 : decode cX7_addService 110 = .ok (.athrow, 1) := by decide +kernel
theorem dX7_addService_111 : decode cX7_addService 111 = .ok (.aload_n 0, 1) := by decide +kernel
theorem dX7_addService_112 : decode cX7_addService 112 = .ok (.getfield 29, 3) := by decide +kernel
theorem dX7_addService_115 : decode cX7_addService 115 = .ok (.aload_n 0, 1) := by decide +kernel
theorem dX7_addService_116 : decode cX7_addService 116 = .ok (.getfield 202, 3) := by decide +kernel
theorem dX7_addService_119 : decode cX7_addService 119 = .ok (.aaload, 1) := by decide +kernel
theorem dX7_addService_120 : decode cX7_addService 120 = .ok (.astore 8, 2) := by decide +kernel
theorem dX7_addService_122 : decode cX7_addService 122 = .ok (.aload 8, 2) := by decide +kernel
theorem dX7_addService_124 : decode cX7_addService 124 = .ok (.iload_n 1, 1) := by decide +kernel
theorem dX7_addService_125 : decode cX7_addService 125 = .ok (.putfield 207, 3) := by decide +kernel
theorem dX7_addService_128 : decode cX7_addService 128 = .ok (.aload 8, 2) := by decide +kernel
theorem dX7_addService_130 : decode cX7_addService 130 = .ok (.iload_n 2, 1) := by decide +kernel
theorem dX7_addService_131 : decode cX7_addService 131 = .ok (.putfield 211, 3) := by decide +kernel
theorem dX7_addService_134 : decode cX7_addService 134 = .ok (.aload 8, 2) := by decide +kernel
theorem dX7_addService_136 : decode cX7_addService 136 = .ok (.iload_n 3, 1) := by decide +kernel
theorem dX7_addService_137 : decode cX7_addService 137 = .ok (.putfield 214, 3) := by decide +kernel
theorem dX7_addService_140 : decode cX7_addService 140 = .ok (.aload 8, 2) := by decide +kernel
theorem dX7_addService_142 : decode cX7_addService 142 = .ok (.iload 7, 2) := by decide +kernel
theorem dX7_addService_144 : decode cX7_addService 144 = .ok (.putfield 217, 3) := by decide +kernel
theorem dX7_addService_147 : decode cX7_addService 147 = .ok (.aload 8, 2) := by decide +kernel
theorem dX7_addService_149 : decode cX7_addService 149 = .ok (.iload 5, 2) := by decide +kernel
theorem dX7_addService_151 : decode cX7_addService 151 = .ok (.putfield 220, 3) := by decide +kernel
theorem dX7_addService_154 : decode cX7_addService 154 = .ok (.aload_n 0, 1) := by decide +kernel
theorem dX7_addService_155 : decode cX7_addService 155 = .ok (.dup, 1) := by decide +kernel
theorem dX7_addService_156 : decode cX7_addService 156 = .ok (.getfield 202, 3) := by decide +kernel
theorem dX7_addService_159 : decode cX7_addService 159 = .ok (.iconst 1, 1) := by decide +kernel
theorem dX7_addService_160 : decode cX7_addService 160 = .ok (.iadd, 1) := by decide +kernel
theorem dX7_addService_161 : decode cX7_addService 161 = .ok (.putfield 202, 3) := by decide +kernel
theorem dX7_addService_164 : decode cX7_addService 164 = .ok (.aload_n 0, 1) := by decide +kernel
theorem dX7_addService_165 : decode cX7_addService 165 = .ok (.getfield 202, 3) := by decide +kernel
theorem dX7_addService_168 : decode cX7_addService 168 = .ok (.iconst 1, 1) := by decide +kernel
theorem dX7_addService_169 : decode cX7_addService 169 = .ok (.isub, 1) := by decide +kernel
theorem dX7_addService_170 : decode cX7_addService 170 = .ok (.ireturn, 1) := by decide +kernel
set_option maxRecDepth 20000 in
theorem ggX7_add_X7_serviceRow : GoodIn wsX7_add wsX7_serviceRow := goodIn_ca (goodIn_r _ [7, 8, 9, 10, 11, 6, 12, 13, 14, 15, 16, 17, 18, 83, 84, 85, 86, 87, 88, 89, 90, 91, 92, 93, 94] (by decide +kernel) (by decide +kernel)) (goodIn_sub (fun _ h => List.mem_cons_of_mem _ (List.mem_append_left _ (List.mem_append_right _ h))) (by decide +kernel))
set_option maxRecDepth 20000 in
theorem gX7_add_X7_serviceRow : GoodIn wsX7_add (wsV RX7 223 RX7 yX7_serviceRow wsX7_serviceRow) := goodIn_app (goodIn_of _ (by decide +kernel)) ggX7_add_X7_serviceRow
set_option maxRecDepth 20000 in
theorem ggX7_add_X7_workRow : GoodIn wsX7_add wsX7_workRow := goodIn_ca (goodIn_r _ [22, 23, 24, 25, 26, 6, 27, 28, 14, 15, 16, 17, 18, 83, 84, 85, 86, 87, 88, 89, 90, 91, 92, 93, 94] (by decide +kernel) (by decide +kernel)) (goodIn_sub (fun _ h => List.mem_cons_of_mem _ (List.mem_append_left _ (List.mem_append_right _ h))) (by decide +kernel))
set_option maxRecDepth 20000 in
theorem gX7_add_X7_workRow : GoodIn wsX7_add (wsV RX7 80 RX7 yX7_workRow wsX7_workRow) := goodIn_app (goodIn_of _ (by decide +kernel)) ggX7_add_X7_workRow
set_option maxRecDepth 20000 in
theorem ggX7_add_X5_placeOf : GoodIn wsX7_add wsX5_placeOf := goodIn_ca (goodIn_r _ [32, 33, 34, 59, 60, 61, 62, 63, 64, 65, 66, 67, 68, 69, 70, 71, 72, 73] (by decide +kernel) (by decide +kernel)) (goodIn_sub (fun _ h => List.mem_cons_of_mem _ (List.mem_append_right _ h)) (by decide +kernel))
set_option maxRecDepth 20000 in
theorem gX7_add_X5_placeOf_n230 : GoodIn wsX7_add (wsX5_placeOf) := ggX7_add_X5_placeOf
set_option maxRecDepth 20000 in
theorem ggX7_add_X7_minutesOf : GoodIn wsX7_add wsX7_minutesOf := goodIn_ca (goodIn_r _ [38, 23, 59, 60, 61, 62, 63, 64, 65, 66, 67, 68, 69, 70, 71, 72, 73, 83, 84, 85, 86, 87, 88, 89, 90, 91, 92, 93, 94, 74, 75, 76, 77, 78, 79, 80, 81, 82] (by decide +kernel) (by decide +kernel)) (goodIn_sub (fun _ h => List.mem_cons_of_mem _ (List.mem_append_right _ h)) (by decide +kernel))
set_option maxRecDepth 20000 in
theorem gX7_add_X7_minutesOf : GoodIn wsX7_add (wsV RX7 237 RX7 yX7_minutesOf wsX7_minutesOf) := goodIn_app (goodIn_of _ (by decide +kernel)) ggX7_add_X7_minutesOf
set_option maxRecDepth 20000 in
theorem ggX7_add_X5_mostMinutes : GoodIn wsX7_add wsX5_mostMinutes := goodIn_r _ [41, 42, 43, 44, 59, 60, 61, 62, 63, 64, 65, 66, 67, 68, 69, 70, 71, 72, 73] (by decide +kernel) (by decide +kernel)
set_option maxRecDepth 20000 in
theorem gX7_add_X5_mostMinutes_n241 : GoodIn wsX7_add (wsX5_mostMinutes) := ggX7_add_X5_mostMinutes
set_option maxRecDepth 20000 in
theorem ggX7_add_X7_seriesForbids : GoodIn wsX7_add wsX7_seriesForbids := goodIn_ca (goodIn_r _ [48, 13, 8, 49, 50, 51, 52, 53, 30, 54, 55, 33, 34, 83, 84, 85, 86, 87, 88, 89, 90, 91, 92, 93, 94, 59, 60, 61, 62, 63, 64, 65, 66, 67, 68, 69, 70, 71, 72, 73] (by decide +kernel) (by decide +kernel)) (goodIn_sub (fun _ h => List.mem_cons_of_mem _ (List.mem_append_right _ h)) (by decide +kernel))
set_option maxRecDepth 20000 in
theorem gX7_add_X7_seriesForbids : GoodIn wsX7_add (wsV RX7 248 RX7 yX7_seriesForbids wsX7_seriesForbids) := goodIn_app (goodIn_of _ (by decide +kernel)) ggX7_add_X7_seriesForbids
set_option maxRecDepth 20000 in
theorem ggX7_add_X5_append : GoodIn wsX7_add wsX5_append := goodIn_ca (goodIn_r _ [58, 33, 34, 59, 60, 61, 62, 63, 64, 65, 66, 67, 68, 69, 70, 71, 72, 73] (by decide +kernel) (by decide +kernel)) (goodIn_sub (fun _ h => List.mem_cons_of_mem _ (List.mem_append_right _ h)) (by decide +kernel))
set_option maxRecDepth 20000 in
theorem gX7_add_X5_append_n253 : GoodIn wsX7_add (wsX5_append) := ggX7_add_X5_append
theorem dX7_add_0 : decode cX7_add 0 = .ok (.aload_n 0, 1) := by decide +kernel
theorem dX7_add_1 : decode cX7_add 1 = .ok (.iload_n 1, 1) := by decide +kernel
theorem dX7_add_2 : decode cX7_add 2 = .ok (.invokevirtual 223, 3) := by decide +kernel
theorem dX7_add_5 : decode cX7_add 5 = .ok (.astore_n 3, 1) := by decide +kernel
theorem dX7_add_6 : decode cX7_add 6 = .ok (.aload_n 0, 1) := by decide +kernel
theorem dX7_add_7 : decode cX7_add 7 = .ok (.iload_n 2, 1) := by decide +kernel
theorem dX7_add_8 : decode cX7_add 8 = .ok (.invokevirtual 80, 3) := by decide +kernel
theorem dX7_add_11 : decode cX7_add 11 = .ok (.astore 4, 2) := by decide +kernel
theorem dX7_add_13 : decode cX7_add 13 = .ok (.aload_n 3, 1) := by decide +kernel
theorem dX7_add_14 : decode cX7_add 14 = .ok (.getfield 227, 3) := by decide +kernel
theorem dX7_add_17 : decode cX7_add 17 = .ok (.ifCond .ne 21, 3) := by decide +kernel
theorem dX7_add_20 : decode cX7_add 20 = .ok (.aload_n 3, 1) := by decide +kernel
theorem dX7_add_21 : decode cX7_add 21 = .ok (.iload_n 2, 1) := by decide +kernel
theorem dX7_add_22 : decode cX7_add 22 = .ok (.invokevirtual 230, 3) := by decide +kernel
theorem dX7_add_25 : decode cX7_add 25 = .ok (.iconst (-1), 1) := by decide +kernel
theorem dX7_add_26 : decode cX7_add 26 = .ok (.if_icmp .ne 12, 3) := by decide +kernel
theorem dX7_add_29 : decode cX7_add 29 = .ok (.aload_n 3, 1) := by decide +kernel
theorem dX7_add_30 : decode cX7_add 30 = .ok (.getfield 234, 3) := by decide +kernel
theorem dX7_add_33 : decode cX7_add 33 = .ok (.bipush 6, 2) := by decide +kernel
theorem dX7_add_35 : decode cX7_add 35 = .ok (.if_icmp .lt 13, 3) := by decide +kernel
theorem dX7_add_38 : decode cX7_add 38 = .ok (.new 95, 3) := by decide +kernel
theorem dX7_add_41 : decode cX7_add 41 = .ok (.dup, 1) := by decide +kernel
theorem dX7_add_42 : decode cX7_add 42 = .ok (.ldc 235, 2) := by decide +kernel
theorem dX7_add_44 : decode cX7_add 44 = .ok (.invokespecial 99, 3) := by decide +kernel
theorem dX7_add_47 : decode cX7_add 47 = .ok (.athrow, 1) := by decide +kernel
theorem dX7_add_48 : decode cX7_add 48 = .ok (.aload_n 0, 1) := by decide +kernel
theorem dX7_add_49 : decode cX7_add 49 = .ok (.aload_n 3, 1) := by decide +kernel
theorem dX7_add_50 : decode cX7_add 50 = .ok (.invokevirtual 237, 3) := by decide +kernel
theorem dX7_add_53 : decode cX7_add 53 = .ok (.aload 4, 2) := by decide +kernel
theorem dX7_add_55 : decode cX7_add 55 = .ok (.getfield 73, 3) := by decide +kernel
theorem dX7_add_58 : decode cX7_add 58 = .ok (.iadd, 1) := by decide +kernel
theorem dX7_add_59 : decode cX7_add 59 = .ok (.aload_n 3, 1) := by decide +kernel
theorem dX7_add_60 : decode cX7_add 60 = .ok (.invokevirtual 241, 3) := by decide +kernel
theorem dX7_add_63 : decode cX7_add 63 = .ok (.if_icmp .gt 18, 3) := by decide +kernel
theorem dX7_add_66 : decode cX7_add 66 = .ok (.aload_n 0, 1) := by decide +kernel
theorem dX7_add_67 : decode cX7_add 67 = .ok (.iload_n 1, 1) := by decide +kernel
theorem dX7_add_68 : decode cX7_add 68 = .ok (.aload_n 3, 1) := by decide +kernel
theorem dX7_add_69 : decode cX7_add 69 = .ok (.getfield 245, 3) := by decide +kernel
theorem dX7_add_72 : decode cX7_add 72 = .ok (.iconst 1, 1) := by decide +kernel
theorem dX7_add_73 : decode cX7_add 73 = .ok (.iload_n 2, 1) := by decide +kernel
theorem dX7_add_74 : decode cX7_add 74 = .ok (.ishl, 1) := by decide +kernel
theorem dX7_add_75 : decode cX7_add 75 = .ok (.invokevirtual 248, 3) := by decide +kernel
theorem dX7_add_78 : decode cX7_add 78 = .ok (.ifCond .eq 13, 3) := by decide +kernel
theorem dX7_add_81 : decode cX7_add 81 = .ok (.new 95, 3) := by decide +kernel
theorem dX7_add_84 : decode cX7_add 84 = .ok (.dup, 1) := by decide +kernel
theorem dX7_add_85 : decode cX7_add 85 = .ok (.ldc 251, 2) := by decide +kernel
theorem dX7_add_87 : decode cX7_add 87 = .ok (.invokespecial 99, 3) := by decide +kernel
theorem dX7_add_90 : decode cX7_add 90 = .ok (.athrow, 1) := by decide +kernel
theorem dX7_add_91 : decode cX7_add 91 = .ok (.aload_n 3, 1) := by decide +kernel
theorem dX7_add_92 : decode cX7_add 92 = .ok (.iload_n 2, 1) := by decide +kernel
theorem dX7_add_93 : decode cX7_add 93 = .ok (.invokevirtual 253, 3) := by decide +kernel
theorem dX7_add_96 : decode cX7_add 96 = .ok (.aload_n 3, 1) := by decide +kernel
theorem dX7_add_97 : decode cX7_add 97 = .ok (.getfield 234, 3) := by decide +kernel
theorem dX7_add_100 : decode cX7_add 100 = .ok (.ireturn, 1) := by decide +kernel
set_option maxRecDepth 20000 in
theorem ggX7_remove_X7_serviceRow : GoodIn wsX7_remove wsX7_serviceRow := goodIn_ca (goodIn_r _ [7, 8, 9, 10, 11, 6, 12, 13, 14, 15, 16, 17, 18, 48, 49, 50, 51, 52, 53, 54, 55, 56, 57, 58, 59] (by decide +kernel) (by decide +kernel)) (goodIn_sub (fun _ h => List.mem_cons_of_mem _ (List.mem_append_left _ (List.mem_append_right _ h))) (by decide +kernel))
set_option maxRecDepth 20000 in
theorem gX7_remove_X7_serviceRow : GoodIn wsX7_remove (wsV RX7 223 RX7 yX7_serviceRow wsX7_serviceRow) := goodIn_app (goodIn_of _ (by decide +kernel)) ggX7_remove_X7_serviceRow
set_option maxRecDepth 20000 in
theorem ggX7_remove_X7_checkWork : GoodIn wsX7_remove wsX7_checkWork := goodIn_ca (goodIn_r _ [22, 23, 14, 15, 6, 16, 17, 18, 48, 49, 50, 51, 52, 53, 54, 55, 56, 57, 58, 59] (by decide +kernel) (by decide +kernel)) (goodIn_sub (fun _ h => List.mem_cons_of_mem _ (List.mem_append_left _ (List.mem_append_right _ h))) (by decide +kernel))
set_option maxRecDepth 20000 in
theorem gX7_remove_X7_checkWork : GoodIn wsX7_remove (wsV RX7 154 RX7 yX7_checkWork wsX7_checkWork) := goodIn_app (goodIn_of _ (by decide +kernel)) ggX7_remove_X7_checkWork
set_option maxRecDepth 20000 in
theorem ggX7_remove_X5_placeOf : GoodIn wsX7_remove wsX5_placeOf := goodIn_ca (goodIn_r _ [27, 28, 29, 33, 34, 35, 36, 37, 38, 39, 40, 41, 42, 43, 44, 45, 46, 47] (by decide +kernel) (by decide +kernel)) (goodIn_sub (fun _ h => List.mem_cons_of_mem _ (List.mem_append_right _ h)) (by decide +kernel))
set_option maxRecDepth 20000 in
theorem gX7_remove_X5_placeOf_n230 : GoodIn wsX7_remove (wsX5_placeOf) := ggX7_remove_X5_placeOf
set_option maxRecDepth 20000 in
theorem ggX7_remove_X5_takeOut : GoodIn wsX7_remove wsX5_takeOut := goodIn_ca (goodIn_r _ [32, 28, 29, 33, 34, 35, 36, 37, 38, 39, 40, 41, 42, 43, 44, 45, 46, 47] (by decide +kernel) (by decide +kernel)) (goodIn_sub (fun _ h => List.mem_cons_of_mem _ (List.mem_append_right _ h)) (by decide +kernel))
set_option maxRecDepth 20000 in
theorem gX7_remove_X5_takeOut_n258 : GoodIn wsX7_remove (wsX5_takeOut) := ggX7_remove_X5_takeOut
theorem dX7_remove_0 : decode cX7_remove 0 = .ok (.aload_n 0, 1) := by decide +kernel
theorem dX7_remove_1 : decode cX7_remove 1 = .ok (.iload_n 1, 1) := by decide +kernel
theorem dX7_remove_2 : decode cX7_remove 2 = .ok (.invokevirtual 223, 3) := by decide +kernel
theorem dX7_remove_5 : decode cX7_remove 5 = .ok (.astore_n 3, 1) := by decide +kernel
theorem dX7_remove_6 : decode cX7_remove 6 = .ok (.aload_n 0, 1) := by decide +kernel
theorem dX7_remove_7 : decode cX7_remove 7 = .ok (.iload_n 2, 1) := by decide +kernel
theorem dX7_remove_8 : decode cX7_remove 8 = .ok (.invokevirtual 154, 3) := by decide +kernel
theorem dX7_remove_11 : decode cX7_remove 11 = .ok (.aload_n 3, 1) := by decide +kernel
theorem dX7_remove_12 : decode cX7_remove 12 = .ok (.iload_n 2, 1) := by decide +kernel
theorem dX7_remove_13 : decode cX7_remove 13 = .ok (.invokevirtual 230, 3) := by decide +kernel
theorem dX7_remove_16 : decode cX7_remove 16 = .ok (.istore 4, 2) := by decide +kernel
theorem dX7_remove_18 : decode cX7_remove 18 = .ok (.aload_n 3, 1) := by decide +kernel
theorem dX7_remove_19 : decode cX7_remove 19 = .ok (.getfield 227, 3) := by decide +kernel
theorem dX7_remove_22 : decode cX7_remove 22 = .ok (.ifCond .ne 9, 3) := by decide +kernel
theorem dX7_remove_25 : decode cX7_remove 25 = .ok (.iload 4, 2) := by decide +kernel
theorem dX7_remove_27 : decode cX7_remove 27 = .ok (.iconst (-1), 1) := by decide +kernel
theorem dX7_remove_28 : decode cX7_remove 28 = .ok (.if_icmp .ne 14, 3) := by decide +kernel
theorem dX7_remove_31 : decode cX7_remove 31 = .ok (.new 95, 3) := by decide +kernel
theorem dX7_remove_34 : decode cX7_remove 34 = .ok (.dup, 1) := by decide +kernel
theorem dX7_remove_35 : decode cX7_remove 35 = .ok (.ldc_w 256, 3) := by decide +kernel
theorem dX7_remove_38 : decode cX7_remove 38 = .ok (.invokespecial 99, 3) := by decide +kernel
theorem dX7_remove_41 : decode cX7_remove 41 = .ok (.athrow, 1) := by decide +kernel
theorem dX7_remove_42 : decode cX7_remove 42 = .ok (.aload_n 3, 1) := by decide +kernel
theorem dX7_remove_43 : decode cX7_remove 43 = .ok (.iload 4, 2) := by decide +kernel
theorem dX7_remove_45 : decode cX7_remove 45 = .ok (.invokevirtual 258, 3) := by decide +kernel
theorem dX7_remove_48 : decode cX7_remove 48 = .ok (.aload_n 3, 1) := by decide +kernel
theorem dX7_remove_49 : decode cX7_remove 49 = .ok (.getfield 234, 3) := by decide +kernel
theorem dX7_remove_52 : decode cX7_remove 52 = .ok (.ireturn, 1) := by decide +kernel
set_option maxRecDepth 20000 in
theorem ggX7_setSeries_X7_serviceRow : GoodIn wsX7_setSeries wsX7_serviceRow := goodIn_ca (goodIn_r _ [7, 8, 9, 10, 11, 6, 12, 13, 14, 15, 16, 17, 18, 53, 54, 55, 56, 57, 58, 59, 60, 61, 62, 63, 64] (by decide +kernel) (by decide +kernel)) (goodIn_sub (fun _ h => List.mem_cons_of_mem _ (List.mem_append_left _ (List.mem_append_left _ (List.mem_append_right _ h)))) (by decide +kernel))
set_option maxRecDepth 20000 in
theorem gX7_setSeries_X7_serviceRow : GoodIn wsX7_setSeries (wsV RX7 223 RX7 yX7_serviceRow wsX7_serviceRow) := goodIn_app (goodIn_of _ (by decide +kernel)) ggX7_setSeries_X7_serviceRow
set_option maxRecDepth 20000 in
theorem ggX7_setSeries_X7_checkRange : GoodIn wsX7_setSeries wsX7_checkRange := goodIn_ca (goodIn_r _ [21, 22, 23] (by decide +kernel) (by decide +kernel)) (goodIn_sub (fun _ h => List.mem_cons_of_mem _ (List.mem_append_left _ (List.mem_append_right _ h))) (by decide +kernel))
set_option maxRecDepth 20000 in
theorem gX7_setSeries_X7_checkRange : GoodIn wsX7_setSeries (va_wsS RX7 58 yX7_checkRange wsX7_checkRange) := goodIn_app (goodIn_of _ (by decide +kernel)) ggX7_setSeries_X7_checkRange
set_option maxRecDepth 20000 in
theorem ggX7_setSeries_X5_allWorks : GoodIn wsX7_setSeries wsX5_allWorks := goodIn_ca (goodIn_r _ [27, 28, 29, 38, 39, 40, 41, 42, 43, 44, 45, 46, 47, 48, 49, 50, 51, 52] (by decide +kernel) (by decide +kernel)) (goodIn_sub (fun _ h => List.mem_cons_of_mem _ (List.mem_append_right _ h)) (by decide +kernel))
set_option maxRecDepth 20000 in
theorem gX7_setSeries_X5_allWorks_n261 : GoodIn wsX7_setSeries (wsX5_allWorks) := ggX7_setSeries_X5_allWorks
set_option maxRecDepth 20000 in
theorem ggX7_setSeries_X7_seriesForbids : GoodIn wsX7_setSeries wsX7_seriesForbids := goodIn_ca (goodIn_r _ [33, 13, 8, 34, 35, 36, 37, 24, 25, 26, 27, 28, 29, 53, 54, 55, 56, 57, 58, 59, 60, 61, 62, 63, 64, 38, 39, 40, 41, 42, 43, 44, 45, 46, 47, 48, 49, 50, 51, 52] (by decide +kernel) (by decide +kernel)) (goodIn_sub (fun _ h => List.mem_cons_of_mem _ (List.mem_append_right _ h)) (by decide +kernel))
set_option maxRecDepth 20000 in
theorem gX7_setSeries_X7_seriesForbids : GoodIn wsX7_setSeries (wsV RX7 248 RX7 yX7_seriesForbids wsX7_seriesForbids) := goodIn_app (goodIn_of _ (by decide +kernel)) ggX7_setSeries_X7_seriesForbids
theorem dX7_setSeries_0 : decode cX7_setSeries 0 = .ok (.aload_n 0, 1) := by decide +kernel
theorem dX7_setSeries_1 : decode cX7_setSeries 1 = .ok (.iload_n 1, 1) := by decide +kernel
theorem dX7_setSeries_2 : decode cX7_setSeries 2 = .ok (.invokevirtual 223, 3) := by decide +kernel
theorem dX7_setSeries_5 : decode cX7_setSeries 5 = .ok (.astore_n 3, 1) := by decide +kernel
theorem dX7_setSeries_6 : decode cX7_setSeries 6 = .ok (.iload_n 2, 1) := by decide +kernel
theorem dX7_setSeries_7 : decode cX7_setSeries 7 = .ok (.iconst (-1), 1) := by decide +kernel
theorem dX7_setSeries_8 : decode cX7_setSeries 8 = .ok (.iconst 3, 1) := by decide +kernel
theorem dX7_setSeries_9 : decode cX7_setSeries 9 = .ok (.invokestatic 58, 3) := by decide +kernel
theorem dX7_setSeries_12 : decode cX7_setSeries 12 = .ok (.aload_n 3, 1) := by decide +kernel
theorem dX7_setSeries_13 : decode cX7_setSeries 13 = .ok (.getfield 207, 3) := by decide +kernel
theorem dX7_setSeries_16 : decode cX7_setSeries 16 = .ok (.bipush 99, 2) := by decide +kernel
theorem dX7_setSeries_18 : decode cX7_setSeries 18 = .ok (.if_icmp .ne 16, 3) := by decide +kernel
theorem dX7_setSeries_21 : decode cX7_setSeries 21 = .ok (.aload_n 0, 1) := by decide +kernel
theorem dX7_setSeries_22 : decode cX7_setSeries 22 = .ok (.iload_n 1, 1) := by decide +kernel
theorem dX7_setSeries_23 : decode cX7_setSeries 23 = .ok (.iload_n 2, 1) := by decide +kernel
theorem dX7_setSeries_24 : decode cX7_setSeries 24 = .ok (.aload_n 3, 1) := by decide +kernel
theorem dX7_setSeries_25 : decode cX7_setSeries 25 = .ok (.invokevirtual 261, 3) := by decide +kernel
theorem dX7_setSeries_28 : decode cX7_setSeries 28 = .ok (.invokevirtual 248, 3) := by decide +kernel
theorem dX7_setSeries_31 : decode cX7_setSeries 31 = .ok (.ifCond .eq 14, 3) := by decide +kernel
theorem dX7_setSeries_34 : decode cX7_setSeries 34 = .ok (.new 95, 3) := by decide +kernel
theorem dX7_setSeries_37 : decode cX7_setSeries 37 = .ok (.dup, 1) := by decide +kernel
theorem dX7_setSeries_38 : decode cX7_setSeries 38 = .ok (.ldc_w 264, 3) := by decide +kernel
theorem dX7_setSeries_41 : decode cX7_setSeries 41 = .ok (.invokespecial 99, 3) := by decide +kernel
theorem dX7_setSeries_44 : decode cX7_setSeries 44 = .ok (.athrow, 1) := by decide +kernel
theorem dX7_setSeries_45 : decode cX7_setSeries 45 = .ok (.aload_n 3, 1) := by decide +kernel
theorem dX7_setSeries_46 : decode cX7_setSeries 46 = .ok (.getfield 245, 3) := by decide +kernel
theorem dX7_setSeries_49 : decode cX7_setSeries 49 = .ok (.istore 4, 2) := by decide +kernel
theorem dX7_setSeries_51 : decode cX7_setSeries 51 = .ok (.aload_n 3, 1) := by decide +kernel
theorem dX7_setSeries_52 : decode cX7_setSeries 52 = .ok (.iload_n 2, 1) := by decide +kernel
theorem dX7_setSeries_53 : decode cX7_setSeries 53 = .ok (.putfield 245, 3) := by decide +kernel
theorem dX7_setSeries_56 : decode cX7_setSeries 56 = .ok (.iload 4, 2) := by decide +kernel
theorem dX7_setSeries_58 : decode cX7_setSeries 58 = .ok (.ireturn, 1) := by decide +kernel
set_option maxRecDepth 20000 in
theorem ggX7_addGuest_X7_checkRange : GoodIn wsX7_addGuest wsX7_checkRange := goodIn_ca (goodIn_r _ [8, 9, 10] (by decide +kernel) (by decide +kernel)) (goodIn_sub (fun _ h => List.mem_cons_of_mem _ (List.mem_append_right _ h)) (by decide +kernel))
set_option maxRecDepth 20000 in
theorem gX7_addGuest_X7_checkRange : GoodIn wsX7_addGuest (va_wsS RX7 58 yX7_checkRange wsX7_checkRange) := goodIn_app (goodIn_of _ (by decide +kernel)) ggX7_addGuest_X7_checkRange
theorem dX7_addGuest_0 : decode cX7_addGuest 0 = .ok (.iload_n 1, 1) := by decide +kernel
theorem dX7_addGuest_1 : decode cX7_addGuest 1 = .ok (.iconst 0, 1) := by decide +kernel
theorem dX7_addGuest_2 : decode cX7_addGuest 2 = .ok (.sipush 9999, 3) := by decide +kernel
theorem dX7_addGuest_5 : decode cX7_addGuest 5 = .ok (.invokestatic 58, 3) := by decide +kernel
theorem dX7_addGuest_8 : decode cX7_addGuest 8 = .ok (.iload_n 2, 1) := by decide +kernel
theorem dX7_addGuest_9 : decode cX7_addGuest 9 = .ok (.iconst 0, 1) := by decide +kernel
theorem dX7_addGuest_10 : decode cX7_addGuest 10 = .ok (.sipush 4095, 3) := by decide +kernel
theorem dX7_addGuest_13 : decode cX7_addGuest 13 = .ok (.invokestatic 58, 3) := by decide +kernel
theorem dX7_addGuest_16 : decode cX7_addGuest 16 = .ok (.aload_n 0, 1) := by decide +kernel
theorem dX7_addGuest_17 : decode cX7_addGuest 17 = .ok (.getfield 266, 3) := by decide +kernel
theorem dX7_addGuest_20 : decode cX7_addGuest 20 = .ok (.iconst 5, 1) := by decide +kernel
theorem dX7_addGuest_21 : decode cX7_addGuest 21 = .ok (.if_icmp .lt 14, 3) := by decide +kernel
theorem dX7_addGuest_24 : decode cX7_addGuest 24 = .ok (.new 66, 3) := by decide +kernel
theorem dX7_addGuest_27 : decode cX7_addGuest 27 = .ok (.dup, 1) := by decide +kernel
theorem dX7_addGuest_28 : decode cX7_addGuest 28 = .ok (.ldc_w 269, 3) := by decide +kernel
theorem dX7_addGuest_31 : decode cX7_addGuest 31 = .ok (.invokespecial 70, 3) := by decide +kernel
theorem dX7_addGuest_34 : decode cX7_addGuest 34 = .ok (.athrow, 1) := by decide +kernel
theorem dX7_addGuest_35 : decode cX7_addGuest 35 = .ok (.aload_n 0, 1) := by decide +kernel
theorem dX7_addGuest_36 : decode cX7_addGuest 36 = .ok (.getfield 35, 3) := by decide +kernel
theorem dX7_addGuest_39 : decode cX7_addGuest 39 = .ok (.aload_n 0, 1) := by decide +kernel
theorem dX7_addGuest_40 : decode cX7_addGuest 40 = .ok (.getfield 266, 3) := by decide +kernel
theorem dX7_addGuest_43 : decode cX7_addGuest 43 = .ok (.aaload, 1) := by decide +kernel
theorem dX7_addGuest_44 : decode cX7_addGuest 44 = .ok (.astore_n 3, 1) := by decide +kernel
theorem dX7_addGuest_45 : decode cX7_addGuest 45 = .ok (.aload_n 3, 1) := by decide +kernel
theorem dX7_addGuest_46 : decode cX7_addGuest 46 = .ok (.iload_n 1, 1) := by decide +kernel
theorem dX7_addGuest_47 : decode cX7_addGuest 47 = .ok (.putfield 271, 3) := by decide +kernel
theorem dX7_addGuest_50 : decode cX7_addGuest 50 = .ok (.aload_n 3, 1) := by decide +kernel
theorem dX7_addGuest_51 : decode cX7_addGuest 51 = .ok (.iload_n 2, 1) := by decide +kernel
theorem dX7_addGuest_52 : decode cX7_addGuest 52 = .ok (.putfield 274, 3) := by decide +kernel
theorem dX7_addGuest_55 : decode cX7_addGuest 55 = .ok (.aload_n 0, 1) := by decide +kernel
theorem dX7_addGuest_56 : decode cX7_addGuest 56 = .ok (.dup, 1) := by decide +kernel
theorem dX7_addGuest_57 : decode cX7_addGuest 57 = .ok (.getfield 266, 3) := by decide +kernel
theorem dX7_addGuest_60 : decode cX7_addGuest 60 = .ok (.iconst 1, 1) := by decide +kernel
theorem dX7_addGuest_61 : decode cX7_addGuest 61 = .ok (.iadd, 1) := by decide +kernel
theorem dX7_addGuest_62 : decode cX7_addGuest 62 = .ok (.putfield 266, 3) := by decide +kernel
theorem dX7_addGuest_65 : decode cX7_addGuest 65 = .ok (.aload_n 0, 1) := by decide +kernel
theorem dX7_addGuest_66 : decode cX7_addGuest 66 = .ok (.getfield 266, 3) := by decide +kernel
theorem dX7_addGuest_69 : decode cX7_addGuest 69 = .ok (.iconst 1, 1) := by decide +kernel
theorem dX7_addGuest_70 : decode cX7_addGuest 70 = .ok (.isub, 1) := by decide +kernel
theorem dX7_addGuest_71 : decode cX7_addGuest 71 = .ok (.ireturn, 1) := by decide +kernel
set_option maxRecDepth 20000 in
theorem ggX7_elsewhere_X7_guestRow : GoodIn wsX7_elsewhere wsX7_guestRow := goodIn_ca (goodIn_r _ [7, 8, 9, 10, 11, 6, 12, 13, 14, 15, 16, 17, 18, 41, 42, 43, 44, 45, 46, 47, 48, 49, 50, 51, 52] (by decide +kernel) (by decide +kernel)) (goodIn_sub (fun _ h => List.mem_cons_of_mem _ (List.mem_append_left _ (List.mem_append_left _ (List.mem_append_right _ h)))) (by decide +kernel))
set_option maxRecDepth 20000 in
theorem gX7_elsewhere_X7_guestRow : GoodIn wsX7_elsewhere (wsV RX7 277 RX7 yX7_guestRow wsX7_guestRow) := goodIn_app (goodIn_of _ (by decide +kernel)) ggX7_elsewhere_X7_guestRow
set_option maxRecDepth 20000 in
theorem ggX7_elsewhere_X7_checkRange : GoodIn wsX7_elsewhere wsX7_checkRange := goodIn_ca (goodIn_r _ [21, 22, 23] (by decide +kernel) (by decide +kernel)) (goodIn_sub (fun _ h => List.mem_cons_of_mem _ (List.mem_append_left _ (List.mem_append_right _ h))) (by decide +kernel))
set_option maxRecDepth 20000 in
theorem gX7_elsewhere_X7_checkRange : GoodIn wsX7_elsewhere (va_wsS RX7 58 yX7_checkRange wsX7_checkRange) := goodIn_app (goodIn_of _ (by decide +kernel)) ggX7_elsewhere_X7_checkRange
set_option maxRecDepth 20000 in
theorem ggX7_elsewhere_X2_isElsewhereNear : GoodIn wsX7_elsewhere wsX2_isElsewhereNear := goodIn_ca (goodIn_r _ [27, 28, 29, 30, 31, 32, 33, 37, 38, 39, 40] (by decide +kernel) (by decide +kernel)) (goodIn_sub (fun _ h => List.mem_cons_of_mem _ (List.mem_append_right _ h)) (by decide +kernel))
set_option maxRecDepth 20000 in
theorem gX7_elsewhere_X2_isElsewhereNear_n281 : GoodIn wsX7_elsewhere (wsX2_isElsewhereNear) := ggX7_elsewhere_X2_isElsewhereNear
set_option maxRecDepth 20000 in
theorem ggX7_elsewhere_X2_noteElsewhere : GoodIn wsX7_elsewhere wsX2_noteElsewhere := goodIn_ca (goodIn_r _ [36, 28, 29, 37, 38, 39, 40] (by decide +kernel) (by decide +kernel)) (goodIn_sub (fun _ h => List.mem_cons_of_mem _ (List.mem_append_right _ h)) (by decide +kernel))
set_option maxRecDepth 20000 in
theorem gX7_elsewhere_X2_noteElsewhere_n289 : GoodIn wsX7_elsewhere (wsX2_noteElsewhere) := ggX7_elsewhere_X2_noteElsewhere
theorem dX7_elsewhere_0 : decode cX7_elsewhere 0 = .ok (.aload_n 0, 1) := by decide +kernel
theorem dX7_elsewhere_1 : decode cX7_elsewhere 1 = .ok (.iload_n 1, 1) := by decide +kernel
theorem dX7_elsewhere_2 : decode cX7_elsewhere 2 = .ok (.invokevirtual 277, 3) := by decide +kernel
theorem dX7_elsewhere_5 : decode cX7_elsewhere 5 = .ok (.astore_n 3, 1) := by decide +kernel
theorem dX7_elsewhere_6 : decode cX7_elsewhere 6 = .ok (.iload_n 2, 1) := by decide +kernel
theorem dX7_elsewhere_7 : decode cX7_elsewhere 7 = .ok (.iconst 0, 1) := by decide +kernel
theorem dX7_elsewhere_8 : decode cX7_elsewhere 8 = .ok (.sipush 399, 3) := by decide +kernel
theorem dX7_elsewhere_11 : decode cX7_elsewhere 11 = .ok (.invokestatic 58, 3) := by decide +kernel
theorem dX7_elsewhere_14 : decode cX7_elsewhere 14 = .ok (.aload_n 3, 1) := by decide +kernel
theorem dX7_elsewhere_15 : decode cX7_elsewhere 15 = .ok (.iload_n 2, 1) := by decide +kernel
theorem dX7_elsewhere_16 : decode cX7_elsewhere 16 = .ok (.iconst 1, 1) := by decide +kernel
theorem dX7_elsewhere_17 : decode cX7_elsewhere 17 = .ok (.invokevirtual 281, 3) := by decide +kernel
theorem dX7_elsewhere_20 : decode cX7_elsewhere 20 = .ok (.ifCond .eq 8, 3) := by decide +kernel
theorem dX7_elsewhere_23 : decode cX7_elsewhere 23 = .ok (.aload_n 3, 1) := by decide +kernel
theorem dX7_elsewhere_24 : decode cX7_elsewhere 24 = .ok (.getfield 284, 3) := by decide +kernel
theorem dX7_elsewhere_27 : decode cX7_elsewhere 27 = .ok (.ireturn, 1) := by decide +kernel
theorem dX7_elsewhere_28 : decode cX7_elsewhere 28 = .ok (.aload_n 3, 1) := by decide +kernel
theorem dX7_elsewhere_29 : decode cX7_elsewhere 29 = .ok (.getfield 284, 3) := by decide +kernel
theorem dX7_elsewhere_32 : decode cX7_elsewhere 32 = .ok (.bipush 20, 2) := by decide +kernel
theorem dX7_elsewhere_34 : decode cX7_elsewhere 34 = .ok (.if_icmp .lt 14, 3) := by decide +kernel
theorem dX7_elsewhere_37 : decode cX7_elsewhere 37 = .ok (.new 66, 3) := by decide +kernel
theorem dX7_elsewhere_40 : decode cX7_elsewhere 40 = .ok (.dup, 1) := by decide +kernel
theorem dX7_elsewhere_41 : decode cX7_elsewhere 41 = .ok (.ldc_w 287, 3) := by decide +kernel
theorem dX7_elsewhere_44 : decode cX7_elsewhere 44 = .ok (.invokespecial 70, 3) := by decide +kernel
theorem dX7_elsewhere_47 : decode cX7_elsewhere 47 = .ok (.athrow, 1) := by decide +kernel
theorem dX7_elsewhere_48 : decode cX7_elsewhere 48 = .ok (.aload_n 3, 1) := by decide +kernel
theorem dX7_elsewhere_49 : decode cX7_elsewhere 49 = .ok (.iload_n 2, 1) := by decide +kernel
theorem dX7_elsewhere_50 : decode cX7_elsewhere 50 = .ok (.invokevirtual 289, 3) := by decide +kernel
theorem dX7_elsewhere_53 : decode cX7_elsewhere 53 = .ok (.aload_n 3, 1) := by decide +kernel
theorem dX7_elsewhere_54 : decode cX7_elsewhere 54 = .ok (.getfield 284, 3) := by decide +kernel
theorem dX7_elsewhere_57 : decode cX7_elsewhere 57 = .ok (.ireturn, 1) := by decide +kernel
set_option maxRecDepth 20000 in
theorem ggX7_engage_X7_serviceRow : GoodIn wsX7_engage wsX7_serviceRow := goodIn_ca (goodIn_r _ [7, 8, 9, 10, 11, 6, 12, 13, 14, 15, 16, 17, 18, 63, 64, 65, 66, 67, 68, 69, 70, 71, 72, 73, 74] (by decide +kernel) (by decide +kernel)) (goodIn_sub (fun _ h => List.mem_cons_of_mem _ (List.mem_append_left _ (List.mem_append_right _ h))) (by decide +kernel))
set_option maxRecDepth 20000 in
theorem gX7_engage_X7_serviceRow : GoodIn wsX7_engage (wsV RX7 223 RX7 yX7_serviceRow wsX7_serviceRow) := goodIn_app (goodIn_of _ (by decide +kernel)) ggX7_engage_X7_serviceRow
set_option maxRecDepth 20000 in
theorem ggX7_engage_X7_checkGuest : GoodIn wsX7_engage wsX7_checkGuest := goodIn_ca (goodIn_r _ [22, 23, 14, 15, 6, 16, 17, 18, 63, 64, 65, 66, 67, 68, 69, 70, 71, 72, 73, 74] (by decide +kernel) (by decide +kernel)) (goodIn_sub (fun _ h => List.mem_cons_of_mem _ (List.mem_append_left _ (List.mem_append_right _ h))) (by decide +kernel))
set_option maxRecDepth 20000 in
theorem gX7_engage_X7_checkGuest : GoodIn wsX7_engage (wsV RX7 292 RX7 yX7_checkGuest wsX7_checkGuest) := goodIn_app (goodIn_of _ (by decide +kernel)) ggX7_engage_X7_checkGuest
set_option maxRecDepth 20000 in
theorem ggX7_engage_X7_canEngage : GoodIn wsX7_engage wsX7_canEngage := goodIn_ca (goodIn_r _ [27, 8, 28, 29, 30, 31, 6, 32, 33, 34, 35, 36, 37, 38, 39, 40, 41, 42, 43, 44, 45, 46, 47, 13, 63, 64, 65, 66, 67, 68, 69, 70, 71, 72, 73, 74, 75, 76, 77, 78, 48, 49, 50, 51, 52, 53, 54, 55, 56, 57, 58, 59, 60, 61, 62, 79, 80, 81, 82, 83, 84, 85, 86, 87] (by decide +kernel) (by decide +kernel)) (goodIn_sub (fun _ h => List.mem_cons_of_mem _ (List.mem_append_right _ h)) (by decide +kernel))
set_option maxRecDepth 20000 in
theorem gX7_engage_X7_canEngage : GoodIn wsX7_engage (wsV RX7 295 RX7 yX7_canEngage wsX7_canEngage) := goodIn_app (goodIn_of _ (by decide +kernel)) ggX7_engage_X7_canEngage
theorem dX7_engage_0 : decode cX7_engage 0 = .ok (.aload_n 0, 1) := by decide +kernel
theorem dX7_engage_1 : decode cX7_engage 1 = .ok (.iload_n 1, 1) := by decide +kernel
theorem dX7_engage_2 : decode cX7_engage 2 = .ok (.invokevirtual 223, 3) := by decide +kernel
theorem dX7_engage_5 : decode cX7_engage 5 = .ok (.astore_n 3, 1) := by decide +kernel
theorem dX7_engage_6 : decode cX7_engage 6 = .ok (.aload_n 0, 1) := by decide +kernel
theorem dX7_engage_7 : decode cX7_engage 7 = .ok (.iload_n 2, 1) := by decide +kernel
theorem dX7_engage_8 : decode cX7_engage 8 = .ok (.invokevirtual 292, 3) := by decide +kernel
theorem dX7_engage_11 : decode cX7_engage 11 = .ok (.aload_n 3, 1) := by decide +kernel
theorem dX7_engage_12 : decode cX7_engage 12 = .ok (.getfield 227, 3) := by decide +kernel
theorem dX7_engage_15 : decode cX7_engage 15 = .ok (.ifCond .ne 12, 3) := by decide +kernel
theorem dX7_engage_18 : decode cX7_engage 18 = .ok (.aload_n 0, 1) := by decide +kernel
theorem dX7_engage_19 : decode cX7_engage 19 = .ok (.iload_n 1, 1) := by decide +kernel
theorem dX7_engage_20 : decode cX7_engage 20 = .ok (.iload_n 2, 1) := by decide +kernel
theorem dX7_engage_21 : decode cX7_engage 21 = .ok (.invokevirtual 295, 3) := by decide +kernel
theorem dX7_engage_24 : decode cX7_engage 24 = .ok (.ifCond .ne 14, 3) := by decide +kernel
theorem dX7_engage_27 : decode cX7_engage 27 = .ok (.new 95, 3) := by decide +kernel
theorem dX7_engage_30 : decode cX7_engage 30 = .ok (.dup, 1) := by decide +kernel
theorem dX7_engage_31 : decode cX7_engage 31 = .ok (.ldc_w 298, 3) := by decide +kernel
theorem dX7_engage_34 : decode cX7_engage 34 = .ok (.invokespecial 99, 3) := by decide +kernel
theorem dX7_engage_37 : decode cX7_engage 37 = .ok (.athrow, 1) := by decide +kernel
theorem dX7_engage_38 : decode cX7_engage 38 = .ok (.aload_n 3, 1) := by decide +kernel
theorem dX7_engage_39 : decode cX7_engage 39 = .ok (.getfield 300, 3) := by decide +kernel
theorem dX7_engage_42 : decode cX7_engage 42 = .ok (.istore 4, 2) := by decide +kernel
theorem dX7_engage_44 : decode cX7_engage 44 = .ok (.aload_n 3, 1) := by decide +kernel
theorem dX7_engage_45 : decode cX7_engage 45 = .ok (.iload_n 2, 1) := by decide +kernel
theorem dX7_engage_46 : decode cX7_engage 46 = .ok (.putfield 300, 3) := by decide +kernel
theorem dX7_engage_49 : decode cX7_engage 49 = .ok (.iload 4, 2) := by decide +kernel
theorem dX7_engage_51 : decode cX7_engage 51 = .ok (.ireturn, 1) := by decide +kernel
set_option maxRecDepth 20000 in
theorem ggX7_cancelGuest_X7_serviceRow : GoodIn wsX7_cancelGuest wsX7_serviceRow := goodIn_ca (goodIn_r _ [7, 8, 9, 10, 11, 6, 12, 13, 14, 15, 16, 17, 18, 89, 90, 91, 92, 93, 94, 95, 96, 97, 98, 99, 100] (by decide +kernel) (by decide +kernel)) (goodIn_sub (fun _ h => List.mem_cons_of_mem _ (List.mem_append_left _ (List.mem_append_right _ h))) (by decide +kernel))
set_option maxRecDepth 20000 in
theorem gX7_cancelGuest_X7_serviceRow : GoodIn wsX7_cancelGuest (wsV RX7 223 RX7 yX7_serviceRow wsX7_serviceRow) := goodIn_app (goodIn_of _ (by decide +kernel)) ggX7_cancelGuest_X7_serviceRow
set_option maxRecDepth 20000 in
theorem ggX7_cancelGuest_X7_findInstead : GoodIn wsX7_cancelGuest wsX7_findInstead := goodIn_ca (goodIn_r _ [22, 8, 23, 24, 25, 26, 27, 6, 28, 29, 30, 31, 32, 33, 34, 35, 36, 37, 38, 39, 40, 41, 42, 43, 44, 45, 46, 47, 13, 89, 90, 91, 92, 93, 94, 95, 96, 97, 98, 99, 100, 101, 102, 103, 104, 74, 75, 76, 77, 78, 79, 80, 81, 82, 83, 84, 85, 86, 87, 88, 105, 106, 107, 108, 109, 110, 111, 112, 113] (by decide +kernel) (by decide +kernel)) (goodIn_sub (fun _ h => List.mem_cons_of_mem _ (List.mem_append_right _ h)) (by decide +kernel))
set_option maxRecDepth 20000 in
theorem gX7_cancelGuest_X7_findInstead : GoodIn wsX7_cancelGuest (wsV RX7 308 RX7 yX7_findInstead wsX7_findInstead) := goodIn_app (goodIn_of _ (by decide +kernel)) ggX7_cancelGuest_X7_findInstead
set_option maxRecDepth 20000 in
theorem ggX7_cancelGuest_X7_soloWorks : GoodIn wsX7_cancelGuest wsX7_soloWorks := goodIn_ca (goodIn_r _ [28, 29, 74, 75, 76, 77, 78, 79, 80, 81, 82, 83, 84, 85, 86, 87, 88, 89, 90, 91, 92, 93, 94, 95, 96, 97, 98, 99, 100, 105, 106, 107, 108, 109, 110, 111, 112, 113] (by decide +kernel) (by decide +kernel)) (goodIn_sub (fun _ h => List.mem_cons_of_mem _ (List.mem_append_right _ h)) (by decide +kernel))
set_option maxRecDepth 20000 in
theorem gX7_cancelGuest_X7_soloWorks : GoodIn wsX7_cancelGuest (wsV RX7 312 RX7 yX7_soloWorks wsX7_soloWorks) := goodIn_app (goodIn_of _ (by decide +kernel)) ggX7_cancelGuest_X7_soloWorks
set_option maxRecDepth 20000 in
theorem ggX7_cancelGuest_X7_leaveOut : GoodIn wsX7_cancelGuest wsX7_leaveOut := goodIn_ca (goodIn_r _ [51, 52, 53, 54, 6, 55, 29, 56, 57, 58, 59, 60, 61, 62, 63, 64, 65, 66, 67, 68, 69, 70, 71, 72, 73, 74, 75, 76, 77, 78, 79, 80, 81, 82, 83, 84, 85, 86, 87, 88, 89, 90, 91, 92, 93, 94, 95, 96, 97, 98, 99, 100, 105, 106, 107, 108, 109, 110, 111, 112, 113] (by decide +kernel) (by decide +kernel)) (goodIn_sub (fun _ h => List.mem_cons_of_mem _ (List.mem_append_right _ h)) (by decide +kernel))
set_option maxRecDepth 20000 in
theorem gX7_cancelGuest_X7_leaveOut : GoodIn wsX7_cancelGuest (wsV RX7 315 RX7 yX7_leaveOut wsX7_leaveOut) := goodIn_app (goodIn_of _ (by decide +kernel)) ggX7_cancelGuest_X7_leaveOut
theorem dX7_cancelGuest_0 : decode cX7_cancelGuest 0 = .ok (.aload_n 0, 1) := by decide +kernel
theorem dX7_cancelGuest_1 : decode cX7_cancelGuest 1 = .ok (.iload_n 1, 1) := by decide +kernel
theorem dX7_cancelGuest_2 : decode cX7_cancelGuest 2 = .ok (.invokevirtual 223, 3) := by decide +kernel
theorem dX7_cancelGuest_5 : decode cX7_cancelGuest 5 = .ok (.astore_n 2, 1) := by decide +kernel
theorem dX7_cancelGuest_6 : decode cX7_cancelGuest 6 = .ok (.aload_n 2, 1) := by decide +kernel
theorem dX7_cancelGuest_7 : decode cX7_cancelGuest 7 = .ok (.getfield 300, 3) := by decide +kernel
theorem dX7_cancelGuest_10 : decode cX7_cancelGuest 10 = .ok (.iconst (-1), 1) := by decide +kernel
theorem dX7_cancelGuest_11 : decode cX7_cancelGuest 11 = .ok (.if_icmp .ne 14, 3) := by decide +kernel
theorem dX7_cancelGuest_14 : decode cX7_cancelGuest 14 = .ok (.new 303, 3) := by decide +kernel
theorem dX7_cancelGuest_17 : decode cX7_cancelGuest 17 = .ok (.dup, 1) := by decide +kernel
theorem dX7_cancelGuest_18 : decode cX7_cancelGuest 18 = .ok (.ldc_w 305, 3) := by decide +kernel
theorem dX7_cancelGuest_21 : decode cX7_cancelGuest 21 = .ok (.invokespecial 307, 3) := by decide +kernel
theorem dX7_cancelGuest_24 : decode cX7_cancelGuest 24 = .ok (.athrow, 1) := by decide +kernel
theorem dX7_cancelGuest_25 : decode cX7_cancelGuest 25 = .ok (.aload_n 2, 1) := by decide +kernel
theorem dX7_cancelGuest_26 : decode cX7_cancelGuest 26 = .ok (.aload_n 0, 1) := by decide +kernel
theorem dX7_cancelGuest_27 : decode cX7_cancelGuest 27 = .ok (.iload_n 1, 1) := by decide +kernel
theorem dX7_cancelGuest_28 : decode cX7_cancelGuest 28 = .ok (.aload_n 2, 1) := by decide +kernel
theorem dX7_cancelGuest_29 : decode cX7_cancelGuest 29 = .ok (.getfield 300, 3) := by decide +kernel
theorem dX7_cancelGuest_32 : decode cX7_cancelGuest 32 = .ok (.invokevirtual 308, 3) := by decide +kernel
theorem dX7_cancelGuest_35 : decode cX7_cancelGuest 35 = .ok (.putfield 300, 3) := by decide +kernel
theorem dX7_cancelGuest_38 : decode cX7_cancelGuest 38 = .ok (.aload_n 2, 1) := by decide +kernel
theorem dX7_cancelGuest_39 : decode cX7_cancelGuest 39 = .ok (.getfield 300, 3) := by decide +kernel
theorem dX7_cancelGuest_42 : decode cX7_cancelGuest 42 = .ok (.iconst (-1), 1) := by decide +kernel
theorem dX7_cancelGuest_43 : decode cX7_cancelGuest 43 = .ok (.if_icmp .ne 13, 3) := by decide +kernel
theorem dX7_cancelGuest_46 : decode cX7_cancelGuest 46 = .ok (.aload_n 0, 1) := by decide +kernel
theorem dX7_cancelGuest_47 : decode cX7_cancelGuest 47 = .ok (.aload_n 2, 1) := by decide +kernel
theorem dX7_cancelGuest_48 : decode cX7_cancelGuest 48 = .ok (.aload_n 0, 1) := by decide +kernel
theorem dX7_cancelGuest_49 : decode cX7_cancelGuest 49 = .ok (.aload_n 2, 1) := by decide +kernel
theorem dX7_cancelGuest_50 : decode cX7_cancelGuest 50 = .ok (.invokevirtual 312, 3) := by decide +kernel
theorem dX7_cancelGuest_53 : decode cX7_cancelGuest 53 = .ok (.invokevirtual 315, 3) := by decide +kernel
theorem dX7_cancelGuest_56 : decode cX7_cancelGuest 56 = .ok (.aload_n 2, 1) := by decide +kernel
theorem dX7_cancelGuest_57 : decode cX7_cancelGuest 57 = .ok (.getfield 300, 3) := by decide +kernel
theorem dX7_cancelGuest_60 : decode cX7_cancelGuest 60 = .ok (.ireturn, 1) := by decide +kernel
set_option maxRecDepth 20000 in
theorem ggX7_guestOf_X7_serviceRow : GoodIn wsX7_guestOf wsX7_serviceRow := goodIn_ca (goodIn_r _ [7, 8, 9, 10, 11, 6, 12, 13, 14, 15, 16, 17, 18, 34, 35, 36, 37, 38, 39, 40, 41, 42, 43, 44, 45] (by decide +kernel) (by decide +kernel)) (goodIn_sub (fun _ h => List.mem_cons_of_mem _ (List.mem_append_right _ h)) (by decide +kernel))
set_option maxRecDepth 20000 in
theorem gX7_guestOf_X7_serviceRow : GoodIn wsX7_guestOf (wsV RX7 223 RX7 yX7_serviceRow wsX7_serviceRow) := goodIn_app (goodIn_of _ (by decide +kernel)) ggX7_guestOf_X7_serviceRow
theorem dX7_guestOf_0 : decode cX7_guestOf 0 = .ok (.aload_n 0, 1) := by decide +kernel
theorem dX7_guestOf_1 : decode cX7_guestOf 1 = .ok (.iload_n 1, 1) := by decide +kernel
theorem dX7_guestOf_2 : decode cX7_guestOf 2 = .ok (.invokevirtual 223, 3) := by decide +kernel
theorem dX7_guestOf_5 : decode cX7_guestOf 5 = .ok (.astore_n 2, 1) := by decide +kernel
theorem dX7_guestOf_6 : decode cX7_guestOf 6 = .ok (.aload_n 2, 1) := by decide +kernel
theorem dX7_guestOf_7 : decode cX7_guestOf 7 = .ok (.getfield 300, 3) := by decide +kernel
theorem dX7_guestOf_10 : decode cX7_guestOf 10 = .ok (.iconst (-1), 1) := by decide +kernel
theorem dX7_guestOf_11 : decode cX7_guestOf 11 = .ok (.if_icmp .ne 14, 3) := by decide +kernel
theorem dX7_guestOf_14 : decode cX7_guestOf 14 = .ok (.new 303, 3) := by decide +kernel
theorem dX7_guestOf_17 : decode cX7_guestOf 17 = .ok (.dup, 1) := by decide +kernel
theorem dX7_guestOf_18 : decode cX7_guestOf 18 = .ok (.ldc_w 305, 3) := by decide +kernel
theorem dX7_guestOf_21 : decode cX7_guestOf 21 = .ok (.invokespecial 307, 3) := by decide +kernel
theorem dX7_guestOf_24 : decode cX7_guestOf 24 = .ok (.athrow, 1) := by decide +kernel
theorem dX7_guestOf_25 : decode cX7_guestOf 25 = .ok (.aload_n 2, 1) := by decide +kernel
theorem dX7_guestOf_26 : decode cX7_guestOf 26 = .ok (.getfield 300, 3) := by decide +kernel
theorem dX7_guestOf_29 : decode cX7_guestOf 29 = .ok (.ireturn, 1) := by decide +kernel
set_option maxRecDepth 20000 in
theorem ggX7_book_X7_serviceRow : GoodIn wsX7_book wsX7_serviceRow := goodIn_ca (goodIn_r _ [7, 8, 9, 10, 11, 6, 12, 13, 14, 15, 16, 17, 18, 173, 174, 175, 176, 177, 178, 179, 180, 181, 182, 183, 184] (by decide +kernel) (by decide +kernel)) (goodIn_sub (fun _ h => List.mem_cons_of_mem _ (List.mem_append_left _ (List.mem_append_right _ h))) (by decide +kernel))
set_option maxRecDepth 20000 in
theorem gX7_book_X7_serviceRow : GoodIn wsX7_book (wsV RX7 223 RX7 yX7_serviceRow wsX7_serviceRow) := goodIn_app (goodIn_of _ (by decide +kernel)) ggX7_book_X7_serviceRow
set_option maxRecDepth 20000 in
theorem ggX7_book_X7_castAnew : GoodIn wsX7_book wsX7_castAnew := goodIn_ca (goodIn_r _ [22, 8, 23, 24, 25, 26, 27, 28, 29, 30, 31, 32, 33, 34, 35, 36, 6, 37, 13, 38, 39, 40, 41, 42, 43, 44, 45, 46, 47, 48, 49, 50, 51, 52, 53, 54, 55, 56, 57, 58, 59, 60, 61, 62, 63, 64, 65, 66, 67, 68, 69, 70, 71, 72, 73, 74, 75, 76, 77, 78, 79, 80, 81, 82, 83, 84, 85, 86, 87, 88, 89, 90, 91, 92, 93, 94, 95, 96, 97, 98, 99, 100, 101, 102, 103, 104, 105, 106, 107, 108, 109, 110, 111, 112, 113, 114, 115, 116, 117, 118, 119, 120, 121, 122, 123, 124, 125, 126, 127, 128, 129, 130, 131, 132, 133, 134, 135, 136, 137, 138, 139, 140, 141, 142, 143, 144, 145, 173, 174, 175, 176, 177, 178, 179, 180, 181, 182, 183, 184, 185, 186, 187, 188, 189, 190, 191, 158, 159, 160, 161, 162, 163, 164, 165, 166, 167, 168, 169, 170, 171, 172, 192, 193, 194, 195, 196, 197, 198, 199, 200, 201, 202, 203, 204, 205, 206, 207, 208, 209, 210, 211] (by decide +kernel) (by decide +kernel)) (goodIn_sub (fun _ h => List.mem_cons_of_mem _ (List.mem_append_right _ h)) (by decide +kernel))
set_option maxRecDepth 20000 in
theorem gX7_book_X7_castAnew : GoodIn wsX7_book (wsV RX7 321 RX7 yX7_castAnew wsX7_castAnew) := goodIn_app (goodIn_of _ (by decide +kernel)) ggX7_book_X7_castAnew
set_option maxRecDepth 20000 in
theorem ggX7_book_X7_costOf : GoodIn wsX7_book wsX7_costOf := goodIn_ca (goodIn_r _ [149, 86, 23, 26, 25, 38, 39, 6, 40, 150, 151, 152, 153, 144, 92, 145, 125, 126, 127, 154, 75, 155, 156, 157, 158, 159, 160, 161, 162, 163, 164, 165, 166, 167, 168, 169, 170, 171, 172, 173, 174, 175, 176, 177, 178, 179, 180, 181, 182, 183, 184, 208, 209, 210, 211, 201, 202, 203, 204, 205, 206, 207, 192, 193, 194, 195, 196, 197, 198, 199, 200] (by decide +kernel) (by decide +kernel)) (goodIn_sub (fun _ h => List.mem_cons_of_mem _ (List.mem_append_right _ h)) (by decide +kernel))
set_option maxRecDepth 20000 in
theorem gX7_book_X7_costOf : GoodIn wsX7_book (wsV RX7 332 RX7 yX7_costOf wsX7_costOf) := goodIn_app (goodIn_of _ (by decide +kernel)) ggX7_book_X7_costOf
theorem dX7_book_0 : decode cX7_book 0 = .ok (.aload_n 0, 1) := by decide +kernel
theorem dX7_book_1 : decode cX7_book 1 = .ok (.iload_n 1, 1) := by decide +kernel
theorem dX7_book_2 : decode cX7_book 2 = .ok (.invokevirtual 223, 3) := by decide +kernel
theorem dX7_book_5 : decode cX7_book 5 = .ok (.astore_n 2, 1) := by decide +kernel
theorem dX7_book_6 : decode cX7_book 6 = .ok (.aload_n 2, 1) := by decide +kernel
theorem dX7_book_7 : decode cX7_book 7 = .ok (.getfield 227, 3) := by decide +kernel
theorem dX7_book_10 : decode cX7_book 10 = .ok (.ifCond .eq 14, 3) := by decide +kernel
theorem dX7_book_13 : decode cX7_book 13 = .ok (.new 95, 3) := by decide +kernel
theorem dX7_book_16 : decode cX7_book 16 = .ok (.dup, 1) := by decide +kernel
theorem dX7_book_17 : decode cX7_book 17 = .ok (.ldc_w 319, 3) := by decide +kernel
theorem dX7_book_20 : decode cX7_book 20 = .ok (.invokespecial 99, 3) := by decide +kernel
theorem dX7_book_23 : decode cX7_book 23 = .ok (.athrow, 1) := by decide +kernel
theorem dX7_book_24 : decode cX7_book 24 = .ok (.aload_n 0, 1) := by decide +kernel
theorem dX7_book_25 : decode cX7_book 25 = .ok (.iload_n 1, 1) := by decide +kernel
theorem dX7_book_26 : decode cX7_book 26 = .ok (.invokevirtual 321, 3) := by decide +kernel
theorem dX7_book_29 : decode cX7_book 29 = .ok (.aload_n 2, 1) := by decide +kernel
theorem dX7_book_30 : decode cX7_book 30 = .ok (.getfield 324, 3) := by decide +kernel
theorem dX7_book_33 : decode cX7_book 33 = .ok (.ifCond .ne 14, 3) := by decide +kernel
theorem dX7_book_36 : decode cX7_book 36 = .ok (.new 95, 3) := by decide +kernel
theorem dX7_book_39 : decode cX7_book 39 = .ok (.dup, 1) := by decide +kernel
theorem dX7_book_40 : decode cX7_book 40 = .ok (.ldc_w 327, 3) := by decide +kernel
theorem dX7_book_43 : decode cX7_book 43 = .ok (.invokespecial 99, 3) := by decide +kernel
theorem dX7_book_46 : decode cX7_book 46 = .ok (.athrow, 1) := by decide +kernel
theorem dX7_book_47 : decode cX7_book 47 = .ok (.aload_n 2, 1) := by decide +kernel
theorem dX7_book_48 : decode cX7_book 48 = .ok (.iconst 1, 1) := by decide +kernel
theorem dX7_book_49 : decode cX7_book 49 = .ok (.putfield 227, 3) := by decide +kernel
theorem dX7_book_52 : decode cX7_book 52 = .ok (.aload_n 2, 1) := by decide +kernel
theorem dX7_book_53 : decode cX7_book 53 = .ok (.aload_n 2, 1) := by decide +kernel
theorem dX7_book_54 : decode cX7_book 54 = .ok (.getfield 217, 3) := by decide +kernel
theorem dX7_book_57 : decode cX7_book 57 = .ok (.aload_n 2, 1) := by decide +kernel
theorem dX7_book_58 : decode cX7_book 58 = .ok (.getfield 214, 3) := by decide +kernel
theorem dX7_book_61 : decode cX7_book 61 = .ok (.isub, 1) := by decide +kernel
theorem dX7_book_62 : decode cX7_book 62 = .ok (.putfield 329, 3) := by decide +kernel
theorem dX7_book_65 : decode cX7_book 65 = .ok (.aload_n 0, 1) := by decide +kernel
theorem dX7_book_66 : decode cX7_book 66 = .ok (.aload_n 2, 1) := by decide +kernel
theorem dX7_book_67 : decode cX7_book 67 = .ok (.invokevirtual 332, 3) := by decide +kernel
theorem dX7_book_70 : decode cX7_book 70 = .ok (.ireturn, 1) := by decide +kernel
set_option maxRecDepth 20000 in
theorem ggX7_unbook_X7_serviceRow : GoodIn wsX7_unbook wsX7_serviceRow := goodIn_ca (goodIn_r _ [7, 8, 9, 10, 11, 6, 12, 13, 14, 15, 16, 17, 18, 66, 67, 68, 69, 70, 71, 72, 73, 74, 75, 76, 77] (by decide +kernel) (by decide +kernel)) (goodIn_sub (fun _ h => List.mem_cons_of_mem _ (List.mem_append_left _ (List.mem_append_right _ h))) (by decide +kernel))
set_option maxRecDepth 20000 in
theorem gX7_unbook_X7_serviceRow : GoodIn wsX7_unbook (wsV RX7 223 RX7 yX7_serviceRow wsX7_serviceRow) := goodIn_app (goodIn_of _ (by decide +kernel)) ggX7_unbook_X7_serviceRow
set_option maxRecDepth 20000 in
theorem ggX7_unbook_X7_costOf : GoodIn wsX7_unbook wsX7_costOf := goodIn_ca (goodIn_r _ [22, 23, 24, 25, 26, 27, 28, 6, 29, 30, 31, 32, 33, 34, 35, 36, 37, 38, 39, 40, 41, 42, 43, 44, 51, 52, 53, 54, 55, 56, 57, 58, 59, 60, 61, 62, 63, 64, 65, 66, 67, 68, 69, 70, 71, 72, 73, 74, 75, 76, 77, 78, 79, 80, 81, 82, 83, 84, 85, 86, 87, 88, 89, 90, 91, 92, 93, 94, 95, 96, 97] (by decide +kernel) (by decide +kernel)) (goodIn_sub (fun _ h => List.mem_cons_of_mem _ (List.mem_append_right _ h)) (by decide +kernel))
set_option maxRecDepth 20000 in
theorem gX7_unbook_X7_costOf : GoodIn wsX7_unbook (wsV RX7 332 RX7 yX7_costOf wsX7_costOf) := goodIn_app (goodIn_of _ (by decide +kernel)) ggX7_unbook_X7_costOf
set_option maxRecDepth 20000 in
theorem ggX7_unbook_X5_dropCasts : GoodIn wsX7_unbook wsX5_dropCasts := goodIn_r _ [48, 49, 50, 51, 52, 53, 54, 55, 56, 57, 58, 59, 60, 61, 62, 63, 64, 65] (by decide +kernel) (by decide +kernel)
set_option maxRecDepth 20000 in
theorem gX7_unbook_X5_dropCasts_n340 : GoodIn wsX7_unbook (wsX5_dropCasts) := ggX7_unbook_X5_dropCasts
theorem dX7_unbook_0 : decode cX7_unbook 0 = .ok (.aload_n 0, 1) := by decide +kernel
theorem dX7_unbook_1 : decode cX7_unbook 1 = .ok (.iload_n 1, 1) := by decide +kernel
theorem dX7_unbook_2 : decode cX7_unbook 2 = .ok (.invokevirtual 223, 3) := by decide +kernel
theorem dX7_unbook_5 : decode cX7_unbook 5 = .ok (.astore_n 2, 1) := by decide +kernel
theorem dX7_unbook_6 : decode cX7_unbook 6 = .ok (.aload_n 2, 1) := by decide +kernel
theorem dX7_unbook_7 : decode cX7_unbook 7 = .ok (.getfield 227, 3) := by decide +kernel
theorem dX7_unbook_10 : decode cX7_unbook 10 = .ok (.ifCond .ne 14, 3) := by decide +kernel
theorem dX7_unbook_13 : decode cX7_unbook 13 = .ok (.new 95, 3) := by decide +kernel
theorem dX7_unbook_16 : decode cX7_unbook 16 = .ok (.dup, 1) := by decide +kernel
theorem dX7_unbook_17 : decode cX7_unbook 17 = .ok (.ldc_w 335, 3) := by decide +kernel
theorem dX7_unbook_20 : decode cX7_unbook 20 = .ok (.invokespecial 99, 3) := by decide +kernel
theorem dX7_unbook_23 : decode cX7_unbook 23 = .ok (.athrow, 1) := by decide +kernel
theorem dX7_unbook_24 : decode cX7_unbook 24 = .ok (.aload_n 0, 1) := by decide +kernel
theorem dX7_unbook_25 : decode cX7_unbook 25 = .ok (.aload_n 2, 1) := by decide +kernel
theorem dX7_unbook_26 : decode cX7_unbook 26 = .ok (.invokevirtual 332, 3) := by decide +kernel
theorem dX7_unbook_29 : decode cX7_unbook 29 = .ok (.istore_n 3, 1) := by decide +kernel
theorem dX7_unbook_30 : decode cX7_unbook 30 = .ok (.aload_n 2, 1) := by decide +kernel
theorem dX7_unbook_31 : decode cX7_unbook 31 = .ok (.iconst 0, 1) := by decide +kernel
theorem dX7_unbook_32 : decode cX7_unbook 32 = .ok (.putfield 227, 3) := by decide +kernel
theorem dX7_unbook_35 : decode cX7_unbook 35 = .ok (.aload_n 2, 1) := by decide +kernel
theorem dX7_unbook_36 : decode cX7_unbook 36 = .ok (.iconst 0, 1) := by decide +kernel
theorem dX7_unbook_37 : decode cX7_unbook 37 = .ok (.putfield 337, 3) := by decide +kernel
theorem dX7_unbook_40 : decode cX7_unbook 40 = .ok (.aload_n 2, 1) := by decide +kernel
theorem dX7_unbook_41 : decode cX7_unbook 41 = .ok (.invokevirtual 340, 3) := by decide +kernel
theorem dX7_unbook_44 : decode cX7_unbook 44 = .ok (.iload_n 3, 1) := by decide +kernel
theorem dX7_unbook_45 : decode cX7_unbook 45 = .ok (.ireturn, 1) := by decide +kernel
set_option maxRecDepth 20000 in
theorem ggX7_isBooked_X7_serviceRow : GoodIn wsX7_isBooked wsX7_serviceRow := goodIn_ca (goodIn_r _ [5, 6, 7, 8, 9, 4, 10, 11, 12, 13, 14, 15, 16, 32, 33, 34, 35, 36, 37, 38, 39, 40, 41, 42, 43] (by decide +kernel) (by decide +kernel)) (goodIn_sub (fun _ h => List.mem_cons_of_mem _ (List.mem_append_right _ h)) (by decide +kernel))
set_option maxRecDepth 20000 in
theorem gX7_isBooked_X7_serviceRow : GoodIn wsX7_isBooked (wsV RX7 223 RX7 yX7_serviceRow wsX7_serviceRow) := goodIn_app (goodIn_of _ (by decide +kernel)) ggX7_isBooked_X7_serviceRow
theorem dX7_isBooked_0 : decode cX7_isBooked 0 = .ok (.aload_n 0, 1) := by decide +kernel
theorem dX7_isBooked_1 : decode cX7_isBooked 1 = .ok (.iload_n 1, 1) := by decide +kernel
theorem dX7_isBooked_2 : decode cX7_isBooked 2 = .ok (.invokevirtual 223, 3) := by decide +kernel
theorem dX7_isBooked_5 : decode cX7_isBooked 5 = .ok (.getfield 227, 3) := by decide +kernel
theorem dX7_isBooked_8 : decode cX7_isBooked 8 = .ok (.ireturn, 1) := by decide +kernel
set_option maxRecDepth 20000 in
theorem ggX7_away_X7_serviceRow : GoodIn wsX7_away wsX7_serviceRow := goodIn_ca (goodIn_r _ [7, 8, 9, 10, 11, 6, 12, 13, 14, 15, 16, 17, 18, 165, 166, 167, 168, 169, 170, 171, 172, 173, 174, 175, 176] (by decide +kernel) (by decide +kernel)) (goodIn_sub (fun _ h => List.mem_cons_of_mem _ (List.mem_append_left _ (List.mem_append_right _ h))) (by decide +kernel))
set_option maxRecDepth 20000 in
theorem gX7_away_X7_serviceRow : GoodIn wsX7_away (wsV RX7 223 RX7 yX7_serviceRow wsX7_serviceRow) := goodIn_app (goodIn_of _ (by decide +kernel)) ggX7_away_X7_serviceRow
set_option maxRecDepth 20000 in
theorem ggX7_away_X7_checkPlayer : GoodIn wsX7_away wsX7_checkPlayer := goodIn_ca (goodIn_r _ [22, 23, 14, 15, 6, 16, 17, 18, 165, 166, 167, 168, 169, 170, 171, 172, 173, 174, 175, 176] (by decide +kernel) (by decide +kernel)) (goodIn_sub (fun _ h => List.mem_cons_of_mem _ (List.mem_append_left _ (List.mem_append_right _ h))) (by decide +kernel))
set_option maxRecDepth 20000 in
theorem gX7_away_X7_checkPlayer : GoodIn wsX7_away (wsV RX7 343 RX7 yX7_checkPlayer wsX7_checkPlayer) := goodIn_app (goodIn_of _ (by decide +kernel)) ggX7_away_X7_checkPlayer
set_option maxRecDepth 20000 in
theorem ggX7_away_X7_hasBit : GoodIn wsX7_away wsX7_hasBit := goodIn_r _ [26] (by decide +kernel) (by decide +kernel)
set_option maxRecDepth 20000 in
theorem gX7_away_X7_hasBit : GoodIn wsX7_away (va_wsS RX7 161 yX7_hasBit wsX7_hasBit) := goodIn_app (goodIn_of _ (by decide +kernel)) ggX7_away_X7_hasBit
set_option maxRecDepth 20000 in
theorem ggX7_away_X7_castAnew : GoodIn wsX7_away wsX7_castAnew := goodIn_ca (goodIn_r _ [30, 8, 23, 31, 32, 33, 34, 35, 36, 37, 38, 39, 40, 41, 42, 43, 6, 44, 13, 24, 25, 26, 45, 46, 47, 48, 49, 50, 51, 52, 53, 54, 55, 56, 57, 58, 59, 60, 61, 62, 63, 64, 65, 66, 67, 68, 69, 70, 71, 72, 73, 74, 75, 76, 77, 78, 79, 80, 81, 82, 83, 84, 85, 86, 87, 88, 89, 90, 91, 92, 93, 94, 95, 96, 97, 98, 99, 100, 101, 102, 103, 104, 105, 106, 107, 108, 109, 110, 111, 112, 113, 114, 115, 116, 117, 118, 119, 120, 121, 122, 123, 124, 125, 126, 127, 128, 129, 130, 131, 132, 133, 134, 135, 136, 137, 138, 139, 140, 141, 142, 143, 144, 145, 146, 147, 148, 149, 165, 166, 167, 168, 169, 170, 171, 172, 173, 174, 175, 176, 177, 178, 179, 180, 181, 182, 183, 150, 151, 152, 153, 154, 155, 156, 157, 158, 159, 160, 161, 162, 163, 164, 184, 185, 186, 187, 188, 189, 190, 191, 192, 193, 194, 195, 196, 197, 198, 199, 200, 201, 202, 203] (by decide +kernel) (by decide +kernel)) (goodIn_sub (fun _ h => List.mem_cons_of_mem _ (List.mem_append_right _ h)) (by decide +kernel))
set_option maxRecDepth 20000 in
theorem gX7_away_X7_castAnew : GoodIn wsX7_away (wsV RX7 321 RX7 yX7_castAnew wsX7_castAnew) := goodIn_app (goodIn_of _ (by decide +kernel)) ggX7_away_X7_castAnew
theorem dX7_away_0 : decode cX7_away 0 = .ok (.aload_n 0, 1) := by decide +kernel
theorem dX7_away_1 : decode cX7_away 1 = .ok (.iload_n 1, 1) := by decide +kernel
theorem dX7_away_2 : decode cX7_away 2 = .ok (.invokevirtual 223, 3) := by decide +kernel
theorem dX7_away_5 : decode cX7_away 5 = .ok (.astore_n 3, 1) := by decide +kernel
theorem dX7_away_6 : decode cX7_away 6 = .ok (.aload_n 0, 1) := by decide +kernel
theorem dX7_away_7 : decode cX7_away 7 = .ok (.iload_n 2, 1) := by decide +kernel
theorem dX7_away_8 : decode cX7_away 8 = .ok (.invokevirtual 343, 3) := by decide +kernel
theorem dX7_away_11 : decode cX7_away 11 = .ok (.aload_n 3, 1) := by decide +kernel
theorem dX7_away_12 : decode cX7_away 12 = .ok (.getfield 227, 3) := by decide +kernel
theorem dX7_away_15 : decode cX7_away 15 = .ok (.ifCond .eq 14, 3) := by decide +kernel
theorem dX7_away_18 : decode cX7_away 18 = .ok (.aload_n 3, 1) := by decide +kernel
theorem dX7_away_19 : decode cX7_away 19 = .ok (.getfield 337, 3) := by decide +kernel
theorem dX7_away_22 : decode cX7_away 22 = .ok (.iload_n 2, 1) := by decide +kernel
theorem dX7_away_23 : decode cX7_away 23 = .ok (.invokestatic 161, 3) := by decide +kernel
theorem dX7_away_26 : decode cX7_away 26 = .ok (.ifCond .eq 14, 3) := by decide +kernel
theorem dX7_away_29 : decode cX7_away 29 = .ok (.new 95, 3) := by decide +kernel
theorem dX7_away_32 : decode cX7_away 32 = .ok (.dup, 1) := by decide +kernel
theorem dX7_away_33 : decode cX7_away 33 = .ok (.ldc_w 346, 3) := by decide +kernel
theorem dX7_away_36 : decode cX7_away 36 = .ok (.invokespecial 99, 3) := by decide +kernel
theorem dX7_away_39 : decode cX7_away 39 = .ok (.athrow, 1) := by decide +kernel
theorem dX7_away_40 : decode cX7_away 40 = .ok (.aload_n 3, 1) := by decide +kernel
theorem dX7_away_41 : decode cX7_away 41 = .ok (.dup, 1) := by decide +kernel
theorem dX7_away_42 : decode cX7_away 42 = .ok (.getfield 337, 3) := by decide +kernel
theorem dX7_away_45 : decode cX7_away 45 = .ok (.iconst 1, 1) := by decide +kernel
theorem dX7_away_46 : decode cX7_away 46 = .ok (.iload_n 2, 1) := by decide +kernel
theorem dX7_away_47 : decode cX7_away 47 = .ok (.ishl, 1) := by decide +kernel
theorem dX7_away_48 : decode cX7_away 48 = .ok (.ior, 1) := by decide +kernel
theorem dX7_away_49 : decode cX7_away 49 = .ok (.putfield 337, 3) := by decide +kernel
theorem dX7_away_52 : decode cX7_away 52 = .ok (.aload_n 0, 1) := by decide +kernel
theorem dX7_away_53 : decode cX7_away 53 = .ok (.iload_n 1, 1) := by decide +kernel
theorem dX7_away_54 : decode cX7_away 54 = .ok (.invokevirtual 321, 3) := by decide +kernel
theorem dX7_away_57 : decode cX7_away 57 = .ok (.aload_n 3, 1) := by decide +kernel
theorem dX7_away_58 : decode cX7_away 58 = .ok (.getfield 324, 3) := by decide +kernel
theorem dX7_away_61 : decode cX7_away 61 = .ok (.ireturn, 1) := by decide +kernel
set_option maxRecDepth 20000 in
theorem ggX7_stands_X7_serviceRow : GoodIn wsX7_stands wsX7_serviceRow := goodIn_ca (goodIn_r _ [5, 6, 7, 8, 9, 4, 10, 11, 12, 13, 14, 15, 16, 40, 41, 42, 43, 44, 45, 46, 47, 48, 49, 50, 51] (by decide +kernel) (by decide +kernel)) (goodIn_sub (fun _ h => List.mem_cons_of_mem _ (List.mem_append_right _ h)) (by decide +kernel))
set_option maxRecDepth 20000 in
theorem gX7_stands_X7_serviceRow : GoodIn wsX7_stands (wsV RX7 223 RX7 yX7_serviceRow wsX7_serviceRow) := goodIn_app (goodIn_of _ (by decide +kernel)) ggX7_stands_X7_serviceRow
set_option maxRecDepth 20000 in
theorem ggX7_stands_X7_checkWork : GoodIn wsX7_stands wsX7_checkWork := goodIn_ca (goodIn_r _ [20, 21, 12, 13, 4, 14, 15, 16, 40, 41, 42, 43, 44, 45, 46, 47, 48, 49, 50, 51] (by decide +kernel) (by decide +kernel)) (goodIn_sub (fun _ h => List.mem_cons_of_mem _ (List.mem_append_right _ h)) (by decide +kernel))
set_option maxRecDepth 20000 in
theorem gX7_stands_X7_checkWork : GoodIn wsX7_stands (wsV RX7 154 RX7 yX7_checkWork wsX7_checkWork) := goodIn_app (goodIn_of _ (by decide +kernel)) ggX7_stands_X7_checkWork
set_option maxRecDepth 20000 in
theorem ggX7_stands_X7_hasBit : GoodIn wsX7_stands wsX7_hasBit := goodIn_r _ [24] (by decide +kernel) (by decide +kernel)
set_option maxRecDepth 20000 in
theorem gX7_stands_X7_hasBit : GoodIn wsX7_stands (va_wsS RX7 161 yX7_hasBit wsX7_hasBit) := goodIn_app (goodIn_of _ (by decide +kernel)) ggX7_stands_X7_hasBit
theorem dX7_stands_0 : decode cX7_stands 0 = .ok (.aload_n 0, 1) := by decide +kernel
theorem dX7_stands_1 : decode cX7_stands 1 = .ok (.iload_n 1, 1) := by decide +kernel
theorem dX7_stands_2 : decode cX7_stands 2 = .ok (.invokevirtual 223, 3) := by decide +kernel
theorem dX7_stands_5 : decode cX7_stands 5 = .ok (.astore_n 3, 1) := by decide +kernel
theorem dX7_stands_6 : decode cX7_stands 6 = .ok (.aload_n 0, 1) := by decide +kernel
theorem dX7_stands_7 : decode cX7_stands 7 = .ok (.iload_n 2, 1) := by decide +kernel
theorem dX7_stands_8 : decode cX7_stands 8 = .ok (.invokevirtual 154, 3) := by decide +kernel
theorem dX7_stands_11 : decode cX7_stands 11 = .ok (.aload_n 3, 1) := by decide +kernel
theorem dX7_stands_12 : decode cX7_stands 12 = .ok (.getfield 324, 3) := by decide +kernel
theorem dX7_stands_15 : decode cX7_stands 15 = .ok (.iload_n 2, 1) := by decide +kernel
theorem dX7_stands_16 : decode cX7_stands 16 = .ok (.invokestatic 161, 3) := by decide +kernel
theorem dX7_stands_19 : decode cX7_stands 19 = .ok (.ireturn, 1) := by decide +kernel
set_option maxRecDepth 20000 in
theorem ggX7_castAt_X7_serviceRow : GoodIn wsX7_castAt wsX7_serviceRow := goodIn_ca (goodIn_r _ [7, 8, 9, 10, 11, 6, 12, 13, 14, 15, 16, 17, 18, 68, 69, 70, 71, 72, 73, 74, 75, 76, 77, 78, 79] (by decide +kernel) (by decide +kernel)) (goodIn_sub (fun _ h => List.mem_cons_of_mem _ (List.mem_append_right _ h)) (by decide +kernel))
set_option maxRecDepth 20000 in
theorem gX7_castAt_X7_serviceRow : GoodIn wsX7_castAt (wsV RX7 223 RX7 yX7_serviceRow wsX7_serviceRow) := goodIn_app (goodIn_of _ (by decide +kernel)) ggX7_castAt_X7_serviceRow
set_option maxRecDepth 20000 in
theorem ggX7_castAt_X7_workRow : GoodIn wsX7_castAt wsX7_workRow := goodIn_ca (goodIn_r _ [22, 23, 24, 25, 26, 6, 27, 28, 14, 15, 16, 17, 18, 68, 69, 70, 71, 72, 73, 74, 75, 76, 77, 78, 79] (by decide +kernel) (by decide +kernel)) (goodIn_sub (fun _ h => List.mem_cons_of_mem _ (List.mem_append_right _ h)) (by decide +kernel))
set_option maxRecDepth 20000 in
theorem gX7_castAt_X7_workRow : GoodIn wsX7_castAt (wsV RX7 80 RX7 yX7_workRow wsX7_workRow) := goodIn_app (goodIn_of _ (by decide +kernel)) ggX7_castAt_X7_workRow
set_option maxRecDepth 20000 in
theorem ggX7_castAt_X5_placeOf : GoodIn wsX7_castAt wsX5_placeOf := goodIn_ca (goodIn_r _ [32, 33, 34, 44, 45, 46, 47, 48, 49, 50, 51, 52, 53, 54, 55, 56, 57, 58] (by decide +kernel) (by decide +kernel)) (goodIn_sub (fun _ h => List.mem_cons_of_mem _ (List.mem_append_left _ (List.mem_append_right _ h))) (by decide +kernel))
set_option maxRecDepth 20000 in
theorem gX7_castAt_X5_placeOf_n230 : GoodIn wsX7_castAt (wsX5_placeOf) := ggX7_castAt_X5_placeOf
set_option maxRecDepth 20000 in
theorem ggX7_castAt_X7_hasBit : GoodIn wsX7_castAt wsX7_hasBit := goodIn_r _ [37] (by decide +kernel) (by decide +kernel)
set_option maxRecDepth 20000 in
theorem gX7_castAt_X7_hasBit : GoodIn wsX7_castAt (va_wsS RX7 161 yX7_hasBit wsX7_hasBit) := goodIn_app (goodIn_of _ (by decide +kernel)) ggX7_castAt_X7_hasBit
set_option maxRecDepth 20000 in
theorem ggX7_castAt_X1_playerOf : GoodIn wsX7_castAt wsX1_playerOf := goodIn_r _ [40, 41, 42, 39, 43] (by decide +kernel) (by decide +kernel)
set_option maxRecDepth 20000 in
theorem gX7_castAt_X1_playerOf_n354 : GoodIn wsX7_castAt (wsX1_playerOf) := ggX7_castAt_X1_playerOf
theorem dX7_castAt_0 : decode cX7_castAt 0 = .ok (.aload_n 0, 1) := by decide +kernel
theorem dX7_castAt_1 : decode cX7_castAt 1 = .ok (.iload_n 1, 1) := by decide +kernel
theorem dX7_castAt_2 : decode cX7_castAt 2 = .ok (.invokevirtual 223, 3) := by decide +kernel
theorem dX7_castAt_5 : decode cX7_castAt 5 = .ok (.astore 4, 2) := by decide +kernel
theorem dX7_castAt_7 : decode cX7_castAt 7 = .ok (.aload_n 0, 1) := by decide +kernel
theorem dX7_castAt_8 : decode cX7_castAt 8 = .ok (.iload_n 2, 1) := by decide +kernel
theorem dX7_castAt_9 : decode cX7_castAt 9 = .ok (.invokevirtual 80, 3) := by decide +kernel
theorem dX7_castAt_12 : decode cX7_castAt 12 = .ok (.astore 5, 2) := by decide +kernel
theorem dX7_castAt_14 : decode cX7_castAt 14 = .ok (.aload 4, 2) := by decide +kernel
theorem dX7_castAt_16 : decode cX7_castAt 16 = .ok (.iload_n 2, 1) := by decide +kernel
theorem dX7_castAt_17 : decode cX7_castAt 17 = .ok (.invokevirtual 230, 3) := by decide +kernel
theorem dX7_castAt_20 : decode cX7_castAt 20 = .ok (.istore 6, 2) := by decide +kernel
theorem dX7_castAt_22 : decode cX7_castAt 22 = .ok (.iload 6, 2) := by decide +kernel
theorem dX7_castAt_24 : decode cX7_castAt 24 = .ok (.iconst (-1), 1) := by decide +kernel
theorem dX7_castAt_25 : decode cX7_castAt 25 = .ok (.if_icmp .eq 28, 3) := by decide +kernel
theorem dX7_castAt_28 : decode cX7_castAt 28 = .ok (.aload 4, 2) := by decide +kernel
theorem dX7_castAt_30 : decode cX7_castAt 30 = .ok (.getfield 324, 3) := by decide +kernel
theorem dX7_castAt_33 : decode cX7_castAt 33 = .ok (.iload_n 2, 1) := by decide +kernel
theorem dX7_castAt_34 : decode cX7_castAt 34 = .ok (.invokestatic 161, 3) := by decide +kernel
theorem dX7_castAt_37 : decode cX7_castAt 37 = .ok (.ifCond .eq 16, 3) := by decide +kernel
theorem dX7_castAt_40 : decode cX7_castAt 40 = .ok (.iload_n 3, 1) := by decide +kernel
theorem dX7_castAt_41 : decode cX7_castAt 41 = .ok (.ifCond .lt 12, 3) := by decide +kernel
theorem dX7_castAt_44 : decode cX7_castAt 44 = .ok (.iload_n 3, 1) := by decide +kernel
theorem dX7_castAt_45 : decode cX7_castAt 45 = .ok (.aload 5, 2) := by decide +kernel
theorem dX7_castAt_47 : decode cX7_castAt 47 = .ok (.getfield 84, 3) := by decide +kernel
theorem dX7_castAt_50 : decode cX7_castAt 50 = .ok (.if_icmp .lt 14, 3) := by decide +kernel
theorem dX7_castAt_53 : decode cX7_castAt 53 = .ok (.new 303, 3) := by decide +kernel
theorem dX7_castAt_56 : decode cX7_castAt 56 = .ok (.dup, 1) := by decide +kernel
theorem dX7_castAt_57 : decode cX7_castAt 57 = .ok (.ldc_w 348, 3) := by decide +kernel
theorem dX7_castAt_60 : decode cX7_castAt 60 = .ok (.invokespecial 307, 3) := by decide +kernel
theorem dX7_castAt_63 : decode cX7_castAt 63 = .ok (.athrow, 1) := by decide +kernel
theorem dX7_castAt_64 : decode cX7_castAt 64 = .ok (.aload 4, 2) := by decide +kernel
theorem dX7_castAt_66 : decode cX7_castAt 66 = .ok (.getfield 350, 3) := by decide +kernel
theorem dX7_castAt_69 : decode cX7_castAt 69 = .ok (.iload 6, 2) := by decide +kernel
theorem dX7_castAt_71 : decode cX7_castAt 71 = .ok (.laload, 1) := by decide +kernel
theorem dX7_castAt_72 : decode cX7_castAt 72 = .ok (.iload_n 3, 1) := by decide +kernel
theorem dX7_castAt_73 : decode cX7_castAt 73 = .ok (.invokestatic 354, 3) := by decide +kernel
theorem dX7_castAt_76 : decode cX7_castAt 76 = .ok (.ireturn, 1) := by decide +kernel
set_option maxRecDepth 20000 in
theorem ggX7_cost_X7_serviceRow : GoodIn wsX7_cost wsX7_serviceRow := goodIn_ca (goodIn_r _ [5, 6, 7, 8, 9, 4, 10, 11, 12, 13, 14, 15, 16, 43, 44, 45, 46, 47, 48, 49, 50, 51, 52, 53, 54] (by decide +kernel) (by decide +kernel)) (goodIn_sub (fun _ h => List.mem_cons_of_mem _ (List.mem_append_left _ (List.mem_append_right _ h))) (by decide +kernel))
set_option maxRecDepth 20000 in
theorem gX7_cost_X7_serviceRow : GoodIn wsX7_cost (wsV RX7 223 RX7 yX7_serviceRow wsX7_serviceRow) := goodIn_app (goodIn_of _ (by decide +kernel)) ggX7_cost_X7_serviceRow
set_option maxRecDepth 20000 in
theorem ggX7_cost_X7_costOf : GoodIn wsX7_cost wsX7_costOf := goodIn_ca (goodIn_r _ [20, 21, 22, 23, 24, 25, 26, 4, 27, 28, 29, 30, 31, 32, 33, 34, 35, 36, 37, 38, 39, 40, 41, 42, 55, 56, 57, 58, 59, 60, 61, 62, 63, 64, 65, 66, 67, 68, 69, 43, 44, 45, 46, 47, 48, 49, 50, 51, 52, 53, 54, 70, 71, 72, 73, 74, 75, 76, 77, 78, 79, 80, 81, 82, 83, 84, 85, 86, 87, 88, 89] (by decide +kernel) (by decide +kernel)) (goodIn_sub (fun _ h => List.mem_cons_of_mem _ (List.mem_append_right _ h)) (by decide +kernel))
set_option maxRecDepth 20000 in
theorem gX7_cost_X7_costOf : GoodIn wsX7_cost (wsV RX7 332 RX7 yX7_costOf wsX7_costOf) := goodIn_app (goodIn_of _ (by decide +kernel)) ggX7_cost_X7_costOf
theorem dX7_cost_0 : decode cX7_cost 0 = .ok (.aload_n 0, 1) := by decide +kernel
theorem dX7_cost_1 : decode cX7_cost 1 = .ok (.aload_n 0, 1) := by decide +kernel
theorem dX7_cost_2 : decode cX7_cost 2 = .ok (.iload_n 1, 1) := by decide +kernel
theorem dX7_cost_3 : decode cX7_cost 3 = .ok (.invokevirtual 223, 3) := by decide +kernel
theorem dX7_cost_6 : decode cX7_cost 6 = .ok (.invokevirtual 332, 3) := by decide +kernel
theorem dX7_cost_9 : decode cX7_cost 9 = .ok (.ireturn, 1) := by decide +kernel
set_option maxRecDepth 20000 in
theorem ggX7_isFree_X7_checkPlayer : GoodIn wsX7_isFree wsX7_checkPlayer := goodIn_ca (goodIn_r _ [5, 6, 7, 8, 4, 9, 10, 11, 56, 57, 58, 59, 60, 61, 62, 63, 64, 65, 66, 67] (by decide +kernel) (by decide +kernel)) (goodIn_sub (fun _ h => List.mem_cons_of_mem _ (List.mem_append_left _ (List.mem_append_right _ h))) (by decide +kernel))
set_option maxRecDepth 20000 in
theorem gX7_isFree_X7_checkPlayer : GoodIn wsX7_isFree (wsV RX7 343 RX7 yX7_checkPlayer wsX7_checkPlayer) := goodIn_app (goodIn_of _ (by decide +kernel)) ggX7_isFree_X7_checkPlayer
set_option maxRecDepth 20000 in
theorem ggX7_isFree_X7_checkService : GoodIn wsX7_isFree wsX7_checkService := goodIn_ca (goodIn_r _ [15, 16, 7, 8, 4, 9, 10, 11, 56, 57, 58, 59, 60, 61, 62, 63, 64, 65, 66, 67] (by decide +kernel) (by decide +kernel)) (goodIn_sub (fun _ h => List.mem_cons_of_mem _ (List.mem_append_left _ (List.mem_append_right _ h))) (by decide +kernel))
set_option maxRecDepth 20000 in
theorem gX7_isFree_X7_checkService : GoodIn wsX7_isFree (wsV RX7 358 RX7 yX7_checkService wsX7_checkService) := goodIn_app (goodIn_of _ (by decide +kernel)) ggX7_isFree_X7_checkService
set_option maxRecDepth 20000 in
theorem ggX7_isFree_X7_isFreeFor : GoodIn wsX7_isFree wsX7_isFreeFor := goodIn_ca (goodIn_r _ [20, 21, 22, 23, 24, 25, 26, 27, 28, 29, 30, 31, 32, 4, 33, 16, 34, 35, 36, 37, 38, 39, 40, 41, 42, 43, 44, 45, 46, 47, 48, 49, 50, 51, 52, 53, 54, 55, 56, 57, 58, 59, 60, 61, 62, 63, 64, 65, 66, 67, 68, 69, 70, 71, 72, 73, 74, 75, 76, 77, 78, 79, 80, 81, 82, 83, 84, 85, 86, 87, 88, 89] (by decide +kernel) (by decide +kernel)) (goodIn_sub (fun _ h => List.mem_cons_of_mem _ (List.mem_append_right _ h)) (by decide +kernel))
set_option maxRecDepth 20000 in
theorem gX7_isFree_X7_isFreeFor : GoodIn wsX7_isFree (wsV RX7 361 RX7 yX7_isFreeFor wsX7_isFreeFor) := goodIn_app (goodIn_of _ (by decide +kernel)) ggX7_isFree_X7_isFreeFor
theorem dX7_isFree_0 : decode cX7_isFree 0 = .ok (.aload_n 0, 1) := by decide +kernel
theorem dX7_isFree_1 : decode cX7_isFree 1 = .ok (.iload_n 1, 1) := by decide +kernel
theorem dX7_isFree_2 : decode cX7_isFree 2 = .ok (.invokevirtual 343, 3) := by decide +kernel
theorem dX7_isFree_5 : decode cX7_isFree 5 = .ok (.aload_n 0, 1) := by decide +kernel
theorem dX7_isFree_6 : decode cX7_isFree 6 = .ok (.iload_n 2, 1) := by decide +kernel
theorem dX7_isFree_7 : decode cX7_isFree 7 = .ok (.invokevirtual 358, 3) := by decide +kernel
theorem dX7_isFree_10 : decode cX7_isFree 10 = .ok (.aload_n 0, 1) := by decide +kernel
theorem dX7_isFree_11 : decode cX7_isFree 11 = .ok (.iload_n 1, 1) := by decide +kernel
theorem dX7_isFree_12 : decode cX7_isFree 12 = .ok (.iload_n 2, 1) := by decide +kernel
theorem dX7_isFree_13 : decode cX7_isFree 13 = .ok (.invokevirtual 361, 3) := by decide +kernel
theorem dX7_isFree_16 : decode cX7_isFree 16 = .ok (.ireturn, 1) := by decide +kernel
set_option maxRecDepth 20000 in
theorem ggX7_services_X7_checkPlayer : GoodIn wsX7_services wsX7_checkPlayer := goodIn_ca (goodIn_r _ [5, 6, 7, 8, 4, 9, 10, 11, 21, 22, 23, 24, 25, 26, 27, 28, 29, 30, 31, 32] (by decide +kernel) (by decide +kernel)) (goodIn_sub (fun _ h => List.mem_cons_of_mem _ (List.mem_append_right _ h)) (by decide +kernel))
set_option maxRecDepth 20000 in
theorem gX7_services_X7_checkPlayer : GoodIn wsX7_services (wsV RX7 343 RX7 yX7_checkPlayer wsX7_checkPlayer) := goodIn_app (goodIn_of _ (by decide +kernel)) ggX7_services_X7_checkPlayer
set_option maxRecDepth 20000 in
theorem ggX7_services_X7_countServices : GoodIn wsX7_services wsX7_countServices := goodIn_r _ [15, 16, 17, 18, 19, 4, 20, 21, 22, 23, 24, 25, 26, 27, 28, 29, 30, 31, 32, 33, 34, 35, 36, 37, 38, 39, 40, 41, 42, 43, 44, 45, 46, 47] (by decide +kernel) (by decide +kernel)
set_option maxRecDepth 20000 in
theorem gX7_services_X7_countServices : GoodIn wsX7_services (wsV RX7 364 RX7 yX7_countServices wsX7_countServices) := goodIn_app (goodIn_of _ (by decide +kernel)) ggX7_services_X7_countServices
theorem dX7_services_0 : decode cX7_services 0 = .ok (.aload_n 0, 1) := by decide +kernel
theorem dX7_services_1 : decode cX7_services 1 = .ok (.iload_n 1, 1) := by decide +kernel
theorem dX7_services_2 : decode cX7_services 2 = .ok (.invokevirtual 343, 3) := by decide +kernel
theorem dX7_services_5 : decode cX7_services 5 = .ok (.aload_n 0, 1) := by decide +kernel
theorem dX7_services_6 : decode cX7_services 6 = .ok (.iload_n 1, 1) := by decide +kernel
theorem dX7_services_7 : decode cX7_services 7 = .ok (.invokevirtual 364, 3) := by decide +kernel
theorem dX7_services_10 : decode cX7_services 10 = .ok (.ireturn, 1) := by decide +kernel
set_option maxRecDepth 20000 in
theorem ggX7_callAt_X7_bookedRehearsal : GoodIn wsX7_callAt wsX7_bookedRehearsal := goodIn_ca (goodIn_ca (goodIn_r _ [8, 9, 10, 11, 12, 13, 7, 14, 15, 16, 17, 18, 19, 20, 21, 22, 23, 24, 25, 109, 110, 111, 112, 113, 114, 115, 116, 117, 118, 119, 120, 121, 122, 123, 92, 93, 94, 95, 96, 97, 98, 99, 100, 101, 102, 103] (by decide +kernel) (by decide +kernel)) (goodIn_sub (fun _ h => List.mem_cons_of_mem _ (List.mem_append_left _ (List.mem_append_left _ (List.mem_append_right _ h)))) (by decide +kernel))) (goodIn_sub (fun _ h => List.mem_cons_of_mem _ (List.mem_append_left _ (List.mem_append_right _ h))) (by decide +kernel))
set_option maxRecDepth 20000 in
theorem gX7_callAt_X7_bookedRehearsal : GoodIn wsX7_callAt (wsV RX7 367 RX7 yX7_bookedRehearsal wsX7_bookedRehearsal) := goodIn_app (goodIn_of _ (by decide +kernel)) ggX7_callAt_X7_bookedRehearsal
set_option maxRecDepth 20000 in
theorem ggX7_callAt_X7_orderCalls : GoodIn wsX7_callAt wsX7_orderCalls := goodIn_ca (goodIn_r _ [29, 3, 30, 31, 32, 33, 34, 35, 36, 37, 38, 7, 39, 40, 41, 42, 43, 44, 45, 46, 47, 48, 49, 50, 51, 52, 53, 54, 55, 56, 57, 58, 59, 60, 61, 62, 63, 64, 65, 66, 67, 68, 69, 70, 71, 72, 73, 74, 75, 76, 77, 78, 79, 80, 81, 82, 83, 84, 92, 93, 94, 95, 96, 97, 98, 99, 100, 101, 102, 103, 109, 110, 111, 112, 113, 114, 115, 116, 117, 118, 119, 120, 121, 122, 123, 124, 125, 126, 127, 128, 129, 130, 131, 132, 104, 105, 106, 107, 108] (by decide +kernel) (by decide +kernel)) (goodIn_sub (fun _ h => List.mem_cons_of_mem _ (List.mem_append_right _ h)) (by decide +kernel))
set_option maxRecDepth 20000 in
theorem gX7_callAt_X7_orderCalls : GoodIn wsX7_callAt (wsV RX7 370 RX7 yX7_orderCalls wsX7_orderCalls) := goodIn_app (goodIn_of _ (by decide +kernel)) ggX7_callAt_X7_orderCalls
set_option maxRecDepth 20000 in
theorem ggX7_callAt_X0_workAt : GoodIn wsX7_callAt wsX0_workAt := goodIn_ca (goodIn_r _ [87, 62, 88, 89, 90, 33, 91, 36, 68, 38, 7, 39, 74, 75, 76, 77, 64, 63, 78, 79, 80, 81, 82, 83, 84, 104, 105, 106, 107, 108] (by decide +kernel) (by decide +kernel)) (goodIn_sub (fun _ h => List.mem_cons_of_mem _ (List.mem_append_right _ h)) (by decide +kernel))
set_option maxRecDepth 20000 in
theorem gX7_callAt_X0_workAt_n379 : GoodIn wsX7_callAt (wsX0_workAt) := ggX7_callAt_X0_workAt
theorem dX7_callAt_0 : decode cX7_callAt 0 = .ok (.aload_n 0, 1) := by decide +kernel
theorem dX7_callAt_1 : decode cX7_callAt 1 = .ok (.aload_n 0, 1) := by decide +kernel
theorem dX7_callAt_2 : decode cX7_callAt 2 = .ok (.iload_n 1, 1) := by decide +kernel
theorem dX7_callAt_3 : decode cX7_callAt 3 = .ok (.invokevirtual 367, 3) := by decide +kernel
theorem dX7_callAt_6 : decode cX7_callAt 6 = .ok (.invokevirtual 370, 3) := by decide +kernel
theorem dX7_callAt_9 : decode cX7_callAt 9 = .ok (.iload_n 2, 1) := by decide +kernel
theorem dX7_callAt_10 : decode cX7_callAt 10 = .ok (.ifCond .lt 14, 3) := by decide +kernel
theorem dX7_callAt_13 : decode cX7_callAt 13 = .ok (.iload_n 2, 1) := by decide +kernel
theorem dX7_callAt_14 : decode cX7_callAt 14 = .ok (.aload_n 0, 1) := by decide +kernel
theorem dX7_callAt_15 : decode cX7_callAt 15 = .ok (.getfield 49, 3) := by decide +kernel
theorem dX7_callAt_18 : decode cX7_callAt 18 = .ok (.getfield 374, 3) := by decide +kernel
theorem dX7_callAt_21 : decode cX7_callAt 21 = .ok (.if_icmp .lt 14, 3) := by decide +kernel
theorem dX7_callAt_24 : decode cX7_callAt 24 = .ok (.new 303, 3) := by decide +kernel
theorem dX7_callAt_27 : decode cX7_callAt 27 = .ok (.dup, 1) := by decide +kernel
theorem dX7_callAt_28 : decode cX7_callAt 28 = .ok (.ldc_w 377, 3) := by decide +kernel
theorem dX7_callAt_31 : decode cX7_callAt 31 = .ok (.invokespecial 307, 3) := by decide +kernel
theorem dX7_callAt_34 : decode cX7_callAt 34 = .ok (.athrow, 1) := by decide +kernel
theorem dX7_callAt_35 : decode cX7_callAt 35 = .ok (.aload_n 0, 1) := by decide +kernel
theorem dX7_callAt_36 : decode cX7_callAt 36 = .ok (.getfield 49, 3) := by decide +kernel
theorem dX7_callAt_39 : decode cX7_callAt 39 = .ok (.iload_n 2, 1) := by decide +kernel
theorem dX7_callAt_40 : decode cX7_callAt 40 = .ok (.invokevirtual 379, 3) := by decide +kernel
theorem dX7_callAt_43 : decode cX7_callAt 43 = .ok (.ireturn, 1) := by decide +kernel
set_option maxRecDepth 20000 in
theorem ggX7_waiting_X7_bookedRehearsal : GoodIn wsX7_waiting wsX7_bookedRehearsal := goodIn_ca (goodIn_ca (goodIn_r _ [6, 7, 8, 9, 10, 11, 5, 12, 13, 14, 15, 16, 17, 18, 19, 20, 21, 22, 23, 100, 101, 102, 103, 104, 105, 106, 107, 108, 109, 110, 111, 112, 113, 114, 83, 84, 85, 86, 87, 88, 89, 90, 91, 92, 93, 94] (by decide +kernel) (by decide +kernel)) (goodIn_sub (fun _ h => List.mem_cons_of_mem _ (List.mem_append_left _ (List.mem_append_right _ h))) (by decide +kernel))) (goodIn_sub (fun _ h => List.mem_cons_of_mem _ (List.mem_append_right _ h)) (by decide +kernel))
set_option maxRecDepth 20000 in
theorem gX7_waiting_X7_bookedRehearsal : GoodIn wsX7_waiting (wsV RX7 367 RX7 yX7_bookedRehearsal wsX7_bookedRehearsal) := goodIn_app (goodIn_of _ (by decide +kernel)) ggX7_waiting_X7_bookedRehearsal
set_option maxRecDepth 20000 in
theorem ggX7_waiting_X7_orderCalls : GoodIn wsX7_waiting wsX7_orderCalls := goodIn_ca (goodIn_r _ [27, 1, 28, 29, 30, 31, 32, 33, 34, 35, 36, 5, 37, 38, 39, 40, 41, 42, 43, 44, 45, 46, 47, 48, 49, 50, 51, 52, 53, 54, 55, 56, 57, 58, 59, 60, 61, 62, 63, 64, 65, 66, 67, 68, 69, 70, 71, 72, 73, 74, 75, 76, 77, 78, 79, 80, 81, 82, 83, 84, 85, 86, 87, 88, 89, 90, 91, 92, 93, 94, 100, 101, 102, 103, 104, 105, 106, 107, 108, 109, 110, 111, 112, 113, 114, 115, 116, 117, 118, 119, 120, 121, 122, 123, 95, 96, 97, 98, 99] (by decide +kernel) (by decide +kernel)) (goodIn_sub (fun _ h => List.mem_cons_of_mem _ (List.mem_append_left _ (List.mem_append_left _ (List.mem_append_right _ h)))) (by decide +kernel))
set_option maxRecDepth 20000 in
theorem gX7_waiting_X7_orderCalls : GoodIn wsX7_waiting (wsV RX7 370 RX7 yX7_orderCalls wsX7_orderCalls) := goodIn_app (goodIn_of _ (by decide +kernel)) ggX7_waiting_X7_orderCalls
theorem dX7_waiting_0 : decode cX7_waiting 0 = .ok (.aload_n 0, 1) := by decide +kernel
theorem dX7_waiting_1 : decode cX7_waiting 1 = .ok (.aload_n 0, 1) := by decide +kernel
theorem dX7_waiting_2 : decode cX7_waiting 2 = .ok (.iload_n 1, 1) := by decide +kernel
theorem dX7_waiting_3 : decode cX7_waiting 3 = .ok (.invokevirtual 367, 3) := by decide +kernel
theorem dX7_waiting_6 : decode cX7_waiting 6 = .ok (.invokevirtual 370, 3) := by decide +kernel
theorem dX7_waiting_9 : decode cX7_waiting 9 = .ok (.aload_n 0, 1) := by decide +kernel
theorem dX7_waiting_10 : decode cX7_waiting 10 = .ok (.getfield 49, 3) := by decide +kernel
theorem dX7_waiting_13 : decode cX7_waiting 13 = .ok (.getfield 382, 3) := by decide +kernel
theorem dX7_waiting_16 : decode cX7_waiting 16 = .ok (.iconst 0, 1) := by decide +kernel
theorem dX7_waiting_17 : decode cX7_waiting 17 = .ok (.iaload, 1) := by decide +kernel
theorem dX7_waiting_18 : decode cX7_waiting 18 = .ok (.ireturn, 1) := by decide +kernel
set_option maxRecDepth 20000 in
theorem ggX7_ran_X7_serviceRow : GoodIn wsX7_ran wsX7_serviceRow := goodIn_ca (goodIn_r _ [7, 8, 9, 10, 11, 6, 12, 13, 14, 15, 16, 17, 18, 48, 49, 50, 51, 52, 53, 54, 55, 56, 57, 58, 59] (by decide +kernel) (by decide +kernel)) (goodIn_sub (fun _ h => List.mem_cons_of_mem _ (List.mem_append_left _ (List.mem_append_right _ h))) (by decide +kernel))
set_option maxRecDepth 20000 in
theorem gX7_ran_X7_serviceRow : GoodIn wsX7_ran (wsV RX7 223 RX7 yX7_serviceRow wsX7_serviceRow) := goodIn_app (goodIn_of _ (by decide +kernel)) ggX7_ran_X7_serviceRow
set_option maxRecDepth 20000 in
theorem ggX7_ran_X7_checkRange : GoodIn wsX7_ran wsX7_checkRange := goodIn_ca (goodIn_r _ [21, 22, 23] (by decide +kernel) (by decide +kernel)) (goodIn_sub (fun _ h => List.mem_cons_of_mem _ (List.mem_append_right _ h)) (by decide +kernel))
set_option maxRecDepth 20000 in
theorem gX7_ran_X7_checkRange : GoodIn wsX7_ran (va_wsS RX7 58 yX7_checkRange wsX7_checkRange) := goodIn_app (goodIn_of _ (by decide +kernel)) ggX7_ran_X7_checkRange
set_option maxRecDepth 20000 in
theorem ggX7_ran_X7_overtimeOf : GoodIn wsX7_ran wsX7_overtimeOf := goodIn_r _ [27, 28, 29, 30, 31, 6, 32, 33, 34, 35, 36, 37, 38, 39, 40, 41, 42, 43, 44, 45, 46, 47, 48, 49, 50, 51, 52, 53, 54, 55, 56, 57, 58, 59, 60, 61, 62, 63, 64, 65, 66] (by decide +kernel) (by decide +kernel)
set_option maxRecDepth 20000 in
theorem gX7_ran_X7_overtimeOf : GoodIn wsX7_ran (wsV RX7 385 RX7 yX7_overtimeOf wsX7_overtimeOf) := goodIn_app (goodIn_of _ (by decide +kernel)) ggX7_ran_X7_overtimeOf
theorem dX7_ran_0 : decode cX7_ran 0 = .ok (.aload_n 0, 1) := by decide +kernel
theorem dX7_ran_1 : decode cX7_ran 1 = .ok (.iload_n 1, 1) := by decide +kernel
theorem dX7_ran_2 : decode cX7_ran 2 = .ok (.invokevirtual 223, 3) := by decide +kernel
theorem dX7_ran_5 : decode cX7_ran 5 = .ok (.astore_n 3, 1) := by decide +kernel
theorem dX7_ran_6 : decode cX7_ran 6 = .ok (.iload_n 2, 1) := by decide +kernel
theorem dX7_ran_7 : decode cX7_ran 7 = .ok (.iconst 4, 1) := by decide +kernel
theorem dX7_ran_8 : decode cX7_ran 8 = .ok (.bipush 32, 2) := by decide +kernel
theorem dX7_ran_10 : decode cX7_ran 10 = .ok (.invokestatic 58, 3) := by decide +kernel
theorem dX7_ran_13 : decode cX7_ran 13 = .ok (.aload_n 3, 1) := by decide +kernel
theorem dX7_ran_14 : decode cX7_ran 14 = .ok (.getfield 227, 3) := by decide +kernel
theorem dX7_ran_17 : decode cX7_ran 17 = .ok (.ifCond .ne 14, 3) := by decide +kernel
theorem dX7_ran_20 : decode cX7_ran 20 = .ok (.new 95, 3) := by decide +kernel
theorem dX7_ran_23 : decode cX7_ran 23 = .ok (.dup, 1) := by decide +kernel
theorem dX7_ran_24 : decode cX7_ran 24 = .ok (.ldc_w 335, 3) := by decide +kernel
theorem dX7_ran_27 : decode cX7_ran 27 = .ok (.invokespecial 99, 3) := by decide +kernel
theorem dX7_ran_30 : decode cX7_ran 30 = .ok (.athrow, 1) := by decide +kernel
theorem dX7_ran_31 : decode cX7_ran 31 = .ok (.aload_n 3, 1) := by decide +kernel
theorem dX7_ran_32 : decode cX7_ran 32 = .ok (.iload_n 2, 1) := by decide +kernel
theorem dX7_ran_33 : decode cX7_ran 33 = .ok (.putfield 329, 3) := by decide +kernel
theorem dX7_ran_36 : decode cX7_ran 36 = .ok (.aload_n 0, 1) := by decide +kernel
theorem dX7_ran_37 : decode cX7_ran 37 = .ok (.aload_n 3, 1) := by decide +kernel
theorem dX7_ran_38 : decode cX7_ran 38 = .ok (.invokevirtual 385, 3) := by decide +kernel
theorem dX7_ran_41 : decode cX7_ran 41 = .ok (.ireturn, 1) := by decide +kernel
set_option maxRecDepth 20000 in
theorem ggX7_overtime_X7_serviceRow : GoodIn wsX7_overtime wsX7_serviceRow := goodIn_ca (goodIn_r _ [5, 6, 7, 8, 9, 4, 10, 11, 12, 13, 14, 15, 16, 26, 27, 28, 29, 30, 31, 32, 33, 34, 35, 36, 37] (by decide +kernel) (by decide +kernel)) (goodIn_sub (fun _ h => List.mem_cons_of_mem _ (List.mem_append_right _ h)) (by decide +kernel))
set_option maxRecDepth 20000 in
theorem gX7_overtime_X7_serviceRow : GoodIn wsX7_overtime (wsV RX7 223 RX7 yX7_serviceRow wsX7_serviceRow) := goodIn_app (goodIn_of _ (by decide +kernel)) ggX7_overtime_X7_serviceRow
set_option maxRecDepth 20000 in
theorem ggX7_overtime_X7_overtimeOf : GoodIn wsX7_overtime wsX7_overtimeOf := goodIn_r _ [20, 21, 22, 23, 24, 4, 25, 38, 39, 40, 41, 42, 43, 44, 45, 46, 47, 48, 49, 50, 51, 52, 26, 27, 28, 29, 30, 31, 32, 33, 34, 35, 36, 37, 53, 54, 55, 56, 57, 58, 59] (by decide +kernel) (by decide +kernel)
set_option maxRecDepth 20000 in
theorem gX7_overtime_X7_overtimeOf : GoodIn wsX7_overtime (wsV RX7 385 RX7 yX7_overtimeOf wsX7_overtimeOf) := goodIn_app (goodIn_of _ (by decide +kernel)) ggX7_overtime_X7_overtimeOf
theorem dX7_overtime_0 : decode cX7_overtime 0 = .ok (.aload_n 0, 1) := by decide +kernel
theorem dX7_overtime_1 : decode cX7_overtime 1 = .ok (.aload_n 0, 1) := by decide +kernel
theorem dX7_overtime_2 : decode cX7_overtime 2 = .ok (.iload_n 1, 1) := by decide +kernel
theorem dX7_overtime_3 : decode cX7_overtime 3 = .ok (.invokevirtual 223, 3) := by decide +kernel
theorem dX7_overtime_6 : decode cX7_overtime 6 = .ok (.invokevirtual 385, 3) := by decide +kernel
theorem dX7_overtime_9 : decode cX7_overtime 9 = .ok (.ireturn, 1) := by decide +kernel
set_option maxRecDepth 20000 in
theorem ggX7_lastPlayed_X7_checkWork : GoodIn wsX7_lastPlayed wsX7_checkWork := goodIn_ca (goodIn_r _ [13, 14, 15, 16, 12, 17, 18, 19, 23, 24, 25, 26, 27, 28, 29, 30, 31, 32, 33, 34] (by decide +kernel) (by decide +kernel)) (goodIn_sub (fun _ h => List.mem_cons_of_mem _ (List.mem_append_right _ h)) (by decide +kernel))
set_option maxRecDepth 20000 in
theorem gX7_lastPlayed_X7_checkWork : GoodIn wsX7_lastPlayed (wsV RX7 154 RX7 yX7_checkWork wsX7_checkWork) := goodIn_app (goodIn_of _ (by decide +kernel)) ggX7_lastPlayed_X7_checkWork
set_option maxRecDepth 20000 in
theorem ggX7_lastPlayed_X7_hasBit : GoodIn wsX7_lastPlayed wsX7_hasBit := goodIn_r _ [22] (by decide +kernel) (by decide +kernel)
set_option maxRecDepth 20000 in
theorem gX7_lastPlayed_X7_hasBit : GoodIn wsX7_lastPlayed (va_wsS RX7 161 yX7_hasBit wsX7_hasBit) := goodIn_app (goodIn_of _ (by decide +kernel)) ggX7_lastPlayed_X7_hasBit
theorem dX7_lastPlayed_0 : decode cX7_lastPlayed 0 = .ok (.aload_n 0, 1) := by decide +kernel
theorem dX7_lastPlayed_1 : decode cX7_lastPlayed 1 = .ok (.iload_n 1, 1) := by decide +kernel
theorem dX7_lastPlayed_2 : decode cX7_lastPlayed 2 = .ok (.invokevirtual 154, 3) := by decide +kernel
theorem dX7_lastPlayed_5 : decode cX7_lastPlayed 5 = .ok (.iconst (-1), 1) := by decide +kernel
theorem dX7_lastPlayed_6 : decode cX7_lastPlayed 6 = .ok (.istore_n 2, 1) := by decide +kernel
theorem dX7_lastPlayed_7 : decode cX7_lastPlayed 7 = .ok (.iconst 0, 1) := by decide +kernel
theorem dX7_lastPlayed_8 : decode cX7_lastPlayed 8 = .ok (.istore_n 3, 1) := by decide +kernel
theorem dX7_lastPlayed_9 : decode cX7_lastPlayed 9 = .ok (.iload_n 3, 1) := by decide +kernel
theorem dX7_lastPlayed_10 : decode cX7_lastPlayed 10 = .ok (.aload_n 0, 1) := by decide +kernel
theorem dX7_lastPlayed_11 : decode cX7_lastPlayed 11 = .ok (.getfield 202, 3) := by decide +kernel
theorem dX7_lastPlayed_14 : decode cX7_lastPlayed 14 = .ok (.if_icmp .ge 49, 3) := by decide +kernel
theorem dX7_lastPlayed_17 : decode cX7_lastPlayed 17 = .ok (.aload_n 0, 1) := by decide +kernel
theorem dX7_lastPlayed_18 : decode cX7_lastPlayed 18 = .ok (.getfield 29, 3) := by decide +kernel
theorem dX7_lastPlayed_21 : decode cX7_lastPlayed 21 = .ok (.iload_n 3, 1) := by decide +kernel
theorem dX7_lastPlayed_22 : decode cX7_lastPlayed 22 = .ok (.aaload, 1) := by decide +kernel
theorem dX7_lastPlayed_23 : decode cX7_lastPlayed 23 = .ok (.astore 4, 2) := by decide +kernel
theorem dX7_lastPlayed_25 : decode cX7_lastPlayed 25 = .ok (.aload 4, 2) := by decide +kernel
theorem dX7_lastPlayed_27 : decode cX7_lastPlayed 27 = .ok (.getfield 207, 3) := by decide +kernel
theorem dX7_lastPlayed_30 : decode cX7_lastPlayed 30 = .ok (.bipush 99, 2) := by decide +kernel
theorem dX7_lastPlayed_32 : decode cX7_lastPlayed 32 = .ok (.if_icmp .ne 25, 3) := by decide +kernel
theorem dX7_lastPlayed_35 : decode cX7_lastPlayed 35 = .ok (.aload 4, 2) := by decide +kernel
theorem dX7_lastPlayed_37 : decode cX7_lastPlayed 37 = .ok (.getfield 324, 3) := by decide +kernel
theorem dX7_lastPlayed_40 : decode cX7_lastPlayed 40 = .ok (.iload_n 1, 1) := by decide +kernel
theorem dX7_lastPlayed_41 : decode cX7_lastPlayed 41 = .ok (.invokestatic 161, 3) := by decide +kernel
theorem dX7_lastPlayed_44 : decode cX7_lastPlayed 44 = .ok (.ifCond .eq 13, 3) := by decide +kernel
theorem dX7_lastPlayed_47 : decode cX7_lastPlayed 47 = .ok (.iload_n 2, 1) := by decide +kernel
theorem dX7_lastPlayed_48 : decode cX7_lastPlayed 48 = .ok (.aload 4, 2) := by decide +kernel
theorem dX7_lastPlayed_50 : decode cX7_lastPlayed 50 = .ok (.getfield 211, 3) := by decide +kernel
theorem dX7_lastPlayed_53 : decode cX7_lastPlayed 53 = .ok (.invokestatic 388, 3) := by decide +kernel
theorem dX7_lastPlayed_56 : decode cX7_lastPlayed 56 = .ok (.istore_n 2, 1) := by decide +kernel
theorem dX7_lastPlayed_57 : decode cX7_lastPlayed 57 = .ok (.iinc 3 1, 3) := by decide +kernel
theorem dX7_lastPlayed_60 : decode cX7_lastPlayed 60 = .ok (.goto (-51), 3) := by decide +kernel
theorem dX7_lastPlayed_63 : decode cX7_lastPlayed 63 = .ok (.iload_n 2, 1) := by decide +kernel
theorem dX7_lastPlayed_64 : decode cX7_lastPlayed 64 = .ok (.iconst (-1), 1) := by decide +kernel
theorem dX7_lastPlayed_65 : decode cX7_lastPlayed 65 = .ok (.if_icmp .ne 14, 3) := by decide +kernel
theorem dX7_lastPlayed_68 : decode cX7_lastPlayed 68 = .ok (.new 303, 3) := by decide +kernel
theorem dX7_lastPlayed_71 : decode cX7_lastPlayed 71 = .ok (.dup, 1) := by decide +kernel
theorem dX7_lastPlayed_72 : decode cX7_lastPlayed 72 = .ok (.ldc_w 393, 3) := by decide +kernel
theorem dX7_lastPlayed_75 : decode cX7_lastPlayed 75 = .ok (.invokespecial 307, 3) := by decide +kernel
theorem dX7_lastPlayed_78 : decode cX7_lastPlayed 78 = .ok (.athrow, 1) := by decide +kernel
theorem dX7_lastPlayed_79 : decode cX7_lastPlayed 79 = .ok (.iload_n 2, 1) := by decide +kernel
theorem dX7_lastPlayed_80 : decode cX7_lastPlayed 80 = .ok (.ireturn, 1) := by decide +kernel
set_option maxRecDepth 20000 in
theorem ggX7_howOften_X7_checkPlayer : GoodIn wsX7_howOften wsX7_checkPlayer := goodIn_ca (goodIn_r _ [7, 8, 9, 10, 6, 11, 12, 13, 42, 43, 44, 45, 46, 47, 48, 49, 50, 51, 52, 53] (by decide +kernel) (by decide +kernel)) (goodIn_sub (fun _ h => List.mem_cons_of_mem _ (List.mem_append_left _ (List.mem_append_right _ h))) (by decide +kernel))
set_option maxRecDepth 20000 in
theorem gX7_howOften_X7_checkPlayer : GoodIn wsX7_howOften (wsV RX7 343 RX7 yX7_checkPlayer wsX7_checkPlayer) := goodIn_app (goodIn_of _ (by decide +kernel)) ggX7_howOften_X7_checkPlayer
set_option maxRecDepth 20000 in
theorem ggX7_howOften_X7_checkWork : GoodIn wsX7_howOften wsX7_checkWork := goodIn_ca (goodIn_r _ [17, 18, 9, 10, 6, 11, 12, 13, 42, 43, 44, 45, 46, 47, 48, 49, 50, 51, 52, 53] (by decide +kernel) (by decide +kernel)) (goodIn_sub (fun _ h => List.mem_cons_of_mem _ (List.mem_append_left _ (List.mem_append_right _ h))) (by decide +kernel))
set_option maxRecDepth 20000 in
theorem gX7_howOften_X7_checkWork : GoodIn wsX7_howOften (wsV RX7 154 RX7 yX7_checkWork wsX7_checkWork) := goodIn_app (goodIn_of _ (by decide +kernel)) ggX7_howOften_X7_checkWork
set_option maxRecDepth 20000 in
theorem ggX7_howOften_X7_playersIn : GoodIn wsX7_howOften wsX7_playersIn := goodIn_ca (goodIn_r _ [22, 23, 24, 25, 26, 27, 28, 29, 30, 31, 6, 32, 33, 34, 35, 36, 37, 38, 39, 40, 41, 54, 55, 56, 57, 58, 59, 60, 61, 62, 63, 64, 65, 66, 67, 68, 42, 43, 44, 45, 46, 47, 48, 49, 50, 51, 52, 53, 69, 70, 71, 72, 73, 74, 75, 76, 77] (by decide +kernel) (by decide +kernel)) (goodIn_sub (fun _ h => List.mem_cons_of_mem _ (List.mem_append_right _ h)) (by decide +kernel))
set_option maxRecDepth 20000 in
theorem gX7_howOften_X7_playersIn : GoodIn wsX7_howOften (wsV RX7 395 RX7 yX7_playersIn wsX7_playersIn) := goodIn_app (goodIn_of _ (by decide +kernel)) ggX7_howOften_X7_playersIn
set_option maxRecDepth 20000 in
theorem ggX7_howOften_X7_hasBit : GoodIn wsX7_howOften wsX7_hasBit := goodIn_r _ [32] (by decide +kernel) (by decide +kernel)
set_option maxRecDepth 20000 in
theorem gX7_howOften_X7_hasBit : GoodIn wsX7_howOften (va_wsS RX7 161 yX7_hasBit wsX7_hasBit) := goodIn_app (goodIn_of _ (by decide +kernel)) ggX7_howOften_X7_hasBit
theorem dX7_howOften_0 : decode cX7_howOften 0 = .ok (.aload_n 0, 1) := by decide +kernel
theorem dX7_howOften_1 : decode cX7_howOften 1 = .ok (.iload_n 1, 1) := by decide +kernel
theorem dX7_howOften_2 : decode cX7_howOften 2 = .ok (.invokevirtual 343, 3) := by decide +kernel
theorem dX7_howOften_5 : decode cX7_howOften 5 = .ok (.aload_n 0, 1) := by decide +kernel
theorem dX7_howOften_6 : decode cX7_howOften 6 = .ok (.iload_n 2, 1) := by decide +kernel
theorem dX7_howOften_7 : decode cX7_howOften 7 = .ok (.invokevirtual 154, 3) := by decide +kernel
theorem dX7_howOften_10 : decode cX7_howOften 10 = .ok (.iconst 0, 1) := by decide +kernel
theorem dX7_howOften_11 : decode cX7_howOften 11 = .ok (.istore_n 3, 1) := by decide +kernel
theorem dX7_howOften_12 : decode cX7_howOften 12 = .ok (.iconst 0, 1) := by decide +kernel
theorem dX7_howOften_13 : decode cX7_howOften 13 = .ok (.istore 4, 2) := by decide +kernel
theorem dX7_howOften_15 : decode cX7_howOften 15 = .ok (.iload 4, 2) := by decide +kernel
theorem dX7_howOften_17 : decode cX7_howOften 17 = .ok (.aload_n 0, 1) := by decide +kernel
theorem dX7_howOften_18 : decode cX7_howOften 18 = .ok (.getfield 202, 3) := by decide +kernel
theorem dX7_howOften_21 : decode cX7_howOften 21 = .ok (.if_icmp .ge 45, 3) := by decide +kernel
theorem dX7_howOften_24 : decode cX7_howOften 24 = .ok (.aload_n 0, 1) := by decide +kernel
theorem dX7_howOften_25 : decode cX7_howOften 25 = .ok (.getfield 29, 3) := by decide +kernel
theorem dX7_howOften_28 : decode cX7_howOften 28 = .ok (.iload 4, 2) := by decide +kernel
theorem dX7_howOften_30 : decode cX7_howOften 30 = .ok (.aaload, 1) := by decide +kernel
theorem dX7_howOften_31 : decode cX7_howOften 31 = .ok (.astore 5, 2) := by decide +kernel
theorem dX7_howOften_33 : decode cX7_howOften 33 = .ok (.aload 5, 2) := by decide +kernel
theorem dX7_howOften_35 : decode cX7_howOften 35 = .ok (.getfield 207, 3) := by decide +kernel
theorem dX7_howOften_38 : decode cX7_howOften 38 = .ok (.bipush 99, 2) := by decide +kernel
theorem dX7_howOften_40 : decode cX7_howOften 40 = .ok (.if_icmp .ne 20, 3) := by decide +kernel
theorem dX7_howOften_43 : decode cX7_howOften 43 = .ok (.aload_n 0, 1) := by decide +kernel
theorem dX7_howOften_44 : decode cX7_howOften 44 = .ok (.aload 5, 2) := by decide +kernel
theorem dX7_howOften_46 : decode cX7_howOften 46 = .ok (.iload_n 2, 1) := by decide +kernel
theorem dX7_howOften_47 : decode cX7_howOften 47 = .ok (.invokevirtual 395, 3) := by decide +kernel
theorem dX7_howOften_50 : decode cX7_howOften 50 = .ok (.iload_n 1, 1) := by decide +kernel
theorem dX7_howOften_51 : decode cX7_howOften 51 = .ok (.invokestatic 161, 3) := by decide +kernel
theorem dX7_howOften_54 : decode cX7_howOften 54 = .ok (.ifCond .eq 6, 3) := by decide +kernel
theorem dX7_howOften_57 : decode cX7_howOften 57 = .ok (.iinc 3 1, 3) := by decide +kernel
theorem dX7_howOften_60 : decode cX7_howOften 60 = .ok (.iinc 4 1, 3) := by decide +kernel
theorem dX7_howOften_63 : decode cX7_howOften 63 = .ok (.goto (-48), 3) := by decide +kernel
theorem dX7_howOften_66 : decode cX7_howOften 66 = .ok (.iload_n 3, 1) := by decide +kernel
theorem dX7_howOften_67 : decode cX7_howOften 67 = .ok (.ireturn, 1) := by decide +kernel
set_option maxRecDepth 20000 in
theorem ggX7_total_X7_costOf : GoodIn wsX7_total wsX7_costOf := goodIn_ca (goodIn_r _ [9, 10, 11, 12, 4, 13, 14, 8, 15, 16, 17, 18, 19, 20, 21, 22, 23, 24, 25, 26, 27, 28, 29, 30, 56, 57, 58, 59, 60, 61, 62, 63, 64, 65, 66, 67, 68, 69, 70, 35, 36, 37, 38, 39, 40, 41, 42, 43, 44, 45, 46, 71, 72, 73, 74, 75, 76, 77, 78, 79, 80, 81, 47, 48, 49, 50, 51, 52, 53, 54, 55] (by decide +kernel) (by decide +kernel)) (goodIn_sub (fun _ h => List.mem_cons_of_mem _ (List.mem_append_right _ h)) (by decide +kernel))
set_option maxRecDepth 20000 in
theorem gX7_total_X7_costOf : GoodIn wsX7_total (wsV RX7 332 RX7 yX7_costOf wsX7_costOf) := goodIn_app (goodIn_of _ (by decide +kernel)) ggX7_total_X7_costOf
set_option maxRecDepth 20000 in
theorem ggX7_total_X7_overtimeOf : GoodIn wsX7_total wsX7_overtimeOf := goodIn_r _ [34, 11, 12, 13, 14, 8, 15, 56, 57, 58, 59, 60, 61, 62, 63, 64, 65, 66, 67, 68, 69, 70, 35, 36, 37, 38, 39, 40, 41, 42, 43, 44, 45, 46, 75, 76, 77, 78, 79, 80, 81] (by decide +kernel) (by decide +kernel)
set_option maxRecDepth 20000 in
theorem gX7_total_X7_overtimeOf : GoodIn wsX7_total (wsV RX7 385 RX7 yX7_overtimeOf wsX7_overtimeOf) := goodIn_app (goodIn_of _ (by decide +kernel)) ggX7_total_X7_overtimeOf
theorem dX7_total_0 : decode cX7_total 0 = .ok (.iconst 0, 1) := by decide +kernel
theorem dX7_total_1 : decode cX7_total 1 = .ok (.istore_n 1, 1) := by decide +kernel
theorem dX7_total_2 : decode cX7_total 2 = .ok (.iconst 0, 1) := by decide +kernel
theorem dX7_total_3 : decode cX7_total 3 = .ok (.istore_n 2, 1) := by decide +kernel
theorem dX7_total_4 : decode cX7_total 4 = .ok (.iload_n 2, 1) := by decide +kernel
theorem dX7_total_5 : decode cX7_total 5 = .ok (.aload_n 0, 1) := by decide +kernel
theorem dX7_total_6 : decode cX7_total 6 = .ok (.getfield 202, 3) := by decide +kernel
theorem dX7_total_9 : decode cX7_total 9 = .ok (.if_icmp .ge 33, 3) := by decide +kernel
theorem dX7_total_12 : decode cX7_total 12 = .ok (.iload_n 1, 1) := by decide +kernel
theorem dX7_total_13 : decode cX7_total 13 = .ok (.aload_n 0, 1) := by decide +kernel
theorem dX7_total_14 : decode cX7_total 14 = .ok (.aload_n 0, 1) := by decide +kernel
theorem dX7_total_15 : decode cX7_total 15 = .ok (.getfield 29, 3) := by decide +kernel
theorem dX7_total_18 : decode cX7_total 18 = .ok (.iload_n 2, 1) := by decide +kernel
theorem dX7_total_19 : decode cX7_total 19 = .ok (.aaload, 1) := by decide +kernel
theorem dX7_total_20 : decode cX7_total 20 = .ok (.invokevirtual 332, 3) := by decide +kernel
theorem dX7_total_23 : decode cX7_total 23 = .ok (.aload_n 0, 1) := by decide +kernel
theorem dX7_total_24 : decode cX7_total 24 = .ok (.aload_n 0, 1) := by decide +kernel
theorem dX7_total_25 : decode cX7_total 25 = .ok (.getfield 29, 3) := by decide +kernel
theorem dX7_total_28 : decode cX7_total 28 = .ok (.iload_n 2, 1) := by decide +kernel
theorem dX7_total_29 : decode cX7_total 29 = .ok (.aaload, 1) := by decide +kernel
theorem dX7_total_30 : decode cX7_total 30 = .ok (.invokevirtual 385, 3) := by decide +kernel
theorem dX7_total_33 : decode cX7_total 33 = .ok (.iadd, 1) := by decide +kernel
theorem dX7_total_34 : decode cX7_total 34 = .ok (.iadd, 1) := by decide +kernel
theorem dX7_total_35 : decode cX7_total 35 = .ok (.istore_n 1, 1) := by decide +kernel
theorem dX7_total_36 : decode cX7_total 36 = .ok (.iinc 2 1, 3) := by decide +kernel
theorem dX7_total_39 : decode cX7_total 39 = .ok (.goto (-35), 3) := by decide +kernel
theorem dX7_total_42 : decode cX7_total 42 = .ok (.iconst 0, 1) := by decide +kernel
theorem dX7_total_43 : decode cX7_total 43 = .ok (.istore_n 2, 1) := by decide +kernel
theorem dX7_total_44 : decode cX7_total 44 = .ok (.iload_n 2, 1) := by decide +kernel
theorem dX7_total_45 : decode cX7_total 45 = .ok (.aload_n 0, 1) := by decide +kernel
theorem dX7_total_46 : decode cX7_total 46 = .ok (.getfield 62, 3) := by decide +kernel
theorem dX7_total_49 : decode cX7_total 49 = .ok (.if_icmp .ge 21, 3) := by decide +kernel
theorem dX7_total_52 : decode cX7_total 52 = .ok (.iload_n 1, 1) := by decide +kernel
theorem dX7_total_53 : decode cX7_total 53 = .ok (.aload_n 0, 1) := by decide +kernel
theorem dX7_total_54 : decode cX7_total 54 = .ok (.getfield 11, 3) := by decide +kernel
theorem dX7_total_57 : decode cX7_total 57 = .ok (.iload_n 2, 1) := by decide +kernel
theorem dX7_total_58 : decode cX7_total 58 = .ok (.aaload, 1) := by decide +kernel
theorem dX7_total_59 : decode cX7_total 59 = .ok (.getfield 116, 3) := by decide +kernel
theorem dX7_total_62 : decode cX7_total 62 = .ok (.iadd, 1) := by decide +kernel
theorem dX7_total_63 : decode cX7_total 63 = .ok (.istore_n 1, 1) := by decide +kernel
theorem dX7_total_64 : decode cX7_total 64 = .ok (.iinc 2 1, 3) := by decide +kernel
theorem dX7_total_67 : decode cX7_total 67 = .ok (.goto (-23), 3) := by decide +kernel
theorem dX7_total_70 : decode cX7_total 70 = .ok (.iload_n 1, 1) := by decide +kernel
theorem dX7_total_71 : decode cX7_total 71 = .ok (.ireturn, 1) := by decide +kernel
set_option maxRecDepth 20000 in
theorem ggX7_rehearsed_X7_workRow : GoodIn wsX7_rehearsed wsX7_workRow := goodIn_ca (goodIn_r _ [7, 8, 9, 10, 11, 6, 12, 13, 14, 15, 16, 17, 18, 22, 23, 24, 25, 26, 27, 28, 29, 30, 31, 32, 33] (by decide +kernel) (by decide +kernel)) (goodIn_sub (fun _ h => List.mem_cons_of_mem _ (List.mem_append_right _ h)) (by decide +kernel))
set_option maxRecDepth 20000 in
theorem gX7_rehearsed_X7_workRow : GoodIn wsX7_rehearsed (wsV RX7 80 RX7 yX7_workRow wsX7_workRow) := goodIn_app (goodIn_of _ (by decide +kernel)) ggX7_rehearsed_X7_workRow
set_option maxRecDepth 20000 in
theorem ggX7_rehearsed_X7_hasBit : GoodIn wsX7_rehearsed wsX7_hasBit := goodIn_r _ [21] (by decide +kernel) (by decide +kernel)
set_option maxRecDepth 20000 in
theorem gX7_rehearsed_X7_hasBit : GoodIn wsX7_rehearsed (va_wsS RX7 161 yX7_hasBit wsX7_hasBit) := goodIn_app (goodIn_of _ (by decide +kernel)) ggX7_rehearsed_X7_hasBit
theorem dX7_rehearsed_0 : decode cX7_rehearsed 0 = .ok (.aload_n 0, 1) := by decide +kernel
theorem dX7_rehearsed_1 : decode cX7_rehearsed 1 = .ok (.iload_n 1, 1) := by decide +kernel
theorem dX7_rehearsed_2 : decode cX7_rehearsed 2 = .ok (.invokevirtual 80, 3) := by decide +kernel
theorem dX7_rehearsed_5 : decode cX7_rehearsed 5 = .ok (.astore_n 2, 1) := by decide +kernel
theorem dX7_rehearsed_6 : decode cX7_rehearsed 6 = .ok (.iconst 0, 1) := by decide +kernel
theorem dX7_rehearsed_7 : decode cX7_rehearsed 7 = .ok (.istore_n 3, 1) := by decide +kernel
theorem dX7_rehearsed_8 : decode cX7_rehearsed 8 = .ok (.iconst 0, 1) := by decide +kernel
theorem dX7_rehearsed_9 : decode cX7_rehearsed 9 = .ok (.istore 4, 2) := by decide +kernel
theorem dX7_rehearsed_11 : decode cX7_rehearsed 11 = .ok (.iload 4, 2) := by decide +kernel
theorem dX7_rehearsed_13 : decode cX7_rehearsed 13 = .ok (.aload_n 0, 1) := by decide +kernel
theorem dX7_rehearsed_14 : decode cX7_rehearsed 14 = .ok (.getfield 202, 3) := by decide +kernel
theorem dX7_rehearsed_17 : decode cX7_rehearsed 17 = .ok (.if_icmp .ge 48, 3) := by decide +kernel
theorem dX7_rehearsed_20 : decode cX7_rehearsed 20 = .ok (.aload_n 0, 1) := by decide +kernel
theorem dX7_rehearsed_21 : decode cX7_rehearsed 21 = .ok (.getfield 29, 3) := by decide +kernel
theorem dX7_rehearsed_24 : decode cX7_rehearsed 24 = .ok (.iload 4, 2) := by decide +kernel
theorem dX7_rehearsed_26 : decode cX7_rehearsed 26 = .ok (.aaload, 1) := by decide +kernel
theorem dX7_rehearsed_27 : decode cX7_rehearsed 27 = .ok (.getfield 207, 3) := by decide +kernel
theorem dX7_rehearsed_30 : decode cX7_rehearsed 30 = .ok (.bipush 114, 2) := by decide +kernel
theorem dX7_rehearsed_32 : decode cX7_rehearsed 32 = .ok (.if_icmp .ne 27, 3) := by decide +kernel
theorem dX7_rehearsed_35 : decode cX7_rehearsed 35 = .ok (.aload_n 0, 1) := by decide +kernel
theorem dX7_rehearsed_36 : decode cX7_rehearsed 36 = .ok (.getfield 29, 3) := by decide +kernel
theorem dX7_rehearsed_39 : decode cX7_rehearsed 39 = .ok (.iload 4, 2) := by decide +kernel
theorem dX7_rehearsed_41 : decode cX7_rehearsed 41 = .ok (.aaload, 1) := by decide +kernel
theorem dX7_rehearsed_42 : decode cX7_rehearsed 42 = .ok (.getfield 324, 3) := by decide +kernel
theorem dX7_rehearsed_45 : decode cX7_rehearsed 45 = .ok (.iload_n 1, 1) := by decide +kernel
theorem dX7_rehearsed_46 : decode cX7_rehearsed 46 = .ok (.invokestatic 161, 3) := by decide +kernel
theorem dX7_rehearsed_49 : decode cX7_rehearsed 49 = .ok (.ifCond .eq 10, 3) := by decide +kernel
theorem dX7_rehearsed_52 : decode cX7_rehearsed 52 = .ok (.iload_n 3, 1) := by decide +kernel
theorem dX7_rehearsed_53 : decode cX7_rehearsed 53 = .ok (.aload_n 2, 1) := by decide +kernel
theorem dX7_rehearsed_54 : decode cX7_rehearsed 54 = .ok (.getfield 73, 3) := by decide +kernel
theorem dX7_rehearsed_57 : decode cX7_rehearsed 57 = .ok (.iadd, 1) := by decide +kernel
theorem dX7_rehearsed_58 : decode cX7_rehearsed 58 = .ok (.istore_n 3, 1) := by decide +kernel
theorem dX7_rehearsed_59 : decode cX7_rehearsed 59 = .ok (.iinc 4 1, 3) := by decide +kernel
theorem dX7_rehearsed_62 : decode cX7_rehearsed 62 = .ok (.goto (-51), 3) := by decide +kernel
theorem dX7_rehearsed_65 : decode cX7_rehearsed 65 = .ok (.iload_n 3, 1) := by decide +kernel
theorem dX7_rehearsed_66 : decode cX7_rehearsed 66 = .ok (.ireturn, 1) := by decide +kernel
set_option maxRecDepth 20000 in
theorem ggX7_checksum_X7_costOf : GoodIn wsX7_checksum wsX7_costOf := goodIn_ca (goodIn_r _ [10, 11, 5, 12, 13, 14, 15, 9, 16, 17, 18, 19, 20, 21, 22, 23, 24, 25, 26, 27, 28, 29, 30, 31, 57, 58, 59, 60, 61, 62, 63, 64, 65, 66, 67, 68, 69, 70, 71, 45, 46, 47, 48, 49, 50, 51, 52, 53, 54, 55, 56, 72, 73, 74, 75, 76, 77, 78, 79, 80, 81, 82, 83, 84, 85, 86, 87, 88, 89, 90, 91] (by decide +kernel) (by decide +kernel)) (goodIn_sub (fun _ h => List.mem_cons_of_mem _ (List.mem_append_right _ h)) (by decide +kernel))
set_option maxRecDepth 20000 in
theorem gX7_checksum_X7_costOf : GoodIn wsX7_checksum (wsV RX7 332 RX7 yX7_costOf wsX7_costOf) := goodIn_app (goodIn_of _ (by decide +kernel)) ggX7_checksum_X7_costOf
set_option maxRecDepth 20000 in
theorem ggX7_checksum_X7_countServices : GoodIn wsX7_checksum wsX7_countServices := goodIn_r _ [35, 2, 3, 14, 15, 9, 16, 45, 46, 47, 48, 49, 50, 51, 52, 53, 54, 55, 56, 57, 58, 59, 60, 61, 62, 63, 64, 65, 66, 67, 68, 69, 70, 71] (by decide +kernel) (by decide +kernel)
set_option maxRecDepth 20000 in
theorem gX7_checksum_X7_countServices : GoodIn wsX7_checksum (wsV RX7 364 RX7 yX7_countServices wsX7_countServices) := goodIn_app (goodIn_of _ (by decide +kernel)) ggX7_checksum_X7_countServices
set_option maxRecDepth 20000 in
theorem ggX7_checksum_X7_total : GoodIn wsX7_checksum wsX7_total := goodIn_ca (goodIn_r _ [39, 2, 3, 40, 13, 6, 7, 8, 9, 10, 11, 5, 12, 14, 15, 16, 17, 18, 19, 20, 21, 22, 23, 24, 25, 26, 27, 28, 29, 30, 31, 41, 42, 43, 44, 45, 46, 47, 48, 49, 50, 51, 52, 53, 54, 55, 56, 83, 84, 85, 86, 87, 88, 89, 90, 91, 57, 58, 59, 60, 61, 62, 63, 64, 65, 66, 67, 68, 69, 70, 71, 72, 73, 74, 75, 76, 77, 78, 79, 80, 81, 82] (by decide +kernel) (by decide +kernel)) (goodIn_sub (fun _ h => List.mem_cons_of_mem _ (List.mem_append_right _ h)) (by decide +kernel))
set_option maxRecDepth 20000 in
theorem gX7_checksum_X7_total : GoodIn wsX7_checksum (wsV RX7 403 RX7 yX7_total wsX7_total) := goodIn_app (goodIn_of _ (by decide +kernel)) ggX7_checksum_X7_total
theorem dX7_checksum_0 : decode cX7_checksum 0 = .ok (.ldc2_w 399, 3) := by decide +kernel
theorem dX7_checksum_3 : decode cX7_checksum 3 = .ok (.lstore_n 1, 1) := by decide +kernel
theorem dX7_checksum_4 : decode cX7_checksum 4 = .ok (.iconst 0, 1) := by decide +kernel
theorem dX7_checksum_5 : decode cX7_checksum 5 = .ok (.istore_n 3, 1) := by decide +kernel
theorem dX7_checksum_6 : decode cX7_checksum 6 = .ok (.iload_n 3, 1) := by decide +kernel
theorem dX7_checksum_7 : decode cX7_checksum 7 = .ok (.aload_n 0, 1) := by decide +kernel
theorem dX7_checksum_8 : decode cX7_checksum 8 = .ok (.getfield 202, 3) := by decide +kernel
theorem dX7_checksum_11 : decode cX7_checksum 11 = .ok (.if_icmp .ge 57, 3) := by decide +kernel
theorem dX7_checksum_14 : decode cX7_checksum 14 = .ok (.aload_n 0, 1) := by decide +kernel
theorem dX7_checksum_15 : decode cX7_checksum 15 = .ok (.getfield 29, 3) := by decide +kernel
theorem dX7_checksum_18 : decode cX7_checksum 18 = .ok (.iload_n 3, 1) := by decide +kernel
theorem dX7_checksum_19 : decode cX7_checksum 19 = .ok (.aaload, 1) := by decide +kernel
theorem dX7_checksum_20 : decode cX7_checksum 20 = .ok (.astore 4, 2) := by decide +kernel
theorem dX7_checksum_22 : decode cX7_checksum 22 = .ok (.ldc2_w 401, 3) := by decide +kernel
theorem dX7_checksum_25 : decode cX7_checksum 25 = .ok (.lload_n 1, 1) := by decide +kernel
theorem dX7_checksum_26 : decode cX7_checksum 26 = .ok (.lmul, 1) := by decide +kernel
theorem dX7_checksum_27 : decode cX7_checksum 27 = .ok (.aload_n 0, 1) := by decide +kernel
theorem dX7_checksum_28 : decode cX7_checksum 28 = .ok (.aload 4, 2) := by decide +kernel
theorem dX7_checksum_30 : decode cX7_checksum 30 = .ok (.invokevirtual 332, 3) := by decide +kernel
theorem dX7_checksum_33 : decode cX7_checksum 33 = .ok (.i2l, 1) := by decide +kernel
theorem dX7_checksum_34 : decode cX7_checksum 34 = .ok (.ladd, 1) := by decide +kernel
theorem dX7_checksum_35 : decode cX7_checksum 35 = .ok (.lstore_n 1, 1) := by decide +kernel
theorem dX7_checksum_36 : decode cX7_checksum 36 = .ok (.ldc2_w 401, 3) := by decide +kernel
theorem dX7_checksum_39 : decode cX7_checksum 39 = .ok (.lload_n 1, 1) := by decide +kernel
theorem dX7_checksum_40 : decode cX7_checksum 40 = .ok (.lmul, 1) := by decide +kernel
theorem dX7_checksum_41 : decode cX7_checksum 41 = .ok (.aload 4, 2) := by decide +kernel
theorem dX7_checksum_43 : decode cX7_checksum 43 = .ok (.getfield 324, 3) := by decide +kernel
theorem dX7_checksum_46 : decode cX7_checksum 46 = .ok (.i2l, 1) := by decide +kernel
theorem dX7_checksum_47 : decode cX7_checksum 47 = .ok (.ladd, 1) := by decide +kernel
theorem dX7_checksum_48 : decode cX7_checksum 48 = .ok (.lstore_n 1, 1) := by decide +kernel
theorem dX7_checksum_49 : decode cX7_checksum 49 = .ok (.ldc2_w 401, 3) := by decide +kernel
theorem dX7_checksum_52 : decode cX7_checksum 52 = .ok (.lload_n 1, 1) := by decide +kernel
theorem dX7_checksum_53 : decode cX7_checksum 53 = .ok (.lmul, 1) := by decide +kernel
theorem dX7_checksum_54 : decode cX7_checksum 54 = .ok (.aload 4, 2) := by decide +kernel
theorem dX7_checksum_56 : decode cX7_checksum 56 = .ok (.getfield 300, 3) := by decide +kernel
theorem dX7_checksum_59 : decode cX7_checksum 59 = .ok (.i2l, 1) := by decide +kernel
theorem dX7_checksum_60 : decode cX7_checksum 60 = .ok (.ladd, 1) := by decide +kernel
theorem dX7_checksum_61 : decode cX7_checksum 61 = .ok (.lstore_n 1, 1) := by decide +kernel
theorem dX7_checksum_62 : decode cX7_checksum 62 = .ok (.iinc 3 1, 3) := by decide +kernel
theorem dX7_checksum_65 : decode cX7_checksum 65 = .ok (.goto (-59), 3) := by decide +kernel
theorem dX7_checksum_68 : decode cX7_checksum 68 = .ok (.iconst 0, 1) := by decide +kernel
theorem dX7_checksum_69 : decode cX7_checksum 69 = .ok (.istore_n 3, 1) := by decide +kernel
theorem dX7_checksum_70 : decode cX7_checksum 70 = .ok (.iload_n 3, 1) := by decide +kernel
theorem dX7_checksum_71 : decode cX7_checksum 71 = .ok (.aload_n 0, 1) := by decide +kernel
theorem dX7_checksum_72 : decode cX7_checksum 72 = .ok (.getfield 122, 3) := by decide +kernel
theorem dX7_checksum_75 : decode cX7_checksum 75 = .ok (.if_icmp .ge 22, 3) := by decide +kernel
theorem dX7_checksum_78 : decode cX7_checksum 78 = .ok (.ldc2_w 401, 3) := by decide +kernel
theorem dX7_checksum_81 : decode cX7_checksum 81 = .ok (.lload_n 1, 1) := by decide +kernel
theorem dX7_checksum_82 : decode cX7_checksum 82 = .ok (.lmul, 1) := by decide +kernel
theorem dX7_checksum_83 : decode cX7_checksum 83 = .ok (.aload_n 0, 1) := by decide +kernel
theorem dX7_checksum_84 : decode cX7_checksum 84 = .ok (.iload_n 3, 1) := by decide +kernel
theorem dX7_checksum_85 : decode cX7_checksum 85 = .ok (.invokevirtual 364, 3) := by decide +kernel
theorem dX7_checksum_88 : decode cX7_checksum 88 = .ok (.i2l, 1) := by decide +kernel
theorem dX7_checksum_89 : decode cX7_checksum 89 = .ok (.ladd, 1) := by decide +kernel
theorem dX7_checksum_90 : decode cX7_checksum 90 = .ok (.lstore_n 1, 1) := by decide +kernel
theorem dX7_checksum_91 : decode cX7_checksum 91 = .ok (.iinc 3 1, 3) := by decide +kernel
theorem dX7_checksum_94 : decode cX7_checksum 94 = .ok (.goto (-24), 3) := by decide +kernel
theorem dX7_checksum_97 : decode cX7_checksum 97 = .ok (.ldc2_w 401, 3) := by decide +kernel
theorem dX7_checksum_100 : decode cX7_checksum 100 = .ok (.lload_n 1, 1) := by decide +kernel
theorem dX7_checksum_101 : decode cX7_checksum 101 = .ok (.lmul, 1) := by decide +kernel
theorem dX7_checksum_102 : decode cX7_checksum 102 = .ok (.aload_n 0, 1) := by decide +kernel
theorem dX7_checksum_103 : decode cX7_checksum 103 = .ok (.invokevirtual 403, 3) := by decide +kernel
theorem dX7_checksum_106 : decode cX7_checksum 106 = .ok (.i2l, 1) := by decide +kernel
theorem dX7_checksum_107 : decode cX7_checksum 107 = .ok (.ladd, 1) := by decide +kernel
theorem dX7_checksum_108 : decode cX7_checksum 108 = .ok (.lreturn, 1) := by decide +kernel
theorem dX7_bookedShare_0 : decode cX7_bookedShare 0 = .ok (.aload_n 0, 1) := by decide +kernel
theorem dX7_bookedShare_1 : decode cX7_bookedShare 1 = .ok (.getfield 202, 3) := by decide +kernel
theorem dX7_bookedShare_4 : decode cX7_bookedShare 4 = .ok (.ifCond .ne 14, 3) := by decide +kernel
theorem dX7_bookedShare_7 : decode cX7_bookedShare 7 = .ok (.new 406, 3) := by decide +kernel
theorem dX7_bookedShare_10 : decode cX7_bookedShare 10 = .ok (.dup, 1) := by decide +kernel
theorem dX7_bookedShare_11 : decode cX7_bookedShare 11 = .ok (.ldc_w 408, 3) := by decide +kernel
theorem dX7_bookedShare_14 : decode cX7_bookedShare 14 = .ok (.invokespecial 410, 3) := by decide +kernel
theorem dX7_bookedShare_17 : decode cX7_bookedShare 17 = .ok (.athrow, 1) := by decide +kernel
theorem dX7_bookedShare_18 : decode cX7_bookedShare 18 = .ok (.iconst 0, 1) := by decide +kernel
theorem dX7_bookedShare_19 : decode cX7_bookedShare 19 = .ok (.istore_n 1, 1) := by decide +kernel
theorem dX7_bookedShare_20 : decode cX7_bookedShare 20 = .ok (.iconst 0, 1) := by decide +kernel
theorem dX7_bookedShare_21 : decode cX7_bookedShare 21 = .ok (.istore_n 2, 1) := by decide +kernel
theorem dX7_bookedShare_22 : decode cX7_bookedShare 22 = .ok (.iload_n 2, 1) := by decide +kernel
theorem dX7_bookedShare_23 : decode cX7_bookedShare 23 = .ok (.aload_n 0, 1) := by decide +kernel
theorem dX7_bookedShare_24 : decode cX7_bookedShare 24 = .ok (.getfield 202, 3) := by decide +kernel
theorem dX7_bookedShare_27 : decode cX7_bookedShare 27 = .ok (.if_icmp .ge 24, 3) := by decide +kernel
theorem dX7_bookedShare_30 : decode cX7_bookedShare 30 = .ok (.aload_n 0, 1) := by decide +kernel
theorem dX7_bookedShare_31 : decode cX7_bookedShare 31 = .ok (.getfield 29, 3) := by decide +kernel
theorem dX7_bookedShare_34 : decode cX7_bookedShare 34 = .ok (.iload_n 2, 1) := by decide +kernel
theorem dX7_bookedShare_35 : decode cX7_bookedShare 35 = .ok (.aaload, 1) := by decide +kernel
theorem dX7_bookedShare_36 : decode cX7_bookedShare 36 = .ok (.getfield 227, 3) := by decide +kernel
theorem dX7_bookedShare_39 : decode cX7_bookedShare 39 = .ok (.ifCond .eq 6, 3) := by decide +kernel
theorem dX7_bookedShare_42 : decode cX7_bookedShare 42 = .ok (.iinc 1 1, 3) := by decide +kernel
theorem dX7_bookedShare_45 : decode cX7_bookedShare 45 = .ok (.iinc 2 1, 3) := by decide +kernel
theorem dX7_bookedShare_48 : decode cX7_bookedShare 48 = .ok (.goto (-26), 3) := by decide +kernel
theorem dX7_bookedShare_51 : decode cX7_bookedShare 51 = .ok (.iload_n 1, 1) := by decide +kernel
theorem dX7_bookedShare_52 : decode cX7_bookedShare 52 = .ok (.i2f, 1) := by decide +kernel
theorem dX7_bookedShare_53 : decode cX7_bookedShare 53 = .ok (.aload_n 0, 1) := by decide +kernel
theorem dX7_bookedShare_54 : decode cX7_bookedShare 54 = .ok (.getfield 202, 3) := by decide +kernel
theorem dX7_bookedShare_57 : decode cX7_bookedShare 57 = .ok (.i2f, 1) := by decide +kernel
theorem dX7_bookedShare_58 : decode cX7_bookedShare 58 = .ok (.fdiv, 1) := by decide +kernel
theorem dX7_bookedShare_59 : decode cX7_bookedShare 59 = .ok (.freturn, 1) := by decide +kernel
set_option maxRecDepth 20000 in
theorem ggX7_meanServices_X7_countServices : GoodIn wsX7_meanServices wsX7_countServices := goodIn_r _ [8, 9, 10, 11, 12, 7, 13, 14, 15, 16, 17, 18, 19, 20, 21, 22, 23, 24, 25, 26, 27, 28, 29, 30, 31, 32, 33, 34, 35, 36, 37, 38, 39, 40] (by decide +kernel) (by decide +kernel)
set_option maxRecDepth 20000 in
theorem gX7_meanServices_X7_countServices : GoodIn wsX7_meanServices (wsV RX7 364 RX7 yX7_countServices wsX7_countServices) := goodIn_app (goodIn_of _ (by decide +kernel)) ggX7_meanServices_X7_countServices
theorem dX7_meanServices_0 : decode cX7_meanServices 0 = .ok (.aload_n 0, 1) := by decide +kernel
theorem dX7_meanServices_1 : decode cX7_meanServices 1 = .ok (.getfield 122, 3) := by decide +kernel
theorem dX7_meanServices_4 : decode cX7_meanServices 4 = .ok (.ifCond .ne 14, 3) := by decide +kernel
theorem dX7_meanServices_7 : decode cX7_meanServices 7 = .ok (.new 406, 3) := by decide +kernel
theorem dX7_meanServices_10 : decode cX7_meanServices 10 = .ok (.dup, 1) := by decide +kernel
theorem dX7_meanServices_11 : decode cX7_meanServices 11 = .ok (.ldc_w 411, 3) := by decide +kernel
theorem dX7_meanServices_14 : decode cX7_meanServices 14 = .ok (.invokespecial 410, 3) := by decide +kernel
theorem dX7_meanServices_17 : decode cX7_meanServices 17 = .ok (.athrow, 1) := by decide +kernel
theorem dX7_meanServices_18 : decode cX7_meanServices 18 = .ok (.iconst 0, 1) := by decide +kernel
theorem dX7_meanServices_19 : decode cX7_meanServices 19 = .ok (.istore_n 1, 1) := by decide +kernel
theorem dX7_meanServices_20 : decode cX7_meanServices 20 = .ok (.iconst 0, 1) := by decide +kernel
theorem dX7_meanServices_21 : decode cX7_meanServices 21 = .ok (.istore_n 2, 1) := by decide +kernel
theorem dX7_meanServices_22 : decode cX7_meanServices 22 = .ok (.iload_n 2, 1) := by decide +kernel
theorem dX7_meanServices_23 : decode cX7_meanServices 23 = .ok (.aload_n 0, 1) := by decide +kernel
theorem dX7_meanServices_24 : decode cX7_meanServices 24 = .ok (.getfield 122, 3) := by decide +kernel
theorem dX7_meanServices_27 : decode cX7_meanServices 27 = .ok (.if_icmp .ge 17, 3) := by decide +kernel
theorem dX7_meanServices_30 : decode cX7_meanServices 30 = .ok (.iload_n 1, 1) := by decide +kernel
theorem dX7_meanServices_31 : decode cX7_meanServices 31 = .ok (.aload_n 0, 1) := by decide +kernel
theorem dX7_meanServices_32 : decode cX7_meanServices 32 = .ok (.iload_n 2, 1) := by decide +kernel
theorem dX7_meanServices_33 : decode cX7_meanServices 33 = .ok (.invokevirtual 364, 3) := by decide +kernel
theorem dX7_meanServices_36 : decode cX7_meanServices 36 = .ok (.iadd, 1) := by decide +kernel
theorem dX7_meanServices_37 : decode cX7_meanServices 37 = .ok (.istore_n 1, 1) := by decide +kernel
theorem dX7_meanServices_38 : decode cX7_meanServices 38 = .ok (.iinc 2 1, 3) := by decide +kernel
theorem dX7_meanServices_41 : decode cX7_meanServices 41 = .ok (.goto (-19), 3) := by decide +kernel
theorem dX7_meanServices_44 : decode cX7_meanServices 44 = .ok (.iload_n 1, 1) := by decide +kernel
theorem dX7_meanServices_45 : decode cX7_meanServices 45 = .ok (.i2d, 1) := by decide +kernel
theorem dX7_meanServices_46 : decode cX7_meanServices 46 = .ok (.aload_n 0, 1) := by decide +kernel
theorem dX7_meanServices_47 : decode cX7_meanServices 47 = .ok (.getfield 122, 3) := by decide +kernel
theorem dX7_meanServices_50 : decode cX7_meanServices 50 = .ok (.i2d, 1) := by decide +kernel
theorem dX7_meanServices_51 : decode cX7_meanServices 51 = .ok (.ddiv, 1) := by decide +kernel
theorem dX7_meanServices_52 : decode cX7_meanServices 52 = .ok (.dreturn, 1) := by decide +kernel
set_option maxRecDepth 20000 in
theorem ggX7_isSound_X7_areCastsSound : GoodIn wsX7_isSound wsX7_areCastsSound := goodIn_ca (goodIn_r _ [5, 6, 7, 8, 9, 10, 4, 11, 12, 13, 14, 15, 16, 17, 18, 19, 20, 21, 22, 23, 24, 25, 26, 27, 28, 29, 30, 31, 32, 33, 34, 74, 75, 76, 77, 78, 79, 80, 81, 82, 83, 84, 85, 86, 87, 88, 89, 90, 91, 92, 93, 94, 95, 96, 97, 98, 99, 100, 101, 102, 103, 104, 105, 106, 107, 108, 109, 110, 111, 112, 113, 114, 115, 116] (by decide +kernel) (by decide +kernel)) (goodIn_sub (fun _ h => List.mem_cons_of_mem _ (List.mem_append_right _ h)) (by decide +kernel))
set_option maxRecDepth 20000 in
theorem gX7_isSound_X7_areCastsSound : GoodIn wsX7_isSound (wsV RX7 413 RX7 yX7_areCastsSound wsX7_areCastsSound) := goodIn_app (goodIn_of _ (by decide +kernel)) ggX7_isSound_X7_areCastsSound
set_option maxRecDepth 20000 in
theorem ggX7_isSound_X7_isAgreementKept : GoodIn wsX7_isSound wsX7_isAgreementKept := goodIn_r _ [38, 16, 39, 40, 41, 4, 42, 6, 43, 44, 45, 46, 7, 9, 10, 11, 47, 48, 49, 50, 51, 52, 53, 54, 55, 56, 57, 58, 59, 60, 61, 74, 75, 76, 77, 78, 79, 80, 81, 82, 83, 84, 85, 86, 87, 88, 89, 90, 91, 92, 93, 94, 95, 96, 97, 98, 99, 100] (by decide +kernel) (by decide +kernel)
set_option maxRecDepth 20000 in
theorem gX7_isSound_X7_isAgreementKept : GoodIn wsX7_isSound (wsV RX7 417 RX7 yX7_isAgreementKept wsX7_isAgreementKept) := goodIn_app (goodIn_of _ (by decide +kernel)) ggX7_isSound_X7_isAgreementKept
set_option maxRecDepth 20000 in
theorem ggX7_isSound_X7_areHallsSound : GoodIn wsX7_isSound wsX7_areHallsSound := goodIn_r _ [65, 6, 7, 59, 52, 60, 61, 55, 56, 57, 74, 75, 76, 77, 78, 79, 80, 81, 82, 83, 84, 85, 86, 87, 88, 89, 90, 91, 92, 93, 94, 95, 96, 97, 98, 99, 100] (by decide +kernel) (by decide +kernel)
set_option maxRecDepth 20000 in
theorem gX7_isSound_X7_areHallsSound : GoodIn wsX7_isSound (wsV RX7 420 RX7 yX7_areHallsSound wsX7_areHallsSound) := goodIn_app (goodIn_of _ (by decide +kernel)) ggX7_isSound_X7_areHallsSound
set_option maxRecDepth 20000 in
theorem ggX7_isSound_X7_areGuestsSound : GoodIn wsX7_isSound wsX7_areGuestsSound := goodIn_r _ [69, 6, 7, 70, 71, 72, 4, 73, 74, 75, 76, 77, 78, 79, 80, 81, 82, 83, 84, 85, 86, 87, 88, 89, 90, 91, 92, 93, 94, 95, 96, 97, 98, 99, 100] (by decide +kernel) (by decide +kernel)
set_option maxRecDepth 20000 in
theorem gX7_isSound_X7_areGuestsSound : GoodIn wsX7_isSound (wsV RX7 423 RX7 yX7_areGuestsSound wsX7_areGuestsSound) := goodIn_app (goodIn_of _ (by decide +kernel)) ggX7_isSound_X7_areGuestsSound
theorem dX7_isSound_0 : decode cX7_isSound 0 = .ok (.aload_n 0, 1) := by decide +kernel
theorem dX7_isSound_1 : decode cX7_isSound 1 = .ok (.invokevirtual 413, 3) := by decide +kernel
theorem dX7_isSound_4 : decode cX7_isSound 4 = .ok (.ifCond .eq 28, 3) := by decide +kernel
theorem dX7_isSound_7 : decode cX7_isSound 7 = .ok (.aload_n 0, 1) := by decide +kernel
theorem dX7_isSound_8 : decode cX7_isSound 8 = .ok (.invokevirtual 417, 3) := by decide +kernel
theorem dX7_isSound_11 : decode cX7_isSound 11 = .ok (.ifCond .eq 21, 3) := by decide +kernel
theorem dX7_isSound_14 : decode cX7_isSound 14 = .ok (.aload_n 0, 1) := by decide +kernel
theorem dX7_isSound_15 : decode cX7_isSound 15 = .ok (.invokevirtual 420, 3) := by decide +kernel
theorem dX7_isSound_18 : decode cX7_isSound 18 = .ok (.ifCond .eq 14, 3) := by decide +kernel
theorem dX7_isSound_21 : decode cX7_isSound 21 = .ok (.aload_n 0, 1) := by decide +kernel
theorem dX7_isSound_22 : decode cX7_isSound 22 = .ok (.invokevirtual 423, 3) := by decide +kernel
theorem dX7_isSound_25 : decode cX7_isSound 25 = .ok (.ifCond .eq 7, 3) := by decide +kernel
theorem dX7_isSound_28 : decode cX7_isSound 28 = .ok (.iconst 1, 1) := by decide +kernel
theorem dX7_isSound_29 : decode cX7_isSound 29 = .ok (.goto 4, 3) := by decide +kernel
theorem dX7_isSound_32 : decode cX7_isSound 32 = .ok (.iconst 0, 1) := by decide +kernel
theorem dX7_isSound_33 : decode cX7_isSound 33 = .ok (.ireturn, 1) := by decide +kernel
theorem dX7_checkRange_0 : decode cX7_checkRange 0 = .ok (.iload_n 0, 1) := by decide +kernel
theorem dX7_checkRange_1 : decode cX7_checkRange 1 = .ok (.iload_n 1, 1) := by decide +kernel
theorem dX7_checkRange_2 : decode cX7_checkRange 2 = .ok (.if_icmp .lt 8, 3) := by decide +kernel
theorem dX7_checkRange_5 : decode cX7_checkRange 5 = .ok (.iload_n 0, 1) := by decide +kernel
theorem dX7_checkRange_6 : decode cX7_checkRange 6 = .ok (.iload_n 2, 1) := by decide +kernel
theorem dX7_checkRange_7 : decode cX7_checkRange 7 = .ok (.if_icmp .le 14, 3) := by decide +kernel
theorem dX7_checkRange_10 : decode cX7_checkRange 10 = .ok (.new 426, 3) := by decide +kernel
theorem dX7_checkRange_13 : decode cX7_checkRange 13 = .ok (.dup, 1) := by decide +kernel
theorem dX7_checkRange_14 : decode cX7_checkRange 14 = .ok (.ldc_w 428, 3) := by decide +kernel
theorem dX7_checkRange_17 : decode cX7_checkRange 17 = .ok (.invokespecial 430, 3) := by decide +kernel
theorem dX7_checkRange_20 : decode cX7_checkRange 20 = .ok (.athrow, 1) := by decide +kernel
theorem dX7_checkRange_21 : decode cX7_checkRange 21 = .ok (.return_, 1) := by decide +kernel
theorem dX7_checkKind_0 : decode cX7_checkKind 0 = .ok (.iload_n 0, 1) := by decide +kernel
theorem dX7_checkKind_1 : decode cX7_checkKind 1 = .ok (.bipush 114, 2) := by decide +kernel
theorem dX7_checkKind_3 : decode cX7_checkKind 3 = .ok (.if_icmp .eq 26, 3) := by decide +kernel
theorem dX7_checkKind_6 : decode cX7_checkKind 6 = .ok (.iload_n 0, 1) := by decide +kernel
theorem dX7_checkKind_7 : decode cX7_checkKind 7 = .ok (.bipush 99, 2) := by decide +kernel
theorem dX7_checkKind_9 : decode cX7_checkKind 9 = .ok (.if_icmp .eq 20, 3) := by decide +kernel
theorem dX7_checkKind_12 : decode cX7_checkKind 12 = .ok (.iload_n 0, 1) := by decide +kernel
theorem dX7_checkKind_13 : decode cX7_checkKind 13 = .ok (.bipush 115, 2) := by decide +kernel
theorem dX7_checkKind_15 : decode cX7_checkKind 15 = .ok (.if_icmp .eq 14, 3) := by decide +kernel
theorem dX7_checkKind_18 : decode cX7_checkKind 18 = .ok (.new 426, 3) := by decide +kernel
theorem dX7_checkKind_21 : decode cX7_checkKind 21 = .ok (.dup, 1) := by decide +kernel
theorem dX7_checkKind_22 : decode cX7_checkKind 22 = .ok (.ldc_w 431, 3) := by decide +kernel
theorem dX7_checkKind_25 : decode cX7_checkKind 25 = .ok (.invokespecial 430, 3) := by decide +kernel
theorem dX7_checkKind_28 : decode cX7_checkKind 28 = .ok (.athrow, 1) := by decide +kernel
theorem dX7_checkKind_29 : decode cX7_checkKind 29 = .ok (.return_, 1) := by decide +kernel
theorem dX7_checkNumber_0 : decode cX7_checkNumber 0 = .ok (.iload_n 0, 1) := by decide +kernel
theorem dX7_checkNumber_1 : decode cX7_checkNumber 1 = .ok (.ifCond .lt 8, 3) := by decide +kernel
theorem dX7_checkNumber_4 : decode cX7_checkNumber 4 = .ok (.iload_n 0, 1) := by decide +kernel
theorem dX7_checkNumber_5 : decode cX7_checkNumber 5 = .ok (.iload_n 1, 1) := by decide +kernel
theorem dX7_checkNumber_6 : decode cX7_checkNumber 6 = .ok (.if_icmp .lt 14, 3) := by decide +kernel
theorem dX7_checkNumber_9 : decode cX7_checkNumber 9 = .ok (.new 433, 3) := by decide +kernel
theorem dX7_checkNumber_12 : decode cX7_checkNumber 12 = .ok (.dup, 1) := by decide +kernel
theorem dX7_checkNumber_13 : decode cX7_checkNumber 13 = .ok (.ldc_w 435, 3) := by decide +kernel
theorem dX7_checkNumber_16 : decode cX7_checkNumber 16 = .ok (.invokespecial 437, 3) := by decide +kernel
theorem dX7_checkNumber_19 : decode cX7_checkNumber 19 = .ok (.athrow, 1) := by decide +kernel
theorem dX7_checkNumber_20 : decode cX7_checkNumber 20 = .ok (.return_, 1) := by decide +kernel
set_option maxRecDepth 20000 in
theorem ggX7_checkWork_X7_checkNumber : GoodIn wsX7_checkWork wsX7_checkNumber := goodIn_ca (goodIn_r _ [5, 6, 7] (by decide +kernel) (by decide +kernel)) (goodIn_sub (fun _ h => List.mem_cons_of_mem _ (List.mem_append_right _ h)) (by decide +kernel))
set_option maxRecDepth 20000 in
theorem gX7_checkWork_X7_checkNumber : GoodIn wsX7_checkWork (va_wsS RX7 438 yX7_checkNumber wsX7_checkNumber) := goodIn_app (goodIn_of _ (by decide +kernel)) ggX7_checkWork_X7_checkNumber
theorem dX7_checkWork_0 : decode cX7_checkWork 0 = .ok (.iload_n 1, 1) := by decide +kernel
theorem dX7_checkWork_1 : decode cX7_checkWork 1 = .ok (.aload_n 0, 1) := by decide +kernel
theorem dX7_checkWork_2 : decode cX7_checkWork 2 = .ok (.getfield 62, 3) := by decide +kernel
theorem dX7_checkWork_5 : decode cX7_checkWork 5 = .ok (.invokestatic 438, 3) := by decide +kernel
theorem dX7_checkWork_8 : decode cX7_checkWork 8 = .ok (.return_, 1) := by decide +kernel
set_option maxRecDepth 20000 in
theorem ggX7_checkPlayer_X7_checkNumber : GoodIn wsX7_checkPlayer wsX7_checkNumber := goodIn_ca (goodIn_r _ [5, 6, 7] (by decide +kernel) (by decide +kernel)) (goodIn_sub (fun _ h => List.mem_cons_of_mem _ (List.mem_append_right _ h)) (by decide +kernel))
set_option maxRecDepth 20000 in
theorem gX7_checkPlayer_X7_checkNumber : GoodIn wsX7_checkPlayer (va_wsS RX7 438 yX7_checkNumber wsX7_checkNumber) := goodIn_app (goodIn_of _ (by decide +kernel)) ggX7_checkPlayer_X7_checkNumber
theorem dX7_checkPlayer_0 : decode cX7_checkPlayer 0 = .ok (.iload_n 1, 1) := by decide +kernel
theorem dX7_checkPlayer_1 : decode cX7_checkPlayer 1 = .ok (.aload_n 0, 1) := by decide +kernel
theorem dX7_checkPlayer_2 : decode cX7_checkPlayer 2 = .ok (.getfield 122, 3) := by decide +kernel
theorem dX7_checkPlayer_5 : decode cX7_checkPlayer 5 = .ok (.invokestatic 438, 3) := by decide +kernel
theorem dX7_checkPlayer_8 : decode cX7_checkPlayer 8 = .ok (.return_, 1) := by decide +kernel
set_option maxRecDepth 20000 in
theorem ggX7_checkService_X7_checkNumber : GoodIn wsX7_checkService wsX7_checkNumber := goodIn_ca (goodIn_r _ [5, 6, 7] (by decide +kernel) (by decide +kernel)) (goodIn_sub (fun _ h => List.mem_cons_of_mem _ (List.mem_append_right _ h)) (by decide +kernel))
set_option maxRecDepth 20000 in
theorem gX7_checkService_X7_checkNumber : GoodIn wsX7_checkService (va_wsS RX7 438 yX7_checkNumber wsX7_checkNumber) := goodIn_app (goodIn_of _ (by decide +kernel)) ggX7_checkService_X7_checkNumber
theorem dX7_checkService_0 : decode cX7_checkService 0 = .ok (.iload_n 1, 1) := by decide +kernel
theorem dX7_checkService_1 : decode cX7_checkService 1 = .ok (.aload_n 0, 1) := by decide +kernel
theorem dX7_checkService_2 : decode cX7_checkService 2 = .ok (.getfield 202, 3) := by decide +kernel
theorem dX7_checkService_5 : decode cX7_checkService 5 = .ok (.invokestatic 438, 3) := by decide +kernel
theorem dX7_checkService_8 : decode cX7_checkService 8 = .ok (.return_, 1) := by decide +kernel
set_option maxRecDepth 20000 in
theorem ggX7_checkGuest_X7_checkNumber : GoodIn wsX7_checkGuest wsX7_checkNumber := goodIn_ca (goodIn_r _ [5, 6, 7] (by decide +kernel) (by decide +kernel)) (goodIn_sub (fun _ h => List.mem_cons_of_mem _ (List.mem_append_right _ h)) (by decide +kernel))
set_option maxRecDepth 20000 in
theorem gX7_checkGuest_X7_checkNumber : GoodIn wsX7_checkGuest (va_wsS RX7 438 yX7_checkNumber wsX7_checkNumber) := goodIn_app (goodIn_of _ (by decide +kernel)) ggX7_checkGuest_X7_checkNumber
theorem dX7_checkGuest_0 : decode cX7_checkGuest 0 = .ok (.iload_n 1, 1) := by decide +kernel
theorem dX7_checkGuest_1 : decode cX7_checkGuest 1 = .ok (.aload_n 0, 1) := by decide +kernel
theorem dX7_checkGuest_2 : decode cX7_checkGuest 2 = .ok (.getfield 266, 3) := by decide +kernel
theorem dX7_checkGuest_5 : decode cX7_checkGuest 5 = .ok (.invokestatic 438, 3) := by decide +kernel
theorem dX7_checkGuest_8 : decode cX7_checkGuest 8 = .ok (.return_, 1) := by decide +kernel
set_option maxRecDepth 20000 in
theorem ggX7_workRow_X7_checkWork : GoodIn wsX7_workRow wsX7_checkWork := goodIn_ca (goodIn_r _ [6, 7, 8, 9, 5, 10, 11, 12, 13, 14, 15, 16, 17, 18, 19, 20, 21, 22, 23, 24] (by decide +kernel) (by decide +kernel)) (goodIn_sub (fun _ h => List.mem_cons_of_mem _ (List.mem_append_right _ h)) (by decide +kernel))
set_option maxRecDepth 20000 in
theorem gX7_workRow_X7_checkWork : GoodIn wsX7_workRow (wsV RX7 154 RX7 yX7_checkWork wsX7_checkWork) := goodIn_app (goodIn_of _ (by decide +kernel)) ggX7_workRow_X7_checkWork
theorem dX7_workRow_0 : decode cX7_workRow 0 = .ok (.aload_n 0, 1) := by decide +kernel
theorem dX7_workRow_1 : decode cX7_workRow 1 = .ok (.iload_n 1, 1) := by decide +kernel
theorem dX7_workRow_2 : decode cX7_workRow 2 = .ok (.invokevirtual 154, 3) := by decide +kernel
theorem dX7_workRow_5 : decode cX7_workRow 5 = .ok (.aload_n 0, 1) := by decide +kernel
theorem dX7_workRow_6 : decode cX7_workRow 6 = .ok (.getfield 11, 3) := by decide +kernel
theorem dX7_workRow_9 : decode cX7_workRow 9 = .ok (.iload_n 1, 1) := by decide +kernel
theorem dX7_workRow_10 : decode cX7_workRow 10 = .ok (.aaload, 1) := by decide +kernel
theorem dX7_workRow_11 : decode cX7_workRow 11 = .ok (.areturn, 1) := by decide +kernel
set_option maxRecDepth 20000 in
theorem ggX7_playerRow_X7_checkPlayer : GoodIn wsX7_playerRow wsX7_checkPlayer := goodIn_ca (goodIn_r _ [6, 7, 8, 9, 5, 10, 11, 12, 13, 14, 15, 16, 17, 18, 19, 20, 21, 22, 23, 24] (by decide +kernel) (by decide +kernel)) (goodIn_sub (fun _ h => List.mem_cons_of_mem _ (List.mem_append_right _ h)) (by decide +kernel))
set_option maxRecDepth 20000 in
theorem gX7_playerRow_X7_checkPlayer : GoodIn wsX7_playerRow (wsV RX7 343 RX7 yX7_checkPlayer wsX7_checkPlayer) := goodIn_app (goodIn_of _ (by decide +kernel)) ggX7_playerRow_X7_checkPlayer
theorem dX7_playerRow_0 : decode cX7_playerRow 0 = .ok (.aload_n 0, 1) := by decide +kernel
theorem dX7_playerRow_1 : decode cX7_playerRow 1 = .ok (.iload_n 1, 1) := by decide +kernel
theorem dX7_playerRow_2 : decode cX7_playerRow 2 = .ok (.invokevirtual 343, 3) := by decide +kernel
theorem dX7_playerRow_5 : decode cX7_playerRow 5 = .ok (.aload_n 0, 1) := by decide +kernel
theorem dX7_playerRow_6 : decode cX7_playerRow 6 = .ok (.getfield 17, 3) := by decide +kernel
theorem dX7_playerRow_9 : decode cX7_playerRow 9 = .ok (.iload_n 1, 1) := by decide +kernel
theorem dX7_playerRow_10 : decode cX7_playerRow 10 = .ok (.aaload, 1) := by decide +kernel
theorem dX7_playerRow_11 : decode cX7_playerRow 11 = .ok (.areturn, 1) := by decide +kernel
set_option maxRecDepth 20000 in
theorem ggX7_hallRow_X7_checkNumber : GoodIn wsX7_hallRow wsX7_checkNumber := goodIn_ca (goodIn_r _ [6, 7, 8] (by decide +kernel) (by decide +kernel)) (goodIn_sub (fun _ h => List.mem_cons_of_mem _ (List.mem_append_right _ h)) (by decide +kernel))
set_option maxRecDepth 20000 in
theorem gX7_hallRow_X7_checkNumber : GoodIn wsX7_hallRow (va_wsS RX7 438 yX7_checkNumber wsX7_checkNumber) := goodIn_app (goodIn_of _ (by decide +kernel)) ggX7_hallRow_X7_checkNumber
theorem dX7_hallRow_0 : decode cX7_hallRow 0 = .ok (.iload_n 1, 1) := by decide +kernel
theorem dX7_hallRow_1 : decode cX7_hallRow 1 = .ok (.aload_n 0, 1) := by decide +kernel
theorem dX7_hallRow_2 : decode cX7_hallRow 2 = .ok (.getfield 165, 3) := by decide +kernel
theorem dX7_hallRow_5 : decode cX7_hallRow 5 = .ok (.invokestatic 438, 3) := by decide +kernel
theorem dX7_hallRow_8 : decode cX7_hallRow 8 = .ok (.aload_n 0, 1) := by decide +kernel
theorem dX7_hallRow_9 : decode cX7_hallRow 9 = .ok (.getfield 23, 3) := by decide +kernel
theorem dX7_hallRow_12 : decode cX7_hallRow 12 = .ok (.iload_n 1, 1) := by decide +kernel
theorem dX7_hallRow_13 : decode cX7_hallRow 13 = .ok (.aaload, 1) := by decide +kernel
theorem dX7_hallRow_14 : decode cX7_hallRow 14 = .ok (.areturn, 1) := by decide +kernel
set_option maxRecDepth 20000 in
theorem ggX7_serviceRow_X7_checkService : GoodIn wsX7_serviceRow wsX7_checkService := goodIn_ca (goodIn_r _ [6, 7, 8, 9, 5, 10, 11, 12, 13, 14, 15, 16, 17, 18, 19, 20, 21, 22, 23, 24] (by decide +kernel) (by decide +kernel)) (goodIn_sub (fun _ h => List.mem_cons_of_mem _ (List.mem_append_right _ h)) (by decide +kernel))
set_option maxRecDepth 20000 in
theorem gX7_serviceRow_X7_checkService : GoodIn wsX7_serviceRow (wsV RX7 358 RX7 yX7_checkService wsX7_checkService) := goodIn_app (goodIn_of _ (by decide +kernel)) ggX7_serviceRow_X7_checkService
theorem dX7_serviceRow_0 : decode cX7_serviceRow 0 = .ok (.aload_n 0, 1) := by decide +kernel
theorem dX7_serviceRow_1 : decode cX7_serviceRow 1 = .ok (.iload_n 1, 1) := by decide +kernel
theorem dX7_serviceRow_2 : decode cX7_serviceRow 2 = .ok (.invokevirtual 358, 3) := by decide +kernel
theorem dX7_serviceRow_5 : decode cX7_serviceRow 5 = .ok (.aload_n 0, 1) := by decide +kernel
theorem dX7_serviceRow_6 : decode cX7_serviceRow 6 = .ok (.getfield 29, 3) := by decide +kernel
theorem dX7_serviceRow_9 : decode cX7_serviceRow 9 = .ok (.iload_n 1, 1) := by decide +kernel
theorem dX7_serviceRow_10 : decode cX7_serviceRow 10 = .ok (.aaload, 1) := by decide +kernel
theorem dX7_serviceRow_11 : decode cX7_serviceRow 11 = .ok (.areturn, 1) := by decide +kernel
set_option maxRecDepth 20000 in
theorem ggX7_guestRow_X7_checkGuest : GoodIn wsX7_guestRow wsX7_checkGuest := goodIn_ca (goodIn_r _ [6, 7, 8, 9, 5, 10, 11, 12, 13, 14, 15, 16, 17, 18, 19, 20, 21, 22, 23, 24] (by decide +kernel) (by decide +kernel)) (goodIn_sub (fun _ h => List.mem_cons_of_mem _ (List.mem_append_right _ h)) (by decide +kernel))
set_option maxRecDepth 20000 in
theorem gX7_guestRow_X7_checkGuest : GoodIn wsX7_guestRow (wsV RX7 292 RX7 yX7_checkGuest wsX7_checkGuest) := goodIn_app (goodIn_of _ (by decide +kernel)) ggX7_guestRow_X7_checkGuest
theorem dX7_guestRow_0 : decode cX7_guestRow 0 = .ok (.aload_n 0, 1) := by decide +kernel
theorem dX7_guestRow_1 : decode cX7_guestRow 1 = .ok (.iload_n 1, 1) := by decide +kernel
theorem dX7_guestRow_2 : decode cX7_guestRow 2 = .ok (.invokevirtual 292, 3) := by decide +kernel
theorem dX7_guestRow_5 : decode cX7_guestRow 5 = .ok (.aload_n 0, 1) := by decide +kernel
theorem dX7_guestRow_6 : decode cX7_guestRow 6 = .ok (.getfield 35, 3) := by decide +kernel
theorem dX7_guestRow_9 : decode cX7_guestRow 9 = .ok (.iload_n 1, 1) := by decide +kernel
theorem dX7_guestRow_10 : decode cX7_guestRow 10 = .ok (.aaload, 1) := by decide +kernel
theorem dX7_guestRow_11 : decode cX7_guestRow 11 = .ok (.areturn, 1) := by decide +kernel
set_option maxRecDepth 20000 in
theorem ggX7_bookedRehearsal_X7_serviceRow : GoodIn wsX7_bookedRehearsal wsX7_serviceRow := goodIn_ca (goodIn_r _ [7, 8, 9, 10, 11, 6, 12, 13, 14, 15, 16, 17, 18, 34, 35, 36, 37, 38, 39, 40, 41, 42, 43, 44, 45] (by decide +kernel) (by decide +kernel)) (goodIn_sub (fun _ h => List.mem_cons_of_mem _ (List.mem_append_right _ h)) (by decide +kernel))
set_option maxRecDepth 20000 in
theorem gX7_bookedRehearsal_X7_serviceRow : GoodIn wsX7_bookedRehearsal (wsV RX7 223 RX7 yX7_serviceRow wsX7_serviceRow) := goodIn_app (goodIn_of _ (by decide +kernel)) ggX7_bookedRehearsal_X7_serviceRow
theorem dX7_bookedRehearsal_0 : decode cX7_bookedRehearsal 0 = .ok (.aload_n 0, 1) := by decide +kernel
theorem dX7_bookedRehearsal_1 : decode cX7_bookedRehearsal 1 = .ok (.iload_n 1, 1) := by decide +kernel
theorem dX7_bookedRehearsal_2 : decode cX7_bookedRehearsal 2 = .ok (.invokevirtual 223, 3) := by decide +kernel
theorem dX7_bookedRehearsal_5 : decode cX7_bookedRehearsal 5 = .ok (.astore_n 2, 1) := by decide +kernel
theorem dX7_bookedRehearsal_6 : decode cX7_bookedRehearsal 6 = .ok (.aload_n 2, 1) := by decide +kernel
theorem dX7_bookedRehearsal_7 : decode cX7_bookedRehearsal 7 = .ok (.getfield 207, 3) := by decide +kernel
theorem dX7_bookedRehearsal_10 : decode cX7_bookedRehearsal 10 = .ok (.bipush 114, 2) := by decide +kernel
theorem dX7_bookedRehearsal_12 : decode cX7_bookedRehearsal 12 = .ok (.if_icmp .ne 10, 3) := by decide +kernel
theorem dX7_bookedRehearsal_15 : decode cX7_bookedRehearsal 15 = .ok (.aload_n 2, 1) := by decide +kernel
theorem dX7_bookedRehearsal_16 : decode cX7_bookedRehearsal 16 = .ok (.getfield 227, 3) := by decide +kernel
theorem dX7_bookedRehearsal_19 : decode cX7_bookedRehearsal 19 = .ok (.ifCond .ne 14, 3) := by decide +kernel
theorem dX7_bookedRehearsal_22 : decode cX7_bookedRehearsal 22 = .ok (.new 95, 3) := by decide +kernel
theorem dX7_bookedRehearsal_25 : decode cX7_bookedRehearsal 25 = .ok (.dup, 1) := by decide +kernel
theorem dX7_bookedRehearsal_26 : decode cX7_bookedRehearsal 26 = .ok (.ldc_w 441, 3) := by decide +kernel
theorem dX7_bookedRehearsal_29 : decode cX7_bookedRehearsal 29 = .ok (.invokespecial 99, 3) := by decide +kernel
theorem dX7_bookedRehearsal_32 : decode cX7_bookedRehearsal 32 = .ok (.athrow, 1) := by decide +kernel
theorem dX7_bookedRehearsal_33 : decode cX7_bookedRehearsal 33 = .ok (.aload_n 2, 1) := by decide +kernel
theorem dX7_bookedRehearsal_34 : decode cX7_bookedRehearsal 34 = .ok (.areturn, 1) := by decide +kernel
theorem dX7_hasBit_0 : decode cX7_hasBit 0 = .ok (.iload_n 0, 1) := by decide +kernel
theorem dX7_hasBit_1 : decode cX7_hasBit 1 = .ok (.iload_n 1, 1) := by decide +kernel
theorem dX7_hasBit_2 : decode cX7_hasBit 2 = .ok (.ishr, 1) := by decide +kernel
theorem dX7_hasBit_3 : decode cX7_hasBit 3 = .ok (.iconst 1, 1) := by decide +kernel
theorem dX7_hasBit_4 : decode cX7_hasBit 4 = .ok (.iand, 1) := by decide +kernel
theorem dX7_hasBit_5 : decode cX7_hasBit 5 = .ok (.ifCond .eq 7, 3) := by decide +kernel
theorem dX7_hasBit_8 : decode cX7_hasBit 8 = .ok (.iconst 1, 1) := by decide +kernel
theorem dX7_hasBit_9 : decode cX7_hasBit 9 = .ok (.goto 4, 3) := by decide +kernel
theorem dX7_hasBit_12 : decode cX7_hasBit 12 = .ok (.iconst 0, 1) := by decide +kernel
theorem dX7_hasBit_13 : decode cX7_hasBit 13 = .ok (.ireturn, 1) := by decide +kernel
theorem dX7_isHallUsed_0 : decode cX7_isHallUsed 0 = .ok (.iconst 0, 1) := by decide +kernel
theorem dX7_isHallUsed_1 : decode cX7_isHallUsed 1 = .ok (.istore_n 3, 1) := by decide +kernel
theorem dX7_isHallUsed_2 : decode cX7_isHallUsed 2 = .ok (.iload_n 3, 1) := by decide +kernel
theorem dX7_isHallUsed_3 : decode cX7_isHallUsed 3 = .ok (.aload_n 0, 1) := by decide +kernel
theorem dX7_isHallUsed_4 : decode cX7_isHallUsed 4 = .ok (.getfield 202, 3) := by decide +kernel
theorem dX7_isHallUsed_7 : decode cX7_isHallUsed 7 = .ok (.if_icmp .ge 37, 3) := by decide +kernel
theorem dX7_isHallUsed_10 : decode cX7_isHallUsed 10 = .ok (.aload_n 0, 1) := by decide +kernel
theorem dX7_isHallUsed_11 : decode cX7_isHallUsed 11 = .ok (.getfield 29, 3) := by decide +kernel
theorem dX7_isHallUsed_14 : decode cX7_isHallUsed 14 = .ok (.iload_n 3, 1) := by decide +kernel
theorem dX7_isHallUsed_15 : decode cX7_isHallUsed 15 = .ok (.aaload, 1) := by decide +kernel
theorem dX7_isHallUsed_16 : decode cX7_isHallUsed 16 = .ok (.getfield 220, 3) := by decide +kernel
theorem dX7_isHallUsed_19 : decode cX7_isHallUsed 19 = .ok (.iload_n 1, 1) := by decide +kernel
theorem dX7_isHallUsed_20 : decode cX7_isHallUsed 20 = .ok (.if_icmp .ne 18, 3) := by decide +kernel
theorem dX7_isHallUsed_23 : decode cX7_isHallUsed 23 = .ok (.aload_n 0, 1) := by decide +kernel
theorem dX7_isHallUsed_24 : decode cX7_isHallUsed 24 = .ok (.getfield 29, 3) := by decide +kernel
theorem dX7_isHallUsed_27 : decode cX7_isHallUsed 27 = .ok (.iload_n 3, 1) := by decide +kernel
theorem dX7_isHallUsed_28 : decode cX7_isHallUsed 28 = .ok (.aaload, 1) := by decide +kernel
theorem dX7_isHallUsed_29 : decode cX7_isHallUsed 29 = .ok (.getfield 211, 3) := by decide +kernel
theorem dX7_isHallUsed_32 : decode cX7_isHallUsed 32 = .ok (.iload_n 2, 1) := by decide +kernel
theorem dX7_isHallUsed_33 : decode cX7_isHallUsed 33 = .ok (.if_icmp .ne 5, 3) := by decide +kernel
theorem dX7_isHallUsed_36 : decode cX7_isHallUsed 36 = .ok (.iconst 1, 1) := by decide +kernel
theorem dX7_isHallUsed_37 : decode cX7_isHallUsed 37 = .ok (.ireturn, 1) := by decide +kernel
theorem dX7_isHallUsed_38 : decode cX7_isHallUsed 38 = .ok (.iinc 3 1, 3) := by decide +kernel
theorem dX7_isHallUsed_41 : decode cX7_isHallUsed 41 = .ok (.goto (-39), 3) := by decide +kernel
theorem dX7_isHallUsed_44 : decode cX7_isHallUsed 44 = .ok (.iconst 0, 1) := by decide +kernel
theorem dX7_isHallUsed_45 : decode cX7_isHallUsed 45 = .ok (.ireturn, 1) := by decide +kernel
set_option maxRecDepth 20000 in
theorem ggX7_isHallTaken_X5_isNear : GoodIn wsX7_isHallTaken wsX5_isNear := goodIn_r _ [6, 7, 8, 9, 22, 23, 24, 25, 26, 27, 28, 29, 30, 31, 32, 33, 34, 35, 36] (by decide +kernel) (by decide +kernel)
set_option maxRecDepth 20000 in
theorem gX7_isHallTaken_X5_isNear_n443 : GoodIn wsX7_isHallTaken (wsX5_isNear) := ggX7_isHallTaken_X5_isNear
theorem dX7_isHallTaken_0 : decode cX7_isHallTaken 0 = .ok (.iconst 0, 1) := by decide +kernel
theorem dX7_isHallTaken_1 : decode cX7_isHallTaken 1 = .ok (.istore 5, 2) := by decide +kernel
theorem dX7_isHallTaken_3 : decode cX7_isHallTaken 3 = .ok (.iload 5, 2) := by decide +kernel
theorem dX7_isHallTaken_5 : decode cX7_isHallTaken 5 = .ok (.aload_n 0, 1) := by decide +kernel
theorem dX7_isHallTaken_6 : decode cX7_isHallTaken 6 = .ok (.getfield 202, 3) := by decide +kernel
theorem dX7_isHallTaken_9 : decode cX7_isHallTaken 9 = .ok (.if_icmp .ge 42, 3) := by decide +kernel
theorem dX7_isHallTaken_12 : decode cX7_isHallTaken 12 = .ok (.aload_n 0, 1) := by decide +kernel
theorem dX7_isHallTaken_13 : decode cX7_isHallTaken 13 = .ok (.getfield 29, 3) := by decide +kernel
theorem dX7_isHallTaken_16 : decode cX7_isHallTaken 16 = .ok (.iload 5, 2) := by decide +kernel
theorem dX7_isHallTaken_18 : decode cX7_isHallTaken 18 = .ok (.aaload, 1) := by decide +kernel
theorem dX7_isHallTaken_19 : decode cX7_isHallTaken 19 = .ok (.astore 6, 2) := by decide +kernel
theorem dX7_isHallTaken_21 : decode cX7_isHallTaken 21 = .ok (.aload 6, 2) := by decide +kernel
theorem dX7_isHallTaken_23 : decode cX7_isHallTaken 23 = .ok (.getfield 220, 3) := by decide +kernel
theorem dX7_isHallTaken_26 : decode cX7_isHallTaken 26 = .ok (.iload_n 1, 1) := by decide +kernel
theorem dX7_isHallTaken_27 : decode cX7_isHallTaken 27 = .ok (.if_icmp .ne 18, 3) := by decide +kernel
theorem dX7_isHallTaken_30 : decode cX7_isHallTaken 30 = .ok (.aload 6, 2) := by decide +kernel
theorem dX7_isHallTaken_32 : decode cX7_isHallTaken 32 = .ok (.iload_n 2, 1) := by decide +kernel
theorem dX7_isHallTaken_33 : decode cX7_isHallTaken 33 = .ok (.iload_n 3, 1) := by decide +kernel
theorem dX7_isHallTaken_34 : decode cX7_isHallTaken 34 = .ok (.iload 4, 2) := by decide +kernel
theorem dX7_isHallTaken_36 : decode cX7_isHallTaken 36 = .ok (.iconst 4, 1) := by decide +kernel
theorem dX7_isHallTaken_37 : decode cX7_isHallTaken 37 = .ok (.invokevirtual 443, 3) := by decide +kernel
theorem dX7_isHallTaken_40 : decode cX7_isHallTaken 40 = .ok (.ifCond .eq 5, 3) := by decide +kernel
theorem dX7_isHallTaken_43 : decode cX7_isHallTaken 43 = .ok (.iconst 1, 1) := by decide +kernel
theorem dX7_isHallTaken_44 : decode cX7_isHallTaken 44 = .ok (.ireturn, 1) := by decide +kernel
theorem dX7_isHallTaken_45 : decode cX7_isHallTaken 45 = .ok (.iinc 5 1, 3) := by decide +kernel
theorem dX7_isHallTaken_48 : decode cX7_isHallTaken 48 = .ok (.goto (-45), 3) := by decide +kernel
theorem dX7_isHallTaken_51 : decode cX7_isHallTaken 51 = .ok (.iconst 0, 1) := by decide +kernel
theorem dX7_isHallTaken_52 : decode cX7_isHallTaken 52 = .ok (.ireturn, 1) := by decide +kernel
set_option maxRecDepth 20000 in
theorem ggX7_isInAnyService_X5_placeOf : GoodIn wsX7_isInAnyService wsX5_placeOf := goodIn_ca (goodIn_r _ [6, 7, 8, 21, 22, 23, 24, 25, 26, 27, 28, 29, 30, 31, 32, 33, 34, 35] (by decide +kernel) (by decide +kernel)) (goodIn_sub (fun _ h => List.mem_cons_of_mem _ (List.mem_append_right _ h)) (by decide +kernel))
set_option maxRecDepth 20000 in
theorem gX7_isInAnyService_X5_placeOf_n230 : GoodIn wsX7_isInAnyService (wsX5_placeOf) := ggX7_isInAnyService_X5_placeOf
theorem dX7_isInAnyService_0 : decode cX7_isInAnyService 0 = .ok (.iconst 0, 1) := by decide +kernel
theorem dX7_isInAnyService_1 : decode cX7_isInAnyService 1 = .ok (.istore_n 2, 1) := by decide +kernel
theorem dX7_isInAnyService_2 : decode cX7_isInAnyService 2 = .ok (.iload_n 2, 1) := by decide +kernel
theorem dX7_isInAnyService_3 : decode cX7_isInAnyService 3 = .ok (.aload_n 0, 1) := by decide +kernel
theorem dX7_isInAnyService_4 : decode cX7_isInAnyService 4 = .ok (.getfield 202, 3) := by decide +kernel
theorem dX7_isInAnyService_7 : decode cX7_isInAnyService 7 = .ok (.if_icmp .ge 25, 3) := by decide +kernel
theorem dX7_isInAnyService_10 : decode cX7_isInAnyService 10 = .ok (.aload_n 0, 1) := by decide +kernel
theorem dX7_isInAnyService_11 : decode cX7_isInAnyService 11 = .ok (.getfield 29, 3) := by decide +kernel
theorem dX7_isInAnyService_14 : decode cX7_isInAnyService 14 = .ok (.iload_n 2, 1) := by decide +kernel
theorem dX7_isInAnyService_15 : decode cX7_isInAnyService 15 = .ok (.aaload, 1) := by decide +kernel
theorem dX7_isInAnyService_16 : decode cX7_isInAnyService 16 = .ok (.iload_n 1, 1) := by decide +kernel
theorem dX7_isInAnyService_17 : decode cX7_isInAnyService 17 = .ok (.invokevirtual 230, 3) := by decide +kernel
theorem dX7_isInAnyService_20 : decode cX7_isInAnyService 20 = .ok (.iconst (-1), 1) := by decide +kernel
theorem dX7_isInAnyService_21 : decode cX7_isInAnyService 21 = .ok (.if_icmp .eq 5, 3) := by decide +kernel
theorem dX7_isInAnyService_24 : decode cX7_isInAnyService 24 = .ok (.iconst 1, 1) := by decide +kernel
theorem dX7_isInAnyService_25 : decode cX7_isInAnyService 25 = .ok (.ireturn, 1) := by decide +kernel
theorem dX7_isInAnyService_26 : decode cX7_isInAnyService 26 = .ok (.iinc 2 1, 3) := by decide +kernel
theorem dX7_isInAnyService_29 : decode cX7_isInAnyService 29 = .ok (.goto (-27), 3) := by decide +kernel
theorem dX7_isInAnyService_32 : decode cX7_isInAnyService 32 = .ok (.iconst 0, 1) := by decide +kernel
theorem dX7_isInAnyService_33 : decode cX7_isInAnyService 33 = .ok (.ireturn, 1) := by decide +kernel
theorem dX7_minutesOf_0 : decode cX7_minutesOf 0 = .ok (.iconst 0, 1) := by decide +kernel
theorem dX7_minutesOf_1 : decode cX7_minutesOf 1 = .ok (.istore_n 2, 1) := by decide +kernel
theorem dX7_minutesOf_2 : decode cX7_minutesOf 2 = .ok (.iconst 0, 1) := by decide +kernel
theorem dX7_minutesOf_3 : decode cX7_minutesOf 3 = .ok (.istore_n 3, 1) := by decide +kernel
theorem dX7_minutesOf_4 : decode cX7_minutesOf 4 = .ok (.iload_n 3, 1) := by decide +kernel
theorem dX7_minutesOf_5 : decode cX7_minutesOf 5 = .ok (.aload_n 1, 1) := by decide +kernel
theorem dX7_minutesOf_6 : decode cX7_minutesOf 6 = .ok (.getfield 234, 3) := by decide +kernel
theorem dX7_minutesOf_9 : decode cX7_minutesOf 9 = .ok (.if_icmp .ge 26, 3) := by decide +kernel
theorem dX7_minutesOf_12 : decode cX7_minutesOf 12 = .ok (.iload_n 2, 1) := by decide +kernel
theorem dX7_minutesOf_13 : decode cX7_minutesOf 13 = .ok (.aload_n 0, 1) := by decide +kernel
theorem dX7_minutesOf_14 : decode cX7_minutesOf 14 = .ok (.getfield 11, 3) := by decide +kernel
theorem dX7_minutesOf_17 : decode cX7_minutesOf 17 = .ok (.aload_n 1, 1) := by decide +kernel
theorem dX7_minutesOf_18 : decode cX7_minutesOf 18 = .ok (.getfield 446, 3) := by decide +kernel
theorem dX7_minutesOf_21 : decode cX7_minutesOf 21 = .ok (.iload_n 3, 1) := by decide +kernel
theorem dX7_minutesOf_22 : decode cX7_minutesOf 22 = .ok (.iaload, 1) := by decide +kernel
theorem dX7_minutesOf_23 : decode cX7_minutesOf 23 = .ok (.aaload, 1) := by decide +kernel
theorem dX7_minutesOf_24 : decode cX7_minutesOf 24 = .ok (.getfield 73, 3) := by decide +kernel
theorem dX7_minutesOf_27 : decode cX7_minutesOf 27 = .ok (.iadd, 1) := by decide +kernel
theorem dX7_minutesOf_28 : decode cX7_minutesOf 28 = .ok (.istore_n 2, 1) := by decide +kernel
theorem dX7_minutesOf_29 : decode cX7_minutesOf 29 = .ok (.iinc 3 1, 3) := by decide +kernel
theorem dX7_minutesOf_32 : decode cX7_minutesOf 32 = .ok (.goto (-28), 3) := by decide +kernel
theorem dX7_minutesOf_35 : decode cX7_minutesOf 35 = .ok (.iload_n 2, 1) := by decide +kernel
theorem dX7_minutesOf_36 : decode cX7_minutesOf 36 = .ok (.ireturn, 1) := by decide +kernel
set_option maxRecDepth 20000 in
theorem ggX7_seriesForbids_X5_allWorks : GoodIn wsX7_seriesForbids wsX5_allWorks := goodIn_ca (goodIn_r _ [10, 11, 12, 25, 26, 27, 28, 29, 30, 31, 32, 33, 34, 35, 36, 37, 38, 39] (by decide +kernel) (by decide +kernel)) (goodIn_sub (fun _ h => List.mem_cons_of_mem _ (List.mem_append_right _ h)) (by decide +kernel))
set_option maxRecDepth 20000 in
theorem gX7_seriesForbids_X5_allWorks_n261 : GoodIn wsX7_seriesForbids (wsX5_allWorks) := ggX7_seriesForbids_X5_allWorks
theorem dX7_seriesForbids_0 : decode cX7_seriesForbids 0 = .ok (.iload_n 2, 1) := by decide +kernel
theorem dX7_seriesForbids_1 : decode cX7_seriesForbids 1 = .ok (.iconst (-1), 1) := by decide +kernel
theorem dX7_seriesForbids_2 : decode cX7_seriesForbids 2 = .ok (.if_icmp .ne 5, 3) := by decide +kernel
theorem dX7_seriesForbids_5 : decode cX7_seriesForbids 5 = .ok (.iconst 0, 1) := by decide +kernel
theorem dX7_seriesForbids_6 : decode cX7_seriesForbids 6 = .ok (.ireturn, 1) := by decide +kernel
theorem dX7_seriesForbids_7 : decode cX7_seriesForbids 7 = .ok (.iconst 0, 1) := by decide +kernel
theorem dX7_seriesForbids_8 : decode cX7_seriesForbids 8 = .ok (.istore 4, 2) := by decide +kernel
theorem dX7_seriesForbids_10 : decode cX7_seriesForbids 10 = .ok (.iload 4, 2) := by decide +kernel
theorem dX7_seriesForbids_12 : decode cX7_seriesForbids 12 = .ok (.aload_n 0, 1) := by decide +kernel
theorem dX7_seriesForbids_13 : decode cX7_seriesForbids 13 = .ok (.getfield 202, 3) := by decide +kernel
theorem dX7_seriesForbids_16 : decode cX7_seriesForbids 16 = .ok (.if_icmp .ge 68, 3) := by decide +kernel
theorem dX7_seriesForbids_19 : decode cX7_seriesForbids 19 = .ok (.aload_n 0, 1) := by decide +kernel
theorem dX7_seriesForbids_20 : decode cX7_seriesForbids 20 = .ok (.getfield 29, 3) := by decide +kernel
theorem dX7_seriesForbids_23 : decode cX7_seriesForbids 23 = .ok (.iload 4, 2) := by decide +kernel
theorem dX7_seriesForbids_25 : decode cX7_seriesForbids 25 = .ok (.aaload, 1) := by decide +kernel
theorem dX7_seriesForbids_26 : decode cX7_seriesForbids 26 = .ok (.astore 5, 2) := by decide +kernel
theorem dX7_seriesForbids_28 : decode cX7_seriesForbids 28 = .ok (.iload 4, 2) := by decide +kernel
theorem dX7_seriesForbids_30 : decode cX7_seriesForbids 30 = .ok (.iload_n 1, 1) := by decide +kernel
theorem dX7_seriesForbids_31 : decode cX7_seriesForbids 31 = .ok (.if_icmp .eq 47, 3) := by decide +kernel
theorem dX7_seriesForbids_34 : decode cX7_seriesForbids 34 = .ok (.aload 5, 2) := by decide +kernel
theorem dX7_seriesForbids_36 : decode cX7_seriesForbids 36 = .ok (.getfield 245, 3) := by decide +kernel
theorem dX7_seriesForbids_39 : decode cX7_seriesForbids 39 = .ok (.iload_n 2, 1) := by decide +kernel
theorem dX7_seriesForbids_40 : decode cX7_seriesForbids 40 = .ok (.if_icmp .ne 38, 3) := by decide +kernel
theorem dX7_seriesForbids_43 : decode cX7_seriesForbids 43 = .ok (.aload 5, 2) := by decide +kernel
theorem dX7_seriesForbids_45 : decode cX7_seriesForbids 45 = .ok (.invokevirtual 261, 3) := by decide +kernel
theorem dX7_seriesForbids_48 : decode cX7_seriesForbids 48 = .ok (.iload_n 3, 1) := by decide +kernel
theorem dX7_seriesForbids_49 : decode cX7_seriesForbids 49 = .ok (.iand, 1) := by decide +kernel
theorem dX7_seriesForbids_50 : decode cX7_seriesForbids 50 = .ok (.ifCond .eq 28, 3) := by decide +kernel
theorem dX7_seriesForbids_53 : decode cX7_seriesForbids 53 = .ok (.aload 5, 2) := by decide +kernel
theorem dX7_seriesForbids_55 : decode cX7_seriesForbids 55 = .ok (.getfield 211, 3) := by decide +kernel
theorem dX7_seriesForbids_58 : decode cX7_seriesForbids 58 = .ok (.aload_n 0, 1) := by decide +kernel
theorem dX7_seriesForbids_59 : decode cX7_seriesForbids 59 = .ok (.getfield 29, 3) := by decide +kernel
theorem dX7_seriesForbids_62 : decode cX7_seriesForbids 62 = .ok (.iload_n 1, 1) := by decide +kernel
theorem dX7_seriesForbids_63 : decode cX7_seriesForbids 63 = .ok (.aaload, 1) := by decide +kernel
theorem dX7_seriesForbids_64 : decode cX7_seriesForbids 64 = .ok (.getfield 211, 3) := by decide +kernel
theorem dX7_seriesForbids_67 : decode cX7_seriesForbids 67 = .ok (.isub, 1) := by decide +kernel
theorem dX7_seriesForbids_68 : decode cX7_seriesForbids 68 = .ok (.invokestatic 448, 3) := by decide +kernel
theorem dX7_seriesForbids_71 : decode cX7_seriesForbids 71 = .ok (.bipush 100, 2) := by decide +kernel
theorem dX7_seriesForbids_73 : decode cX7_seriesForbids 73 = .ok (.if_icmp .ge 5, 3) := by decide +kernel
theorem dX7_seriesForbids_76 : decode cX7_seriesForbids 76 = .ok (.iconst 1, 1) := by decide +kernel
theorem dX7_seriesForbids_77 : decode cX7_seriesForbids 77 = .ok (.ireturn, 1) := by decide +kernel
theorem dX7_seriesForbids_78 : decode cX7_seriesForbids 78 = .ok (.iinc 4 1, 3) := by decide +kernel
theorem dX7_seriesForbids_81 : decode cX7_seriesForbids 81 = .ok (.goto (-71), 3) := by decide +kernel
theorem dX7_seriesForbids_84 : decode cX7_seriesForbids 84 = .ok (.iconst 0, 1) := by decide +kernel
theorem dX7_seriesForbids_85 : decode cX7_seriesForbids 85 = .ok (.ireturn, 1) := by decide +kernel
theorem dX7_soloWorks_0 : decode cX7_soloWorks 0 = .ok (.iconst 0, 1) := by decide +kernel
theorem dX7_soloWorks_1 : decode cX7_soloWorks 1 = .ok (.istore_n 2, 1) := by decide +kernel
theorem dX7_soloWorks_2 : decode cX7_soloWorks 2 = .ok (.iconst 0, 1) := by decide +kernel
theorem dX7_soloWorks_3 : decode cX7_soloWorks 3 = .ok (.istore_n 3, 1) := by decide +kernel
theorem dX7_soloWorks_4 : decode cX7_soloWorks 4 = .ok (.iload_n 3, 1) := by decide +kernel
theorem dX7_soloWorks_5 : decode cX7_soloWorks 5 = .ok (.aload_n 1, 1) := by decide +kernel
theorem dX7_soloWorks_6 : decode cX7_soloWorks 6 = .ok (.getfield 234, 3) := by decide +kernel
theorem dX7_soloWorks_9 : decode cX7_soloWorks 9 = .ok (.if_icmp .ge 37, 3) := by decide +kernel
theorem dX7_soloWorks_12 : decode cX7_soloWorks 12 = .ok (.aload_n 1, 1) := by decide +kernel
theorem dX7_soloWorks_13 : decode cX7_soloWorks 13 = .ok (.getfield 446, 3) := by decide +kernel
theorem dX7_soloWorks_16 : decode cX7_soloWorks 16 = .ok (.iload_n 3, 1) := by decide +kernel
theorem dX7_soloWorks_17 : decode cX7_soloWorks 17 = .ok (.iaload, 1) := by decide +kernel
theorem dX7_soloWorks_18 : decode cX7_soloWorks 18 = .ok (.istore 4, 2) := by decide +kernel
theorem dX7_soloWorks_20 : decode cX7_soloWorks 20 = .ok (.aload_n 0, 1) := by decide +kernel
theorem dX7_soloWorks_21 : decode cX7_soloWorks 21 = .ok (.getfield 11, 3) := by decide +kernel
theorem dX7_soloWorks_24 : decode cX7_soloWorks 24 = .ok (.iload 4, 2) := by decide +kernel
theorem dX7_soloWorks_26 : decode cX7_soloWorks 26 = .ok (.aaload, 1) := by decide +kernel
theorem dX7_soloWorks_27 : decode cX7_soloWorks 27 = .ok (.getfield 102, 3) := by decide +kernel
theorem dX7_soloWorks_30 : decode cX7_soloWorks 30 = .ok (.ifCond .eq 10, 3) := by decide +kernel
theorem dX7_soloWorks_33 : decode cX7_soloWorks 33 = .ok (.iload_n 2, 1) := by decide +kernel
theorem dX7_soloWorks_34 : decode cX7_soloWorks 34 = .ok (.iconst 1, 1) := by decide +kernel
theorem dX7_soloWorks_35 : decode cX7_soloWorks 35 = .ok (.iload 4, 2) := by decide +kernel
theorem dX7_soloWorks_37 : decode cX7_soloWorks 37 = .ok (.ishl, 1) := by decide +kernel
theorem dX7_soloWorks_38 : decode cX7_soloWorks 38 = .ok (.ior, 1) := by decide +kernel
theorem dX7_soloWorks_39 : decode cX7_soloWorks 39 = .ok (.istore_n 2, 1) := by decide +kernel
theorem dX7_soloWorks_40 : decode cX7_soloWorks 40 = .ok (.iinc 3 1, 3) := by decide +kernel
theorem dX7_soloWorks_43 : decode cX7_soloWorks 43 = .ok (.goto (-39), 3) := by decide +kernel
theorem dX7_soloWorks_46 : decode cX7_soloWorks 46 = .ok (.iload_n 2, 1) := by decide +kernel
theorem dX7_soloWorks_47 : decode cX7_soloWorks 47 = .ok (.ireturn, 1) := by decide +kernel
theorem dX7_isEngagedBeside_0 : decode cX7_isEngagedBeside 0 = .ok (.iconst 0, 1) := by decide +kernel
theorem dX7_isEngagedBeside_1 : decode cX7_isEngagedBeside 1 = .ok (.istore_n 3, 1) := by decide +kernel
theorem dX7_isEngagedBeside_2 : decode cX7_isEngagedBeside 2 = .ok (.iload_n 3, 1) := by decide +kernel
theorem dX7_isEngagedBeside_3 : decode cX7_isEngagedBeside 3 = .ok (.aload_n 0, 1) := by decide +kernel
theorem dX7_isEngagedBeside_4 : decode cX7_isEngagedBeside 4 = .ok (.getfield 202, 3) := by decide +kernel
theorem dX7_isEngagedBeside_7 : decode cX7_isEngagedBeside 7 = .ok (.if_icmp .ge 50, 3) := by decide +kernel
theorem dX7_isEngagedBeside_10 : decode cX7_isEngagedBeside 10 = .ok (.aload_n 0, 1) := by decide +kernel
theorem dX7_isEngagedBeside_11 : decode cX7_isEngagedBeside 11 = .ok (.getfield 29, 3) := by decide +kernel
theorem dX7_isEngagedBeside_14 : decode cX7_isEngagedBeside 14 = .ok (.iload_n 3, 1) := by decide +kernel
theorem dX7_isEngagedBeside_15 : decode cX7_isEngagedBeside 15 = .ok (.aaload, 1) := by decide +kernel
theorem dX7_isEngagedBeside_16 : decode cX7_isEngagedBeside 16 = .ok (.astore 4, 2) := by decide +kernel
theorem dX7_isEngagedBeside_18 : decode cX7_isEngagedBeside 18 = .ok (.iload_n 3, 1) := by decide +kernel
theorem dX7_isEngagedBeside_19 : decode cX7_isEngagedBeside 19 = .ok (.iload_n 1, 1) := by decide +kernel
theorem dX7_isEngagedBeside_20 : decode cX7_isEngagedBeside 20 = .ok (.if_icmp .eq 31, 3) := by decide +kernel
theorem dX7_isEngagedBeside_23 : decode cX7_isEngagedBeside 23 = .ok (.aload 4, 2) := by decide +kernel
theorem dX7_isEngagedBeside_25 : decode cX7_isEngagedBeside 25 = .ok (.getfield 300, 3) := by decide +kernel
theorem dX7_isEngagedBeside_28 : decode cX7_isEngagedBeside 28 = .ok (.iload_n 2, 1) := by decide +kernel
theorem dX7_isEngagedBeside_29 : decode cX7_isEngagedBeside 29 = .ok (.if_icmp .ne 22, 3) := by decide +kernel
theorem dX7_isEngagedBeside_32 : decode cX7_isEngagedBeside 32 = .ok (.aload 4, 2) := by decide +kernel
theorem dX7_isEngagedBeside_34 : decode cX7_isEngagedBeside 34 = .ok (.getfield 211, 3) := by decide +kernel
theorem dX7_isEngagedBeside_37 : decode cX7_isEngagedBeside 37 = .ok (.aload_n 0, 1) := by decide +kernel
theorem dX7_isEngagedBeside_38 : decode cX7_isEngagedBeside 38 = .ok (.getfield 29, 3) := by decide +kernel
theorem dX7_isEngagedBeside_41 : decode cX7_isEngagedBeside 41 = .ok (.iload_n 1, 1) := by decide +kernel
theorem dX7_isEngagedBeside_42 : decode cX7_isEngagedBeside 42 = .ok (.aaload, 1) := by decide +kernel
theorem dX7_isEngagedBeside_43 : decode cX7_isEngagedBeside 43 = .ok (.getfield 211, 3) := by decide +kernel
theorem dX7_isEngagedBeside_46 : decode cX7_isEngagedBeside 46 = .ok (.if_icmp .ne 5, 3) := by decide +kernel
theorem dX7_isEngagedBeside_49 : decode cX7_isEngagedBeside 49 = .ok (.iconst 1, 1) := by decide +kernel
theorem dX7_isEngagedBeside_50 : decode cX7_isEngagedBeside 50 = .ok (.ireturn, 1) := by decide +kernel
theorem dX7_isEngagedBeside_51 : decode cX7_isEngagedBeside 51 = .ok (.iinc 3 1, 3) := by decide +kernel
theorem dX7_isEngagedBeside_54 : decode cX7_isEngagedBeside 54 = .ok (.goto (-52), 3) := by decide +kernel
theorem dX7_isEngagedBeside_57 : decode cX7_isEngagedBeside 57 = .ok (.iconst 0, 1) := by decide +kernel
theorem dX7_isEngagedBeside_58 : decode cX7_isEngagedBeside 58 = .ok (.ireturn, 1) := by decide +kernel
set_option maxRecDepth 20000 in
theorem ggX7_canEngage_X7_soloWorks : GoodIn wsX7_canEngage wsX7_soloWorks := goodIn_ca (goodIn_r _ [7, 8, 40, 41, 42, 43, 44, 45, 46, 47, 48, 49, 50, 51, 52, 53, 54, 24, 25, 26, 27, 28, 29, 30, 31, 32, 33, 34, 35, 55, 56, 57, 58, 59, 60, 61, 62, 63] (by decide +kernel) (by decide +kernel)) (goodIn_sub (fun _ h => List.mem_cons_of_mem _ (List.mem_append_right _ h)) (by decide +kernel))
set_option maxRecDepth 20000 in
theorem gX7_canEngage_X7_soloWorks : GoodIn wsX7_canEngage (wsV RX7 312 RX7 yX7_soloWorks wsX7_soloWorks) := goodIn_app (goodIn_of _ (by decide +kernel)) ggX7_canEngage_X7_soloWorks
set_option maxRecDepth 20000 in
theorem ggX7_canEngage_X2_isElsewhereNear : GoodIn wsX7_canEngage wsX2_isElsewhereNear := goodIn_ca (goodIn_r _ [12, 13, 14, 15, 16, 17, 18, 36, 37, 38, 39] (by decide +kernel) (by decide +kernel)) (goodIn_sub (fun _ h => List.mem_cons_of_mem _ (List.mem_append_right _ h)) (by decide +kernel))
set_option maxRecDepth 20000 in
theorem gX7_canEngage_X2_isElsewhereNear_n281 : GoodIn wsX7_canEngage (wsX2_isElsewhereNear) := ggX7_canEngage_X2_isElsewhereNear
set_option maxRecDepth 20000 in
theorem ggX7_canEngage_X7_isEngagedBeside : GoodIn wsX7_canEngage wsX7_isEngagedBeside := goodIn_r _ [22, 23, 1, 24, 25, 26, 27, 28, 29, 30, 31, 32, 33, 34, 35, 40, 41, 42, 43, 44, 45, 46, 47, 48, 49, 50, 51, 52, 53, 54] (by decide +kernel) (by decide +kernel)
set_option maxRecDepth 20000 in
theorem gX7_canEngage_X7_isEngagedBeside : GoodIn wsX7_canEngage (wsV RX7 451 RX7 yX7_isEngagedBeside wsX7_isEngagedBeside) := goodIn_app (goodIn_of _ (by decide +kernel)) ggX7_canEngage_X7_isEngagedBeside
theorem dX7_canEngage_0 : decode cX7_canEngage 0 = .ok (.aload_n 0, 1) := by decide +kernel
theorem dX7_canEngage_1 : decode cX7_canEngage 1 = .ok (.getfield 29, 3) := by decide +kernel
theorem dX7_canEngage_4 : decode cX7_canEngage 4 = .ok (.iload_n 1, 1) := by decide +kernel
theorem dX7_canEngage_5 : decode cX7_canEngage 5 = .ok (.aaload, 1) := by decide +kernel
theorem dX7_canEngage_6 : decode cX7_canEngage 6 = .ok (.astore_n 3, 1) := by decide +kernel
theorem dX7_canEngage_7 : decode cX7_canEngage 7 = .ok (.aload_n 0, 1) := by decide +kernel
theorem dX7_canEngage_8 : decode cX7_canEngage 8 = .ok (.getfield 35, 3) := by decide +kernel
theorem dX7_canEngage_11 : decode cX7_canEngage 11 = .ok (.iload_n 2, 1) := by decide +kernel
theorem dX7_canEngage_12 : decode cX7_canEngage 12 = .ok (.aaload, 1) := by decide +kernel
theorem dX7_canEngage_13 : decode cX7_canEngage 13 = .ok (.astore 4, 2) := by decide +kernel
theorem dX7_canEngage_15 : decode cX7_canEngage 15 = .ok (.aload 4, 2) := by decide +kernel
theorem dX7_canEngage_17 : decode cX7_canEngage 17 = .ok (.getfield 274, 3) := by decide +kernel
theorem dX7_canEngage_20 : decode cX7_canEngage 20 = .ok (.aload_n 0, 1) := by decide +kernel
theorem dX7_canEngage_21 : decode cX7_canEngage 21 = .ok (.aload_n 3, 1) := by decide +kernel
theorem dX7_canEngage_22 : decode cX7_canEngage 22 = .ok (.invokevirtual 312, 3) := by decide +kernel
theorem dX7_canEngage_25 : decode cX7_canEngage 25 = .ok (.iand, 1) := by decide +kernel
theorem dX7_canEngage_26 : decode cX7_canEngage 26 = .ok (.ifCond .eq 30, 3) := by decide +kernel
theorem dX7_canEngage_29 : decode cX7_canEngage 29 = .ok (.aload 4, 2) := by decide +kernel
theorem dX7_canEngage_31 : decode cX7_canEngage 31 = .ok (.aload_n 3, 1) := by decide +kernel
theorem dX7_canEngage_32 : decode cX7_canEngage 32 = .ok (.getfield 211, 3) := by decide +kernel
theorem dX7_canEngage_35 : decode cX7_canEngage 35 = .ok (.bipush 7, 2) := by decide +kernel
theorem dX7_canEngage_37 : decode cX7_canEngage 37 = .ok (.invokevirtual 281, 3) := by decide +kernel
theorem dX7_canEngage_40 : decode cX7_canEngage 40 = .ok (.ifCond .ne 16, 3) := by decide +kernel
theorem dX7_canEngage_43 : decode cX7_canEngage 43 = .ok (.aload_n 0, 1) := by decide +kernel
theorem dX7_canEngage_44 : decode cX7_canEngage 44 = .ok (.iload_n 1, 1) := by decide +kernel
theorem dX7_canEngage_45 : decode cX7_canEngage 45 = .ok (.iload_n 2, 1) := by decide +kernel
theorem dX7_canEngage_46 : decode cX7_canEngage 46 = .ok (.invokevirtual 451, 3) := by decide +kernel
theorem dX7_canEngage_49 : decode cX7_canEngage 49 = .ok (.ifCond .ne 7, 3) := by decide +kernel
theorem dX7_canEngage_52 : decode cX7_canEngage 52 = .ok (.iconst 1, 1) := by decide +kernel
theorem dX7_canEngage_53 : decode cX7_canEngage 53 = .ok (.goto 4, 3) := by decide +kernel
theorem dX7_canEngage_56 : decode cX7_canEngage 56 = .ok (.iconst 0, 1) := by decide +kernel
theorem dX7_canEngage_57 : decode cX7_canEngage 57 = .ok (.ireturn, 1) := by decide +kernel
set_option maxRecDepth 20000 in
theorem ggX7_findInstead_X7_soloWorks : GoodIn wsX7_findInstead wsX7_soloWorks := goodIn_ca (goodIn_r _ [8, 9, 45, 46, 47, 48, 49, 50, 51, 52, 53, 54, 55, 56, 57, 58, 59, 29, 30, 31, 32, 33, 34, 35, 36, 37, 38, 39, 40, 60, 61, 62, 63, 64, 65, 66, 67, 68] (by decide +kernel) (by decide +kernel)) (goodIn_sub (fun _ h => List.mem_cons_of_mem _ (List.mem_append_right _ h)) (by decide +kernel))
set_option maxRecDepth 20000 in
theorem gX7_findInstead_X7_soloWorks : GoodIn wsX7_findInstead (wsV RX7 312 RX7 yX7_soloWorks wsX7_soloWorks) := goodIn_app (goodIn_of _ (by decide +kernel)) ggX7_findInstead_X7_soloWorks
set_option maxRecDepth 20000 in
theorem ggX7_findInstead_X7_canEngage : GoodIn wsX7_findInstead wsX7_canEngage := goodIn_ca (goodIn_r _ [13, 1, 2, 4, 5, 6, 7, 8, 9, 14, 15, 16, 17, 18, 19, 20, 21, 22, 23, 24, 25, 26, 27, 28, 29, 30, 31, 32, 33, 34, 35, 36, 37, 38, 39, 40, 41, 42, 43, 44, 45, 46, 47, 48, 49, 50, 51, 52, 53, 54, 55, 56, 57, 58, 59, 60, 61, 62, 63, 64, 65, 66, 67, 68] (by decide +kernel) (by decide +kernel)) (goodIn_sub (fun _ h => List.mem_cons_of_mem _ (List.mem_append_right _ h)) (by decide +kernel))
set_option maxRecDepth 20000 in
theorem gX7_findInstead_X7_canEngage : GoodIn wsX7_findInstead (wsV RX7 295 RX7 yX7_canEngage wsX7_canEngage) := goodIn_app (goodIn_of _ (by decide +kernel)) ggX7_findInstead_X7_canEngage
theorem dX7_findInstead_0 : decode cX7_findInstead 0 = .ok (.aload_n 0, 1) := by decide +kernel
theorem dX7_findInstead_1 : decode cX7_findInstead 1 = .ok (.aload_n 0, 1) := by decide +kernel
theorem dX7_findInstead_2 : decode cX7_findInstead 2 = .ok (.getfield 29, 3) := by decide +kernel
theorem dX7_findInstead_5 : decode cX7_findInstead 5 = .ok (.iload_n 1, 1) := by decide +kernel
theorem dX7_findInstead_6 : decode cX7_findInstead 6 = .ok (.aaload, 1) := by decide +kernel
theorem dX7_findInstead_7 : decode cX7_findInstead 7 = .ok (.invokevirtual 312, 3) := by decide +kernel
theorem dX7_findInstead_10 : decode cX7_findInstead 10 = .ok (.aload_n 0, 1) := by decide +kernel
theorem dX7_findInstead_11 : decode cX7_findInstead 11 = .ok (.getfield 35, 3) := by decide +kernel
theorem dX7_findInstead_14 : decode cX7_findInstead 14 = .ok (.iload_n 2, 1) := by decide +kernel
theorem dX7_findInstead_15 : decode cX7_findInstead 15 = .ok (.aaload, 1) := by decide +kernel
theorem dX7_findInstead_16 : decode cX7_findInstead 16 = .ok (.getfield 274, 3) := by decide +kernel
theorem dX7_findInstead_19 : decode cX7_findInstead 19 = .ok (.iand, 1) := by decide +kernel
theorem dX7_findInstead_20 : decode cX7_findInstead 20 = .ok (.istore_n 3, 1) := by decide +kernel
theorem dX7_findInstead_21 : decode cX7_findInstead 21 = .ok (.iconst (-1), 1) := by decide +kernel
theorem dX7_findInstead_22 : decode cX7_findInstead 22 = .ok (.istore 4, 2) := by decide +kernel
theorem dX7_findInstead_24 : decode cX7_findInstead 24 = .ok (.iconst 0, 1) := by decide +kernel
theorem dX7_findInstead_25 : decode cX7_findInstead 25 = .ok (.istore 5, 2) := by decide +kernel
theorem dX7_findInstead_27 : decode cX7_findInstead 27 = .ok (.iload 5, 2) := by decide +kernel
theorem dX7_findInstead_29 : decode cX7_findInstead 29 = .ok (.aload_n 0, 1) := by decide +kernel
theorem dX7_findInstead_30 : decode cX7_findInstead 30 = .ok (.getfield 266, 3) := by decide +kernel
theorem dX7_findInstead_33 : decode cX7_findInstead 33 = .ok (.if_icmp .ge 74, 3) := by decide +kernel
theorem dX7_findInstead_36 : decode cX7_findInstead 36 = .ok (.iload 5, 2) := by decide +kernel
theorem dX7_findInstead_38 : decode cX7_findInstead 38 = .ok (.iload_n 2, 1) := by decide +kernel
theorem dX7_findInstead_39 : decode cX7_findInstead 39 = .ok (.if_icmp .eq 62, 3) := by decide +kernel
theorem dX7_findInstead_42 : decode cX7_findInstead 42 = .ok (.aload_n 0, 1) := by decide +kernel
theorem dX7_findInstead_43 : decode cX7_findInstead 43 = .ok (.getfield 35, 3) := by decide +kernel
theorem dX7_findInstead_46 : decode cX7_findInstead 46 = .ok (.iload 5, 2) := by decide +kernel
theorem dX7_findInstead_48 : decode cX7_findInstead 48 = .ok (.aaload, 1) := by decide +kernel
theorem dX7_findInstead_49 : decode cX7_findInstead 49 = .ok (.getfield 274, 3) := by decide +kernel
theorem dX7_findInstead_52 : decode cX7_findInstead 52 = .ok (.iload_n 3, 1) := by decide +kernel
theorem dX7_findInstead_53 : decode cX7_findInstead 53 = .ok (.iand, 1) := by decide +kernel
theorem dX7_findInstead_54 : decode cX7_findInstead 54 = .ok (.iload_n 3, 1) := by decide +kernel
theorem dX7_findInstead_55 : decode cX7_findInstead 55 = .ok (.if_icmp .ne 46, 3) := by decide +kernel
theorem dX7_findInstead_58 : decode cX7_findInstead 58 = .ok (.aload_n 0, 1) := by decide +kernel
theorem dX7_findInstead_59 : decode cX7_findInstead 59 = .ok (.iload_n 1, 1) := by decide +kernel
theorem dX7_findInstead_60 : decode cX7_findInstead 60 = .ok (.iload 5, 2) := by decide +kernel
theorem dX7_findInstead_62 : decode cX7_findInstead 62 = .ok (.invokevirtual 295, 3) := by decide +kernel
theorem dX7_findInstead_65 : decode cX7_findInstead 65 = .ok (.ifCond .eq 36, 3) := by decide +kernel
theorem dX7_findInstead_68 : decode cX7_findInstead 68 = .ok (.iload 4, 2) := by decide +kernel
theorem dX7_findInstead_70 : decode cX7_findInstead 70 = .ok (.iconst (-1), 1) := by decide +kernel
theorem dX7_findInstead_71 : decode cX7_findInstead 71 = .ok (.if_icmp .eq 26, 3) := by decide +kernel
theorem dX7_findInstead_74 : decode cX7_findInstead 74 = .ok (.aload_n 0, 1) := by decide +kernel
theorem dX7_findInstead_75 : decode cX7_findInstead 75 = .ok (.getfield 35, 3) := by decide +kernel
theorem dX7_findInstead_78 : decode cX7_findInstead 78 = .ok (.iload 5, 2) := by decide +kernel
theorem dX7_findInstead_80 : decode cX7_findInstead 80 = .ok (.aaload, 1) := by decide +kernel
theorem dX7_findInstead_81 : decode cX7_findInstead 81 = .ok (.getfield 271, 3) := by decide +kernel
theorem dX7_findInstead_84 : decode cX7_findInstead 84 = .ok (.aload_n 0, 1) := by decide +kernel
theorem dX7_findInstead_85 : decode cX7_findInstead 85 = .ok (.getfield 35, 3) := by decide +kernel
theorem dX7_findInstead_88 : decode cX7_findInstead 88 = .ok (.iload 4, 2) := by decide +kernel
theorem dX7_findInstead_90 : decode cX7_findInstead 90 = .ok (.aaload, 1) := by decide +kernel
theorem dX7_findInstead_91 : decode cX7_findInstead 91 = .ok (.getfield 271, 3) := by decide +kernel
theorem dX7_findInstead_94 : decode cX7_findInstead 94 = .ok (.if_icmp .ge 7, 3) := by decide +kernel
theorem dX7_findInstead_97 : decode cX7_findInstead 97 = .ok (.iload 5, 2) := by decide +kernel
theorem dX7_findInstead_99 : decode cX7_findInstead 99 = .ok (.istore 4, 2) := by decide +kernel
theorem dX7_findInstead_101 : decode cX7_findInstead 101 = .ok (.iinc 5 1, 3) := by decide +kernel
theorem dX7_findInstead_104 : decode cX7_findInstead 104 = .ok (.goto (-77), 3) := by decide +kernel
theorem dX7_findInstead_107 : decode cX7_findInstead 107 = .ok (.iload 4, 2) := by decide +kernel
theorem dX7_findInstead_109 : decode cX7_findInstead 109 = .ok (.ireturn, 1) := by decide +kernel
set_option maxRecDepth 20000 in
theorem ggX7_hasSoloistFor_X7_hasBit : GoodIn wsX7_hasSoloistFor wsX7_hasBit := goodIn_r _ [6] (by decide +kernel) (by decide +kernel)
set_option maxRecDepth 20000 in
theorem gX7_hasSoloistFor_X7_hasBit : GoodIn wsX7_hasSoloistFor (va_wsS RX7 161 yX7_hasBit wsX7_hasBit) := goodIn_app (goodIn_of _ (by decide +kernel)) ggX7_hasSoloistFor_X7_hasBit
theorem dX7_hasSoloistFor_0 : decode cX7_hasSoloistFor 0 = .ok (.aload_n 0, 1) := by decide +kernel
theorem dX7_hasSoloistFor_1 : decode cX7_hasSoloistFor 1 = .ok (.getfield 11, 3) := by decide +kernel
theorem dX7_hasSoloistFor_4 : decode cX7_hasSoloistFor 4 = .ok (.iload_n 2, 1) := by decide +kernel
theorem dX7_hasSoloistFor_5 : decode cX7_hasSoloistFor 5 = .ok (.aaload, 1) := by decide +kernel
theorem dX7_hasSoloistFor_6 : decode cX7_hasSoloistFor 6 = .ok (.getfield 102, 3) := by decide +kernel
theorem dX7_hasSoloistFor_9 : decode cX7_hasSoloistFor 9 = .ok (.ifCond .eq 30, 3) := by decide +kernel
theorem dX7_hasSoloistFor_12 : decode cX7_hasSoloistFor 12 = .ok (.aload_n 1, 1) := by decide +kernel
theorem dX7_hasSoloistFor_13 : decode cX7_hasSoloistFor 13 = .ok (.getfield 300, 3) := by decide +kernel
theorem dX7_hasSoloistFor_16 : decode cX7_hasSoloistFor 16 = .ok (.iconst (-1), 1) := by decide +kernel
theorem dX7_hasSoloistFor_17 : decode cX7_hasSoloistFor 17 = .ok (.if_icmp .eq 26, 3) := by decide +kernel
theorem dX7_hasSoloistFor_20 : decode cX7_hasSoloistFor 20 = .ok (.aload_n 0, 1) := by decide +kernel
theorem dX7_hasSoloistFor_21 : decode cX7_hasSoloistFor 21 = .ok (.getfield 35, 3) := by decide +kernel
theorem dX7_hasSoloistFor_24 : decode cX7_hasSoloistFor 24 = .ok (.aload_n 1, 1) := by decide +kernel
theorem dX7_hasSoloistFor_25 : decode cX7_hasSoloistFor 25 = .ok (.getfield 300, 3) := by decide +kernel
theorem dX7_hasSoloistFor_28 : decode cX7_hasSoloistFor 28 = .ok (.aaload, 1) := by decide +kernel
theorem dX7_hasSoloistFor_29 : decode cX7_hasSoloistFor 29 = .ok (.getfield 274, 3) := by decide +kernel
theorem dX7_hasSoloistFor_32 : decode cX7_hasSoloistFor 32 = .ok (.iload_n 2, 1) := by decide +kernel
theorem dX7_hasSoloistFor_33 : decode cX7_hasSoloistFor 33 = .ok (.invokestatic 161, 3) := by decide +kernel
theorem dX7_hasSoloistFor_36 : decode cX7_hasSoloistFor 36 = .ok (.ifCond .eq 7, 3) := by decide +kernel
theorem dX7_hasSoloistFor_39 : decode cX7_hasSoloistFor 39 = .ok (.iconst 1, 1) := by decide +kernel
theorem dX7_hasSoloistFor_40 : decode cX7_hasSoloistFor 40 = .ok (.goto 4, 3) := by decide +kernel
theorem dX7_hasSoloistFor_43 : decode cX7_hasSoloistFor 43 = .ok (.iconst 0, 1) := by decide +kernel
theorem dX7_hasSoloistFor_44 : decode cX7_hasSoloistFor 44 = .ok (.ireturn, 1) := by decide +kernel
set_option maxRecDepth 20000 in
theorem ggX7_countServices_X7_hasBit : GoodIn wsX7_countServices wsX7_hasBit := goodIn_r _ [6] (by decide +kernel) (by decide +kernel)
set_option maxRecDepth 20000 in
theorem gX7_countServices_X7_hasBit : GoodIn wsX7_countServices (va_wsS RX7 161 yX7_hasBit wsX7_hasBit) := goodIn_app (goodIn_of _ (by decide +kernel)) ggX7_countServices_X7_hasBit
theorem dX7_countServices_0 : decode cX7_countServices 0 = .ok (.iconst 0, 1) := by decide +kernel
theorem dX7_countServices_1 : decode cX7_countServices 1 = .ok (.istore_n 2, 1) := by decide +kernel
theorem dX7_countServices_2 : decode cX7_countServices 2 = .ok (.iconst 0, 1) := by decide +kernel
theorem dX7_countServices_3 : decode cX7_countServices 3 = .ok (.istore_n 3, 1) := by decide +kernel
theorem dX7_countServices_4 : decode cX7_countServices 4 = .ok (.iload_n 3, 1) := by decide +kernel
theorem dX7_countServices_5 : decode cX7_countServices 5 = .ok (.aload_n 0, 1) := by decide +kernel
theorem dX7_countServices_6 : decode cX7_countServices 6 = .ok (.getfield 202, 3) := by decide +kernel
theorem dX7_countServices_9 : decode cX7_countServices 9 = .ok (.if_icmp .ge 28, 3) := by decide +kernel
theorem dX7_countServices_12 : decode cX7_countServices 12 = .ok (.aload_n 0, 1) := by decide +kernel
theorem dX7_countServices_13 : decode cX7_countServices 13 = .ok (.getfield 29, 3) := by decide +kernel
theorem dX7_countServices_16 : decode cX7_countServices 16 = .ok (.iload_n 3, 1) := by decide +kernel
theorem dX7_countServices_17 : decode cX7_countServices 17 = .ok (.aaload, 1) := by decide +kernel
theorem dX7_countServices_18 : decode cX7_countServices 18 = .ok (.getfield 454, 3) := by decide +kernel
theorem dX7_countServices_21 : decode cX7_countServices 21 = .ok (.iload_n 1, 1) := by decide +kernel
theorem dX7_countServices_22 : decode cX7_countServices 22 = .ok (.invokestatic 161, 3) := by decide +kernel
theorem dX7_countServices_25 : decode cX7_countServices 25 = .ok (.ifCond .eq 6, 3) := by decide +kernel
theorem dX7_countServices_28 : decode cX7_countServices 28 = .ok (.iinc 2 1, 3) := by decide +kernel
theorem dX7_countServices_31 : decode cX7_countServices 31 = .ok (.iinc 3 1, 3) := by decide +kernel
theorem dX7_countServices_34 : decode cX7_countServices 34 = .ok (.goto (-30), 3) := by decide +kernel
theorem dX7_countServices_37 : decode cX7_countServices 37 = .ok (.iload_n 2, 1) := by decide +kernel
theorem dX7_countServices_38 : decode cX7_countServices 38 = .ok (.ireturn, 1) := by decide +kernel
set_option maxRecDepth 20000 in
theorem ggX7_isCastBetween_X7_hasBit : GoodIn wsX7_isCastBetween wsX7_hasBit := goodIn_r _ [6] (by decide +kernel) (by decide +kernel)
set_option maxRecDepth 20000 in
theorem gX7_isCastBetween_X7_hasBit : GoodIn wsX7_isCastBetween (va_wsS RX7 161 yX7_hasBit wsX7_hasBit) := goodIn_app (goodIn_of _ (by decide +kernel)) ggX7_isCastBetween_X7_hasBit
theorem dX7_isCastBetween_0 : decode cX7_isCastBetween 0 = .ok (.iconst 0, 1) := by decide +kernel
theorem dX7_isCastBetween_1 : decode cX7_isCastBetween 1 = .ok (.istore 4, 2) := by decide +kernel
theorem dX7_isCastBetween_3 : decode cX7_isCastBetween 3 = .ok (.iload 4, 2) := by decide +kernel
theorem dX7_isCastBetween_5 : decode cX7_isCastBetween 5 = .ok (.aload_n 0, 1) := by decide +kernel
theorem dX7_isCastBetween_6 : decode cX7_isCastBetween 6 = .ok (.getfield 202, 3) := by decide +kernel
theorem dX7_isCastBetween_9 : decode cX7_isCastBetween 9 = .ok (.if_icmp .ge 50, 3) := by decide +kernel
theorem dX7_isCastBetween_12 : decode cX7_isCastBetween 12 = .ok (.aload_n 0, 1) := by decide +kernel
theorem dX7_isCastBetween_13 : decode cX7_isCastBetween 13 = .ok (.getfield 29, 3) := by decide +kernel
theorem dX7_isCastBetween_16 : decode cX7_isCastBetween 16 = .ok (.iload 4, 2) := by decide +kernel
theorem dX7_isCastBetween_18 : decode cX7_isCastBetween 18 = .ok (.aaload, 1) := by decide +kernel
theorem dX7_isCastBetween_19 : decode cX7_isCastBetween 19 = .ok (.astore 5, 2) := by decide +kernel
theorem dX7_isCastBetween_21 : decode cX7_isCastBetween 21 = .ok (.aload 5, 2) := by decide +kernel
theorem dX7_isCastBetween_23 : decode cX7_isCastBetween 23 = .ok (.getfield 211, 3) := by decide +kernel
theorem dX7_isCastBetween_26 : decode cX7_isCastBetween 26 = .ok (.iload_n 2, 1) := by decide +kernel
theorem dX7_isCastBetween_27 : decode cX7_isCastBetween 27 = .ok (.if_icmp .lt 26, 3) := by decide +kernel
