set_option maxRecDepth 20000 in
theorem ggX1_init_X1_clear : GoodIn wsX1_init wsX1_clear := goodIn_ca (goodIn_r _ [20, 6, 7, 8, 9, 10, 21, 11, 22, 23, 24, 19, 25, 26, 27, 28, 29, 30, 31, 32, 33, 34, 35, 36, 37, 38] (by decide +kernel) (by decide +kernel)) (goodIn_sub (fun _ h => List.mem_cons_of_mem _ (List.mem_append_right _ h)) (by decide +kernel))
set_option maxRecDepth 20000 in
theorem gX1_init_X1_clear : GoodIn wsX1_init (wsV RX1 42 RX1 yX1_clear wsX1_clear) := goodIn_app (goodIn_of _ (by decide +kernel)) ggX1_init_X1_clear
theorem dX1_init_0 : decode cX1_init 0 = .ok (.aload_n 0, 1) := by decide +kernel
theorem dX1_init_1 : decode cX1_init 1 = .ok (.invokespecial 1, 3) := by decide +kernel
theorem dX1_init_4 : decode cX1_init 4 = .ok (.aload_n 0, 1) := by decide +kernel
theorem dX1_init_5 : decode cX1_init 5 = .ok (.iconst 1, 1) := by decide +kernel
theorem dX1_init_6 : decode cX1_init 6 = .ok (.putfield 7, 3) := by decide +kernel
theorem dX1_init_9 : decode cX1_init 9 = .ok (.aload_n 0, 1) := by decide +kernel
theorem dX1_init_10 : decode cX1_init 10 = .ok (.bipush 25, 2) := by decide +kernel
theorem dX1_init_12 : decode cX1_init 12 = .ok (.newarray .int, 2) := by decide +kernel
theorem dX1_init_14 : decode cX1_init 14 = .ok (.putfield 13, 3) := by decide +kernel
theorem dX1_init_17 : decode cX1_init 17 = .ok (.aload_n 0, 1) := by decide +kernel
theorem dX1_init_18 : decode cX1_init 18 = .ok (.bipush 25, 2) := by decide +kernel
theorem dX1_init_20 : decode cX1_init 20 = .ok (.newarray .int, 2) := by decide +kernel
theorem dX1_init_22 : decode cX1_init 22 = .ok (.putfield 17, 3) := by decide +kernel
theorem dX1_init_25 : decode cX1_init 25 = .ok (.aload_n 0, 1) := by decide +kernel
theorem dX1_init_26 : decode cX1_init 26 = .ok (.iconst 5, 1) := by decide +kernel
theorem dX1_init_27 : decode cX1_init 27 = .ok (.newarray .int, 2) := by decide +kernel
theorem dX1_init_29 : decode cX1_init 29 = .ok (.putfield 20, 3) := by decide +kernel
theorem dX1_init_32 : decode cX1_init 32 = .ok (.aload_n 0, 1) := by decide +kernel
theorem dX1_init_33 : decode cX1_init 33 = .ok (.iconst 5, 1) := by decide +kernel
theorem dX1_init_34 : decode cX1_init 34 = .ok (.newarray .int, 2) := by decide +kernel
theorem dX1_init_36 : decode cX1_init 36 = .ok (.putfield 23, 3) := by decide +kernel
theorem dX1_init_39 : decode cX1_init 39 = .ok (.aload_n 0, 1) := by decide +kernel
theorem dX1_init_40 : decode cX1_init 40 = .ok (.iconst 5, 1) := by decide +kernel
theorem dX1_init_41 : decode cX1_init 41 = .ok (.newarray .int, 2) := by decide +kernel
theorem dX1_init_43 : decode cX1_init 43 = .ok (.putfield 26, 3) := by decide +kernel
theorem dX1_init_46 : decode cX1_init 46 = .ok (.aload_n 0, 1) := by decide +kernel
theorem dX1_init_47 : decode cX1_init 47 = .ok (.iconst 5, 1) := by decide +kernel
theorem dX1_init_48 : decode cX1_init 48 = .ok (.newarray .int, 2) := by decide +kernel
theorem dX1_init_50 : decode cX1_init 50 = .ok (.putfield 29, 3) := by decide +kernel
theorem dX1_init_53 : decode cX1_init 53 = .ok (.aload_n 0, 1) := by decide +kernel
theorem dX1_init_54 : decode cX1_init 54 = .ok (.iconst 5, 1) := by decide +kernel
theorem dX1_init_55 : decode cX1_init 55 = .ok (.newarray .int, 2) := by decide +kernel
theorem dX1_init_57 : decode cX1_init 57 = .ok (.putfield 32, 3) := by decide +kernel
theorem dX1_init_60 : decode cX1_init 60 = .ok (.aload_n 0, 1) := by decide +kernel
theorem dX1_init_61 : decode cX1_init 61 = .ok (.iconst 5, 1) := by decide +kernel
theorem dX1_init_62 : decode cX1_init 62 = .ok (.newarray .int, 2) := by decide +kernel
theorem dX1_init_64 : decode cX1_init 64 = .ok (.putfield 35, 3) := by decide +kernel
theorem dX1_init_67 : decode cX1_init 67 = .ok (.aload_n 0, 1) := by decide +kernel
theorem dX1_init_68 : decode cX1_init 68 = .ok (.bipush 32, 2) := by decide +kernel
theorem dX1_init_70 : decode cX1_init 70 = .ok (.newarray .long, 2) := by decide +kernel
theorem dX1_init_72 : decode cX1_init 72 = .ok (.putfield 38, 3) := by decide +kernel
theorem dX1_init_75 : decode cX1_init 75 = .ok (.aload_n 0, 1) := by decide +kernel
theorem dX1_init_76 : decode cX1_init 76 = .ok (.invokevirtual 42, 3) := by decide +kernel
theorem dX1_init_79 : decode cX1_init 79 = .ok (.return_, 1) := by decide +kernel
theorem dX1_thrown_0 : decode cX1_thrown 0 = .ok (.aload_n 0, 1) := by decide +kernel
theorem dX1_thrown_1 : decode cX1_thrown 1 = .ok (.getfield 45, 3) := by decide +kernel
theorem dX1_thrown_4 : decode cX1_thrown 4 = .ok (.ireturn, 1) := by decide +kernel
theorem dX1_fail_0 : decode cX1_fail 0 = .ok (.aload_n 0, 1) := by decide +kernel
theorem dX1_fail_1 : decode cX1_fail 1 = .ok (.iload_n 1, 1) := by decide +kernel
theorem dX1_fail_2 : decode cX1_fail 2 = .ok (.putfield 45, 3) := by decide +kernel
theorem dX1_fail_5 : decode cX1_fail 5 = .ok (.iconst 0, 1) := by decide +kernel
theorem dX1_fail_6 : decode cX1_fail 6 = .ok (.ireturn, 1) := by decide +kernel
theorem dX1_isIndex_0 : decode cX1_isIndex 0 = .ok (.iload_n 1, 1) := by decide +kernel
theorem dX1_isIndex_1 : decode cX1_isIndex 1 = .ok (.ifCond .lt 15, 3) := by decide +kernel
theorem dX1_isIndex_4 : decode cX1_isIndex 4 = .ok (.iload_n 1, 1) := by decide +kernel
theorem dX1_isIndex_5 : decode cX1_isIndex 5 = .ok (.aload_n 0, 1) := by decide +kernel
theorem dX1_isIndex_6 : decode cX1_isIndex 6 = .ok (.getfield 7, 3) := by decide +kernel
theorem dX1_isIndex_9 : decode cX1_isIndex 9 = .ok (.if_icmp .ge 7, 3) := by decide +kernel
theorem dX1_isIndex_12 : decode cX1_isIndex 12 = .ok (.iconst 1, 1) := by decide +kernel
theorem dX1_isIndex_13 : decode cX1_isIndex 13 = .ok (.goto 4, 3) := by decide +kernel
theorem dX1_isIndex_16 : decode cX1_isIndex 16 = .ok (.iconst 0, 1) := by decide +kernel
theorem dX1_isIndex_17 : decode cX1_isIndex 17 = .ok (.ireturn, 1) := by decide +kernel
theorem dX1_at_0 : decode cX1_at 0 = .ok (.iconst 5, 1) := by decide +kernel
theorem dX1_at_1 : decode cX1_at 1 = .ok (.iload_n 0, 1) := by decide +kernel
theorem dX1_at_2 : decode cX1_at 2 = .ok (.imul, 1) := by decide +kernel
theorem dX1_at_3 : decode cX1_at 3 = .ok (.iload_n 1, 1) := by decide +kernel
theorem dX1_at_4 : decode cX1_at 4 = .ok (.iadd, 1) := by decide +kernel
theorem dX1_at_5 : decode cX1_at 5 = .ok (.ireturn, 1) := by decide +kernel
set_option maxRecDepth 20000 in
theorem ggX1_clear_X1_at : GoodIn wsX1_clear wsX1_at := goodIn_r _ [12] (by decide +kernel) (by decide +kernel)
set_option maxRecDepth 20000 in
theorem gX1_clear_X1_at : GoodIn wsX1_clear (va_wsS RX1 48 yX1_at wsX1_at) := goodIn_app (goodIn_of _ (by decide +kernel)) ggX1_clear_X1_at
theorem dX1_clear_0 : decode cX1_clear 0 = .ok (.iconst 0, 1) := by decide +kernel
theorem dX1_clear_1 : decode cX1_clear 1 = .ok (.istore_n 1, 1) := by decide +kernel
theorem dX1_clear_2 : decode cX1_clear 2 = .ok (.iload_n 1, 1) := by decide +kernel
theorem dX1_clear_3 : decode cX1_clear 3 = .ok (.iconst 5, 1) := by decide +kernel
theorem dX1_clear_4 : decode cX1_clear 4 = .ok (.if_icmp .ge 74, 3) := by decide +kernel
theorem dX1_clear_7 : decode cX1_clear 7 = .ok (.iconst 0, 1) := by decide +kernel
theorem dX1_clear_8 : decode cX1_clear 8 = .ok (.istore_n 2, 1) := by decide +kernel
theorem dX1_clear_9 : decode cX1_clear 9 = .ok (.iload_n 2, 1) := by decide +kernel
theorem dX1_clear_10 : decode cX1_clear 10 = .ok (.iconst 5, 1) := by decide +kernel
theorem dX1_clear_11 : decode cX1_clear 11 = .ok (.if_icmp .ge 31, 3) := by decide +kernel
theorem dX1_clear_14 : decode cX1_clear 14 = .ok (.aload_n 0, 1) := by decide +kernel
theorem dX1_clear_15 : decode cX1_clear 15 = .ok (.getfield 13, 3) := by decide +kernel
theorem dX1_clear_18 : decode cX1_clear 18 = .ok (.iload_n 1, 1) := by decide +kernel
theorem dX1_clear_19 : decode cX1_clear 19 = .ok (.iload_n 2, 1) := by decide +kernel
theorem dX1_clear_20 : decode cX1_clear 20 = .ok (.invokestatic 48, 3) := by decide +kernel
theorem dX1_clear_23 : decode cX1_clear 23 = .ok (.iconst 0, 1) := by decide +kernel
theorem dX1_clear_24 : decode cX1_clear 24 = .ok (.iastore, 1) := by decide +kernel
theorem dX1_clear_25 : decode cX1_clear 25 = .ok (.aload_n 0, 1) := by decide +kernel
theorem dX1_clear_26 : decode cX1_clear 26 = .ok (.getfield 17, 3) := by decide +kernel
theorem dX1_clear_29 : decode cX1_clear 29 = .ok (.iload_n 1, 1) := by decide +kernel
theorem dX1_clear_30 : decode cX1_clear 30 = .ok (.iload_n 2, 1) := by decide +kernel
theorem dX1_clear_31 : decode cX1_clear 31 = .ok (.invokestatic 48, 3) := by decide +kernel
theorem dX1_clear_34 : decode cX1_clear 34 = .ok (.iconst 0, 1) := by decide +kernel
theorem dX1_clear_35 : decode cX1_clear 35 = .ok (.iastore, 1) := by decide +kernel
theorem dX1_clear_36 : decode cX1_clear 36 = .ok (.iinc 2 1, 3) := by decide +kernel
theorem dX1_clear_39 : decode cX1_clear 39 = .ok (.goto (-30), 3) := by decide +kernel
theorem dX1_clear_42 : decode cX1_clear 42 = .ok (.aload_n 0, 1) := by decide +kernel
theorem dX1_clear_43 : decode cX1_clear 43 = .ok (.getfield 20, 3) := by decide +kernel
theorem dX1_clear_46 : decode cX1_clear 46 = .ok (.iload_n 1, 1) := by decide +kernel
theorem dX1_clear_47 : decode cX1_clear 47 = .ok (.iconst 0, 1) := by decide +kernel
theorem dX1_clear_48 : decode cX1_clear 48 = .ok (.iastore, 1) := by decide +kernel
theorem dX1_clear_49 : decode cX1_clear 49 = .ok (.aload_n 0, 1) := by decide +kernel
theorem dX1_clear_50 : decode cX1_clear 50 = .ok (.getfield 23, 3) := by decide +kernel
theorem dX1_clear_53 : decode cX1_clear 53 = .ok (.iload_n 1, 1) := by decide +kernel
theorem dX1_clear_54 : decode cX1_clear 54 = .ok (.iconst 0, 1) := by decide +kernel
theorem dX1_clear_55 : decode cX1_clear 55 = .ok (.iastore, 1) := by decide +kernel
theorem dX1_clear_56 : decode cX1_clear 56 = .ok (.aload_n 0, 1) := by decide +kernel
theorem dX1_clear_57 : decode cX1_clear 57 = .ok (.getfield 26, 3) := by decide +kernel
theorem dX1_clear_60 : decode cX1_clear 60 = .ok (.iload_n 1, 1) := by decide +kernel
theorem dX1_clear_61 : decode cX1_clear 61 = .ok (.ldc 52, 2) := by decide +kernel
theorem dX1_clear_63 : decode cX1_clear 63 = .ok (.iastore, 1) := by decide +kernel
theorem dX1_clear_64 : decode cX1_clear 64 = .ok (.aload_n 0, 1) := by decide +kernel
theorem dX1_clear_65 : decode cX1_clear 65 = .ok (.getfield 29, 3) := by decide +kernel
theorem dX1_clear_68 : decode cX1_clear 68 = .ok (.iload_n 1, 1) := by decide +kernel
theorem dX1_clear_69 : decode cX1_clear 69 = .ok (.ldc 53, 2) := by decide +kernel
theorem dX1_clear_71 : decode cX1_clear 71 = .ok (.iastore, 1) := by decide +kernel
theorem dX1_clear_72 : decode cX1_clear 72 = .ok (.iinc 1 1, 3) := by decide +kernel
theorem dX1_clear_75 : decode cX1_clear 75 = .ok (.goto (-73), 3) := by decide +kernel
theorem dX1_clear_78 : decode cX1_clear 78 = .ok (.return_, 1) := by decide +kernel
set_option maxRecDepth 20000 in
theorem ggX1_setSize_X1_fail : GoodIn wsX1_setSize wsX1_fail := goodIn_r _ [7, 1, 23, 24, 25, 26, 27, 28, 29, 30, 31, 32, 33, 34, 35] (by decide +kernel) (by decide +kernel)
set_option maxRecDepth 20000 in
theorem gX1_setSize_X1_fail : GoodIn wsX1_setSize (wsV RX1 54 RX1 yX1_fail wsX1_fail) := goodIn_app (goodIn_of _ (by decide +kernel)) ggX1_setSize_X1_fail
set_option maxRecDepth 20000 in
theorem ggX1_setSize_X1_clear : GoodIn wsX1_setSize wsX1_clear := goodIn_ca (goodIn_r _ [11, 12, 13, 14, 15, 16, 17, 18, 19, 20, 21, 6, 22, 23, 24, 25, 26, 27, 28, 29, 30, 31, 32, 33, 34, 35] (by decide +kernel) (by decide +kernel)) (goodIn_sub (fun _ h => List.mem_cons_of_mem _ (List.mem_append_right _ h)) (by decide +kernel))
set_option maxRecDepth 20000 in
theorem gX1_setSize_X1_clear : GoodIn wsX1_setSize (wsV RX1 42 RX1 yX1_clear wsX1_clear) := goodIn_app (goodIn_of _ (by decide +kernel)) ggX1_setSize_X1_clear
theorem dX1_setSize_0 : decode cX1_setSize 0 = .ok (.aload_n 0, 1) := by decide +kernel
theorem dX1_setSize_1 : decode cX1_setSize 1 = .ok (.iconst 0, 1) := by decide +kernel
theorem dX1_setSize_2 : decode cX1_setSize 2 = .ok (.putfield 45, 3) := by decide +kernel
theorem dX1_setSize_5 : decode cX1_setSize 5 = .ok (.iload_n 1, 1) := by decide +kernel
theorem dX1_setSize_6 : decode cX1_setSize 6 = .ok (.iconst 1, 1) := by decide +kernel
theorem dX1_setSize_7 : decode cX1_setSize 7 = .ok (.if_icmp .lt 8, 3) := by decide +kernel
theorem dX1_setSize_10 : decode cX1_setSize 10 = .ok (.iload_n 1, 1) := by decide +kernel
theorem dX1_setSize_11 : decode cX1_setSize 11 = .ok (.iconst 5, 1) := by decide +kernel
theorem dX1_setSize_12 : decode cX1_setSize 12 = .ok (.if_icmp .le 9, 3) := by decide +kernel
theorem dX1_setSize_15 : decode cX1_setSize 15 = .ok (.aload_n 0, 1) := by decide +kernel
theorem dX1_setSize_16 : decode cX1_setSize 16 = .ok (.iconst 1, 1) := by decide +kernel
theorem dX1_setSize_17 : decode cX1_setSize 17 = .ok (.invokevirtual 54, 3) := by decide +kernel
theorem dX1_setSize_20 : decode cX1_setSize 20 = .ok (.ireturn, 1) := by decide +kernel
theorem dX1_setSize_21 : decode cX1_setSize 21 = .ok (.aload_n 0, 1) := by decide +kernel
theorem dX1_setSize_22 : decode cX1_setSize 22 = .ok (.iload_n 1, 1) := by decide +kernel
theorem dX1_setSize_23 : decode cX1_setSize 23 = .ok (.putfield 7, 3) := by decide +kernel
theorem dX1_setSize_26 : decode cX1_setSize 26 = .ok (.aload_n 0, 1) := by decide +kernel
theorem dX1_setSize_27 : decode cX1_setSize 27 = .ok (.invokevirtual 42, 3) := by decide +kernel
theorem dX1_setSize_30 : decode cX1_setSize 30 = .ok (.aload_n 0, 1) := by decide +kernel
theorem dX1_setSize_31 : decode cX1_setSize 31 = .ok (.getfield 7, 3) := by decide +kernel
theorem dX1_setSize_34 : decode cX1_setSize 34 = .ok (.ireturn, 1) := by decide +kernel
theorem dX1_size_0 : decode cX1_size 0 = .ok (.aload_n 0, 1) := by decide +kernel
theorem dX1_size_1 : decode cX1_size 1 = .ok (.iconst 0, 1) := by decide +kernel
theorem dX1_size_2 : decode cX1_size 2 = .ok (.putfield 45, 3) := by decide +kernel
theorem dX1_size_5 : decode cX1_size 5 = .ok (.aload_n 0, 1) := by decide +kernel
theorem dX1_size_6 : decode cX1_size 6 = .ok (.getfield 7, 3) := by decide +kernel
theorem dX1_size_9 : decode cX1_size 9 = .ok (.ireturn, 1) := by decide +kernel
set_option maxRecDepth 20000 in
theorem ggX1_setCoefficient_X1_isIndex : GoodIn wsX1_setCoefficient wsX1_isIndex := goodIn_r _ [7, 8, 16, 17, 18, 19, 20, 21, 22, 23, 24, 25, 26, 27, 28] (by decide +kernel) (by decide +kernel)
set_option maxRecDepth 20000 in
theorem gX1_setCoefficient_X1_isIndex : GoodIn wsX1_setCoefficient (wsV RX1 58 RX1 yX1_isIndex wsX1_isIndex) := goodIn_app (goodIn_of _ (by decide +kernel)) ggX1_setCoefficient_X1_isIndex
set_option maxRecDepth 20000 in
theorem ggX1_setCoefficient_X1_fail : GoodIn wsX1_setCoefficient wsX1_fail := goodIn_r _ [12, 1, 16, 17, 18, 19, 20, 21, 22, 23, 24, 25, 26, 27, 28] (by decide +kernel) (by decide +kernel)
set_option maxRecDepth 20000 in
theorem gX1_setCoefficient_X1_fail : GoodIn wsX1_setCoefficient (wsV RX1 54 RX1 yX1_fail wsX1_fail) := goodIn_app (goodIn_of _ (by decide +kernel)) ggX1_setCoefficient_X1_fail
set_option maxRecDepth 20000 in
theorem ggX1_setCoefficient_X1_at : GoodIn wsX1_setCoefficient wsX1_at := goodIn_r _ [15] (by decide +kernel) (by decide +kernel)
set_option maxRecDepth 20000 in
theorem gX1_setCoefficient_X1_at : GoodIn wsX1_setCoefficient (va_wsS RX1 48 yX1_at wsX1_at) := goodIn_app (goodIn_of _ (by decide +kernel)) ggX1_setCoefficient_X1_at
theorem dX1_setCoefficient_0 : decode cX1_setCoefficient 0 = .ok (.aload_n 0, 1) := by decide +kernel
theorem dX1_setCoefficient_1 : decode cX1_setCoefficient 1 = .ok (.iconst 0, 1) := by decide +kernel
theorem dX1_setCoefficient_2 : decode cX1_setCoefficient 2 = .ok (.putfield 45, 3) := by decide +kernel
theorem dX1_setCoefficient_5 : decode cX1_setCoefficient 5 = .ok (.aload_n 0, 1) := by decide +kernel
theorem dX1_setCoefficient_6 : decode cX1_setCoefficient 6 = .ok (.iload_n 1, 1) := by decide +kernel
theorem dX1_setCoefficient_7 : decode cX1_setCoefficient 7 = .ok (.invokevirtual 58, 3) := by decide +kernel
theorem dX1_setCoefficient_10 : decode cX1_setCoefficient 10 = .ok (.ifCond .eq 11, 3) := by decide +kernel
theorem dX1_setCoefficient_13 : decode cX1_setCoefficient 13 = .ok (.aload_n 0, 1) := by decide +kernel
theorem dX1_setCoefficient_14 : decode cX1_setCoefficient 14 = .ok (.iload_n 2, 1) := by decide +kernel
theorem dX1_setCoefficient_15 : decode cX1_setCoefficient 15 = .ok (.invokevirtual 58, 3) := by decide +kernel
theorem dX1_setCoefficient_18 : decode cX1_setCoefficient 18 = .ok (.ifCond .ne 9, 3) := by decide +kernel
theorem dX1_setCoefficient_21 : decode cX1_setCoefficient 21 = .ok (.aload_n 0, 1) := by decide +kernel
theorem dX1_setCoefficient_22 : decode cX1_setCoefficient 22 = .ok (.iconst 1, 1) := by decide +kernel
theorem dX1_setCoefficient_23 : decode cX1_setCoefficient 23 = .ok (.invokevirtual 54, 3) := by decide +kernel
theorem dX1_setCoefficient_26 : decode cX1_setCoefficient 26 = .ok (.ireturn, 1) := by decide +kernel
theorem dX1_setCoefficient_27 : decode cX1_setCoefficient 27 = .ok (.iload_n 3, 1) := by decide +kernel
theorem dX1_setCoefficient_28 : decode cX1_setCoefficient 28 = .ok (.bipush (-99), 2) := by decide +kernel
theorem dX1_setCoefficient_30 : decode cX1_setCoefficient 30 = .ok (.if_icmp .lt 9, 3) := by decide +kernel
theorem dX1_setCoefficient_33 : decode cX1_setCoefficient 33 = .ok (.iload_n 3, 1) := by decide +kernel
theorem dX1_setCoefficient_34 : decode cX1_setCoefficient 34 = .ok (.bipush 99, 2) := by decide +kernel
theorem dX1_setCoefficient_36 : decode cX1_setCoefficient 36 = .ok (.if_icmp .le 9, 3) := by decide +kernel
theorem dX1_setCoefficient_39 : decode cX1_setCoefficient 39 = .ok (.aload_n 0, 1) := by decide +kernel
theorem dX1_setCoefficient_40 : decode cX1_setCoefficient 40 = .ok (.iconst 2, 1) := by decide +kernel
theorem dX1_setCoefficient_41 : decode cX1_setCoefficient 41 = .ok (.invokevirtual 54, 3) := by decide +kernel
theorem dX1_setCoefficient_44 : decode cX1_setCoefficient 44 = .ok (.ireturn, 1) := by decide +kernel
theorem dX1_setCoefficient_45 : decode cX1_setCoefficient 45 = .ok (.aload_n 0, 1) := by decide +kernel
theorem dX1_setCoefficient_46 : decode cX1_setCoefficient 46 = .ok (.getfield 13, 3) := by decide +kernel
theorem dX1_setCoefficient_49 : decode cX1_setCoefficient 49 = .ok (.iload_n 1, 1) := by decide +kernel
theorem dX1_setCoefficient_50 : decode cX1_setCoefficient 50 = .ok (.iload_n 2, 1) := by decide +kernel
theorem dX1_setCoefficient_51 : decode cX1_setCoefficient 51 = .ok (.invokestatic 48, 3) := by decide +kernel
theorem dX1_setCoefficient_54 : decode cX1_setCoefficient 54 = .ok (.iaload, 1) := by decide +kernel
theorem dX1_setCoefficient_55 : decode cX1_setCoefficient 55 = .ok (.istore 4, 2) := by decide +kernel
theorem dX1_setCoefficient_57 : decode cX1_setCoefficient 57 = .ok (.aload_n 0, 1) := by decide +kernel
theorem dX1_setCoefficient_58 : decode cX1_setCoefficient 58 = .ok (.getfield 13, 3) := by decide +kernel
theorem dX1_setCoefficient_61 : decode cX1_setCoefficient 61 = .ok (.iload_n 1, 1) := by decide +kernel
theorem dX1_setCoefficient_62 : decode cX1_setCoefficient 62 = .ok (.iload_n 2, 1) := by decide +kernel
theorem dX1_setCoefficient_63 : decode cX1_setCoefficient 63 = .ok (.invokestatic 48, 3) := by decide +kernel
theorem dX1_setCoefficient_66 : decode cX1_setCoefficient 66 = .ok (.iload_n 3, 1) := by decide +kernel
theorem dX1_setCoefficient_67 : decode cX1_setCoefficient 67 = .ok (.iastore, 1) := by decide +kernel
theorem dX1_setCoefficient_68 : decode cX1_setCoefficient 68 = .ok (.iload 4, 2) := by decide +kernel
theorem dX1_setCoefficient_70 : decode cX1_setCoefficient 70 = .ok (.ireturn, 1) := by decide +kernel
set_option maxRecDepth 20000 in
theorem ggX1_coefficient_X1_isIndex : GoodIn wsX1_coefficient wsX1_isIndex := goodIn_r _ [7, 8, 16, 17, 18, 19, 20, 21, 22, 23, 24, 25, 26, 27, 28] (by decide +kernel) (by decide +kernel)
set_option maxRecDepth 20000 in
theorem gX1_coefficient_X1_isIndex : GoodIn wsX1_coefficient (wsV RX1 58 RX1 yX1_isIndex wsX1_isIndex) := goodIn_app (goodIn_of _ (by decide +kernel)) ggX1_coefficient_X1_isIndex
set_option maxRecDepth 20000 in
theorem ggX1_coefficient_X1_at : GoodIn wsX1_coefficient wsX1_at := goodIn_r _ [11] (by decide +kernel) (by decide +kernel)
set_option maxRecDepth 20000 in
theorem gX1_coefficient_X1_at : GoodIn wsX1_coefficient (va_wsS RX1 48 yX1_at wsX1_at) := goodIn_app (goodIn_of _ (by decide +kernel)) ggX1_coefficient_X1_at
set_option maxRecDepth 20000 in
theorem ggX1_coefficient_X1_fail : GoodIn wsX1_coefficient wsX1_fail := goodIn_r _ [15, 1, 16, 17, 18, 19, 20, 21, 22, 23, 24, 25, 26, 27, 28] (by decide +kernel) (by decide +kernel)
set_option maxRecDepth 20000 in
theorem gX1_coefficient_X1_fail : GoodIn wsX1_coefficient (wsV RX1 54 RX1 yX1_fail wsX1_fail) := goodIn_app (goodIn_of _ (by decide +kernel)) ggX1_coefficient_X1_fail
theorem dX1_coefficient_0 : decode cX1_coefficient 0 = .ok (.aload_n 0, 1) := by decide +kernel
theorem dX1_coefficient_1 : decode cX1_coefficient 1 = .ok (.iconst 0, 1) := by decide +kernel
theorem dX1_coefficient_2 : decode cX1_coefficient 2 = .ok (.putfield 45, 3) := by decide +kernel
theorem dX1_coefficient_5 : decode cX1_coefficient 5 = .ok (.aload_n 0, 1) := by decide +kernel
theorem dX1_coefficient_6 : decode cX1_coefficient 6 = .ok (.iload_n 1, 1) := by decide +kernel
theorem dX1_coefficient_7 : decode cX1_coefficient 7 = .ok (.invokevirtual 58, 3) := by decide +kernel
theorem dX1_coefficient_10 : decode cX1_coefficient 10 = .ok (.ifCond .eq 24, 3) := by decide +kernel
theorem dX1_coefficient_13 : decode cX1_coefficient 13 = .ok (.aload_n 0, 1) := by decide +kernel
theorem dX1_coefficient_14 : decode cX1_coefficient 14 = .ok (.iload_n 2, 1) := by decide +kernel
theorem dX1_coefficient_15 : decode cX1_coefficient 15 = .ok (.invokevirtual 58, 3) := by decide +kernel
theorem dX1_coefficient_18 : decode cX1_coefficient 18 = .ok (.ifCond .eq 16, 3) := by decide +kernel
theorem dX1_coefficient_21 : decode cX1_coefficient 21 = .ok (.aload_n 0, 1) := by decide +kernel
theorem dX1_coefficient_22 : decode cX1_coefficient 22 = .ok (.getfield 13, 3) := by decide +kernel
theorem dX1_coefficient_25 : decode cX1_coefficient 25 = .ok (.iload_n 1, 1) := by decide +kernel
theorem dX1_coefficient_26 : decode cX1_coefficient 26 = .ok (.iload_n 2, 1) := by decide +kernel
theorem dX1_coefficient_27 : decode cX1_coefficient 27 = .ok (.invokestatic 48, 3) := by decide +kernel
theorem dX1_coefficient_30 : decode cX1_coefficient 30 = .ok (.iaload, 1) := by decide +kernel
theorem dX1_coefficient_31 : decode cX1_coefficient 31 = .ok (.goto 8, 3) := by decide +kernel
theorem dX1_coefficient_34 : decode cX1_coefficient 34 = .ok (.aload_n 0, 1) := by decide +kernel
theorem dX1_coefficient_35 : decode cX1_coefficient 35 = .ok (.iconst 1, 1) := by decide +kernel
theorem dX1_coefficient_36 : decode cX1_coefficient 36 = .ok (.invokevirtual 54, 3) := by decide +kernel
theorem dX1_coefficient_39 : decode cX1_coefficient 39 = .ok (.ireturn, 1) := by decide +kernel
set_option maxRecDepth 20000 in
theorem ggX1_setRight_X1_isIndex : GoodIn wsX1_setRight wsX1_isIndex := goodIn_r _ [8, 9, 14, 15, 16, 17, 18, 19, 20, 21, 22, 23, 24, 25, 26] (by decide +kernel) (by decide +kernel)
set_option maxRecDepth 20000 in
theorem gX1_setRight_X1_isIndex : GoodIn wsX1_setRight (wsV RX1 58 RX1 yX1_isIndex wsX1_isIndex) := goodIn_app (goodIn_of _ (by decide +kernel)) ggX1_setRight_X1_isIndex
set_option maxRecDepth 20000 in
theorem ggX1_setRight_X1_fail : GoodIn wsX1_setRight wsX1_fail := goodIn_r _ [13, 1, 14, 15, 16, 17, 18, 19, 20, 21, 22, 23, 24, 25, 26] (by decide +kernel) (by decide +kernel)
set_option maxRecDepth 20000 in
theorem gX1_setRight_X1_fail : GoodIn wsX1_setRight (wsV RX1 54 RX1 yX1_fail wsX1_fail) := goodIn_app (goodIn_of _ (by decide +kernel)) ggX1_setRight_X1_fail
theorem dX1_setRight_0 : decode cX1_setRight 0 = .ok (.aload_n 0, 1) := by decide +kernel
theorem dX1_setRight_1 : decode cX1_setRight 1 = .ok (.iconst 0, 1) := by decide +kernel
theorem dX1_setRight_2 : decode cX1_setRight 2 = .ok (.putfield 45, 3) := by decide +kernel
theorem dX1_setRight_5 : decode cX1_setRight 5 = .ok (.aload_n 0, 1) := by decide +kernel
theorem dX1_setRight_6 : decode cX1_setRight 6 = .ok (.iload_n 1, 1) := by decide +kernel
theorem dX1_setRight_7 : decode cX1_setRight 7 = .ok (.invokevirtual 58, 3) := by decide +kernel
theorem dX1_setRight_10 : decode cX1_setRight 10 = .ok (.ifCond .ne 17, 3) := by decide +kernel
theorem dX1_setRight_13 : decode cX1_setRight 13 = .ok (.aload_n 0, 1) := by decide +kernel
theorem dX1_setRight_14 : decode cX1_setRight 14 = .ok (.iconst 1, 1) := by decide +kernel
theorem dX1_setRight_15 : decode cX1_setRight 15 = .ok (.invokevirtual 54, 3) := by decide +kernel
theorem dX1_setRight_18 : decode cX1_setRight 18 = .ok (.ifCond .eq 7, 3) := by decide +kernel
theorem dX1_setRight_21 : decode cX1_setRight 21 = .ok (.iconst 1, 1) := by decide +kernel
theorem dX1_setRight_22 : decode cX1_setRight 22 = .ok (.goto 4, 3) := by decide +kernel
theorem dX1_setRight_25 : decode cX1_setRight 25 = .ok (.iconst 0, 1) := by decide +kernel
theorem dX1_setRight_26 : decode cX1_setRight 26 = .ok (.ireturn, 1) := by decide +kernel
theorem dX1_setRight_27 : decode cX1_setRight 27 = .ok (.iload_n 2, 1) := by decide +kernel
theorem dX1_setRight_28 : decode cX1_setRight 28 = .ok (.sipush (-999), 3) := by decide +kernel
theorem dX1_setRight_31 : decode cX1_setRight 31 = .ok (.if_icmp .lt 15, 3) := by decide +kernel
theorem dX1_setRight_34 : decode cX1_setRight 34 = .ok (.iload_n 3, 1) := by decide +kernel
theorem dX1_setRight_35 : decode cX1_setRight 35 = .ok (.sipush 999, 3) := by decide +kernel
theorem dX1_setRight_38 : decode cX1_setRight 38 = .ok (.if_icmp .gt 8, 3) := by decide +kernel
theorem dX1_setRight_41 : decode cX1_setRight 41 = .ok (.iload_n 2, 1) := by decide +kernel
theorem dX1_setRight_42 : decode cX1_setRight 42 = .ok (.iload_n 3, 1) := by decide +kernel
theorem dX1_setRight_43 : decode cX1_setRight 43 = .ok (.if_icmp .le 17, 3) := by decide +kernel
theorem dX1_setRight_46 : decode cX1_setRight 46 = .ok (.aload_n 0, 1) := by decide +kernel
theorem dX1_setRight_47 : decode cX1_setRight 47 = .ok (.iconst 2, 1) := by decide +kernel
theorem dX1_setRight_48 : decode cX1_setRight 48 = .ok (.invokevirtual 54, 3) := by decide +kernel
theorem dX1_setRight_51 : decode cX1_setRight 51 = .ok (.ifCond .eq 7, 3) := by decide +kernel
theorem dX1_setRight_54 : decode cX1_setRight 54 = .ok (.iconst 1, 1) := by decide +kernel
theorem dX1_setRight_55 : decode cX1_setRight 55 = .ok (.goto 4, 3) := by decide +kernel
theorem dX1_setRight_58 : decode cX1_setRight 58 = .ok (.iconst 0, 1) := by decide +kernel
theorem dX1_setRight_59 : decode cX1_setRight 59 = .ok (.ireturn, 1) := by decide +kernel
theorem dX1_setRight_60 : decode cX1_setRight 60 = .ok (.aload_n 0, 1) := by decide +kernel
theorem dX1_setRight_61 : decode cX1_setRight 61 = .ok (.getfield 20, 3) := by decide +kernel
theorem dX1_setRight_64 : decode cX1_setRight 64 = .ok (.iload_n 1, 1) := by decide +kernel
theorem dX1_setRight_65 : decode cX1_setRight 65 = .ok (.iaload, 1) := by decide +kernel
theorem dX1_setRight_66 : decode cX1_setRight 66 = .ok (.iload_n 2, 1) := by decide +kernel
theorem dX1_setRight_67 : decode cX1_setRight 67 = .ok (.if_icmp .ne 13, 3) := by decide +kernel
theorem dX1_setRight_70 : decode cX1_setRight 70 = .ok (.aload_n 0, 1) := by decide +kernel
theorem dX1_setRight_71 : decode cX1_setRight 71 = .ok (.getfield 23, 3) := by decide +kernel
theorem dX1_setRight_74 : decode cX1_setRight 74 = .ok (.iload_n 1, 1) := by decide +kernel
theorem dX1_setRight_75 : decode cX1_setRight 75 = .ok (.iaload, 1) := by decide +kernel
theorem dX1_setRight_76 : decode cX1_setRight 76 = .ok (.iload_n 3, 1) := by decide +kernel
theorem dX1_setRight_77 : decode cX1_setRight 77 = .ok (.if_icmp .eq 7, 3) := by decide +kernel
theorem dX1_setRight_80 : decode cX1_setRight 80 = .ok (.iconst 1, 1) := by decide +kernel
theorem dX1_setRight_81 : decode cX1_setRight 81 = .ok (.goto 4, 3) := by decide +kernel
theorem dX1_setRight_84 : decode cX1_setRight 84 = .ok (.iconst 0, 1) := by decide +kernel
theorem dX1_setRight_85 : decode cX1_setRight 85 = .ok (.istore 4, 2) := by decide +kernel
theorem dX1_setRight_87 : decode cX1_setRight 87 = .ok (.aload_n 0, 1) := by decide +kernel
theorem dX1_setRight_88 : decode cX1_setRight 88 = .ok (.getfield 20, 3) := by decide +kernel
theorem dX1_setRight_91 : decode cX1_setRight 91 = .ok (.iload_n 1, 1) := by decide +kernel
theorem dX1_setRight_92 : decode cX1_setRight 92 = .ok (.iload_n 2, 1) := by decide +kernel
theorem dX1_setRight_93 : decode cX1_setRight 93 = .ok (.iastore, 1) := by decide +kernel
theorem dX1_setRight_94 : decode cX1_setRight 94 = .ok (.aload_n 0, 1) := by decide +kernel
theorem dX1_setRight_95 : decode cX1_setRight 95 = .ok (.getfield 23, 3) := by decide +kernel
theorem dX1_setRight_98 : decode cX1_setRight 98 = .ok (.iload_n 1, 1) := by decide +kernel
theorem dX1_setRight_99 : decode cX1_setRight 99 = .ok (.iload_n 3, 1) := by decide +kernel
theorem dX1_setRight_100 : decode cX1_setRight 100 = .ok (.iastore, 1) := by decide +kernel
theorem dX1_setRight_101 : decode cX1_setRight 101 = .ok (.iload 4, 2) := by decide +kernel
theorem dX1_setRight_103 : decode cX1_setRight 103 = .ok (.ireturn, 1) := by decide +kernel
set_option maxRecDepth 20000 in
theorem ggX1_rightLow_X1_isIndex : GoodIn wsX1_rightLow wsX1_isIndex := goodIn_r _ [7, 8, 13, 14, 15, 16, 17, 18, 19, 20, 21, 22, 23, 24, 25] (by decide +kernel) (by decide +kernel)
set_option maxRecDepth 20000 in
theorem gX1_rightLow_X1_isIndex : GoodIn wsX1_rightLow (wsV RX1 58 RX1 yX1_isIndex wsX1_isIndex) := goodIn_app (goodIn_of _ (by decide +kernel)) ggX1_rightLow_X1_isIndex
set_option maxRecDepth 20000 in
theorem ggX1_rightLow_X1_fail : GoodIn wsX1_rightLow wsX1_fail := goodIn_r _ [12, 1, 13, 14, 15, 16, 17, 18, 19, 20, 21, 22, 23, 24, 25] (by decide +kernel) (by decide +kernel)
set_option maxRecDepth 20000 in
theorem gX1_rightLow_X1_fail : GoodIn wsX1_rightLow (wsV RX1 54 RX1 yX1_fail wsX1_fail) := goodIn_app (goodIn_of _ (by decide +kernel)) ggX1_rightLow_X1_fail
theorem dX1_rightLow_0 : decode cX1_rightLow 0 = .ok (.aload_n 0, 1) := by decide +kernel
theorem dX1_rightLow_1 : decode cX1_rightLow 1 = .ok (.iconst 0, 1) := by decide +kernel
theorem dX1_rightLow_2 : decode cX1_rightLow 2 = .ok (.putfield 45, 3) := by decide +kernel
theorem dX1_rightLow_5 : decode cX1_rightLow 5 = .ok (.aload_n 0, 1) := by decide +kernel
theorem dX1_rightLow_6 : decode cX1_rightLow 6 = .ok (.iload_n 1, 1) := by decide +kernel
theorem dX1_rightLow_7 : decode cX1_rightLow 7 = .ok (.invokevirtual 58, 3) := by decide +kernel
theorem dX1_rightLow_10 : decode cX1_rightLow 10 = .ok (.ifCond .eq 12, 3) := by decide +kernel
theorem dX1_rightLow_13 : decode cX1_rightLow 13 = .ok (.aload_n 0, 1) := by decide +kernel
theorem dX1_rightLow_14 : decode cX1_rightLow 14 = .ok (.getfield 20, 3) := by decide +kernel
theorem dX1_rightLow_17 : decode cX1_rightLow 17 = .ok (.iload_n 1, 1) := by decide +kernel
theorem dX1_rightLow_18 : decode cX1_rightLow 18 = .ok (.iaload, 1) := by decide +kernel
theorem dX1_rightLow_19 : decode cX1_rightLow 19 = .ok (.goto 8, 3) := by decide +kernel
theorem dX1_rightLow_22 : decode cX1_rightLow 22 = .ok (.aload_n 0, 1) := by decide +kernel
theorem dX1_rightLow_23 : decode cX1_rightLow 23 = .ok (.iconst 1, 1) := by decide +kernel
theorem dX1_rightLow_24 : decode cX1_rightLow 24 = .ok (.invokevirtual 54, 3) := by decide +kernel
theorem dX1_rightLow_27 : decode cX1_rightLow 27 = .ok (.ireturn, 1) := by decide +kernel
set_option maxRecDepth 20000 in
theorem ggX1_rightHigh_X1_isIndex : GoodIn wsX1_rightHigh wsX1_isIndex := goodIn_r _ [7, 8, 13, 14, 15, 16, 17, 18, 19, 20, 21, 22, 23, 24, 25] (by decide +kernel) (by decide +kernel)
set_option maxRecDepth 20000 in
theorem gX1_rightHigh_X1_isIndex : GoodIn wsX1_rightHigh (wsV RX1 58 RX1 yX1_isIndex wsX1_isIndex) := goodIn_app (goodIn_of _ (by decide +kernel)) ggX1_rightHigh_X1_isIndex
set_option maxRecDepth 20000 in
theorem ggX1_rightHigh_X1_fail : GoodIn wsX1_rightHigh wsX1_fail := goodIn_r _ [12, 1, 13, 14, 15, 16, 17, 18, 19, 20, 21, 22, 23, 24, 25] (by decide +kernel) (by decide +kernel)
set_option maxRecDepth 20000 in
theorem gX1_rightHigh_X1_fail : GoodIn wsX1_rightHigh (wsV RX1 54 RX1 yX1_fail wsX1_fail) := goodIn_app (goodIn_of _ (by decide +kernel)) ggX1_rightHigh_X1_fail
theorem dX1_rightHigh_0 : decode cX1_rightHigh 0 = .ok (.aload_n 0, 1) := by decide +kernel
theorem dX1_rightHigh_1 : decode cX1_rightHigh 1 = .ok (.iconst 0, 1) := by decide +kernel
theorem dX1_rightHigh_2 : decode cX1_rightHigh 2 = .ok (.putfield 45, 3) := by decide +kernel
theorem dX1_rightHigh_5 : decode cX1_rightHigh 5 = .ok (.aload_n 0, 1) := by decide +kernel
theorem dX1_rightHigh_6 : decode cX1_rightHigh 6 = .ok (.iload_n 1, 1) := by decide +kernel
theorem dX1_rightHigh_7 : decode cX1_rightHigh 7 = .ok (.invokevirtual 58, 3) := by decide +kernel
theorem dX1_rightHigh_10 : decode cX1_rightHigh 10 = .ok (.ifCond .eq 12, 3) := by decide +kernel
theorem dX1_rightHigh_13 : decode cX1_rightHigh 13 = .ok (.aload_n 0, 1) := by decide +kernel
theorem dX1_rightHigh_14 : decode cX1_rightHigh 14 = .ok (.getfield 23, 3) := by decide +kernel
theorem dX1_rightHigh_17 : decode cX1_rightHigh 17 = .ok (.iload_n 1, 1) := by decide +kernel
theorem dX1_rightHigh_18 : decode cX1_rightHigh 18 = .ok (.iaload, 1) := by decide +kernel
theorem dX1_rightHigh_19 : decode cX1_rightHigh 19 = .ok (.goto 8, 3) := by decide +kernel
theorem dX1_rightHigh_22 : decode cX1_rightHigh 22 = .ok (.aload_n 0, 1) := by decide +kernel
theorem dX1_rightHigh_23 : decode cX1_rightHigh 23 = .ok (.iconst 1, 1) := by decide +kernel
theorem dX1_rightHigh_24 : decode cX1_rightHigh 24 = .ok (.invokevirtual 54, 3) := by decide +kernel
theorem dX1_rightHigh_27 : decode cX1_rightHigh 27 = .ok (.ireturn, 1) := by decide +kernel
set_option maxRecDepth 20000 in
theorem ggX1_setSpread_X1_isIndex : GoodIn wsX1_setSpread wsX1_isIndex := goodIn_r _ [7, 8, 16, 17, 18, 19, 20, 21, 22, 23, 24, 25, 26, 27, 28] (by decide +kernel) (by decide +kernel)
set_option maxRecDepth 20000 in
theorem gX1_setSpread_X1_isIndex : GoodIn wsX1_setSpread (wsV RX1 58 RX1 yX1_isIndex wsX1_isIndex) := goodIn_app (goodIn_of _ (by decide +kernel)) ggX1_setSpread_X1_isIndex
set_option maxRecDepth 20000 in
theorem ggX1_setSpread_X1_fail : GoodIn wsX1_setSpread wsX1_fail := goodIn_r _ [12, 1, 16, 17, 18, 19, 20, 21, 22, 23, 24, 25, 26, 27, 28] (by decide +kernel) (by decide +kernel)
set_option maxRecDepth 20000 in
theorem gX1_setSpread_X1_fail : GoodIn wsX1_setSpread (wsV RX1 54 RX1 yX1_fail wsX1_fail) := goodIn_app (goodIn_of _ (by decide +kernel)) ggX1_setSpread_X1_fail
set_option maxRecDepth 20000 in
theorem ggX1_setSpread_X1_at : GoodIn wsX1_setSpread wsX1_at := goodIn_r _ [15] (by decide +kernel) (by decide +kernel)
set_option maxRecDepth 20000 in
theorem gX1_setSpread_X1_at : GoodIn wsX1_setSpread (va_wsS RX1 48 yX1_at wsX1_at) := goodIn_app (goodIn_of _ (by decide +kernel)) ggX1_setSpread_X1_at
theorem dX1_setSpread_0 : decode cX1_setSpread 0 = .ok (.aload_n 0, 1) := by decide +kernel
theorem dX1_setSpread_1 : decode cX1_setSpread 1 = .ok (.iconst 0, 1) := by decide +kernel
theorem dX1_setSpread_2 : decode cX1_setSpread 2 = .ok (.putfield 45, 3) := by decide +kernel
theorem dX1_setSpread_5 : decode cX1_setSpread 5 = .ok (.aload_n 0, 1) := by decide +kernel
theorem dX1_setSpread_6 : decode cX1_setSpread 6 = .ok (.iload_n 1, 1) := by decide +kernel
theorem dX1_setSpread_7 : decode cX1_setSpread 7 = .ok (.invokevirtual 58, 3) := by decide +kernel
theorem dX1_setSpread_10 : decode cX1_setSpread 10 = .ok (.ifCond .eq 11, 3) := by decide +kernel
theorem dX1_setSpread_13 : decode cX1_setSpread 13 = .ok (.aload_n 0, 1) := by decide +kernel
theorem dX1_setSpread_14 : decode cX1_setSpread 14 = .ok (.iload_n 2, 1) := by decide +kernel
theorem dX1_setSpread_15 : decode cX1_setSpread 15 = .ok (.invokevirtual 58, 3) := by decide +kernel
theorem dX1_setSpread_18 : decode cX1_setSpread 18 = .ok (.ifCond .ne 9, 3) := by decide +kernel
theorem dX1_setSpread_21 : decode cX1_setSpread 21 = .ok (.aload_n 0, 1) := by decide +kernel
theorem dX1_setSpread_22 : decode cX1_setSpread 22 = .ok (.iconst 1, 1) := by decide +kernel
theorem dX1_setSpread_23 : decode cX1_setSpread 23 = .ok (.invokevirtual 54, 3) := by decide +kernel
theorem dX1_setSpread_26 : decode cX1_setSpread 26 = .ok (.ireturn, 1) := by decide +kernel
theorem dX1_setSpread_27 : decode cX1_setSpread 27 = .ok (.iload_n 3, 1) := by decide +kernel
theorem dX1_setSpread_28 : decode cX1_setSpread 28 = .ok (.ifCond .lt 9, 3) := by decide +kernel
theorem dX1_setSpread_31 : decode cX1_setSpread 31 = .ok (.iload_n 3, 1) := by decide +kernel
theorem dX1_setSpread_32 : decode cX1_setSpread 32 = .ok (.bipush 50, 2) := by decide +kernel
theorem dX1_setSpread_34 : decode cX1_setSpread 34 = .ok (.if_icmp .le 9, 3) := by decide +kernel
theorem dX1_setSpread_37 : decode cX1_setSpread 37 = .ok (.aload_n 0, 1) := by decide +kernel
theorem dX1_setSpread_38 : decode cX1_setSpread 38 = .ok (.iconst 2, 1) := by decide +kernel
theorem dX1_setSpread_39 : decode cX1_setSpread 39 = .ok (.invokevirtual 54, 3) := by decide +kernel
theorem dX1_setSpread_42 : decode cX1_setSpread 42 = .ok (.ireturn, 1) := by decide +kernel
theorem dX1_setSpread_43 : decode cX1_setSpread 43 = .ok (.aload_n 0, 1) := by decide +kernel
theorem dX1_setSpread_44 : decode cX1_setSpread 44 = .ok (.getfield 17, 3) := by decide +kernel
theorem dX1_setSpread_47 : decode cX1_setSpread 47 = .ok (.iload_n 1, 1) := by decide +kernel
theorem dX1_setSpread_48 : decode cX1_setSpread 48 = .ok (.iload_n 2, 1) := by decide +kernel
theorem dX1_setSpread_49 : decode cX1_setSpread 49 = .ok (.invokestatic 48, 3) := by decide +kernel
theorem dX1_setSpread_52 : decode cX1_setSpread 52 = .ok (.iaload, 1) := by decide +kernel
theorem dX1_setSpread_53 : decode cX1_setSpread 53 = .ok (.istore 4, 2) := by decide +kernel
theorem dX1_setSpread_55 : decode cX1_setSpread 55 = .ok (.aload_n 0, 1) := by decide +kernel
theorem dX1_setSpread_56 : decode cX1_setSpread 56 = .ok (.getfield 17, 3) := by decide +kernel
theorem dX1_setSpread_59 : decode cX1_setSpread 59 = .ok (.iload_n 1, 1) := by decide +kernel
theorem dX1_setSpread_60 : decode cX1_setSpread 60 = .ok (.iload_n 2, 1) := by decide +kernel
theorem dX1_setSpread_61 : decode cX1_setSpread 61 = .ok (.invokestatic 48, 3) := by decide +kernel
theorem dX1_setSpread_64 : decode cX1_setSpread 64 = .ok (.iload_n 3, 1) := by decide +kernel
theorem dX1_setSpread_65 : decode cX1_setSpread 65 = .ok (.iastore, 1) := by decide +kernel
theorem dX1_setSpread_66 : decode cX1_setSpread 66 = .ok (.iload 4, 2) := by decide +kernel
theorem dX1_setSpread_68 : decode cX1_setSpread 68 = .ok (.ireturn, 1) := by decide +kernel
theorem dX1_swap_0 : decode cX1_swap 0 = .ok (.aload_n 0, 1) := by decide +kernel
theorem dX1_swap_1 : decode cX1_swap 1 = .ok (.iload_n 1, 1) := by decide +kernel
theorem dX1_swap_2 : decode cX1_swap 2 = .ok (.iaload, 1) := by decide +kernel
theorem dX1_swap_3 : decode cX1_swap 3 = .ok (.istore_n 3, 1) := by decide +kernel
theorem dX1_swap_4 : decode cX1_swap 4 = .ok (.aload_n 0, 1) := by decide +kernel
theorem dX1_swap_5 : decode cX1_swap 5 = .ok (.iload_n 1, 1) := by decide +kernel
theorem dX1_swap_6 : decode cX1_swap 6 = .ok (.aload_n 0, 1) := by decide +kernel
theorem dX1_swap_7 : decode cX1_swap 7 = .ok (.iload_n 2, 1) := by decide +kernel
theorem dX1_swap_8 : decode cX1_swap 8 = .ok (.iaload, 1) := by decide +kernel
theorem dX1_swap_9 : decode cX1_swap 9 = .ok (.iastore, 1) := by decide +kernel
theorem dX1_swap_10 : decode cX1_swap 10 = .ok (.aload_n 0, 1) := by decide +kernel
theorem dX1_swap_11 : decode cX1_swap 11 = .ok (.iload_n 2, 1) := by decide +kernel
theorem dX1_swap_12 : decode cX1_swap 12 = .ok (.iload_n 3, 1) := by decide +kernel
theorem dX1_swap_13 : decode cX1_swap 13 = .ok (.iastore, 1) := by decide +kernel
theorem dX1_swap_14 : decode cX1_swap 14 = .ok (.return_, 1) := by decide +kernel
set_option maxRecDepth 20000 in
theorem ggX1_swapRows_X1_isIndex : GoodIn wsX1_swapRows wsX1_isIndex := goodIn_r _ [11, 2, 22, 23, 24, 25, 26, 27, 28, 29, 30, 31, 32, 33, 34] (by decide +kernel) (by decide +kernel)
set_option maxRecDepth 20000 in
theorem gX1_swapRows_X1_isIndex : GoodIn wsX1_swapRows (wsV RX1 58 RX1 yX1_isIndex wsX1_isIndex) := goodIn_app (goodIn_of _ (by decide +kernel)) ggX1_swapRows_X1_isIndex
set_option maxRecDepth 20000 in
theorem ggX1_swapRows_X1_fail : GoodIn wsX1_swapRows wsX1_fail := goodIn_r _ [15, 1, 22, 23, 24, 25, 26, 27, 28, 29, 30, 31, 32, 33, 34] (by decide +kernel) (by decide +kernel)
set_option maxRecDepth 20000 in
theorem gX1_swapRows_X1_fail : GoodIn wsX1_swapRows (wsV RX1 54 RX1 yX1_fail wsX1_fail) := goodIn_app (goodIn_of _ (by decide +kernel)) ggX1_swapRows_X1_fail
set_option maxRecDepth 20000 in
theorem ggX1_swapRows_X1_at : GoodIn wsX1_swapRows wsX1_at := goodIn_r _ [18] (by decide +kernel) (by decide +kernel)
set_option maxRecDepth 20000 in
theorem gX1_swapRows_X1_at : GoodIn wsX1_swapRows (va_wsS RX1 48 yX1_at wsX1_at) := goodIn_app (goodIn_of _ (by decide +kernel)) ggX1_swapRows_X1_at
set_option maxRecDepth 20000 in
theorem ggX1_swapRows_X1_swap : GoodIn wsX1_swapRows wsX1_swap := goodIn_ca (goodIn_r _ [21] (by decide +kernel) (by decide +kernel)) (goodIn_sub (fun _ h => List.mem_cons_of_mem _ (List.mem_append_right _ h)) (by decide +kernel))
set_option maxRecDepth 20000 in
theorem gX1_swapRows_X1_swap : GoodIn wsX1_swapRows (va_wsS RX1 62 yX1_swap wsX1_swap) := goodIn_app (goodIn_of _ (by decide +kernel)) ggX1_swapRows_X1_swap
theorem dX1_swapRows_0 : decode cX1_swapRows 0 = .ok (.aload_n 0, 1) := by decide +kernel
theorem dX1_swapRows_1 : decode cX1_swapRows 1 = .ok (.iconst 0, 1) := by decide +kernel
theorem dX1_swapRows_2 : decode cX1_swapRows 2 = .ok (.putfield 45, 3) := by decide +kernel
theorem dX1_swapRows_5 : decode cX1_swapRows 5 = .ok (.aload_n 0, 1) := by decide +kernel
theorem dX1_swapRows_6 : decode cX1_swapRows 6 = .ok (.iload_n 1, 1) := by decide +kernel
theorem dX1_swapRows_7 : decode cX1_swapRows 7 = .ok (.invokevirtual 58, 3) := by decide +kernel
theorem dX1_swapRows_10 : decode cX1_swapRows 10 = .ok (.ifCond .eq 11, 3) := by decide +kernel
theorem dX1_swapRows_13 : decode cX1_swapRows 13 = .ok (.aload_n 0, 1) := by decide +kernel
theorem dX1_swapRows_14 : decode cX1_swapRows 14 = .ok (.iload_n 2, 1) := by decide +kernel
theorem dX1_swapRows_15 : decode cX1_swapRows 15 = .ok (.invokevirtual 58, 3) := by decide +kernel
theorem dX1_swapRows_18 : decode cX1_swapRows 18 = .ok (.ifCond .ne 17, 3) := by decide +kernel
theorem dX1_swapRows_21 : decode cX1_swapRows 21 = .ok (.aload_n 0, 1) := by decide +kernel
theorem dX1_swapRows_22 : decode cX1_swapRows 22 = .ok (.iconst 1, 1) := by decide +kernel
theorem dX1_swapRows_23 : decode cX1_swapRows 23 = .ok (.invokevirtual 54, 3) := by decide +kernel
theorem dX1_swapRows_26 : decode cX1_swapRows 26 = .ok (.ifCond .eq 7, 3) := by decide +kernel
theorem dX1_swapRows_29 : decode cX1_swapRows 29 = .ok (.iconst 1, 1) := by decide +kernel
theorem dX1_swapRows_30 : decode cX1_swapRows 30 = .ok (.goto 4, 3) := by decide +kernel
theorem dX1_swapRows_33 : decode cX1_swapRows 33 = .ok (.iconst 0, 1) := by decide +kernel
theorem dX1_swapRows_34 : decode cX1_swapRows 34 = .ok (.ireturn, 1) := by decide +kernel
theorem dX1_swapRows_35 : decode cX1_swapRows 35 = .ok (.iconst 0, 1) := by decide +kernel
theorem dX1_swapRows_36 : decode cX1_swapRows 36 = .ok (.istore_n 3, 1) := by decide +kernel
theorem dX1_swapRows_37 : decode cX1_swapRows 37 = .ok (.iload_n 3, 1) := by decide +kernel
theorem dX1_swapRows_38 : decode cX1_swapRows 38 = .ok (.aload_n 0, 1) := by decide +kernel
theorem dX1_swapRows_39 : decode cX1_swapRows 39 = .ok (.getfield 7, 3) := by decide +kernel
theorem dX1_swapRows_42 : decode cX1_swapRows 42 = .ok (.if_icmp .ge 43, 3) := by decide +kernel
theorem dX1_swapRows_45 : decode cX1_swapRows 45 = .ok (.aload_n 0, 1) := by decide +kernel
theorem dX1_swapRows_46 : decode cX1_swapRows 46 = .ok (.getfield 13, 3) := by decide +kernel
theorem dX1_swapRows_49 : decode cX1_swapRows 49 = .ok (.iload_n 1, 1) := by decide +kernel
theorem dX1_swapRows_50 : decode cX1_swapRows 50 = .ok (.iload_n 3, 1) := by decide +kernel
theorem dX1_swapRows_51 : decode cX1_swapRows 51 = .ok (.invokestatic 48, 3) := by decide +kernel
theorem dX1_swapRows_54 : decode cX1_swapRows 54 = .ok (.iload_n 2, 1) := by decide +kernel
theorem dX1_swapRows_55 : decode cX1_swapRows 55 = .ok (.iload_n 3, 1) := by decide +kernel
theorem dX1_swapRows_56 : decode cX1_swapRows 56 = .ok (.invokestatic 48, 3) := by decide +kernel
theorem dX1_swapRows_59 : decode cX1_swapRows 59 = .ok (.invokestatic 62, 3) := by decide +kernel
theorem dX1_swapRows_62 : decode cX1_swapRows 62 = .ok (.aload_n 0, 1) := by decide +kernel
theorem dX1_swapRows_63 : decode cX1_swapRows 63 = .ok (.getfield 17, 3) := by decide +kernel
theorem dX1_swapRows_66 : decode cX1_swapRows 66 = .ok (.iload_n 1, 1) := by decide +kernel
theorem dX1_swapRows_67 : decode cX1_swapRows 67 = .ok (.iload_n 3, 1) := by decide +kernel
theorem dX1_swapRows_68 : decode cX1_swapRows 68 = .ok (.invokestatic 48, 3) := by decide +kernel
theorem dX1_swapRows_71 : decode cX1_swapRows 71 = .ok (.iload_n 2, 1) := by decide +kernel
theorem dX1_swapRows_72 : decode cX1_swapRows 72 = .ok (.iload_n 3, 1) := by decide +kernel
theorem dX1_swapRows_73 : decode cX1_swapRows 73 = .ok (.invokestatic 48, 3) := by decide +kernel
theorem dX1_swapRows_76 : decode cX1_swapRows 76 = .ok (.invokestatic 62, 3) := by decide +kernel
theorem dX1_swapRows_79 : decode cX1_swapRows 79 = .ok (.iinc 3 1, 3) := by decide +kernel
theorem dX1_swapRows_82 : decode cX1_swapRows 82 = .ok (.goto (-45), 3) := by decide +kernel
theorem dX1_swapRows_85 : decode cX1_swapRows 85 = .ok (.aload_n 0, 1) := by decide +kernel
theorem dX1_swapRows_86 : decode cX1_swapRows 86 = .ok (.getfield 20, 3) := by decide +kernel
theorem dX1_swapRows_89 : decode cX1_swapRows 89 = .ok (.iload_n 1, 1) := by decide +kernel
theorem dX1_swapRows_90 : decode cX1_swapRows 90 = .ok (.iload_n 2, 1) := by decide +kernel
theorem dX1_swapRows_91 : decode cX1_swapRows 91 = .ok (.invokestatic 62, 3) := by decide +kernel
theorem dX1_swapRows_94 : decode cX1_swapRows 94 = .ok (.aload_n 0, 1) := by decide +kernel
theorem dX1_swapRows_95 : decode cX1_swapRows 95 = .ok (.getfield 23, 3) := by decide +kernel
theorem dX1_swapRows_98 : decode cX1_swapRows 98 = .ok (.iload_n 1, 1) := by decide +kernel
theorem dX1_swapRows_99 : decode cX1_swapRows 99 = .ok (.iload_n 2, 1) := by decide +kernel
theorem dX1_swapRows_100 : decode cX1_swapRows 100 = .ok (.invokestatic 62, 3) := by decide +kernel
theorem dX1_swapRows_103 : decode cX1_swapRows 103 = .ok (.iload_n 1, 1) := by decide +kernel
theorem dX1_swapRows_104 : decode cX1_swapRows 104 = .ok (.iload_n 2, 1) := by decide +kernel
theorem dX1_swapRows_105 : decode cX1_swapRows 105 = .ok (.if_icmp .eq 7, 3) := by decide +kernel
theorem dX1_swapRows_108 : decode cX1_swapRows 108 = .ok (.iconst 1, 1) := by decide +kernel
theorem dX1_swapRows_109 : decode cX1_swapRows 109 = .ok (.goto 4, 3) := by decide +kernel
theorem dX1_swapRows_112 : decode cX1_swapRows 112 = .ok (.iconst 0, 1) := by decide +kernel
theorem dX1_swapRows_113 : decode cX1_swapRows 113 = .ok (.ireturn, 1) := by decide +kernel
set_option maxRecDepth 20000 in
theorem ggX1_addRow_X1_isIndex : GoodIn wsX1_addRow wsX1_isIndex := goodIn_r _ [20, 11, 28, 29, 30, 31, 32, 33, 34, 35, 36, 37, 38, 39, 40] (by decide +kernel) (by decide +kernel)
set_option maxRecDepth 20000 in
theorem gX1_addRow_X1_isIndex : GoodIn wsX1_addRow (wsV RX1 58 RX1 yX1_isIndex wsX1_isIndex) := goodIn_app (goodIn_of _ (by decide +kernel)) ggX1_addRow_X1_isIndex
set_option maxRecDepth 20000 in
theorem ggX1_addRow_X1_fail : GoodIn wsX1_addRow wsX1_fail := goodIn_r _ [24, 1, 28, 29, 30, 31, 32, 33, 34, 35, 36, 37, 38, 39, 40] (by decide +kernel) (by decide +kernel)
set_option maxRecDepth 20000 in
theorem gX1_addRow_X1_fail : GoodIn wsX1_addRow (wsV RX1 54 RX1 yX1_fail wsX1_fail) := goodIn_app (goodIn_of _ (by decide +kernel)) ggX1_addRow_X1_fail
set_option maxRecDepth 20000 in
theorem ggX1_addRow_X1_at : GoodIn wsX1_addRow wsX1_at := goodIn_r _ [27] (by decide +kernel) (by decide +kernel)
set_option maxRecDepth 20000 in
theorem gX1_addRow_X1_at : GoodIn wsX1_addRow (va_wsS RX1 48 yX1_at wsX1_at) := goodIn_app (goodIn_of _ (by decide +kernel)) ggX1_addRow_X1_at
theorem dX1_addRow_0 : decode cX1_addRow 0 = .ok (.aload_n 0, 1) := by decide +kernel
theorem dX1_addRow_1 : decode cX1_addRow 1 = .ok (.iconst 0, 1) := by decide +kernel
theorem dX1_addRow_2 : decode cX1_addRow 2 = .ok (.putfield 45, 3) := by decide +kernel
theorem dX1_addRow_5 : decode cX1_addRow 5 = .ok (.aload_n 0, 1) := by decide +kernel
theorem dX1_addRow_6 : decode cX1_addRow 6 = .ok (.iload_n 1, 1) := by decide +kernel
theorem dX1_addRow_7 : decode cX1_addRow 7 = .ok (.invokevirtual 58, 3) := by decide +kernel
theorem dX1_addRow_10 : decode cX1_addRow 10 = .ok (.ifCond .eq 11, 3) := by decide +kernel
theorem dX1_addRow_13 : decode cX1_addRow 13 = .ok (.aload_n 0, 1) := by decide +kernel
theorem dX1_addRow_14 : decode cX1_addRow 14 = .ok (.iload_n 2, 1) := by decide +kernel
theorem dX1_addRow_15 : decode cX1_addRow 15 = .ok (.invokevirtual 58, 3) := by decide +kernel
theorem dX1_addRow_18 : decode cX1_addRow 18 = .ok (.ifCond .ne 9, 3) := by decide +kernel
theorem dX1_addRow_21 : decode cX1_addRow 21 = .ok (.aload_n 0, 1) := by decide +kernel
theorem dX1_addRow_22 : decode cX1_addRow 22 = .ok (.iconst 1, 1) := by decide +kernel
theorem dX1_addRow_23 : decode cX1_addRow 23 = .ok (.invokevirtual 54, 3) := by decide +kernel
theorem dX1_addRow_26 : decode cX1_addRow 26 = .ok (.ireturn, 1) := by decide +kernel
theorem dX1_addRow_27 : decode cX1_addRow 27 = .ok (.iload_n 1, 1) := by decide +kernel
theorem dX1_addRow_28 : decode cX1_addRow 28 = .ok (.iload_n 2, 1) := by decide +kernel
theorem dX1_addRow_29 : decode cX1_addRow 29 = .ok (.if_icmp .eq 15, 3) := by decide +kernel
theorem dX1_addRow_32 : decode cX1_addRow 32 = .ok (.iload_n 3, 1) := by decide +kernel
theorem dX1_addRow_33 : decode cX1_addRow 33 = .ok (.bipush (-99), 2) := by decide +kernel
theorem dX1_addRow_35 : decode cX1_addRow 35 = .ok (.if_icmp .lt 9, 3) := by decide +kernel
theorem dX1_addRow_38 : decode cX1_addRow 38 = .ok (.iload_n 3, 1) := by decide +kernel
theorem dX1_addRow_39 : decode cX1_addRow 39 = .ok (.bipush 99, 2) := by decide +kernel
theorem dX1_addRow_41 : decode cX1_addRow 41 = .ok (.if_icmp .le 9, 3) := by decide +kernel
theorem dX1_addRow_44 : decode cX1_addRow 44 = .ok (.aload_n 0, 1) := by decide +kernel
theorem dX1_addRow_45 : decode cX1_addRow 45 = .ok (.iconst 2, 1) := by decide +kernel
theorem dX1_addRow_46 : decode cX1_addRow 46 = .ok (.invokevirtual 54, 3) := by decide +kernel
theorem dX1_addRow_49 : decode cX1_addRow 49 = .ok (.ireturn, 1) := by decide +kernel
theorem dX1_addRow_50 : decode cX1_addRow 50 = .ok (.aload_n 0, 1) := by decide +kernel
theorem dX1_addRow_51 : decode cX1_addRow 51 = .ok (.getfield 20, 3) := by decide +kernel
theorem dX1_addRow_54 : decode cX1_addRow 54 = .ok (.iload_n 1, 1) := by decide +kernel
theorem dX1_addRow_55 : decode cX1_addRow 55 = .ok (.iaload, 1) := by decide +kernel
theorem dX1_addRow_56 : decode cX1_addRow 56 = .ok (.iload_n 3, 1) := by decide +kernel
theorem dX1_addRow_57 : decode cX1_addRow 57 = .ok (.aload_n 0, 1) := by decide +kernel
theorem dX1_addRow_58 : decode cX1_addRow 58 = .ok (.getfield 20, 3) := by decide +kernel
theorem dX1_addRow_61 : decode cX1_addRow 61 = .ok (.iload_n 2, 1) := by decide +kernel
theorem dX1_addRow_62 : decode cX1_addRow 62 = .ok (.iaload, 1) := by decide +kernel
theorem dX1_addRow_63 : decode cX1_addRow 63 = .ok (.imul, 1) := by decide +kernel
theorem dX1_addRow_64 : decode cX1_addRow 64 = .ok (.iload_n 3, 1) := by decide +kernel
theorem dX1_addRow_65 : decode cX1_addRow 65 = .ok (.aload_n 0, 1) := by decide +kernel
theorem dX1_addRow_66 : decode cX1_addRow 66 = .ok (.getfield 23, 3) := by decide +kernel
theorem dX1_addRow_69 : decode cX1_addRow 69 = .ok (.iload_n 2, 1) := by decide +kernel
theorem dX1_addRow_70 : decode cX1_addRow 70 = .ok (.iaload, 1) := by decide +kernel
theorem dX1_addRow_71 : decode cX1_addRow 71 = .ok (.imul, 1) := by decide +kernel
theorem dX1_addRow_72 : decode cX1_addRow 72 = .ok (.invokestatic 66, 3) := by decide +kernel
theorem dX1_addRow_75 : decode cX1_addRow 75 = .ok (.iadd, 1) := by decide +kernel
theorem dX1_addRow_76 : decode cX1_addRow 76 = .ok (.istore 4, 2) := by decide +kernel
theorem dX1_addRow_78 : decode cX1_addRow 78 = .ok (.aload_n 0, 1) := by decide +kernel
theorem dX1_addRow_79 : decode cX1_addRow 79 = .ok (.getfield 23, 3) := by decide +kernel
theorem dX1_addRow_82 : decode cX1_addRow 82 = .ok (.iload_n 1, 1) := by decide +kernel
theorem dX1_addRow_83 : decode cX1_addRow 83 = .ok (.iaload, 1) := by decide +kernel
theorem dX1_addRow_84 : decode cX1_addRow 84 = .ok (.iload_n 3, 1) := by decide +kernel
theorem dX1_addRow_85 : decode cX1_addRow 85 = .ok (.aload_n 0, 1) := by decide +kernel
theorem dX1_addRow_86 : decode cX1_addRow 86 = .ok (.getfield 20, 3) := by decide +kernel
theorem dX1_addRow_89 : decode cX1_addRow 89 = .ok (.iload_n 2, 1) := by decide +kernel
theorem dX1_addRow_90 : decode cX1_addRow 90 = .ok (.iaload, 1) := by decide +kernel
theorem dX1_addRow_91 : decode cX1_addRow 91 = .ok (.imul, 1) := by decide +kernel
theorem dX1_addRow_92 : decode cX1_addRow 92 = .ok (.iload_n 3, 1) := by decide +kernel
theorem dX1_addRow_93 : decode cX1_addRow 93 = .ok (.aload_n 0, 1) := by decide +kernel
theorem dX1_addRow_94 : decode cX1_addRow 94 = .ok (.getfield 23, 3) := by decide +kernel
theorem dX1_addRow_97 : decode cX1_addRow 97 = .ok (.iload_n 2, 1) := by decide +kernel
theorem dX1_addRow_98 : decode cX1_addRow 98 = .ok (.iaload, 1) := by decide +kernel
theorem dX1_addRow_99 : decode cX1_addRow 99 = .ok (.imul, 1) := by decide +kernel
theorem dX1_addRow_100 : decode cX1_addRow 100 = .ok (.invokestatic 71, 3) := by decide +kernel
theorem dX1_addRow_103 : decode cX1_addRow 103 = .ok (.iadd, 1) := by decide +kernel
theorem dX1_addRow_104 : decode cX1_addRow 104 = .ok (.istore 5, 2) := by decide +kernel
theorem dX1_addRow_106 : decode cX1_addRow 106 = .ok (.iload 4, 2) := by decide +kernel
theorem dX1_addRow_108 : decode cX1_addRow 108 = .ok (.sipush (-999), 3) := by decide +kernel
theorem dX1_addRow_111 : decode cX1_addRow 111 = .ok (.if_icmp .lt 31, 3) := by decide +kernel
theorem dX1_addRow_114 : decode cX1_addRow 114 = .ok (.iload 5, 2) := by decide +kernel
theorem dX1_addRow_116 : decode cX1_addRow 116 = .ok (.sipush 999, 3) := by decide +kernel
theorem dX1_addRow_119 : decode cX1_addRow 119 = .ok (.if_icmp .gt 23, 3) := by decide +kernel
theorem dX1_addRow_122 : decode cX1_addRow 122 = .ok (.iload 4, 2) := by decide +kernel
theorem dX1_addRow_124 : decode cX1_addRow 124 = .ok (.sipush 999, 3) := by decide +kernel
theorem dX1_addRow_127 : decode cX1_addRow 127 = .ok (.if_icmp .gt 15, 3) := by decide +kernel
theorem dX1_addRow_130 : decode cX1_addRow 130 = .ok (.iload 5, 2) := by decide +kernel
theorem dX1_addRow_132 : decode cX1_addRow 132 = .ok (.sipush (-999), 3) := by decide +kernel
theorem dX1_addRow_135 : decode cX1_addRow 135 = .ok (.if_icmp .lt 7, 3) := by decide +kernel
theorem dX1_addRow_138 : decode cX1_addRow 138 = .ok (.iconst 1, 1) := by decide +kernel
theorem dX1_addRow_139 : decode cX1_addRow 139 = .ok (.goto 4, 3) := by decide +kernel
theorem dX1_addRow_142 : decode cX1_addRow 142 = .ok (.iconst 0, 1) := by decide +kernel
theorem dX1_addRow_143 : decode cX1_addRow 143 = .ok (.istore 6, 2) := by decide +kernel
theorem dX1_addRow_145 : decode cX1_addRow 145 = .ok (.iconst 0, 1) := by decide +kernel
theorem dX1_addRow_146 : decode cX1_addRow 146 = .ok (.istore 7, 2) := by decide +kernel
theorem dX1_addRow_148 : decode cX1_addRow 148 = .ok (.iload 7, 2) := by decide +kernel
theorem dX1_addRow_150 : decode cX1_addRow 150 = .ok (.aload_n 0, 1) := by decide +kernel
theorem dX1_addRow_151 : decode cX1_addRow 151 = .ok (.getfield 7, 3) := by decide +kernel
theorem dX1_addRow_154 : decode cX1_addRow 154 = .ok (.if_icmp .ge 54, 3) := by decide +kernel
theorem dX1_addRow_157 : decode cX1_addRow 157 = .ok (.iload 6, 2) := by decide +kernel
theorem dX1_addRow_159 : decode cX1_addRow 159 = .ok (.ifCond .eq 40, 3) := by decide +kernel
theorem dX1_addRow_162 : decode cX1_addRow 162 = .ok (.aload_n 0, 1) := by decide +kernel
theorem dX1_addRow_163 : decode cX1_addRow 163 = .ok (.getfield 13, 3) := by decide +kernel
theorem dX1_addRow_166 : decode cX1_addRow 166 = .ok (.iload_n 1, 1) := by decide +kernel
theorem dX1_addRow_167 : decode cX1_addRow 167 = .ok (.iload 7, 2) := by decide +kernel
theorem dX1_addRow_169 : decode cX1_addRow 169 = .ok (.invokestatic 48, 3) := by decide +kernel
theorem dX1_addRow_172 : decode cX1_addRow 172 = .ok (.iaload, 1) := by decide +kernel
theorem dX1_addRow_173 : decode cX1_addRow 173 = .ok (.iload_n 3, 1) := by decide +kernel
theorem dX1_addRow_174 : decode cX1_addRow 174 = .ok (.aload_n 0, 1) := by decide +kernel
theorem dX1_addRow_175 : decode cX1_addRow 175 = .ok (.getfield 13, 3) := by decide +kernel
theorem dX1_addRow_178 : decode cX1_addRow 178 = .ok (.iload_n 2, 1) := by decide +kernel
theorem dX1_addRow_179 : decode cX1_addRow 179 = .ok (.iload 7, 2) := by decide +kernel
theorem dX1_addRow_181 : decode cX1_addRow 181 = .ok (.invokestatic 48, 3) := by decide +kernel
theorem dX1_addRow_184 : decode cX1_addRow 184 = .ok (.iaload, 1) := by decide +kernel
theorem dX1_addRow_185 : decode cX1_addRow 185 = .ok (.imul, 1) := by decide +kernel
theorem dX1_addRow_186 : decode cX1_addRow 186 = .ok (.iadd, 1) := by decide +kernel
theorem dX1_addRow_187 : decode cX1_addRow 187 = .ok (.invokestatic 74, 3) := by decide +kernel
theorem dX1_addRow_190 : decode cX1_addRow 190 = .ok (.bipush 99, 2) := by decide +kernel
theorem dX1_addRow_192 : decode cX1_addRow 192 = .ok (.if_icmp .gt 7, 3) := by decide +kernel
theorem dX1_addRow_195 : decode cX1_addRow 195 = .ok (.iconst 1, 1) := by decide +kernel
theorem dX1_addRow_196 : decode cX1_addRow 196 = .ok (.goto 4, 3) := by decide +kernel
theorem dX1_addRow_199 : decode cX1_addRow 199 = .ok (.iconst 0, 1) := by decide +kernel
theorem dX1_addRow_200 : decode cX1_addRow 200 = .ok (.istore 6, 2) := by decide +kernel
theorem dX1_addRow_202 : decode cX1_addRow 202 = .ok (.iinc 7 1, 3) := by decide +kernel
theorem dX1_addRow_205 : decode cX1_addRow 205 = .ok (.goto (-57), 3) := by decide +kernel
theorem dX1_addRow_208 : decode cX1_addRow 208 = .ok (.iload 6, 2) := by decide +kernel
theorem dX1_addRow_210 : decode cX1_addRow 210 = .ok (.ifCond .ne 9, 3) := by decide +kernel
theorem dX1_addRow_213 : decode cX1_addRow 213 = .ok (.aload_n 0, 1) := by decide +kernel
theorem dX1_addRow_214 : decode cX1_addRow 214 = .ok (.iconst 3, 1) := by decide +kernel
theorem dX1_addRow_215 : decode cX1_addRow 215 = .ok (.invokevirtual 54, 3) := by decide +kernel
theorem dX1_addRow_218 : decode cX1_addRow 218 = .ok (.ireturn, 1) := by decide +kernel
theorem dX1_addRow_219 : decode cX1_addRow 219 = .ok (.iconst 0, 1) := by decide +kernel
theorem dX1_addRow_220 : decode cX1_addRow 220 = .ok (.istore 7, 2) := by decide +kernel
theorem dX1_addRow_222 : decode cX1_addRow 222 = .ok (.iconst 0, 1) := by decide +kernel
theorem dX1_addRow_223 : decode cX1_addRow 223 = .ok (.istore 8, 2) := by decide +kernel
theorem dX1_addRow_225 : decode cX1_addRow 225 = .ok (.iload 8, 2) := by decide +kernel
theorem dX1_addRow_227 : decode cX1_addRow 227 = .ok (.aload_n 0, 1) := by decide +kernel
theorem dX1_addRow_228 : decode cX1_addRow 228 = .ok (.getfield 7, 3) := by decide +kernel
theorem dX1_addRow_231 : decode cX1_addRow 231 = .ok (.if_icmp .ge 62, 3) := by decide +kernel
theorem dX1_addRow_234 : decode cX1_addRow 234 = .ok (.iload 7, 2) := by decide +kernel
theorem dX1_addRow_236 : decode cX1_addRow 236 = .ok (.iload_n 3, 1) := by decide +kernel
theorem dX1_addRow_237 : decode cX1_addRow 237 = .ok (.aload_n 0, 1) := by decide +kernel
theorem dX1_addRow_238 : decode cX1_addRow 238 = .ok (.getfield 13, 3) := by decide +kernel
theorem dX1_addRow_241 : decode cX1_addRow 241 = .ok (.iload_n 2, 1) := by decide +kernel
theorem dX1_addRow_242 : decode cX1_addRow 242 = .ok (.iload 8, 2) := by decide +kernel
theorem dX1_addRow_244 : decode cX1_addRow 244 = .ok (.invokestatic 48, 3) := by decide +kernel
theorem dX1_addRow_247 : decode cX1_addRow 247 = .ok (.iaload, 1) := by decide +kernel
theorem dX1_addRow_248 : decode cX1_addRow 248 = .ok (.imul, 1) := by decide +kernel
theorem dX1_addRow_249 : decode cX1_addRow 249 = .ok (.ifCond .ne 7, 3) := by decide +kernel
theorem dX1_addRow_252 : decode cX1_addRow 252 = .ok (.iconst 0, 1) := by decide +kernel
theorem dX1_addRow_253 : decode cX1_addRow 253 = .ok (.goto 4, 3) := by decide +kernel
theorem dX1_addRow_256 : decode cX1_addRow 256 = .ok (.iconst 1, 1) := by decide +kernel
theorem dX1_addRow_257 : decode cX1_addRow 257 = .ok (.iadd, 1) := by decide +kernel
theorem dX1_addRow_258 : decode cX1_addRow 258 = .ok (.istore 7, 2) := by decide +kernel
theorem dX1_addRow_260 : decode cX1_addRow 260 = .ok (.aload_n 0, 1) := by decide +kernel
theorem dX1_addRow_261 : decode cX1_addRow 261 = .ok (.getfield 13, 3) := by decide +kernel
theorem dX1_addRow_264 : decode cX1_addRow 264 = .ok (.iload_n 1, 1) := by decide +kernel
theorem dX1_addRow_265 : decode cX1_addRow 265 = .ok (.iload 8, 2) := by decide +kernel
theorem dX1_addRow_267 : decode cX1_addRow 267 = .ok (.invokestatic 48, 3) := by decide +kernel
theorem dX1_addRow_270 : decode cX1_addRow 270 = .ok (.dup2, 1) := by decide +kernel
theorem dX1_addRow_271 : decode cX1_addRow 271 = .ok (.iaload, 1) := by decide +kernel
theorem dX1_addRow_272 : decode cX1_addRow 272 = .ok (.iload_n 3, 1) := by decide +kernel
theorem dX1_addRow_273 : decode cX1_addRow 273 = .ok (.aload_n 0, 1) := by decide +kernel
theorem dX1_addRow_274 : decode cX1_addRow 274 = .ok (.getfield 13, 3) := by decide +kernel
theorem dX1_addRow_277 : decode cX1_addRow 277 = .ok (.iload_n 2, 1) := by decide +kernel
theorem dX1_addRow_278 : decode cX1_addRow 278 = .ok (.iload 8, 2) := by decide +kernel
theorem dX1_addRow_280 : decode cX1_addRow 280 = .ok (.invokestatic 48, 3) := by decide +kernel
theorem dX1_addRow_283 : decode cX1_addRow 283 = .ok (.iaload, 1) := by decide +kernel
theorem dX1_addRow_284 : decode cX1_addRow 284 = .ok (.imul, 1) := by decide +kernel
theorem dX1_addRow_285 : decode cX1_addRow 285 = .ok (.iadd, 1) := by decide +kernel
theorem dX1_addRow_286 : decode cX1_addRow 286 = .ok (.iastore, 1) := by decide +kernel
theorem dX1_addRow_287 : decode cX1_addRow 287 = .ok (.iinc 8 1, 3) := by decide +kernel
theorem dX1_addRow_290 : decode cX1_addRow 290 = .ok (.goto (-65), 3) := by decide +kernel
theorem dX1_addRow_293 : decode cX1_addRow 293 = .ok (.aload_n 0, 1) := by decide +kernel
theorem dX1_addRow_294 : decode cX1_addRow 294 = .ok (.getfield 20, 3) := by decide +kernel
theorem dX1_addRow_297 : decode cX1_addRow 297 = .ok (.iload_n 1, 1) := by decide +kernel
theorem dX1_addRow_298 : decode cX1_addRow 298 = .ok (.iload 4, 2) := by decide +kernel
theorem dX1_addRow_300 : decode cX1_addRow 300 = .ok (.iastore, 1) := by decide +kernel
theorem dX1_addRow_301 : decode cX1_addRow 301 = .ok (.aload_n 0, 1) := by decide +kernel
theorem dX1_addRow_302 : decode cX1_addRow 302 = .ok (.getfield 23, 3) := by decide +kernel
theorem dX1_addRow_305 : decode cX1_addRow 305 = .ok (.iload_n 1, 1) := by decide +kernel
theorem dX1_addRow_306 : decode cX1_addRow 306 = .ok (.iload 5, 2) := by decide +kernel
theorem dX1_addRow_308 : decode cX1_addRow 308 = .ok (.iastore, 1) := by decide +kernel
theorem dX1_addRow_309 : decode cX1_addRow 309 = .ok (.iload 7, 2) := by decide +kernel
theorem dX1_addRow_311 : decode cX1_addRow 311 = .ok (.ireturn, 1) := by decide +kernel
set_option maxRecDepth 20000 in
theorem ggX1_determinantWithout_X1_sizeOf : GoodIn wsX1_determinantWithout wsX1_sizeOf := goodIn_r _ [7] (by decide +kernel) (by decide +kernel)
set_option maxRecDepth 20000 in
theorem gX1_determinantWithout_X1_sizeOf : GoodIn wsX1_determinantWithout (va_wsS RX1 77 yX1_sizeOf wsX1_sizeOf) := goodIn_app (goodIn_of _ (by decide +kernel)) ggX1_determinantWithout_X1_sizeOf
set_option maxRecDepth 20000 in
theorem ggX1_determinantWithout_X1_at : GoodIn wsX1_determinantWithout wsX1_at := goodIn_r _ [10] (by decide +kernel) (by decide +kernel)
set_option maxRecDepth 20000 in
theorem gX1_determinantWithout_X1_at : GoodIn wsX1_determinantWithout (va_wsS RX1 48 yX1_at wsX1_at) := goodIn_app (goodIn_of _ (by decide +kernel)) ggX1_determinantWithout_X1_at
theorem dX1_determinantWithout_0 : decode cX1_determinantWithout 0 = .ok (.iconst 0, 1) := by decide +kernel
theorem dX1_determinantWithout_1 : decode cX1_determinantWithout 1 = .ok (.istore_n 3, 1) := by decide +kernel
theorem dX1_determinantWithout_2 : decode cX1_determinantWithout 2 = .ok (.iload_n 3, 1) := by decide +kernel
theorem dX1_determinantWithout_3 : decode cX1_determinantWithout 3 = .ok (.iconst 1, 1) := by decide +kernel
theorem dX1_determinantWithout_4 : decode cX1_determinantWithout 4 = .ok (.aload_n 0, 1) := by decide +kernel
theorem dX1_determinantWithout_5 : decode cX1_determinantWithout 5 = .ok (.getfield 7, 3) := by decide +kernel
theorem dX1_determinantWithout_8 : decode cX1_determinantWithout 8 = .ok (.ishl, 1) := by decide +kernel
theorem dX1_determinantWithout_9 : decode cX1_determinantWithout 9 = .ok (.if_icmp .ge 24, 3) := by decide +kernel
theorem dX1_determinantWithout_12 : decode cX1_determinantWithout 12 = .ok (.aload_n 0, 1) := by decide +kernel
theorem dX1_determinantWithout_13 : decode cX1_determinantWithout 13 = .ok (.getfield 38, 3) := by decide +kernel
theorem dX1_determinantWithout_16 : decode cX1_determinantWithout 16 = .ok (.iload_n 3, 1) := by decide +kernel
theorem dX1_determinantWithout_17 : decode cX1_determinantWithout 17 = .ok (.iload_n 3, 1) := by decide +kernel
theorem dX1_determinantWithout_18 : decode cX1_determinantWithout 18 = .ok (.ifCond .ne 7, 3) := by decide +kernel
theorem dX1_determinantWithout_21 : decode cX1_determinantWithout 21 = .ok (.lconst 1, 1) := by decide +kernel
theorem dX1_determinantWithout_22 : decode cX1_determinantWithout 22 = .ok (.goto 4, 3) := by decide +kernel
theorem dX1_determinantWithout_25 : decode cX1_determinantWithout 25 = .ok (.lconst 0, 1) := by decide +kernel
theorem dX1_determinantWithout_26 : decode cX1_determinantWithout 26 = .ok (.lastore, 1) := by decide +kernel
theorem dX1_determinantWithout_27 : decode cX1_determinantWithout 27 = .ok (.iinc 3 1, 3) := by decide +kernel
theorem dX1_determinantWithout_30 : decode cX1_determinantWithout 30 = .ok (.goto (-28), 3) := by decide +kernel
theorem dX1_determinantWithout_33 : decode cX1_determinantWithout 33 = .ok (.iconst 0, 1) := by decide +kernel
theorem dX1_determinantWithout_34 : decode cX1_determinantWithout 34 = .ok (.istore_n 3, 1) := by decide +kernel
theorem dX1_determinantWithout_35 : decode cX1_determinantWithout 35 = .ok (.iconst 0, 1) := by decide +kernel
theorem dX1_determinantWithout_36 : decode cX1_determinantWithout 36 = .ok (.istore 4, 2) := by decide +kernel
theorem dX1_determinantWithout_38 : decode cX1_determinantWithout 38 = .ok (.iload 4, 2) := by decide +kernel
theorem dX1_determinantWithout_40 : decode cX1_determinantWithout 40 = .ok (.aload_n 0, 1) := by decide +kernel
theorem dX1_determinantWithout_41 : decode cX1_determinantWithout 41 = .ok (.getfield 7, 3) := by decide +kernel
theorem dX1_determinantWithout_44 : decode cX1_determinantWithout 44 = .ok (.if_icmp .ge 167, 3) := by decide +kernel
theorem dX1_determinantWithout_47 : decode cX1_determinantWithout 47 = .ok (.iload 4, 2) := by decide +kernel
theorem dX1_determinantWithout_49 : decode cX1_determinantWithout 49 = .ok (.iload_n 1, 1) := by decide +kernel
theorem dX1_determinantWithout_50 : decode cX1_determinantWithout 50 = .ok (.if_icmp .ne 6, 3) := by decide +kernel
theorem dX1_determinantWithout_53 : decode cX1_determinantWithout 53 = .ok (.goto 152, 3) := by decide +kernel
theorem dX1_determinantWithout_56 : decode cX1_determinantWithout 56 = .ok (.iinc 3 1, 3) := by decide +kernel
theorem dX1_determinantWithout_59 : decode cX1_determinantWithout 59 = .ok (.iconst 1, 1) := by decide +kernel
theorem dX1_determinantWithout_60 : decode cX1_determinantWithout 60 = .ok (.istore 5, 2) := by decide +kernel
theorem dX1_determinantWithout_62 : decode cX1_determinantWithout 62 = .ok (.iload 5, 2) := by decide +kernel
theorem dX1_determinantWithout_64 : decode cX1_determinantWithout 64 = .ok (.iconst 1, 1) := by decide +kernel
theorem dX1_determinantWithout_65 : decode cX1_determinantWithout 65 = .ok (.aload_n 0, 1) := by decide +kernel
theorem dX1_determinantWithout_66 : decode cX1_determinantWithout 66 = .ok (.getfield 7, 3) := by decide +kernel
theorem dX1_determinantWithout_69 : decode cX1_determinantWithout 69 = .ok (.ishl, 1) := by decide +kernel
theorem dX1_determinantWithout_70 : decode cX1_determinantWithout 70 = .ok (.if_icmp .ge 135, 3) := by decide +kernel
theorem dX1_determinantWithout_73 : decode cX1_determinantWithout 73 = .ok (.iload 5, 2) := by decide +kernel
theorem dX1_determinantWithout_75 : decode cX1_determinantWithout 75 = .ok (.invokestatic 77, 3) := by decide +kernel
theorem dX1_determinantWithout_78 : decode cX1_determinantWithout 78 = .ok (.iload_n 3, 1) := by decide +kernel
theorem dX1_determinantWithout_79 : decode cX1_determinantWithout 79 = .ok (.if_icmp .ne 120, 3) := by decide +kernel
theorem dX1_determinantWithout_82 : decode cX1_determinantWithout 82 = .ok (.iload_n 2, 1) := by decide +kernel
theorem dX1_determinantWithout_83 : decode cX1_determinantWithout 83 = .ok (.ifCond .lt 16, 3) := by decide +kernel
theorem dX1_determinantWithout_86 : decode cX1_determinantWithout 86 = .ok (.iload 5, 2) := by decide +kernel
theorem dX1_determinantWithout_88 : decode cX1_determinantWithout 88 = .ok (.iload_n 2, 1) := by decide +kernel
theorem dX1_determinantWithout_89 : decode cX1_determinantWithout 89 = .ok (.ishr, 1) := by decide +kernel
theorem dX1_determinantWithout_90 : decode cX1_determinantWithout 90 = .ok (.iconst 1, 1) := by decide +kernel
theorem dX1_determinantWithout_91 : decode cX1_determinantWithout 91 = .ok (.iand, 1) := by decide +kernel
theorem dX1_determinantWithout_92 : decode cX1_determinantWithout 92 = .ok (.iconst 1, 1) := by decide +kernel
theorem dX1_determinantWithout_93 : decode cX1_determinantWithout 93 = .ok (.if_icmp .ne 6, 3) := by decide +kernel
theorem dX1_determinantWithout_96 : decode cX1_determinantWithout 96 = .ok (.goto 103, 3) := by decide +kernel
theorem dX1_determinantWithout_99 : decode cX1_determinantWithout 99 = .ok (.aload_n 0, 1) := by decide +kernel
theorem dX1_determinantWithout_100 : decode cX1_determinantWithout 100 = .ok (.getfield 38, 3) := by decide +kernel
theorem dX1_determinantWithout_103 : decode cX1_determinantWithout 103 = .ok (.iload 5, 2) := by decide +kernel
theorem dX1_determinantWithout_105 : decode cX1_determinantWithout 105 = .ok (.lconst 0, 1) := by decide +kernel
theorem dX1_determinantWithout_106 : decode cX1_determinantWithout 106 = .ok (.lastore, 1) := by decide +kernel
theorem dX1_determinantWithout_107 : decode cX1_determinantWithout 107 = .ok (.iconst 0, 1) := by decide +kernel
theorem dX1_determinantWithout_108 : decode cX1_determinantWithout 108 = .ok (.istore 6, 2) := by decide +kernel
theorem dX1_determinantWithout_110 : decode cX1_determinantWithout 110 = .ok (.iload 6, 2) := by decide +kernel
theorem dX1_determinantWithout_112 : decode cX1_determinantWithout 112 = .ok (.aload_n 0, 1) := by decide +kernel
theorem dX1_determinantWithout_113 : decode cX1_determinantWithout 113 = .ok (.getfield 7, 3) := by decide +kernel
theorem dX1_determinantWithout_116 : decode cX1_determinantWithout 116 = .ok (.if_icmp .ge 83, 3) := by decide +kernel
theorem dX1_determinantWithout_119 : decode cX1_determinantWithout 119 = .ok (.iload 5, 2) := by decide +kernel
theorem dX1_determinantWithout_121 : decode cX1_determinantWithout 121 = .ok (.iload 6, 2) := by decide +kernel
theorem dX1_determinantWithout_123 : decode cX1_determinantWithout 123 = .ok (.ishr, 1) := by decide +kernel
theorem dX1_determinantWithout_124 : decode cX1_determinantWithout 124 = .ok (.iconst 1, 1) := by decide +kernel
theorem dX1_determinantWithout_125 : decode cX1_determinantWithout 125 = .ok (.iand, 1) := by decide +kernel
theorem dX1_determinantWithout_126 : decode cX1_determinantWithout 126 = .ok (.ifCond .ne 6, 3) := by decide +kernel
theorem dX1_determinantWithout_129 : decode cX1_determinantWithout 129 = .ok (.goto 64, 3) := by decide +kernel
theorem dX1_determinantWithout_132 : decode cX1_determinantWithout 132 = .ok (.aload_n 0, 1) := by decide +kernel
theorem dX1_determinantWithout_133 : decode cX1_determinantWithout 133 = .ok (.getfield 13, 3) := by decide +kernel
theorem dX1_determinantWithout_136 : decode cX1_determinantWithout 136 = .ok (.iload 4, 2) := by decide +kernel
theorem dX1_determinantWithout_138 : decode cX1_determinantWithout 138 = .ok (.iload 6, 2) := by decide +kernel
theorem dX1_determinantWithout_140 : decode cX1_determinantWithout 140 = .ok (.invokestatic 48, 3) := by decide +kernel
theorem dX1_determinantWithout_143 : decode cX1_determinantWithout 143 = .ok (.iaload, 1) := by decide +kernel
theorem dX1_determinantWithout_144 : decode cX1_determinantWithout 144 = .ok (.i2l, 1) := by decide +kernel
theorem dX1_determinantWithout_145 : decode cX1_determinantWithout 145 = .ok (.aload_n 0, 1) := by decide +kernel
theorem dX1_determinantWithout_146 : decode cX1_determinantWithout 146 = .ok (.getfield 38, 3) := by decide +kernel
theorem dX1_determinantWithout_149 : decode cX1_determinantWithout 149 = .ok (.iload 5, 2) := by decide +kernel
theorem dX1_determinantWithout_151 : decode cX1_determinantWithout 151 = .ok (.iconst 1, 1) := by decide +kernel
theorem dX1_determinantWithout_152 : decode cX1_determinantWithout 152 = .ok (.iload 6, 2) := by decide +kernel
theorem dX1_determinantWithout_154 : decode cX1_determinantWithout 154 = .ok (.ishl, 1) := by decide +kernel
theorem dX1_determinantWithout_155 : decode cX1_determinantWithout 155 = .ok (.ixor, 1) := by decide +kernel
theorem dX1_determinantWithout_156 : decode cX1_determinantWithout 156 = .ok (.laload, 1) := by decide +kernel
theorem dX1_determinantWithout_157 : decode cX1_determinantWithout 157 = .ok (.lmul, 1) := by decide +kernel
theorem dX1_determinantWithout_158 : decode cX1_determinantWithout 158 = .ok (.lstore 7, 2) := by decide +kernel
theorem dX1_determinantWithout_160 : decode cX1_determinantWithout 160 = .ok (.aload_n 0, 1) := by decide +kernel
theorem dX1_determinantWithout_161 : decode cX1_determinantWithout 161 = .ok (.getfield 38, 3) := by decide +kernel
theorem dX1_determinantWithout_164 : decode cX1_determinantWithout 164 = .ok (.iload 5, 2) := by decide +kernel
theorem dX1_determinantWithout_166 : decode cX1_determinantWithout 166 = .ok (.dup2, 1) := by decide +kernel
theorem dX1_determinantWithout_167 : decode cX1_determinantWithout 167 = .ok (.laload, 1) := by decide +kernel
theorem dX1_determinantWithout_168 : decode cX1_determinantWithout 168 = .ok (.iload 5, 2) := by decide +kernel
theorem dX1_determinantWithout_170 : decode cX1_determinantWithout 170 = .ok (.iload 6, 2) := by decide +kernel
theorem dX1_determinantWithout_172 : decode cX1_determinantWithout 172 = .ok (.iconst 1, 1) := by decide +kernel
theorem dX1_determinantWithout_173 : decode cX1_determinantWithout 173 = .ok (.iadd, 1) := by decide +kernel
theorem dX1_determinantWithout_174 : decode cX1_determinantWithout 174 = .ok (.ishr, 1) := by decide +kernel
theorem dX1_determinantWithout_175 : decode cX1_determinantWithout 175 = .ok (.invokestatic 77, 3) := by decide +kernel
theorem dX1_determinantWithout_178 : decode cX1_determinantWithout 178 = .ok (.iconst 2, 1) := by decide +kernel
theorem dX1_determinantWithout_179 : decode cX1_determinantWithout 179 = .ok (.irem, 1) := by decide +kernel
theorem dX1_determinantWithout_180 : decode cX1_determinantWithout 180 = .ok (.ifCond .ne 8, 3) := by decide +kernel
theorem dX1_determinantWithout_183 : decode cX1_determinantWithout 183 = .ok (.lload 7, 2) := by decide +kernel
theorem dX1_determinantWithout_185 : decode cX1_determinantWithout 185 = .ok (.goto 6, 3) := by decide +kernel
theorem dX1_determinantWithout_188 : decode cX1_determinantWithout 188 = .ok (.lload 7, 2) := by decide +kernel
theorem dX1_determinantWithout_190 : decode cX1_determinantWithout 190 = .ok (.lneg, 1) := by decide +kernel
theorem dX1_determinantWithout_191 : decode cX1_determinantWithout 191 = .ok (.ladd, 1) := by decide +kernel
theorem dX1_determinantWithout_192 : decode cX1_determinantWithout 192 = .ok (.lastore, 1) := by decide +kernel
theorem dX1_determinantWithout_193 : decode cX1_determinantWithout 193 = .ok (.iinc 6 1, 3) := by decide +kernel
theorem dX1_determinantWithout_196 : decode cX1_determinantWithout 196 = .ok (.goto (-86), 3) := by decide +kernel
theorem dX1_determinantWithout_199 : decode cX1_determinantWithout 199 = .ok (.iinc 5 1, 3) := by decide +kernel
theorem dX1_determinantWithout_202 : decode cX1_determinantWithout 202 = .ok (.goto (-140), 3) := by decide +kernel
theorem dX1_determinantWithout_205 : decode cX1_determinantWithout 205 = .ok (.iinc 4 1, 3) := by decide +kernel
theorem dX1_determinantWithout_208 : decode cX1_determinantWithout 208 = .ok (.goto (-170), 3) := by decide +kernel
theorem dX1_determinantWithout_211 : decode cX1_determinantWithout 211 = .ok (.aload_n 0, 1) := by decide +kernel
theorem dX1_determinantWithout_212 : decode cX1_determinantWithout 212 = .ok (.getfield 38, 3) := by decide +kernel
theorem dX1_determinantWithout_215 : decode cX1_determinantWithout 215 = .ok (.iconst 1, 1) := by decide +kernel
theorem dX1_determinantWithout_216 : decode cX1_determinantWithout 216 = .ok (.aload_n 0, 1) := by decide +kernel
theorem dX1_determinantWithout_217 : decode cX1_determinantWithout 217 = .ok (.getfield 7, 3) := by decide +kernel
theorem dX1_determinantWithout_220 : decode cX1_determinantWithout 220 = .ok (.ishl, 1) := by decide +kernel
theorem dX1_determinantWithout_221 : decode cX1_determinantWithout 221 = .ok (.iconst 1, 1) := by decide +kernel
theorem dX1_determinantWithout_222 : decode cX1_determinantWithout 222 = .ok (.isub, 1) := by decide +kernel
theorem dX1_determinantWithout_223 : decode cX1_determinantWithout 223 = .ok (.iload_n 2, 1) := by decide +kernel
theorem dX1_determinantWithout_224 : decode cX1_determinantWithout 224 = .ok (.ifCond .ge 7, 3) := by decide +kernel
theorem dX1_determinantWithout_227 : decode cX1_determinantWithout 227 = .ok (.iconst (-1), 1) := by decide +kernel
theorem dX1_determinantWithout_228 : decode cX1_determinantWithout 228 = .ok (.goto 8, 3) := by decide +kernel
theorem dX1_determinantWithout_231 : decode cX1_determinantWithout 231 = .ok (.iconst 1, 1) := by decide +kernel
theorem dX1_determinantWithout_232 : decode cX1_determinantWithout 232 = .ok (.iload_n 2, 1) := by decide +kernel
theorem dX1_determinantWithout_233 : decode cX1_determinantWithout 233 = .ok (.ishl, 1) := by decide +kernel
theorem dX1_determinantWithout_234 : decode cX1_determinantWithout 234 = .ok (.iconst (-1), 1) := by decide +kernel
theorem dX1_determinantWithout_235 : decode cX1_determinantWithout 235 = .ok (.ixor, 1) := by decide +kernel
theorem dX1_determinantWithout_236 : decode cX1_determinantWithout 236 = .ok (.iand, 1) := by decide +kernel
theorem dX1_determinantWithout_237 : decode cX1_determinantWithout 237 = .ok (.laload, 1) := by decide +kernel
theorem dX1_determinantWithout_238 : decode cX1_determinantWithout 238 = .ok (.lreturn, 1) := by decide +kernel
theorem dX1_sizeOf_0 : decode cX1_sizeOf 0 = .ok (.iconst 0, 1) := by decide +kernel
theorem dX1_sizeOf_1 : decode cX1_sizeOf 1 = .ok (.istore_n 1, 1) := by decide +kernel
theorem dX1_sizeOf_2 : decode cX1_sizeOf 2 = .ok (.iload_n 0, 1) := by decide +kernel
theorem dX1_sizeOf_3 : decode cX1_sizeOf 3 = .ok (.istore_n 2, 1) := by decide +kernel
theorem dX1_sizeOf_4 : decode cX1_sizeOf 4 = .ok (.iload_n 2, 1) := by decide +kernel
theorem dX1_sizeOf_5 : decode cX1_sizeOf 5 = .ok (.ifCond .le 16, 3) := by decide +kernel
theorem dX1_sizeOf_8 : decode cX1_sizeOf 8 = .ok (.iload_n 1, 1) := by decide +kernel
theorem dX1_sizeOf_9 : decode cX1_sizeOf 9 = .ok (.iload_n 2, 1) := by decide +kernel
theorem dX1_sizeOf_10 : decode cX1_sizeOf 10 = .ok (.iconst 1, 1) := by decide +kernel
theorem dX1_sizeOf_11 : decode cX1_sizeOf 11 = .ok (.iand, 1) := by decide +kernel
theorem dX1_sizeOf_12 : decode cX1_sizeOf 12 = .ok (.iadd, 1) := by decide +kernel
theorem dX1_sizeOf_13 : decode cX1_sizeOf 13 = .ok (.istore_n 1, 1) := by decide +kernel
theorem dX1_sizeOf_14 : decode cX1_sizeOf 14 = .ok (.iload_n 2, 1) := by decide +kernel
theorem dX1_sizeOf_15 : decode cX1_sizeOf 15 = .ok (.iconst 1, 1) := by decide +kernel
theorem dX1_sizeOf_16 : decode cX1_sizeOf 16 = .ok (.ishr, 1) := by decide +kernel
theorem dX1_sizeOf_17 : decode cX1_sizeOf 17 = .ok (.istore_n 2, 1) := by decide +kernel
theorem dX1_sizeOf_18 : decode cX1_sizeOf 18 = .ok (.goto (-14), 3) := by decide +kernel
theorem dX1_sizeOf_21 : decode cX1_sizeOf 21 = .ok (.iload_n 1, 1) := by decide +kernel
theorem dX1_sizeOf_22 : decode cX1_sizeOf 22 = .ok (.ireturn, 1) := by decide +kernel
set_option maxRecDepth 20000 in
theorem ggX1_determinant_X1_determinantWithout : GoodIn wsX1_determinant wsX1_determinantWithout := goodIn_ca (goodIn_r _ [6, 7, 8, 9, 10, 11, 5, 12, 13, 14, 15, 16, 17, 18, 19, 20, 21, 22, 23, 24, 25, 26, 27, 28] (by decide +kernel) (by decide +kernel)) (goodIn_sub (fun _ h => List.mem_cons_of_mem _ (List.mem_append_right _ h)) (by decide +kernel))
set_option maxRecDepth 20000 in
theorem gX1_determinant_X1_determinantWithout : GoodIn wsX1_determinant (wsV RX1 80 RX1 yX1_determinantWithout wsX1_determinantWithout) := goodIn_app (goodIn_of _ (by decide +kernel)) ggX1_determinant_X1_determinantWithout
theorem dX1_determinant_0 : decode cX1_determinant 0 = .ok (.aload_n 0, 1) := by decide +kernel
theorem dX1_determinant_1 : decode cX1_determinant 1 = .ok (.iconst 0, 1) := by decide +kernel
theorem dX1_determinant_2 : decode cX1_determinant 2 = .ok (.putfield 45, 3) := by decide +kernel
theorem dX1_determinant_5 : decode cX1_determinant 5 = .ok (.aload_n 0, 1) := by decide +kernel
theorem dX1_determinant_6 : decode cX1_determinant 6 = .ok (.iconst (-1), 1) := by decide +kernel
theorem dX1_determinant_7 : decode cX1_determinant 7 = .ok (.iconst (-1), 1) := by decide +kernel
theorem dX1_determinant_8 : decode cX1_determinant 8 = .ok (.invokevirtual 80, 3) := by decide +kernel
theorem dX1_determinant_11 : decode cX1_determinant 11 = .ok (.lreturn, 1) := by decide +kernel
set_option maxRecDepth 20000 in
theorem ggX1_cofactor_X1_determinantWithout : GoodIn wsX1_cofactor wsX1_determinantWithout := goodIn_ca (goodIn_r _ [5, 6, 7, 8, 9, 10, 4, 11, 12, 13, 14, 15, 16, 17, 18, 19, 20, 21, 22, 23, 24, 25, 26, 27] (by decide +kernel) (by decide +kernel)) (goodIn_sub (fun _ h => List.mem_cons_of_mem _ (List.mem_append_right _ h)) (by decide +kernel))
set_option maxRecDepth 20000 in
theorem gX1_cofactor_X1_determinantWithout : GoodIn wsX1_cofactor (wsV RX1 80 RX1 yX1_determinantWithout wsX1_determinantWithout) := goodIn_app (goodIn_of _ (by decide +kernel)) ggX1_cofactor_X1_determinantWithout
theorem dX1_cofactor_0 : decode cX1_cofactor 0 = .ok (.iload_n 1, 1) := by decide +kernel
theorem dX1_cofactor_1 : decode cX1_cofactor 1 = .ok (.iload_n 2, 1) := by decide +kernel
theorem dX1_cofactor_2 : decode cX1_cofactor 2 = .ok (.iadd, 1) := by decide +kernel
theorem dX1_cofactor_3 : decode cX1_cofactor 3 = .ok (.iconst 2, 1) := by decide +kernel
theorem dX1_cofactor_4 : decode cX1_cofactor 4 = .ok (.irem, 1) := by decide +kernel
theorem dX1_cofactor_5 : decode cX1_cofactor 5 = .ok (.ifCond .ne 12, 3) := by decide +kernel
theorem dX1_cofactor_8 : decode cX1_cofactor 8 = .ok (.aload_n 0, 1) := by decide +kernel
theorem dX1_cofactor_9 : decode cX1_cofactor 9 = .ok (.iload_n 2, 1) := by decide +kernel
theorem dX1_cofactor_10 : decode cX1_cofactor 10 = .ok (.iload_n 1, 1) := by decide +kernel
theorem dX1_cofactor_11 : decode cX1_cofactor 11 = .ok (.invokevirtual 80, 3) := by decide +kernel
theorem dX1_cofactor_14 : decode cX1_cofactor 14 = .ok (.goto 10, 3) := by decide +kernel
theorem dX1_cofactor_17 : decode cX1_cofactor 17 = .ok (.aload_n 0, 1) := by decide +kernel
theorem dX1_cofactor_18 : decode cX1_cofactor 18 = .ok (.iload_n 2, 1) := by decide +kernel
theorem dX1_cofactor_19 : decode cX1_cofactor 19 = .ok (.iload_n 1, 1) := by decide +kernel
theorem dX1_cofactor_20 : decode cX1_cofactor 20 = .ok (.invokevirtual 80, 3) := by decide +kernel
theorem dX1_cofactor_23 : decode cX1_cofactor 23 = .ok (.lneg, 1) := by decide +kernel
theorem dX1_cofactor_24 : decode cX1_cofactor 24 = .ok (.lreturn, 1) := by decide +kernel
theorem dX1_reduce_0 : decode cX1_reduce 0 = .ok (.lload_n 1, 1) := by decide +kernel
theorem dX1_reduce_1 : decode cX1_reduce 1 = .ok (.invokestatic 84, 3) := by decide +kernel
theorem dX1_reduce_4 : decode cX1_reduce 4 = .ok (.lstore 5, 2) := by decide +kernel
theorem dX1_reduce_6 : decode cX1_reduce 6 = .ok (.lload_n 3, 1) := by decide +kernel
theorem dX1_reduce_7 : decode cX1_reduce 7 = .ok (.invokestatic 84, 3) := by decide +kernel
theorem dX1_reduce_10 : decode cX1_reduce 10 = .ok (.lstore 7, 2) := by decide +kernel
theorem dX1_reduce_12 : decode cX1_reduce 12 = .ok (.lload 7, 2) := by decide +kernel
theorem dX1_reduce_14 : decode cX1_reduce 14 = .ok (.lconst 0, 1) := by decide +kernel
theorem dX1_reduce_15 : decode cX1_reduce 15 = .ok (.lcmp, 1) := by decide +kernel
theorem dX1_reduce_16 : decode cX1_reduce 16 = .ok (.ifCond .eq 21, 3) := by decide +kernel
theorem dX1_reduce_19 : decode cX1_reduce 19 = .ok (.lload 5, 2) := by decide +kernel
theorem dX1_reduce_21 : decode cX1_reduce 21 = .ok (.lload 7, 2) := by decide +kernel
theorem dX1_reduce_23 : decode cX1_reduce 23 = .ok (.lrem, 1) := by decide +kernel
theorem dX1_reduce_24 : decode cX1_reduce 24 = .ok (.lstore 9, 2) := by decide +kernel
theorem dX1_reduce_26 : decode cX1_reduce 26 = .ok (.lload 7, 2) := by decide +kernel
theorem dX1_reduce_28 : decode cX1_reduce 28 = .ok (.lstore 5, 2) := by decide +kernel
theorem dX1_reduce_30 : decode cX1_reduce 30 = .ok (.lload 9, 2) := by decide +kernel
theorem dX1_reduce_32 : decode cX1_reduce 32 = .ok (.lstore 7, 2) := by decide +kernel
theorem dX1_reduce_34 : decode cX1_reduce 34 = .ok (.goto (-22), 3) := by decide +kernel
theorem dX1_reduce_37 : decode cX1_reduce 37 = .ok (.aload_n 0, 1) := by decide +kernel
theorem dX1_reduce_38 : decode cX1_reduce 38 = .ok (.lload_n 3, 1) := by decide +kernel
theorem dX1_reduce_39 : decode cX1_reduce 39 = .ok (.lconst 0, 1) := by decide +kernel
theorem dX1_reduce_40 : decode cX1_reduce 40 = .ok (.lcmp, 1) := by decide +kernel
theorem dX1_reduce_41 : decode cX1_reduce 41 = .ok (.ifCond .ge 8, 3) := by decide +kernel
theorem dX1_reduce_44 : decode cX1_reduce 44 = .ok (.lload_n 1, 1) := by decide +kernel
theorem dX1_reduce_45 : decode cX1_reduce 45 = .ok (.lneg, 1) := by decide +kernel
theorem dX1_reduce_46 : decode cX1_reduce 46 = .ok (.goto 4, 3) := by decide +kernel
theorem dX1_reduce_49 : decode cX1_reduce 49 = .ok (.lload_n 1, 1) := by decide +kernel
theorem dX1_reduce_50 : decode cX1_reduce 50 = .ok (.lload 5, 2) := by decide +kernel
theorem dX1_reduce_52 : decode cX1_reduce 52 = .ok (.ldiv, 1) := by decide +kernel
theorem dX1_reduce_53 : decode cX1_reduce 53 = .ok (.putfield 87, 3) := by decide +kernel
theorem dX1_reduce_56 : decode cX1_reduce 56 = .ok (.aload_n 0, 1) := by decide +kernel
theorem dX1_reduce_57 : decode cX1_reduce 57 = .ok (.lload_n 3, 1) := by decide +kernel
theorem dX1_reduce_58 : decode cX1_reduce 58 = .ok (.invokestatic 84, 3) := by decide +kernel
theorem dX1_reduce_61 : decode cX1_reduce 61 = .ok (.lload 5, 2) := by decide +kernel
theorem dX1_reduce_63 : decode cX1_reduce 63 = .ok (.ldiv, 1) := by decide +kernel
theorem dX1_reduce_64 : decode cX1_reduce 64 = .ok (.putfield 91, 3) := by decide +kernel
theorem dX1_reduce_67 : decode cX1_reduce 67 = .ok (.return_, 1) := by decide +kernel
set_option maxRecDepth 20000 in
theorem ggX1_findEnd_X1_determinantWithout : GoodIn wsX1_findEnd wsX1_determinantWithout := goodIn_ca (goodIn_r _ [8, 1, 9, 10, 11, 12, 7, 13, 14, 15, 16, 31, 32, 33, 34, 35, 36, 37, 38, 39, 40, 41, 42, 43] (by decide +kernel) (by decide +kernel)) (goodIn_sub (fun _ h => List.mem_cons_of_mem _ (List.mem_append_left _ (List.mem_append_right _ h))) (by decide +kernel))
set_option maxRecDepth 20000 in
theorem gX1_findEnd_X1_determinantWithout : GoodIn wsX1_findEnd (wsV RX1 80 RX1 yX1_determinantWithout wsX1_determinantWithout) := goodIn_app (goodIn_of _ (by decide +kernel)) ggX1_findEnd_X1_determinantWithout
set_option maxRecDepth 20000 in
theorem ggX1_findEnd_X1_cofactor : GoodIn wsX1_findEnd wsX1_cofactor := goodIn_ca (goodIn_r _ [20, 4, 5, 6, 7, 8, 1, 9, 10, 11, 12, 13, 14, 15, 16, 31, 32, 33, 34, 35, 36, 37, 38, 39, 40, 41, 42, 43] (by decide +kernel) (by decide +kernel)) (goodIn_sub (fun _ h => List.mem_cons_of_mem _ (List.mem_append_left _ (List.mem_append_right _ h))) (by decide +kernel))
set_option maxRecDepth 20000 in
theorem gX1_findEnd_X1_cofactor : GoodIn wsX1_findEnd (wsV RX1 94 RX1 yX1_cofactor wsX1_cofactor) := goodIn_app (goodIn_of _ (by decide +kernel)) ggX1_findEnd_X1_cofactor
set_option maxRecDepth 20000 in
theorem ggX1_findEnd_X1_reduce : GoodIn wsX1_findEnd wsX1_reduce := goodIn_ca (goodIn_r _ [24, 25, 26, 27, 28, 29, 30, 31, 32, 33, 34, 35, 36, 37, 38, 39, 40, 41, 42, 43] (by decide +kernel) (by decide +kernel)) (goodIn_sub (fun _ h => List.mem_cons_of_mem _ (List.mem_append_right _ h)) (by decide +kernel))
set_option maxRecDepth 20000 in
theorem gX1_findEnd_X1_reduce : GoodIn wsX1_findEnd (wsV RX1 97 RX1 yX1_reduce wsX1_reduce) := goodIn_app (goodIn_of _ (by decide +kernel)) ggX1_findEnd_X1_reduce
theorem dX1_findEnd_0 : decode cX1_findEnd 0 = .ok (.aload_n 0, 1) := by decide +kernel
theorem dX1_findEnd_1 : decode cX1_findEnd 1 = .ok (.iconst (-1), 1) := by decide +kernel
theorem dX1_findEnd_2 : decode cX1_findEnd 2 = .ok (.iconst (-1), 1) := by decide +kernel
theorem dX1_findEnd_3 : decode cX1_findEnd 3 = .ok (.invokevirtual 80, 3) := by decide +kernel
theorem dX1_findEnd_6 : decode cX1_findEnd 6 = .ok (.lstore_n 3, 1) := by decide +kernel
theorem dX1_findEnd_7 : decode cX1_findEnd 7 = .ok (.lconst 0, 1) := by decide +kernel
theorem dX1_findEnd_8 : decode cX1_findEnd 8 = .ok (.lstore 5, 2) := by decide +kernel
theorem dX1_findEnd_10 : decode cX1_findEnd 10 = .ok (.iconst 0, 1) := by decide +kernel
theorem dX1_findEnd_11 : decode cX1_findEnd 11 = .ok (.istore 7, 2) := by decide +kernel
theorem dX1_findEnd_13 : decode cX1_findEnd 13 = .ok (.iload 7, 2) := by decide +kernel
theorem dX1_findEnd_15 : decode cX1_findEnd 15 = .ok (.aload_n 0, 1) := by decide +kernel
theorem dX1_findEnd_16 : decode cX1_findEnd 16 = .ok (.getfield 7, 3) := by decide +kernel
theorem dX1_findEnd_19 : decode cX1_findEnd 19 = .ok (.if_icmp .ge 91, 3) := by decide +kernel
theorem dX1_findEnd_22 : decode cX1_findEnd 22 = .ok (.aload_n 0, 1) := by decide +kernel
theorem dX1_findEnd_23 : decode cX1_findEnd 23 = .ok (.iload_n 1, 1) := by decide +kernel
theorem dX1_findEnd_24 : decode cX1_findEnd 24 = .ok (.iload 7, 2) := by decide +kernel
theorem dX1_findEnd_26 : decode cX1_findEnd 26 = .ok (.invokevirtual 94, 3) := by decide +kernel
theorem dX1_findEnd_29 : decode cX1_findEnd 29 = .ok (.lstore 8, 2) := by decide +kernel
theorem dX1_findEnd_31 : decode cX1_findEnd 31 = .ok (.lload 8, 2) := by decide +kernel
theorem dX1_findEnd_33 : decode cX1_findEnd 33 = .ok (.lconst 0, 1) := by decide +kernel
theorem dX1_findEnd_34 : decode cX1_findEnd 34 = .ok (.lcmp, 1) := by decide +kernel
theorem dX1_findEnd_35 : decode cX1_findEnd 35 = .ok (.ifCond .le 7, 3) := by decide +kernel
theorem dX1_findEnd_38 : decode cX1_findEnd 38 = .ok (.iconst 1, 1) := by decide +kernel
theorem dX1_findEnd_39 : decode cX1_findEnd 39 = .ok (.goto 4, 3) := by decide +kernel
theorem dX1_findEnd_42 : decode cX1_findEnd 42 = .ok (.iconst 0, 1) := by decide +kernel
theorem dX1_findEnd_43 : decode cX1_findEnd 43 = .ok (.lload_n 3, 1) := by decide +kernel
theorem dX1_findEnd_44 : decode cX1_findEnd 44 = .ok (.lconst 0, 1) := by decide +kernel
theorem dX1_findEnd_45 : decode cX1_findEnd 45 = .ok (.lcmp, 1) := by decide +kernel
theorem dX1_findEnd_46 : decode cX1_findEnd 46 = .ok (.ifCond .le 7, 3) := by decide +kernel
theorem dX1_findEnd_49 : decode cX1_findEnd 49 = .ok (.iconst 1, 1) := by decide +kernel
theorem dX1_findEnd_50 : decode cX1_findEnd 50 = .ok (.goto 4, 3) := by decide +kernel
theorem dX1_findEnd_53 : decode cX1_findEnd 53 = .ok (.iconst 0, 1) := by decide +kernel
theorem dX1_findEnd_54 : decode cX1_findEnd 54 = .ok (.if_icmp .ne 7, 3) := by decide +kernel
theorem dX1_findEnd_57 : decode cX1_findEnd 57 = .ok (.iconst 1, 1) := by decide +kernel
theorem dX1_findEnd_58 : decode cX1_findEnd 58 = .ok (.goto 4, 3) := by decide +kernel
theorem dX1_findEnd_61 : decode cX1_findEnd 61 = .ok (.iconst 0, 1) := by decide +kernel
theorem dX1_findEnd_62 : decode cX1_findEnd 62 = .ok (.iload_n 2, 1) := by decide +kernel
theorem dX1_findEnd_63 : decode cX1_findEnd 63 = .ok (.if_icmp .ne 7, 3) := by decide +kernel
theorem dX1_findEnd_66 : decode cX1_findEnd 66 = .ok (.iconst 1, 1) := by decide +kernel
theorem dX1_findEnd_67 : decode cX1_findEnd 67 = .ok (.goto 4, 3) := by decide +kernel
theorem dX1_findEnd_70 : decode cX1_findEnd 70 = .ok (.iconst 0, 1) := by decide +kernel
theorem dX1_findEnd_71 : decode cX1_findEnd 71 = .ok (.istore 10, 2) := by decide +kernel
theorem dX1_findEnd_73 : decode cX1_findEnd 73 = .ok (.lload 5, 2) := by decide +kernel
theorem dX1_findEnd_75 : decode cX1_findEnd 75 = .ok (.lload 8, 2) := by decide +kernel
theorem dX1_findEnd_77 : decode cX1_findEnd 77 = .ok (.iload 10, 2) := by decide +kernel
theorem dX1_findEnd_79 : decode cX1_findEnd 79 = .ok (.ifCond .eq 13, 3) := by decide +kernel
theorem dX1_findEnd_82 : decode cX1_findEnd 82 = .ok (.aload_n 0, 1) := by decide +kernel
theorem dX1_findEnd_83 : decode cX1_findEnd 83 = .ok (.getfield 23, 3) := by decide +kernel
theorem dX1_findEnd_86 : decode cX1_findEnd 86 = .ok (.iload 7, 2) := by decide +kernel
theorem dX1_findEnd_88 : decode cX1_findEnd 88 = .ok (.iaload, 1) := by decide +kernel
theorem dX1_findEnd_89 : decode cX1_findEnd 89 = .ok (.goto 10, 3) := by decide +kernel
theorem dX1_findEnd_92 : decode cX1_findEnd 92 = .ok (.aload_n 0, 1) := by decide +kernel
theorem dX1_findEnd_93 : decode cX1_findEnd 93 = .ok (.getfield 20, 3) := by decide +kernel
theorem dX1_findEnd_96 : decode cX1_findEnd 96 = .ok (.iload 7, 2) := by decide +kernel
theorem dX1_findEnd_98 : decode cX1_findEnd 98 = .ok (.iaload, 1) := by decide +kernel
theorem dX1_findEnd_99 : decode cX1_findEnd 99 = .ok (.i2l, 1) := by decide +kernel
theorem dX1_findEnd_100 : decode cX1_findEnd 100 = .ok (.lmul, 1) := by decide +kernel
theorem dX1_findEnd_101 : decode cX1_findEnd 101 = .ok (.ladd, 1) := by decide +kernel
theorem dX1_findEnd_102 : decode cX1_findEnd 102 = .ok (.lstore 5, 2) := by decide +kernel
theorem dX1_findEnd_104 : decode cX1_findEnd 104 = .ok (.iinc 7 1, 3) := by decide +kernel
theorem dX1_findEnd_107 : decode cX1_findEnd 107 = .ok (.goto (-94), 3) := by decide +kernel
theorem dX1_findEnd_110 : decode cX1_findEnd 110 = .ok (.aload_n 0, 1) := by decide +kernel
theorem dX1_findEnd_111 : decode cX1_findEnd 111 = .ok (.lload 5, 2) := by decide +kernel
theorem dX1_findEnd_113 : decode cX1_findEnd 113 = .ok (.lload_n 3, 1) := by decide +kernel
theorem dX1_findEnd_114 : decode cX1_findEnd 114 = .ok (.invokevirtual 97, 3) := by decide +kernel
theorem dX1_findEnd_117 : decode cX1_findEnd 117 = .ok (.return_, 1) := by decide +kernel
set_option maxRecDepth 20000 in
theorem ggX1_isSingular_X1_determinantWithout : GoodIn wsX1_isSingular wsX1_determinantWithout := goodIn_ca (goodIn_r _ [5, 6, 7, 8, 9, 10, 4, 11, 12, 13, 14, 15, 16, 17, 18, 19, 20, 21, 22, 23, 24, 25, 26, 27] (by decide +kernel) (by decide +kernel)) (goodIn_sub (fun _ h => List.mem_cons_of_mem _ (List.mem_append_right _ h)) (by decide +kernel))
set_option maxRecDepth 20000 in
theorem gX1_isSingular_X1_determinantWithout : GoodIn wsX1_isSingular (wsV RX1 80 RX1 yX1_determinantWithout wsX1_determinantWithout) := goodIn_app (goodIn_of _ (by decide +kernel)) ggX1_isSingular_X1_determinantWithout
theorem dX1_isSingular_0 : decode cX1_isSingular 0 = .ok (.aload_n 0, 1) := by decide +kernel
theorem dX1_isSingular_1 : decode cX1_isSingular 1 = .ok (.iconst (-1), 1) := by decide +kernel
theorem dX1_isSingular_2 : decode cX1_isSingular 2 = .ok (.iconst (-1), 1) := by decide +kernel
theorem dX1_isSingular_3 : decode cX1_isSingular 3 = .ok (.invokevirtual 80, 3) := by decide +kernel
theorem dX1_isSingular_6 : decode cX1_isSingular 6 = .ok (.lconst 0, 1) := by decide +kernel
theorem dX1_isSingular_7 : decode cX1_isSingular 7 = .ok (.lcmp, 1) := by decide +kernel
theorem dX1_isSingular_8 : decode cX1_isSingular 8 = .ok (.ifCond .ne 7, 3) := by decide +kernel
theorem dX1_isSingular_11 : decode cX1_isSingular 11 = .ok (.iconst 1, 1) := by decide +kernel
theorem dX1_isSingular_12 : decode cX1_isSingular 12 = .ok (.goto 4, 3) := by decide +kernel
theorem dX1_isSingular_15 : decode cX1_isSingular 15 = .ok (.iconst 0, 1) := by decide +kernel
theorem dX1_isSingular_16 : decode cX1_isSingular 16 = .ok (.ireturn, 1) := by decide +kernel
set_option maxRecDepth 20000 in
theorem ggX1_asks_X1_isIndex : GoodIn wsX1_asks wsX1_isIndex := goodIn_r _ [6, 7, 44, 45, 46, 47, 48, 49, 50, 51, 52, 53, 54, 55, 56] (by decide +kernel) (by decide +kernel)
set_option maxRecDepth 20000 in
theorem gX1_asks_X1_isIndex : GoodIn wsX1_asks (wsV RX1 58 RX1 yX1_isIndex wsX1_isIndex) := goodIn_app (goodIn_of _ (by decide +kernel)) ggX1_asks_X1_isIndex
set_option maxRecDepth 20000 in
theorem ggX1_asks_X1_isSingular : GoodIn wsX1_asks wsX1_isSingular := goodIn_ca (goodIn_r _ [11, 12, 13, 14, 5, 15, 7, 16, 17, 18, 19, 20, 21, 22, 23, 44, 45, 46, 47, 48, 49, 50, 51, 52, 53, 54, 55, 56] (by decide +kernel) (by decide +kernel)) (goodIn_sub (fun _ h => List.mem_cons_of_mem _ (List.mem_append_left _ (List.mem_append_right _ h))) (by decide +kernel))
set_option maxRecDepth 20000 in
theorem gX1_asks_X1_isSingular : GoodIn wsX1_asks (wsV RX1 101 RX1 yX1_isSingular wsX1_isSingular) := goodIn_app (goodIn_of _ (by decide +kernel)) ggX1_asks_X1_isSingular
set_option maxRecDepth 20000 in
theorem ggX1_asks_X1_findEnd : GoodIn wsX1_asks wsX1_findEnd := goodIn_ca (goodIn_ca (goodIn_r _ [27, 7, 28, 29, 12, 13, 14, 5, 15, 16, 17, 18, 19, 20, 21, 22, 23, 30, 31, 32, 33, 34, 35, 36, 37, 38, 39, 40, 41, 42, 43, 44, 45, 46, 47, 48, 49, 50, 51, 52, 53, 54, 55, 56] (by decide +kernel) (by decide +kernel)) (goodIn_sub (fun _ h => List.mem_cons_of_mem _ (List.mem_append_left _ (List.mem_append_right _ h))) (by decide +kernel))) (goodIn_sub (fun _ h => List.mem_cons_of_mem _ (List.mem_append_right _ h)) (by decide +kernel))
set_option maxRecDepth 20000 in
theorem gX1_asks_X1_findEnd : GoodIn wsX1_asks (wsV RX1 105 RX1 yX1_findEnd wsX1_findEnd) := goodIn_app (goodIn_of _ (by decide +kernel)) ggX1_asks_X1_findEnd
theorem dX1_asks_0 : decode cX1_asks 0 = .ok (.aload_n 0, 1) := by decide +kernel
theorem dX1_asks_1 : decode cX1_asks 1 = .ok (.aload_n 0, 1) := by decide +kernel
theorem dX1_asks_2 : decode cX1_asks 2 = .ok (.iload_n 1, 1) := by decide +kernel
theorem dX1_asks_3 : decode cX1_asks 3 = .ok (.invokevirtual 58, 3) := by decide +kernel
theorem dX1_asks_6 : decode cX1_asks 6 = .ok (.ifCond .ne 7, 3) := by decide +kernel
theorem dX1_asks_9 : decode cX1_asks 9 = .ok (.iconst 1, 1) := by decide +kernel
theorem dX1_asks_10 : decode cX1_asks 10 = .ok (.goto 15, 3) := by decide +kernel
theorem dX1_asks_13 : decode cX1_asks 13 = .ok (.aload_n 0, 1) := by decide +kernel
theorem dX1_asks_14 : decode cX1_asks 14 = .ok (.invokevirtual 101, 3) := by decide +kernel
theorem dX1_asks_17 : decode cX1_asks 17 = .ok (.ifCond .eq 7, 3) := by decide +kernel
theorem dX1_asks_20 : decode cX1_asks 20 = .ok (.iconst 2, 1) := by decide +kernel
theorem dX1_asks_21 : decode cX1_asks 21 = .ok (.goto 4, 3) := by decide +kernel
theorem dX1_asks_24 : decode cX1_asks 24 = .ok (.iconst 0, 1) := by decide +kernel
theorem dX1_asks_25 : decode cX1_asks 25 = .ok (.putfield 45, 3) := by decide +kernel
theorem dX1_asks_28 : decode cX1_asks 28 = .ok (.aload_n 0, 1) := by decide +kernel
theorem dX1_asks_29 : decode cX1_asks 29 = .ok (.getfield 45, 3) := by decide +kernel
theorem dX1_asks_32 : decode cX1_asks 32 = .ok (.ifCond .eq 5, 3) := by decide +kernel
theorem dX1_asks_35 : decode cX1_asks 35 = .ok (.iconst 0, 1) := by decide +kernel
theorem dX1_asks_36 : decode cX1_asks 36 = .ok (.ireturn, 1) := by decide +kernel
theorem dX1_asks_37 : decode cX1_asks 37 = .ok (.aload_n 0, 1) := by decide +kernel
theorem dX1_asks_38 : decode cX1_asks 38 = .ok (.iload_n 1, 1) := by decide +kernel
theorem dX1_asks_39 : decode cX1_asks 39 = .ok (.iload_n 2, 1) := by decide +kernel
theorem dX1_asks_40 : decode cX1_asks 40 = .ok (.invokevirtual 105, 3) := by decide +kernel
theorem dX1_asks_43 : decode cX1_asks 43 = .ok (.iconst 1, 1) := by decide +kernel
theorem dX1_asks_44 : decode cX1_asks 44 = .ok (.ireturn, 1) := by decide +kernel
set_option maxRecDepth 20000 in
theorem ggX1_lowNumerator_X1_asks : GoodIn wsX1_lowNumerator wsX1_asks := goodIn_ca (goodIn_ca (goodIn_r _ [6, 7, 8, 9, 10, 5, 11, 12, 13, 14, 15, 16, 17, 18, 19, 20, 21, 22, 23, 24, 25, 26, 27, 28, 29, 30, 31, 32, 33, 34, 35, 36, 37, 38, 39, 40, 41, 42, 43, 44, 45, 46, 1, 47, 48, 49, 50, 51, 52, 53, 54, 55, 56, 57, 58, 59, 60] (by decide +kernel) (by decide +kernel)) (goodIn_sub (fun _ h => List.mem_cons_of_mem _ (List.mem_append_left _ (List.mem_append_right _ h))) (by decide +kernel))) (goodIn_sub (fun _ h => List.mem_cons_of_mem _ (List.mem_append_right _ h)) (by decide +kernel))
set_option maxRecDepth 20000 in
theorem gX1_lowNumerator_X1_asks : GoodIn wsX1_lowNumerator (wsV RX1 109 RX1 yX1_asks wsX1_asks) := goodIn_app (goodIn_of _ (by decide +kernel)) ggX1_lowNumerator_X1_asks
theorem dX1_lowNumerator_0 : decode cX1_lowNumerator 0 = .ok (.aload_n 0, 1) := by decide +kernel
theorem dX1_lowNumerator_1 : decode cX1_lowNumerator 1 = .ok (.iload_n 1, 1) := by decide +kernel
theorem dX1_lowNumerator_2 : decode cX1_lowNumerator 2 = .ok (.iconst 0, 1) := by decide +kernel
theorem dX1_lowNumerator_3 : decode cX1_lowNumerator 3 = .ok (.invokevirtual 109, 3) := by decide +kernel
theorem dX1_lowNumerator_6 : decode cX1_lowNumerator 6 = .ok (.ifCond .eq 10, 3) := by decide +kernel
theorem dX1_lowNumerator_9 : decode cX1_lowNumerator 9 = .ok (.aload_n 0, 1) := by decide +kernel
theorem dX1_lowNumerator_10 : decode cX1_lowNumerator 10 = .ok (.getfield 87, 3) := by decide +kernel
theorem dX1_lowNumerator_13 : decode cX1_lowNumerator 13 = .ok (.goto 4, 3) := by decide +kernel
theorem dX1_lowNumerator_16 : decode cX1_lowNumerator 16 = .ok (.lconst 0, 1) := by decide +kernel
theorem dX1_lowNumerator_17 : decode cX1_lowNumerator 17 = .ok (.lreturn, 1) := by decide +kernel
set_option maxRecDepth 20000 in
theorem ggX1_lowDenominator_X1_asks : GoodIn wsX1_lowDenominator wsX1_asks := goodIn_ca (goodIn_ca (goodIn_r _ [6, 7, 8, 9, 10, 5, 11, 12, 13, 14, 15, 16, 17, 18, 19, 20, 21, 22, 23, 24, 25, 26, 27, 28, 29, 30, 31, 32, 33, 34, 35, 36, 37, 38, 39, 40, 41, 42, 43, 44, 45, 46, 47, 1, 48, 49, 50, 51, 52, 53, 54, 55, 56, 57, 58, 59, 60] (by decide +kernel) (by decide +kernel)) (goodIn_sub (fun _ h => List.mem_cons_of_mem _ (List.mem_append_left _ (List.mem_append_right _ h))) (by decide +kernel))) (goodIn_sub (fun _ h => List.mem_cons_of_mem _ (List.mem_append_right _ h)) (by decide +kernel))
set_option maxRecDepth 20000 in
theorem gX1_lowDenominator_X1_asks : GoodIn wsX1_lowDenominator (wsV RX1 109 RX1 yX1_asks wsX1_asks) := goodIn_app (goodIn_of _ (by decide +kernel)) ggX1_lowDenominator_X1_asks
theorem dX1_lowDenominator_0 : decode cX1_lowDenominator 0 = .ok (.aload_n 0, 1) := by decide +kernel
theorem dX1_lowDenominator_1 : decode cX1_lowDenominator 1 = .ok (.iload_n 1, 1) := by decide +kernel
theorem dX1_lowDenominator_2 : decode cX1_lowDenominator 2 = .ok (.iconst 0, 1) := by decide +kernel
theorem dX1_lowDenominator_3 : decode cX1_lowDenominator 3 = .ok (.invokevirtual 109, 3) := by decide +kernel
theorem dX1_lowDenominator_6 : decode cX1_lowDenominator 6 = .ok (.ifCond .eq 10, 3) := by decide +kernel
theorem dX1_lowDenominator_9 : decode cX1_lowDenominator 9 = .ok (.aload_n 0, 1) := by decide +kernel
theorem dX1_lowDenominator_10 : decode cX1_lowDenominator 10 = .ok (.getfield 91, 3) := by decide +kernel
theorem dX1_lowDenominator_13 : decode cX1_lowDenominator 13 = .ok (.goto 4, 3) := by decide +kernel
theorem dX1_lowDenominator_16 : decode cX1_lowDenominator 16 = .ok (.lconst 0, 1) := by decide +kernel
theorem dX1_lowDenominator_17 : decode cX1_lowDenominator 17 = .ok (.lreturn, 1) := by decide +kernel
set_option maxRecDepth 20000 in
theorem ggX1_highNumerator_X1_asks : GoodIn wsX1_highNumerator wsX1_asks := goodIn_ca (goodIn_ca (goodIn_r _ [6, 7, 8, 9, 10, 5, 11, 12, 13, 14, 15, 16, 17, 18, 19, 20, 21, 22, 23, 24, 25, 26, 27, 28, 29, 30, 31, 32, 33, 34, 35, 36, 37, 38, 39, 40, 41, 42, 43, 44, 45, 46, 1, 47, 48, 49, 50, 51, 52, 53, 54, 55, 56, 57, 58, 59, 60] (by decide +kernel) (by decide +kernel)) (goodIn_sub (fun _ h => List.mem_cons_of_mem _ (List.mem_append_left _ (List.mem_append_right _ h))) (by decide +kernel))) (goodIn_sub (fun _ h => List.mem_cons_of_mem _ (List.mem_append_right _ h)) (by decide +kernel))
set_option maxRecDepth 20000 in
theorem gX1_highNumerator_X1_asks : GoodIn wsX1_highNumerator (wsV RX1 109 RX1 yX1_asks wsX1_asks) := goodIn_app (goodIn_of _ (by decide +kernel)) ggX1_highNumerator_X1_asks
theorem dX1_highNumerator_0 : decode cX1_highNumerator 0 = .ok (.aload_n 0, 1) := by decide +kernel
theorem dX1_highNumerator_1 : decode cX1_highNumerator 1 = .ok (.iload_n 1, 1) := by decide +kernel
theorem dX1_highNumerator_2 : decode cX1_highNumerator 2 = .ok (.iconst 1, 1) := by decide +kernel
theorem dX1_highNumerator_3 : decode cX1_highNumerator 3 = .ok (.invokevirtual 109, 3) := by decide +kernel
theorem dX1_highNumerator_6 : decode cX1_highNumerator 6 = .ok (.ifCond .eq 10, 3) := by decide +kernel
theorem dX1_highNumerator_9 : decode cX1_highNumerator 9 = .ok (.aload_n 0, 1) := by decide +kernel
theorem dX1_highNumerator_10 : decode cX1_highNumerator 10 = .ok (.getfield 87, 3) := by decide +kernel
theorem dX1_highNumerator_13 : decode cX1_highNumerator 13 = .ok (.goto 4, 3) := by decide +kernel
theorem dX1_highNumerator_16 : decode cX1_highNumerator 16 = .ok (.lconst 0, 1) := by decide +kernel
theorem dX1_highNumerator_17 : decode cX1_highNumerator 17 = .ok (.lreturn, 1) := by decide +kernel
set_option maxRecDepth 20000 in
theorem ggX1_highDenominator_X1_asks : GoodIn wsX1_highDenominator wsX1_asks := goodIn_ca (goodIn_ca (goodIn_r _ [6, 7, 8, 9, 10, 5, 11, 12, 13, 14, 15, 16, 17, 18, 19, 20, 21, 22, 23, 24, 25, 26, 27, 28, 29, 30, 31, 32, 33, 34, 35, 36, 37, 38, 39, 40, 41, 42, 43, 44, 45, 46, 47, 1, 48, 49, 50, 51, 52, 53, 54, 55, 56, 57, 58, 59, 60] (by decide +kernel) (by decide +kernel)) (goodIn_sub (fun _ h => List.mem_cons_of_mem _ (List.mem_append_left _ (List.mem_append_right _ h))) (by decide +kernel))) (goodIn_sub (fun _ h => List.mem_cons_of_mem _ (List.mem_append_right _ h)) (by decide +kernel))
set_option maxRecDepth 20000 in
theorem gX1_highDenominator_X1_asks : GoodIn wsX1_highDenominator (wsV RX1 109 RX1 yX1_asks wsX1_asks) := goodIn_app (goodIn_of _ (by decide +kernel)) ggX1_highDenominator_X1_asks
theorem dX1_highDenominator_0 : decode cX1_highDenominator 0 = .ok (.aload_n 0, 1) := by decide +kernel
theorem dX1_highDenominator_1 : decode cX1_highDenominator 1 = .ok (.iload_n 1, 1) := by decide +kernel
theorem dX1_highDenominator_2 : decode cX1_highDenominator 2 = .ok (.iconst 1, 1) := by decide +kernel
theorem dX1_highDenominator_3 : decode cX1_highDenominator 3 = .ok (.invokevirtual 109, 3) := by decide +kernel
theorem dX1_highDenominator_6 : decode cX1_highDenominator 6 = .ok (.ifCond .eq 10, 3) := by decide +kernel
theorem dX1_highDenominator_9 : decode cX1_highDenominator 9 = .ok (.aload_n 0, 1) := by decide +kernel
theorem dX1_highDenominator_10 : decode cX1_highDenominator 10 = .ok (.getfield 91, 3) := by decide +kernel
theorem dX1_highDenominator_13 : decode cX1_highDenominator 13 = .ok (.goto 4, 3) := by decide +kernel
theorem dX1_highDenominator_16 : decode cX1_highDenominator 16 = .ok (.lconst 0, 1) := by decide +kernel
theorem dX1_highDenominator_17 : decode cX1_highDenominator 17 = .ok (.lreturn, 1) := by decide +kernel
set_option maxRecDepth 20000 in
theorem ggX1_asksInverse_X1_isIndex : GoodIn wsX1_asksInverse wsX1_isIndex := goodIn_r _ [6, 7, 38, 39, 40, 41, 42, 43, 44, 45, 46, 47, 48, 49, 50] (by decide +kernel) (by decide +kernel)
set_option maxRecDepth 20000 in
theorem gX1_asksInverse_X1_isIndex : GoodIn wsX1_asksInverse (wsV RX1 58 RX1 yX1_isIndex wsX1_isIndex) := goodIn_app (goodIn_of _ (by decide +kernel)) ggX1_asksInverse_X1_isIndex
set_option maxRecDepth 20000 in
theorem ggX1_asksInverse_X1_isSingular : GoodIn wsX1_asksInverse wsX1_isSingular := goodIn_ca (goodIn_r _ [11, 12, 13, 14, 5, 15, 7, 16, 17, 18, 19, 20, 21, 22, 23, 38, 39, 40, 41, 42, 43, 44, 45, 46, 47, 48, 49, 50] (by decide +kernel) (by decide +kernel)) (goodIn_sub (fun _ h => List.mem_cons_of_mem _ (List.mem_append_left _ (List.mem_append_right _ h))) (by decide +kernel))
set_option maxRecDepth 20000 in
theorem gX1_asksInverse_X1_isSingular : GoodIn wsX1_asksInverse (wsV RX1 101 RX1 yX1_isSingular wsX1_isSingular) := goodIn_app (goodIn_of _ (by decide +kernel)) ggX1_asksInverse_X1_isSingular
set_option maxRecDepth 20000 in
theorem ggX1_asksInverse_X1_cofactor : GoodIn wsX1_asksInverse wsX1_cofactor := goodIn_ca (goodIn_r _ [27, 12, 13, 14, 5, 15, 7, 16, 17, 18, 19, 20, 21, 22, 23, 38, 39, 40, 41, 42, 43, 44, 45, 46, 47, 48, 49, 50] (by decide +kernel) (by decide +kernel)) (goodIn_sub (fun _ h => List.mem_cons_of_mem _ (List.mem_append_left _ (List.mem_append_right _ h))) (by decide +kernel))
set_option maxRecDepth 20000 in
theorem gX1_asksInverse_X1_cofactor : GoodIn wsX1_asksInverse (wsV RX1 94 RX1 yX1_cofactor wsX1_cofactor) := goodIn_app (goodIn_of _ (by decide +kernel)) ggX1_asksInverse_X1_cofactor
set_option maxRecDepth 20000 in
theorem ggX1_asksInverse_X1_determinantWithout : GoodIn wsX1_asksInverse wsX1_determinantWithout := goodIn_ca (goodIn_r _ [15, 7, 16, 17, 18, 19, 5, 20, 21, 22, 23, 38, 39, 40, 41, 42, 43, 44, 45, 46, 47, 48, 49, 50] (by decide +kernel) (by decide +kernel)) (goodIn_sub (fun _ h => List.mem_cons_of_mem _ (List.mem_append_left _ (List.mem_append_right _ h))) (by decide +kernel))
set_option maxRecDepth 20000 in
theorem gX1_asksInverse_X1_determinantWithout : GoodIn wsX1_asksInverse (wsV RX1 80 RX1 yX1_determinantWithout wsX1_determinantWithout) := goodIn_app (goodIn_of _ (by decide +kernel)) ggX1_asksInverse_X1_determinantWithout
set_option maxRecDepth 20000 in
theorem ggX1_asksInverse_X1_reduce : GoodIn wsX1_asksInverse wsX1_reduce := goodIn_ca (goodIn_r _ [31, 32, 33, 34, 35, 36, 37, 38, 39, 40, 41, 42, 43, 44, 45, 46, 47, 48, 49, 50] (by decide +kernel) (by decide +kernel)) (goodIn_sub (fun _ h => List.mem_cons_of_mem _ (List.mem_append_right _ h)) (by decide +kernel))
set_option maxRecDepth 20000 in
theorem gX1_asksInverse_X1_reduce : GoodIn wsX1_asksInverse (wsV RX1 97 RX1 yX1_reduce wsX1_reduce) := goodIn_app (goodIn_of _ (by decide +kernel)) ggX1_asksInverse_X1_reduce
theorem dX1_asksInverse_0 : decode cX1_asksInverse 0 = .ok (.aload_n 0, 1) := by decide +kernel
theorem dX1_asksInverse_1 : decode cX1_asksInverse 1 = .ok (.aload_n 0, 1) := by decide +kernel
theorem dX1_asksInverse_2 : decode cX1_asksInverse 2 = .ok (.iload_n 1, 1) := by decide +kernel
theorem dX1_asksInverse_3 : decode cX1_asksInverse 3 = .ok (.invokevirtual 58, 3) := by decide +kernel
theorem dX1_asksInverse_6 : decode cX1_asksInverse 6 = .ok (.ifCond .eq 11, 3) := by decide +kernel
theorem dX1_asksInverse_9 : decode cX1_asksInverse 9 = .ok (.aload_n 0, 1) := by decide +kernel
theorem dX1_asksInverse_10 : decode cX1_asksInverse 10 = .ok (.iload_n 2, 1) := by decide +kernel
theorem dX1_asksInverse_11 : decode cX1_asksInverse 11 = .ok (.invokevirtual 58, 3) := by decide +kernel
theorem dX1_asksInverse_14 : decode cX1_asksInverse 14 = .ok (.ifCond .ne 7, 3) := by decide +kernel
theorem dX1_asksInverse_17 : decode cX1_asksInverse 17 = .ok (.iconst 1, 1) := by decide +kernel
theorem dX1_asksInverse_18 : decode cX1_asksInverse 18 = .ok (.goto 15, 3) := by decide +kernel
theorem dX1_asksInverse_21 : decode cX1_asksInverse 21 = .ok (.aload_n 0, 1) := by decide +kernel
theorem dX1_asksInverse_22 : decode cX1_asksInverse 22 = .ok (.invokevirtual 101, 3) := by decide +kernel
theorem dX1_asksInverse_25 : decode cX1_asksInverse 25 = .ok (.ifCond .eq 7, 3) := by decide +kernel
theorem dX1_asksInverse_28 : decode cX1_asksInverse 28 = .ok (.iconst 2, 1) := by decide +kernel
theorem dX1_asksInverse_29 : decode cX1_asksInverse 29 = .ok (.goto 4, 3) := by decide +kernel
theorem dX1_asksInverse_32 : decode cX1_asksInverse 32 = .ok (.iconst 0, 1) := by decide +kernel
theorem dX1_asksInverse_33 : decode cX1_asksInverse 33 = .ok (.putfield 45, 3) := by decide +kernel
theorem dX1_asksInverse_36 : decode cX1_asksInverse 36 = .ok (.aload_n 0, 1) := by decide +kernel
theorem dX1_asksInverse_37 : decode cX1_asksInverse 37 = .ok (.getfield 45, 3) := by decide +kernel
theorem dX1_asksInverse_40 : decode cX1_asksInverse 40 = .ok (.ifCond .eq 5, 3) := by decide +kernel
theorem dX1_asksInverse_43 : decode cX1_asksInverse 43 = .ok (.iconst 0, 1) := by decide +kernel
theorem dX1_asksInverse_44 : decode cX1_asksInverse 44 = .ok (.ireturn, 1) := by decide +kernel
theorem dX1_asksInverse_45 : decode cX1_asksInverse 45 = .ok (.aload_n 0, 1) := by decide +kernel
theorem dX1_asksInverse_46 : decode cX1_asksInverse 46 = .ok (.aload_n 0, 1) := by decide +kernel
theorem dX1_asksInverse_47 : decode cX1_asksInverse 47 = .ok (.iload_n 1, 1) := by decide +kernel
theorem dX1_asksInverse_48 : decode cX1_asksInverse 48 = .ok (.iload_n 2, 1) := by decide +kernel
theorem dX1_asksInverse_49 : decode cX1_asksInverse 49 = .ok (.invokevirtual 94, 3) := by decide +kernel
theorem dX1_asksInverse_52 : decode cX1_asksInverse 52 = .ok (.aload_n 0, 1) := by decide +kernel
theorem dX1_asksInverse_53 : decode cX1_asksInverse 53 = .ok (.iconst (-1), 1) := by decide +kernel
theorem dX1_asksInverse_54 : decode cX1_asksInverse 54 = .ok (.iconst (-1), 1) := by decide +kernel
theorem dX1_asksInverse_55 : decode cX1_asksInverse 55 = .ok (.invokevirtual 80, 3) := by decide +kernel
theorem dX1_asksInverse_58 : decode cX1_asksInverse 58 = .ok (.invokevirtual 97, 3) := by decide +kernel
theorem dX1_asksInverse_61 : decode cX1_asksInverse 61 = .ok (.iconst 1, 1) := by decide +kernel
theorem dX1_asksInverse_62 : decode cX1_asksInverse 62 = .ok (.ireturn, 1) := by decide +kernel
set_option maxRecDepth 20000 in
theorem ggX1_inverseNumerator_X1_asksInverse : GoodIn wsX1_inverseNumerator wsX1_asksInverse := goodIn_ca (goodIn_ca (goodIn_r _ [6, 7, 8, 9, 10, 5, 11, 12, 13, 14, 15, 16, 17, 18, 19, 20, 21, 22, 23, 24, 25, 26, 27, 28, 29, 30, 31, 32, 33, 34, 35, 36, 37, 38, 39, 40, 1, 41, 42, 43, 44, 45, 46, 47, 48, 49, 50, 51, 52, 53, 54] (by decide +kernel) (by decide +kernel)) (goodIn_sub (fun _ h => List.mem_cons_of_mem _ (List.mem_append_left _ (List.mem_append_right _ h))) (by decide +kernel))) (goodIn_sub (fun _ h => List.mem_cons_of_mem _ (List.mem_append_right _ h)) (by decide +kernel))
set_option maxRecDepth 20000 in
theorem gX1_inverseNumerator_X1_asksInverse : GoodIn wsX1_inverseNumerator (wsV RX1 113 RX1 yX1_asksInverse wsX1_asksInverse) := goodIn_app (goodIn_of _ (by decide +kernel)) ggX1_inverseNumerator_X1_asksInverse
theorem dX1_inverseNumerator_0 : decode cX1_inverseNumerator 0 = .ok (.aload_n 0, 1) := by decide +kernel
theorem dX1_inverseNumerator_1 : decode cX1_inverseNumerator 1 = .ok (.iload_n 1, 1) := by decide +kernel
theorem dX1_inverseNumerator_2 : decode cX1_inverseNumerator 2 = .ok (.iload_n 2, 1) := by decide +kernel
theorem dX1_inverseNumerator_3 : decode cX1_inverseNumerator 3 = .ok (.invokevirtual 113, 3) := by decide +kernel
theorem dX1_inverseNumerator_6 : decode cX1_inverseNumerator 6 = .ok (.ifCond .eq 10, 3) := by decide +kernel
theorem dX1_inverseNumerator_9 : decode cX1_inverseNumerator 9 = .ok (.aload_n 0, 1) := by decide +kernel
theorem dX1_inverseNumerator_10 : decode cX1_inverseNumerator 10 = .ok (.getfield 87, 3) := by decide +kernel
theorem dX1_inverseNumerator_13 : decode cX1_inverseNumerator 13 = .ok (.goto 4, 3) := by decide +kernel
theorem dX1_inverseNumerator_16 : decode cX1_inverseNumerator 16 = .ok (.lconst 0, 1) := by decide +kernel
theorem dX1_inverseNumerator_17 : decode cX1_inverseNumerator 17 = .ok (.lreturn, 1) := by decide +kernel
set_option maxRecDepth 20000 in
theorem ggX1_inverseDenominator_X1_asksInverse : GoodIn wsX1_inverseDenominator wsX1_asksInverse := goodIn_ca (goodIn_ca (goodIn_r _ [6, 7, 8, 9, 10, 5, 11, 12, 13, 14, 15, 16, 17, 18, 19, 20, 21, 22, 23, 24, 25, 26, 27, 28, 29, 30, 31, 32, 33, 34, 35, 36, 37, 38, 39, 40, 41, 1, 42, 43, 44, 45, 46, 47, 48, 49, 50, 51, 52, 53, 54] (by decide +kernel) (by decide +kernel)) (goodIn_sub (fun _ h => List.mem_cons_of_mem _ (List.mem_append_left _ (List.mem_append_right _ h))) (by decide +kernel))) (goodIn_sub (fun _ h => List.mem_cons_of_mem _ (List.mem_append_right _ h)) (by decide +kernel))
set_option maxRecDepth 20000 in
theorem gX1_inverseDenominator_X1_asksInverse : GoodIn wsX1_inverseDenominator (wsV RX1 113 RX1 yX1_asksInverse wsX1_asksInverse) := goodIn_app (goodIn_of _ (by decide +kernel)) ggX1_inverseDenominator_X1_asksInverse
theorem dX1_inverseDenominator_0 : decode cX1_inverseDenominator 0 = .ok (.aload_n 0, 1) := by decide +kernel
theorem dX1_inverseDenominator_1 : decode cX1_inverseDenominator 1 = .ok (.iload_n 1, 1) := by decide +kernel
theorem dX1_inverseDenominator_2 : decode cX1_inverseDenominator 2 = .ok (.iload_n 2, 1) := by decide +kernel
theorem dX1_inverseDenominator_3 : decode cX1_inverseDenominator 3 = .ok (.invokevirtual 113, 3) := by decide +kernel
theorem dX1_inverseDenominator_6 : decode cX1_inverseDenominator 6 = .ok (.ifCond .eq 10, 3) := by decide +kernel
theorem dX1_inverseDenominator_9 : decode cX1_inverseDenominator 9 = .ok (.aload_n 0, 1) := by decide +kernel
theorem dX1_inverseDenominator_10 : decode cX1_inverseDenominator 10 = .ok (.getfield 91, 3) := by decide +kernel
theorem dX1_inverseDenominator_13 : decode cX1_inverseDenominator 13 = .ok (.goto 4, 3) := by decide +kernel
theorem dX1_inverseDenominator_16 : decode cX1_inverseDenominator 16 = .ok (.lconst 0, 1) := by decide +kernel
theorem dX1_inverseDenominator_17 : decode cX1_inverseDenominator 17 = .ok (.lreturn, 1) := by decide +kernel
set_option maxRecDepth 20000 in
theorem ggX1_isSolution_X1_at : GoodIn wsX1_isSolution wsX1_at := goodIn_r _ [10] (by decide +kernel) (by decide +kernel)
set_option maxRecDepth 20000 in
theorem gX1_isSolution_X1_at : GoodIn wsX1_isSolution (va_wsS RX1 48 yX1_at wsX1_at) := goodIn_app (goodIn_of _ (by decide +kernel)) ggX1_isSolution_X1_at
theorem dX1_isSolution_0 : decode cX1_isSolution 0 = .ok (.aload_n 0, 1) := by decide +kernel
theorem dX1_isSolution_1 : decode cX1_isSolution 1 = .ok (.iconst 0, 1) := by decide +kernel
theorem dX1_isSolution_2 : decode cX1_isSolution 2 = .ok (.putfield 45, 3) := by decide +kernel
theorem dX1_isSolution_5 : decode cX1_isSolution 5 = .ok (.iconst 5, 1) := by decide +kernel
theorem dX1_isSolution_6 : decode cX1_isSolution 6 = .ok (.newarray .int, 2) := by decide +kernel
theorem dX1_isSolution_8 : decode cX1_isSolution 8 = .ok (.dup, 1) := by decide +kernel
theorem dX1_isSolution_9 : decode cX1_isSolution 9 = .ok (.iconst 0, 1) := by decide +kernel
theorem dX1_isSolution_10 : decode cX1_isSolution 10 = .ok (.iload_n 1, 1) := by decide +kernel
theorem dX1_isSolution_11 : decode cX1_isSolution 11 = .ok (.iastore, 1) := by decide +kernel
theorem dX1_isSolution_12 : decode cX1_isSolution 12 = .ok (.dup, 1) := by decide +kernel
theorem dX1_isSolution_13 : decode cX1_isSolution 13 = .ok (.iconst 1, 1) := by decide +kernel
theorem dX1_isSolution_14 : decode cX1_isSolution 14 = .ok (.iload_n 2, 1) := by decide +kernel
theorem dX1_isSolution_15 : decode cX1_isSolution 15 = .ok (.iastore, 1) := by decide +kernel
theorem dX1_isSolution_16 : decode cX1_isSolution 16 = .ok (.dup, 1) := by decide +kernel
theorem dX1_isSolution_17 : decode cX1_isSolution 17 = .ok (.iconst 2, 1) := by decide +kernel
theorem dX1_isSolution_18 : decode cX1_isSolution 18 = .ok (.iload_n 3, 1) := by decide +kernel
theorem dX1_isSolution_19 : decode cX1_isSolution 19 = .ok (.iastore, 1) := by decide +kernel
theorem dX1_isSolution_20 : decode cX1_isSolution 20 = .ok (.dup, 1) := by decide +kernel
theorem dX1_isSolution_21 : decode cX1_isSolution 21 = .ok (.iconst 3, 1) := by decide +kernel
theorem dX1_isSolution_22 : decode cX1_isSolution 22 = .ok (.iload 4, 2) := by decide +kernel
theorem dX1_isSolution_24 : decode cX1_isSolution 24 = .ok (.iastore, 1) := by decide +kernel
theorem dX1_isSolution_25 : decode cX1_isSolution 25 = .ok (.dup, 1) := by decide +kernel
theorem dX1_isSolution_26 : decode cX1_isSolution 26 = .ok (.iconst 4, 1) := by decide +kernel
theorem dX1_isSolution_27 : decode cX1_isSolution 27 = .ok (.iload 5, 2) := by decide +kernel
theorem dX1_isSolution_29 : decode cX1_isSolution 29 = .ok (.iastore, 1) := by decide +kernel
theorem dX1_isSolution_30 : decode cX1_isSolution 30 = .ok (.astore 6, 2) := by decide +kernel
theorem dX1_isSolution_32 : decode cX1_isSolution 32 = .ok (.iconst 0, 1) := by decide +kernel
theorem dX1_isSolution_33 : decode cX1_isSolution 33 = .ok (.istore 7, 2) := by decide +kernel
theorem dX1_isSolution_35 : decode cX1_isSolution 35 = .ok (.iload 7, 2) := by decide +kernel
theorem dX1_isSolution_37 : decode cX1_isSolution 37 = .ok (.aload_n 0, 1) := by decide +kernel
theorem dX1_isSolution_38 : decode cX1_isSolution 38 = .ok (.getfield 7, 3) := by decide +kernel
theorem dX1_isSolution_41 : decode cX1_isSolution 41 = .ok (.if_icmp .ge 85, 3) := by decide +kernel
theorem dX1_isSolution_44 : decode cX1_isSolution 44 = .ok (.lconst 0, 1) := by decide +kernel
theorem dX1_isSolution_45 : decode cX1_isSolution 45 = .ok (.lstore 8, 2) := by decide +kernel
theorem dX1_isSolution_47 : decode cX1_isSolution 47 = .ok (.iconst 0, 1) := by decide +kernel
theorem dX1_isSolution_48 : decode cX1_isSolution 48 = .ok (.istore 10, 2) := by decide +kernel
theorem dX1_isSolution_50 : decode cX1_isSolution 50 = .ok (.iload 10, 2) := by decide +kernel
theorem dX1_isSolution_52 : decode cX1_isSolution 52 = .ok (.aload_n 0, 1) := by decide +kernel
theorem dX1_isSolution_53 : decode cX1_isSolution 53 = .ok (.getfield 7, 3) := by decide +kernel
theorem dX1_isSolution_56 : decode cX1_isSolution 56 = .ok (.if_icmp .ge 34, 3) := by decide +kernel
theorem dX1_isSolution_59 : decode cX1_isSolution 59 = .ok (.lload 8, 2) := by decide +kernel
theorem dX1_isSolution_61 : decode cX1_isSolution 61 = .ok (.aload_n 0, 1) := by decide +kernel
theorem dX1_isSolution_62 : decode cX1_isSolution 62 = .ok (.getfield 13, 3) := by decide +kernel
theorem dX1_isSolution_65 : decode cX1_isSolution 65 = .ok (.iload 7, 2) := by decide +kernel
theorem dX1_isSolution_67 : decode cX1_isSolution 67 = .ok (.iload 10, 2) := by decide +kernel
theorem dX1_isSolution_69 : decode cX1_isSolution 69 = .ok (.invokestatic 48, 3) := by decide +kernel
theorem dX1_isSolution_72 : decode cX1_isSolution 72 = .ok (.iaload, 1) := by decide +kernel
theorem dX1_isSolution_73 : decode cX1_isSolution 73 = .ok (.i2l, 1) := by decide +kernel
theorem dX1_isSolution_74 : decode cX1_isSolution 74 = .ok (.aload 6, 2) := by decide +kernel
theorem dX1_isSolution_76 : decode cX1_isSolution 76 = .ok (.iload 10, 2) := by decide +kernel
theorem dX1_isSolution_78 : decode cX1_isSolution 78 = .ok (.iaload, 1) := by decide +kernel
theorem dX1_isSolution_79 : decode cX1_isSolution 79 = .ok (.i2l, 1) := by decide +kernel
theorem dX1_isSolution_80 : decode cX1_isSolution 80 = .ok (.lmul, 1) := by decide +kernel
theorem dX1_isSolution_81 : decode cX1_isSolution 81 = .ok (.ladd, 1) := by decide +kernel
theorem dX1_isSolution_82 : decode cX1_isSolution 82 = .ok (.lstore 8, 2) := by decide +kernel
theorem dX1_isSolution_84 : decode cX1_isSolution 84 = .ok (.iinc 10 1, 3) := by decide +kernel
theorem dX1_isSolution_87 : decode cX1_isSolution 87 = .ok (.goto (-37), 3) := by decide +kernel
theorem dX1_isSolution_90 : decode cX1_isSolution 90 = .ok (.lload 8, 2) := by decide +kernel
theorem dX1_isSolution_92 : decode cX1_isSolution 92 = .ok (.aload_n 0, 1) := by decide +kernel
theorem dX1_isSolution_93 : decode cX1_isSolution 93 = .ok (.getfield 20, 3) := by decide +kernel
theorem dX1_isSolution_96 : decode cX1_isSolution 96 = .ok (.iload 7, 2) := by decide +kernel
theorem dX1_isSolution_98 : decode cX1_isSolution 98 = .ok (.iaload, 1) := by decide +kernel
theorem dX1_isSolution_99 : decode cX1_isSolution 99 = .ok (.i2l, 1) := by decide +kernel
theorem dX1_isSolution_100 : decode cX1_isSolution 100 = .ok (.lcmp, 1) := by decide +kernel
theorem dX1_isSolution_101 : decode cX1_isSolution 101 = .ok (.ifCond .lt 17, 3) := by decide +kernel
theorem dX1_isSolution_104 : decode cX1_isSolution 104 = .ok (.lload 8, 2) := by decide +kernel
theorem dX1_isSolution_106 : decode cX1_isSolution 106 = .ok (.aload_n 0, 1) := by decide +kernel
theorem dX1_isSolution_107 : decode cX1_isSolution 107 = .ok (.getfield 23, 3) := by decide +kernel
theorem dX1_isSolution_110 : decode cX1_isSolution 110 = .ok (.iload 7, 2) := by decide +kernel
theorem dX1_isSolution_112 : decode cX1_isSolution 112 = .ok (.iaload, 1) := by decide +kernel
theorem dX1_isSolution_113 : decode cX1_isSolution 113 = .ok (.i2l, 1) := by decide +kernel
theorem dX1_isSolution_114 : decode cX1_isSolution 114 = .ok (.lcmp, 1) := by decide +kernel
theorem dX1_isSolution_115 : decode cX1_isSolution 115 = .ok (.ifCond .le 5, 3) := by decide +kernel
theorem dX1_isSolution_118 : decode cX1_isSolution 118 = .ok (.iconst 0, 1) := by decide +kernel
theorem dX1_isSolution_119 : decode cX1_isSolution 119 = .ok (.ireturn, 1) := by decide +kernel
theorem dX1_isSolution_120 : decode cX1_isSolution 120 = .ok (.iinc 7 1, 3) := by decide +kernel
theorem dX1_isSolution_123 : decode cX1_isSolution 123 = .ok (.goto (-88), 3) := by decide +kernel
theorem dX1_isSolution_126 : decode cX1_isSolution 126 = .ok (.iconst 1, 1) := by decide +kernel
theorem dX1_isSolution_127 : decode cX1_isSolution 127 = .ok (.ireturn, 1) := by decide +kernel
set_option maxRecDepth 20000 in
theorem ggX1_condition_X1_isSingular : GoodIn wsX1_condition wsX1_isSingular := goodIn_ca (goodIn_r _ [21, 22, 23, 24, 20, 25, 2, 26, 3, 27, 28, 29, 30, 31, 32, 41, 42, 43, 44, 45, 46, 47, 48, 49, 50, 51, 52, 53] (by decide +kernel) (by decide +kernel)) (goodIn_sub (fun _ h => List.mem_cons_of_mem _ (List.mem_append_right _ h)) (by decide +kernel))
set_option maxRecDepth 20000 in
theorem gX1_condition_X1_isSingular : GoodIn wsX1_condition (wsV RX1 101 RX1 yX1_isSingular wsX1_isSingular) := goodIn_app (goodIn_of _ (by decide +kernel)) ggX1_condition_X1_isSingular
set_option maxRecDepth 20000 in
theorem ggX1_condition_X1_fail : GoodIn wsX1_condition wsX1_fail := goodIn_r _ [36, 1, 41, 42, 43, 44, 45, 46, 47, 48, 49, 50, 51, 52, 53] (by decide +kernel) (by decide +kernel)
set_option maxRecDepth 20000 in
theorem gX1_condition_X1_fail : GoodIn wsX1_condition (wsV RX1 54 RX1 yX1_fail wsX1_fail) := goodIn_app (goodIn_of _ (by decide +kernel)) ggX1_condition_X1_fail
set_option maxRecDepth 20000 in
theorem ggX1_condition_X1_at : GoodIn wsX1_condition wsX1_at := goodIn_r _ [32] (by decide +kernel) (by decide +kernel)
set_option maxRecDepth 20000 in
theorem gX1_condition_X1_at : GoodIn wsX1_condition (va_wsS RX1 48 yX1_at wsX1_at) := goodIn_app (goodIn_of _ (by decide +kernel)) ggX1_condition_X1_at
set_option maxRecDepth 20000 in
theorem ggX1_condition_X1_cofactor : GoodIn wsX1_condition wsX1_cofactor := goodIn_ca (goodIn_r _ [40, 22, 23, 24, 20, 25, 2, 26, 3, 27, 28, 29, 30, 31, 32, 41, 42, 43, 44, 45, 46, 47, 48, 49, 50, 51, 52, 53] (by decide +kernel) (by decide +kernel)) (goodIn_sub (fun _ h => List.mem_cons_of_mem _ (List.mem_append_right _ h)) (by decide +kernel))
set_option maxRecDepth 20000 in
theorem gX1_condition_X1_cofactor : GoodIn wsX1_condition (wsV RX1 94 RX1 yX1_cofactor wsX1_cofactor) := goodIn_app (goodIn_of _ (by decide +kernel)) ggX1_condition_X1_cofactor
set_option maxRecDepth 20000 in
theorem ggX1_condition_X1_determinantWithout : GoodIn wsX1_condition wsX1_determinantWithout := goodIn_ca (goodIn_r _ [25, 2, 26, 3, 27, 28, 20, 29, 30, 31, 32, 41, 42, 43, 44, 45, 46, 47, 48, 49, 50, 51, 52, 53] (by decide +kernel) (by decide +kernel)) (goodIn_sub (fun _ h => List.mem_cons_of_mem _ (List.mem_append_right _ h)) (by decide +kernel))
set_option maxRecDepth 20000 in
theorem gX1_condition_X1_determinantWithout : GoodIn wsX1_condition (wsV RX1 80 RX1 yX1_determinantWithout wsX1_determinantWithout) := goodIn_app (goodIn_of _ (by decide +kernel)) ggX1_condition_X1_determinantWithout
theorem dX1_condition_0 : decode cX1_condition 0 = .ok (.aload_n 0, 1) := by decide +kernel
theorem dX1_condition_1 : decode cX1_condition 1 = .ok (.iconst 0, 1) := by decide +kernel
theorem dX1_condition_2 : decode cX1_condition 2 = .ok (.putfield 45, 3) := by decide +kernel
theorem dX1_condition_5 : decode cX1_condition 5 = .ok (.aload_n 0, 1) := by decide +kernel
theorem dX1_condition_6 : decode cX1_condition 6 = .ok (.invokevirtual 101, 3) := by decide +kernel
theorem dX1_condition_9 : decode cX1_condition 9 = .ok (.ifCond .eq 10, 3) := by decide +kernel
theorem dX1_condition_12 : decode cX1_condition 12 = .ok (.aload_n 0, 1) := by decide +kernel
theorem dX1_condition_13 : decode cX1_condition 13 = .ok (.iconst 1, 1) := by decide +kernel
theorem dX1_condition_14 : decode cX1_condition 14 = .ok (.invokevirtual 54, 3) := by decide +kernel
theorem dX1_condition_17 : decode cX1_condition 17 = .ok (.i2d, 1) := by decide +kernel
theorem dX1_condition_18 : decode cX1_condition 18 = .ok (.dreturn, 1) := by decide +kernel
theorem dX1_condition_19 : decode cX1_condition 19 = .ok (.iconst 0, 1) := by decide +kernel
theorem dX1_condition_20 : decode cX1_condition 20 = .ok (.istore_n 1, 1) := by decide +kernel
theorem dX1_condition_21 : decode cX1_condition 21 = .ok (.lconst 0, 1) := by decide +kernel
theorem dX1_condition_22 : decode cX1_condition 22 = .ok (.lstore_n 2, 1) := by decide +kernel
theorem dX1_condition_23 : decode cX1_condition 23 = .ok (.iconst 0, 1) := by decide +kernel
theorem dX1_condition_24 : decode cX1_condition 24 = .ok (.istore 4, 2) := by decide +kernel
theorem dX1_condition_26 : decode cX1_condition 26 = .ok (.iload 4, 2) := by decide +kernel
theorem dX1_condition_28 : decode cX1_condition 28 = .ok (.aload_n 0, 1) := by decide +kernel
theorem dX1_condition_29 : decode cX1_condition 29 = .ok (.getfield 7, 3) := by decide +kernel
theorem dX1_condition_32 : decode cX1_condition 32 = .ok (.if_icmp .ge 83, 3) := by decide +kernel
theorem dX1_condition_35 : decode cX1_condition 35 = .ok (.iconst 0, 1) := by decide +kernel
theorem dX1_condition_36 : decode cX1_condition 36 = .ok (.istore 5, 2) := by decide +kernel
theorem dX1_condition_38 : decode cX1_condition 38 = .ok (.lconst 0, 1) := by decide +kernel
theorem dX1_condition_39 : decode cX1_condition 39 = .ok (.lstore 6, 2) := by decide +kernel
theorem dX1_condition_41 : decode cX1_condition 41 = .ok (.iconst 0, 1) := by decide +kernel
theorem dX1_condition_42 : decode cX1_condition 42 = .ok (.istore 8, 2) := by decide +kernel
theorem dX1_condition_44 : decode cX1_condition 44 = .ok (.iload 8, 2) := by decide +kernel
theorem dX1_condition_46 : decode cX1_condition 46 = .ok (.aload_n 0, 1) := by decide +kernel
theorem dX1_condition_47 : decode cX1_condition 47 = .ok (.getfield 7, 3) := by decide +kernel
theorem dX1_condition_50 : decode cX1_condition 50 = .ok (.if_icmp .ge 45, 3) := by decide +kernel
theorem dX1_condition_53 : decode cX1_condition 53 = .ok (.iload 5, 2) := by decide +kernel
theorem dX1_condition_55 : decode cX1_condition 55 = .ok (.aload_n 0, 1) := by decide +kernel
theorem dX1_condition_56 : decode cX1_condition 56 = .ok (.getfield 13, 3) := by decide +kernel
theorem dX1_condition_59 : decode cX1_condition 59 = .ok (.iload 4, 2) := by decide +kernel
theorem dX1_condition_61 : decode cX1_condition 61 = .ok (.iload 8, 2) := by decide +kernel
theorem dX1_condition_63 : decode cX1_condition 63 = .ok (.invokestatic 48, 3) := by decide +kernel
theorem dX1_condition_66 : decode cX1_condition 66 = .ok (.iaload, 1) := by decide +kernel
theorem dX1_condition_67 : decode cX1_condition 67 = .ok (.invokestatic 74, 3) := by decide +kernel
theorem dX1_condition_70 : decode cX1_condition 70 = .ok (.iadd, 1) := by decide +kernel
theorem dX1_condition_71 : decode cX1_condition 71 = .ok (.istore 5, 2) := by decide +kernel
theorem dX1_condition_73 : decode cX1_condition 73 = .ok (.lload 6, 2) := by decide +kernel
theorem dX1_condition_75 : decode cX1_condition 75 = .ok (.aload_n 0, 1) := by decide +kernel
theorem dX1_condition_76 : decode cX1_condition 76 = .ok (.iload 4, 2) := by decide +kernel
theorem dX1_condition_78 : decode cX1_condition 78 = .ok (.iload 8, 2) := by decide +kernel
theorem dX1_condition_80 : decode cX1_condition 80 = .ok (.invokevirtual 94, 3) := by decide +kernel
theorem dX1_condition_83 : decode cX1_condition 83 = .ok (.invokestatic 84, 3) := by decide +kernel
theorem dX1_condition_86 : decode cX1_condition 86 = .ok (.ladd, 1) := by decide +kernel
theorem dX1_condition_87 : decode cX1_condition 87 = .ok (.lstore 6, 2) := by decide +kernel
theorem dX1_condition_89 : decode cX1_condition 89 = .ok (.iinc 8 1, 3) := by decide +kernel
theorem dX1_condition_92 : decode cX1_condition 92 = .ok (.goto (-48), 3) := by decide +kernel
theorem dX1_condition_95 : decode cX1_condition 95 = .ok (.iload_n 1, 1) := by decide +kernel
theorem dX1_condition_96 : decode cX1_condition 96 = .ok (.iload 5, 2) := by decide +kernel
theorem dX1_condition_98 : decode cX1_condition 98 = .ok (.invokestatic 71, 3) := by decide +kernel
theorem dX1_condition_101 : decode cX1_condition 101 = .ok (.istore_n 1, 1) := by decide +kernel
theorem dX1_condition_102 : decode cX1_condition 102 = .ok (.lload_n 2, 1) := by decide +kernel
theorem dX1_condition_103 : decode cX1_condition 103 = .ok (.lload 6, 2) := by decide +kernel
theorem dX1_condition_105 : decode cX1_condition 105 = .ok (.invokestatic 117, 3) := by decide +kernel
theorem dX1_condition_108 : decode cX1_condition 108 = .ok (.lstore_n 2, 1) := by decide +kernel
theorem dX1_condition_109 : decode cX1_condition 109 = .ok (.iinc 4 1, 3) := by decide +kernel
theorem dX1_condition_112 : decode cX1_condition 112 = .ok (.goto (-86), 3) := by decide +kernel
theorem dX1_condition_115 : decode cX1_condition 115 = .ok (.iload_n 1, 1) := by decide +kernel
theorem dX1_condition_116 : decode cX1_condition 116 = .ok (.i2d, 1) := by decide +kernel
theorem dX1_condition_117 : decode cX1_condition 117 = .ok (.lload_n 2, 1) := by decide +kernel
theorem dX1_condition_118 : decode cX1_condition 118 = .ok (.l2d, 1) := by decide +kernel
theorem dX1_condition_119 : decode cX1_condition 119 = .ok (.aload_n 0, 1) := by decide +kernel
theorem dX1_condition_120 : decode cX1_condition 120 = .ok (.iconst (-1), 1) := by decide +kernel
theorem dX1_condition_121 : decode cX1_condition 121 = .ok (.iconst (-1), 1) := by decide +kernel
theorem dX1_condition_122 : decode cX1_condition 122 = .ok (.invokevirtual 80, 3) := by decide +kernel
theorem dX1_condition_125 : decode cX1_condition 125 = .ok (.invokestatic 84, 3) := by decide +kernel
theorem dX1_condition_128 : decode cX1_condition 128 = .ok (.l2d, 1) := by decide +kernel
theorem dX1_condition_129 : decode cX1_condition 129 = .ok (.ddiv, 1) := by decide +kernel
theorem dX1_condition_130 : decode cX1_condition 130 = .ok (.dmul, 1) := by decide +kernel
theorem dX1_condition_131 : decode cX1_condition 131 = .ok (.dreturn, 1) := by decide +kernel
set_option maxRecDepth 20000 in
theorem ggX1_findVariation_X1_cofactor : GoodIn wsX1_findVariation wsX1_cofactor := goodIn_ca (goodIn_r _ [15, 16, 17, 18, 14, 19, 1, 20, 21, 22, 23, 24, 25, 26, 27, 34, 35, 36, 37, 38, 39, 40, 41, 42, 43, 44, 45, 46] (by decide +kernel) (by decide +kernel)) (goodIn_sub (fun _ h => List.mem_cons_of_mem _ (List.mem_append_left _ (List.mem_append_right _ h))) (by decide +kernel))
set_option maxRecDepth 20000 in
theorem gX1_findVariation_X1_cofactor : GoodIn wsX1_findVariation (wsV RX1 94 RX1 yX1_cofactor wsX1_cofactor) := goodIn_app (goodIn_of _ (by decide +kernel)) ggX1_findVariation_X1_cofactor
set_option maxRecDepth 20000 in
theorem ggX1_findVariation_X1_at : GoodIn wsX1_findVariation wsX1_at := goodIn_r _ [27] (by decide +kernel) (by decide +kernel)
set_option maxRecDepth 20000 in
theorem gX1_findVariation_X1_at : GoodIn wsX1_findVariation (va_wsS RX1 48 yX1_at wsX1_at) := goodIn_app (goodIn_of _ (by decide +kernel)) ggX1_findVariation_X1_at
set_option maxRecDepth 20000 in
theorem ggX1_findVariation_X1_determinantWithout : GoodIn wsX1_findVariation wsX1_determinantWithout := goodIn_ca (goodIn_r _ [19, 1, 20, 21, 22, 23, 14, 24, 25, 26, 27, 34, 35, 36, 37, 38, 39, 40, 41, 42, 43, 44, 45, 46] (by decide +kernel) (by decide +kernel)) (goodIn_sub (fun _ h => List.mem_cons_of_mem _ (List.mem_append_left _ (List.mem_append_right _ h))) (by decide +kernel))
set_option maxRecDepth 20000 in
theorem gX1_findVariation_X1_determinantWithout : GoodIn wsX1_findVariation (wsV RX1 80 RX1 yX1_determinantWithout wsX1_determinantWithout) := goodIn_app (goodIn_of _ (by decide +kernel)) ggX1_findVariation_X1_determinantWithout
set_option maxRecDepth 20000 in
theorem ggX1_findVariation_X1_reduce : GoodIn wsX1_findVariation wsX1_reduce := goodIn_ca (goodIn_r _ [31, 2, 3, 4, 5, 32, 33, 34, 35, 36, 37, 38, 39, 40, 41, 42, 43, 44, 45, 46] (by decide +kernel) (by decide +kernel)) (goodIn_sub (fun _ h => List.mem_cons_of_mem _ (List.mem_append_right _ h)) (by decide +kernel))
set_option maxRecDepth 20000 in
theorem gX1_findVariation_X1_reduce : GoodIn wsX1_findVariation (wsV RX1 97 RX1 yX1_reduce wsX1_reduce) := goodIn_app (goodIn_of _ (by decide +kernel)) ggX1_findVariation_X1_reduce
theorem dX1_findVariation_0 : decode cX1_findVariation 0 = .ok (.lconst 0, 1) := by decide +kernel
theorem dX1_findVariation_1 : decode cX1_findVariation 1 = .ok (.lstore_n 1, 1) := by decide +kernel
theorem dX1_findVariation_2 : decode cX1_findVariation 2 = .ok (.iconst 0, 1) := by decide +kernel
theorem dX1_findVariation_3 : decode cX1_findVariation 3 = .ok (.istore_n 3, 1) := by decide +kernel
theorem dX1_findVariation_4 : decode cX1_findVariation 4 = .ok (.iload_n 3, 1) := by decide +kernel
theorem dX1_findVariation_5 : decode cX1_findVariation 5 = .ok (.aload_n 0, 1) := by decide +kernel
theorem dX1_findVariation_6 : decode cX1_findVariation 6 = .ok (.getfield 7, 3) := by decide +kernel
theorem dX1_findVariation_9 : decode cX1_findVariation 9 = .ok (.if_icmp .ge 84, 3) := by decide +kernel
theorem dX1_findVariation_12 : decode cX1_findVariation 12 = .ok (.lconst 0, 1) := by decide +kernel
theorem dX1_findVariation_13 : decode cX1_findVariation 13 = .ok (.lstore 4, 2) := by decide +kernel
theorem dX1_findVariation_15 : decode cX1_findVariation 15 = .ok (.iconst 0, 1) := by decide +kernel
theorem dX1_findVariation_16 : decode cX1_findVariation 16 = .ok (.istore 6, 2) := by decide +kernel
theorem dX1_findVariation_18 : decode cX1_findVariation 18 = .ok (.iload 6, 2) := by decide +kernel
theorem dX1_findVariation_20 : decode cX1_findVariation 20 = .ok (.aload_n 0, 1) := by decide +kernel
theorem dX1_findVariation_21 : decode cX1_findVariation 21 = .ok (.getfield 7, 3) := by decide +kernel
theorem dX1_findVariation_24 : decode cX1_findVariation 24 = .ok (.if_icmp .ge 56, 3) := by decide +kernel
theorem dX1_findVariation_27 : decode cX1_findVariation 27 = .ok (.iconst 0, 1) := by decide +kernel
theorem dX1_findVariation_28 : decode cX1_findVariation 28 = .ok (.istore 7, 2) := by decide +kernel
theorem dX1_findVariation_30 : decode cX1_findVariation 30 = .ok (.iload 7, 2) := by decide +kernel
theorem dX1_findVariation_32 : decode cX1_findVariation 32 = .ok (.aload_n 0, 1) := by decide +kernel
theorem dX1_findVariation_33 : decode cX1_findVariation 33 = .ok (.getfield 7, 3) := by decide +kernel
theorem dX1_findVariation_36 : decode cX1_findVariation 36 = .ok (.if_icmp .ge 38, 3) := by decide +kernel
theorem dX1_findVariation_39 : decode cX1_findVariation 39 = .ok (.lload 4, 2) := by decide +kernel
theorem dX1_findVariation_41 : decode cX1_findVariation 41 = .ok (.aload_n 0, 1) := by decide +kernel
theorem dX1_findVariation_42 : decode cX1_findVariation 42 = .ok (.iload_n 3, 1) := by decide +kernel
theorem dX1_findVariation_43 : decode cX1_findVariation 43 = .ok (.iload 7, 2) := by decide +kernel
theorem dX1_findVariation_45 : decode cX1_findVariation 45 = .ok (.invokevirtual 94, 3) := by decide +kernel
theorem dX1_findVariation_48 : decode cX1_findVariation 48 = .ok (.invokestatic 84, 3) := by decide +kernel
theorem dX1_findVariation_51 : decode cX1_findVariation 51 = .ok (.aload_n 0, 1) := by decide +kernel
theorem dX1_findVariation_52 : decode cX1_findVariation 52 = .ok (.getfield 17, 3) := by decide +kernel
theorem dX1_findVariation_55 : decode cX1_findVariation 55 = .ok (.iload 7, 2) := by decide +kernel
theorem dX1_findVariation_57 : decode cX1_findVariation 57 = .ok (.iload 6, 2) := by decide +kernel
theorem dX1_findVariation_59 : decode cX1_findVariation 59 = .ok (.invokestatic 48, 3) := by decide +kernel
theorem dX1_findVariation_62 : decode cX1_findVariation 62 = .ok (.iaload, 1) := by decide +kernel
theorem dX1_findVariation_63 : decode cX1_findVariation 63 = .ok (.i2l, 1) := by decide +kernel
theorem dX1_findVariation_64 : decode cX1_findVariation 64 = .ok (.lmul, 1) := by decide +kernel
theorem dX1_findVariation_65 : decode cX1_findVariation 65 = .ok (.ladd, 1) := by decide +kernel
theorem dX1_findVariation_66 : decode cX1_findVariation 66 = .ok (.lstore 4, 2) := by decide +kernel
theorem dX1_findVariation_68 : decode cX1_findVariation 68 = .ok (.iinc 7 1, 3) := by decide +kernel
theorem dX1_findVariation_71 : decode cX1_findVariation 71 = .ok (.goto (-41), 3) := by decide +kernel
theorem dX1_findVariation_74 : decode cX1_findVariation 74 = .ok (.iinc 6 1, 3) := by decide +kernel
theorem dX1_findVariation_77 : decode cX1_findVariation 77 = .ok (.goto (-59), 3) := by decide +kernel
theorem dX1_findVariation_80 : decode cX1_findVariation 80 = .ok (.lload_n 1, 1) := by decide +kernel
theorem dX1_findVariation_81 : decode cX1_findVariation 81 = .ok (.lload 4, 2) := by decide +kernel
theorem dX1_findVariation_83 : decode cX1_findVariation 83 = .ok (.invokestatic 117, 3) := by decide +kernel
theorem dX1_findVariation_86 : decode cX1_findVariation 86 = .ok (.lstore_n 1, 1) := by decide +kernel
theorem dX1_findVariation_87 : decode cX1_findVariation 87 = .ok (.iinc 3 1, 3) := by decide +kernel
theorem dX1_findVariation_90 : decode cX1_findVariation 90 = .ok (.goto (-86), 3) := by decide +kernel
theorem dX1_findVariation_93 : decode cX1_findVariation 93 = .ok (.aload_n 0, 1) := by decide +kernel
theorem dX1_findVariation_94 : decode cX1_findVariation 94 = .ok (.lload_n 1, 1) := by decide +kernel
theorem dX1_findVariation_95 : decode cX1_findVariation 95 = .ok (.ldc2_w 120, 3) := by decide +kernel
theorem dX1_findVariation_98 : decode cX1_findVariation 98 = .ok (.aload_n 0, 1) := by decide +kernel
theorem dX1_findVariation_99 : decode cX1_findVariation 99 = .ok (.iconst (-1), 1) := by decide +kernel
theorem dX1_findVariation_100 : decode cX1_findVariation 100 = .ok (.iconst (-1), 1) := by decide +kernel
theorem dX1_findVariation_101 : decode cX1_findVariation 101 = .ok (.invokevirtual 80, 3) := by decide +kernel
theorem dX1_findVariation_104 : decode cX1_findVariation 104 = .ok (.invokestatic 84, 3) := by decide +kernel
theorem dX1_findVariation_107 : decode cX1_findVariation 107 = .ok (.lmul, 1) := by decide +kernel
theorem dX1_findVariation_108 : decode cX1_findVariation 108 = .ok (.invokevirtual 97, 3) := by decide +kernel
theorem dX1_findVariation_111 : decode cX1_findVariation 111 = .ok (.return_, 1) := by decide +kernel
set_option maxRecDepth 20000 in
theorem ggX1_variationNumerator_X1_isSingular : GoodIn wsX1_variationNumerator wsX1_isSingular := goodIn_ca (goodIn_r _ [7, 8, 9, 10, 6, 11, 12, 13, 14, 15, 16, 17, 18, 19, 20, 47, 48, 49, 50, 51, 52, 53, 54, 55, 56, 57, 58, 59] (by decide +kernel) (by decide +kernel)) (goodIn_sub (fun _ h => List.mem_cons_of_mem _ (List.mem_append_left _ (List.mem_append_right _ h))) (by decide +kernel))
set_option maxRecDepth 20000 in
theorem gX1_variationNumerator_X1_isSingular : GoodIn wsX1_variationNumerator (wsV RX1 101 RX1 yX1_isSingular wsX1_isSingular) := goodIn_app (goodIn_of _ (by decide +kernel)) ggX1_variationNumerator_X1_isSingular
set_option maxRecDepth 20000 in
theorem ggX1_variationNumerator_X1_fail : GoodIn wsX1_variationNumerator wsX1_fail := goodIn_r _ [24, 1, 47, 48, 49, 50, 51, 52, 53, 54, 55, 56, 57, 58, 59] (by decide +kernel) (by decide +kernel)
set_option maxRecDepth 20000 in
theorem gX1_variationNumerator_X1_fail : GoodIn wsX1_variationNumerator (wsV RX1 54 RX1 yX1_fail wsX1_fail) := goodIn_app (goodIn_of _ (by decide +kernel)) ggX1_variationNumerator_X1_fail
set_option maxRecDepth 20000 in
theorem ggX1_variationNumerator_X1_findVariation : GoodIn wsX1_variationNumerator wsX1_findVariation := goodIn_ca (goodIn_ca (goodIn_r _ [28, 12, 29, 30, 31, 32, 33, 34, 35, 36, 37, 38, 39, 40, 6, 41, 8, 9, 10, 11, 13, 14, 15, 16, 17, 18, 19, 20, 42, 43, 44, 45, 2, 46, 47, 48, 49, 50, 51, 52, 53, 54, 55, 56, 57, 58, 59] (by decide +kernel) (by decide +kernel)) (goodIn_sub (fun _ h => List.mem_cons_of_mem _ (List.mem_append_left _ (List.mem_append_right _ h))) (by decide +kernel))) (goodIn_sub (fun _ h => List.mem_cons_of_mem _ (List.mem_append_right _ h)) (by decide +kernel))
set_option maxRecDepth 20000 in
theorem gX1_variationNumerator_X1_findVariation : GoodIn wsX1_variationNumerator (wsV RX1 122 RX1 yX1_findVariation wsX1_findVariation) := goodIn_app (goodIn_of _ (by decide +kernel)) ggX1_variationNumerator_X1_findVariation
theorem dX1_variationNumerator_0 : decode cX1_variationNumerator 0 = .ok (.aload_n 0, 1) := by decide +kernel
theorem dX1_variationNumerator_1 : decode cX1_variationNumerator 1 = .ok (.iconst 0, 1) := by decide +kernel
theorem dX1_variationNumerator_2 : decode cX1_variationNumerator 2 = .ok (.putfield 45, 3) := by decide +kernel
theorem dX1_variationNumerator_5 : decode cX1_variationNumerator 5 = .ok (.aload_n 0, 1) := by decide +kernel
theorem dX1_variationNumerator_6 : decode cX1_variationNumerator 6 = .ok (.invokevirtual 101, 3) := by decide +kernel
theorem dX1_variationNumerator_9 : decode cX1_variationNumerator 9 = .ok (.ifCond .eq 10, 3) := by decide +kernel
theorem dX1_variationNumerator_12 : decode cX1_variationNumerator 12 = .ok (.aload_n 0, 1) := by decide +kernel
theorem dX1_variationNumerator_13 : decode cX1_variationNumerator 13 = .ok (.iconst 1, 1) := by decide +kernel
theorem dX1_variationNumerator_14 : decode cX1_variationNumerator 14 = .ok (.invokevirtual 54, 3) := by decide +kernel
theorem dX1_variationNumerator_17 : decode cX1_variationNumerator 17 = .ok (.i2l, 1) := by decide +kernel
theorem dX1_variationNumerator_18 : decode cX1_variationNumerator 18 = .ok (.lreturn, 1) := by decide +kernel
theorem dX1_variationNumerator_19 : decode cX1_variationNumerator 19 = .ok (.aload_n 0, 1) := by decide +kernel
theorem dX1_variationNumerator_20 : decode cX1_variationNumerator 20 = .ok (.invokevirtual 122, 3) := by decide +kernel
theorem dX1_variationNumerator_23 : decode cX1_variationNumerator 23 = .ok (.aload_n 0, 1) := by decide +kernel
theorem dX1_variationNumerator_24 : decode cX1_variationNumerator 24 = .ok (.getfield 87, 3) := by decide +kernel
theorem dX1_variationNumerator_27 : decode cX1_variationNumerator 27 = .ok (.lreturn, 1) := by decide +kernel
set_option maxRecDepth 20000 in
theorem ggX1_variationDenominator_X1_isSingular : GoodIn wsX1_variationDenominator wsX1_isSingular := goodIn_ca (goodIn_r _ [7, 8, 9, 10, 6, 11, 12, 13, 14, 15, 16, 17, 18, 19, 20, 47, 48, 49, 50, 51, 52, 53, 54, 55, 56, 57, 58, 59] (by decide +kernel) (by decide +kernel)) (goodIn_sub (fun _ h => List.mem_cons_of_mem _ (List.mem_append_left _ (List.mem_append_right _ h))) (by decide +kernel))
set_option maxRecDepth 20000 in
theorem gX1_variationDenominator_X1_isSingular : GoodIn wsX1_variationDenominator (wsV RX1 101 RX1 yX1_isSingular wsX1_isSingular) := goodIn_app (goodIn_of _ (by decide +kernel)) ggX1_variationDenominator_X1_isSingular
set_option maxRecDepth 20000 in
theorem ggX1_variationDenominator_X1_fail : GoodIn wsX1_variationDenominator wsX1_fail := goodIn_r _ [24, 1, 47, 48, 49, 50, 51, 52, 53, 54, 55, 56, 57, 58, 59] (by decide +kernel) (by decide +kernel)
set_option maxRecDepth 20000 in
theorem gX1_variationDenominator_X1_fail : GoodIn wsX1_variationDenominator (wsV RX1 54 RX1 yX1_fail wsX1_fail) := goodIn_app (goodIn_of _ (by decide +kernel)) ggX1_variationDenominator_X1_fail
set_option maxRecDepth 20000 in
theorem ggX1_variationDenominator_X1_findVariation : GoodIn wsX1_variationDenominator wsX1_findVariation := goodIn_ca (goodIn_ca (goodIn_r _ [28, 12, 29, 30, 31, 32, 33, 34, 35, 36, 37, 38, 39, 40, 6, 41, 8, 9, 10, 11, 13, 14, 15, 16, 17, 18, 19, 20, 42, 43, 44, 45, 46, 2, 47, 48, 49, 50, 51, 52, 53, 54, 55, 56, 57, 58, 59] (by decide +kernel) (by decide +kernel)) (goodIn_sub (fun _ h => List.mem_cons_of_mem _ (List.mem_append_left _ (List.mem_append_right _ h))) (by decide +kernel))) (goodIn_sub (fun _ h => List.mem_cons_of_mem _ (List.mem_append_right _ h)) (by decide +kernel))
set_option maxRecDepth 20000 in
theorem gX1_variationDenominator_X1_findVariation : GoodIn wsX1_variationDenominator (wsV RX1 122 RX1 yX1_findVariation wsX1_findVariation) := goodIn_app (goodIn_of _ (by decide +kernel)) ggX1_variationDenominator_X1_findVariation
theorem dX1_variationDenominator_0 : decode cX1_variationDenominator 0 = .ok (.aload_n 0, 1) := by decide +kernel
theorem dX1_variationDenominator_1 : decode cX1_variationDenominator 1 = .ok (.iconst 0, 1) := by decide +kernel
theorem dX1_variationDenominator_2 : decode cX1_variationDenominator 2 = .ok (.putfield 45, 3) := by decide +kernel
theorem dX1_variationDenominator_5 : decode cX1_variationDenominator 5 = .ok (.aload_n 0, 1) := by decide +kernel
theorem dX1_variationDenominator_6 : decode cX1_variationDenominator 6 = .ok (.invokevirtual 101, 3) := by decide +kernel
theorem dX1_variationDenominator_9 : decode cX1_variationDenominator 9 = .ok (.ifCond .eq 10, 3) := by decide +kernel
theorem dX1_variationDenominator_12 : decode cX1_variationDenominator 12 = .ok (.aload_n 0, 1) := by decide +kernel
theorem dX1_variationDenominator_13 : decode cX1_variationDenominator 13 = .ok (.iconst 1, 1) := by decide +kernel
theorem dX1_variationDenominator_14 : decode cX1_variationDenominator 14 = .ok (.invokevirtual 54, 3) := by decide +kernel
theorem dX1_variationDenominator_17 : decode cX1_variationDenominator 17 = .ok (.i2l, 1) := by decide +kernel
theorem dX1_variationDenominator_18 : decode cX1_variationDenominator 18 = .ok (.lreturn, 1) := by decide +kernel
theorem dX1_variationDenominator_19 : decode cX1_variationDenominator 19 = .ok (.aload_n 0, 1) := by decide +kernel
theorem dX1_variationDenominator_20 : decode cX1_variationDenominator 20 = .ok (.invokevirtual 122, 3) := by decide +kernel
theorem dX1_variationDenominator_23 : decode cX1_variationDenominator 23 = .ok (.aload_n 0, 1) := by decide +kernel
theorem dX1_variationDenominator_24 : decode cX1_variationDenominator 24 = .ok (.getfield 91, 3) := by decide +kernel
theorem dX1_variationDenominator_27 : decode cX1_variationDenominator 27 = .ok (.lreturn, 1) := by decide +kernel
set_option maxRecDepth 20000 in
theorem ggX1_isSafe_X1_isSingular : GoodIn wsX1_isSafe wsX1_isSingular := goodIn_ca (goodIn_r _ [8, 9, 10, 11, 7, 12, 13, 14, 15, 16, 17, 18, 19, 20, 21, 43, 44, 45, 46, 47, 48, 49, 50, 51, 52, 53, 54, 55] (by decide +kernel) (by decide +kernel)) (goodIn_sub (fun _ h => List.mem_cons_of_mem _ (List.mem_append_left _ (List.mem_append_right _ h))) (by decide +kernel))
set_option maxRecDepth 20000 in
theorem gX1_isSafe_X1_isSingular : GoodIn wsX1_isSafe (wsV RX1 101 RX1 yX1_isSingular wsX1_isSingular) := goodIn_app (goodIn_of _ (by decide +kernel)) ggX1_isSafe_X1_isSingular
set_option maxRecDepth 20000 in
theorem ggX1_isSafe_X1_findVariation : GoodIn wsX1_isSafe wsX1_findVariation := goodIn_ca (goodIn_ca (goodIn_r _ [25, 13, 26, 27, 28, 29, 30, 31, 32, 33, 34, 35, 36, 37, 7, 38, 9, 10, 11, 12, 14, 15, 16, 17, 18, 19, 20, 21, 39, 40, 41, 42, 2, 3, 43, 44, 45, 46, 47, 48, 49, 50, 51, 52, 53, 54, 55] (by decide +kernel) (by decide +kernel)) (goodIn_sub (fun _ h => List.mem_cons_of_mem _ (List.mem_append_left _ (List.mem_append_right _ h))) (by decide +kernel))) (goodIn_sub (fun _ h => List.mem_cons_of_mem _ (List.mem_append_right _ h)) (by decide +kernel))
set_option maxRecDepth 20000 in
theorem gX1_isSafe_X1_findVariation : GoodIn wsX1_isSafe (wsV RX1 122 RX1 yX1_findVariation wsX1_findVariation) := goodIn_app (goodIn_of _ (by decide +kernel)) ggX1_isSafe_X1_findVariation
theorem dX1_isSafe_0 : decode cX1_isSafe 0 = .ok (.aload_n 0, 1) := by decide +kernel
theorem dX1_isSafe_1 : decode cX1_isSafe 1 = .ok (.iconst 0, 1) := by decide +kernel
theorem dX1_isSafe_2 : decode cX1_isSafe 2 = .ok (.putfield 45, 3) := by decide +kernel
theorem dX1_isSafe_5 : decode cX1_isSafe 5 = .ok (.aload_n 0, 1) := by decide +kernel
theorem dX1_isSafe_6 : decode cX1_isSafe 6 = .ok (.invokevirtual 101, 3) := by decide +kernel
theorem dX1_isSafe_9 : decode cX1_isSafe 9 = .ok (.ifCond .eq 5, 3) := by decide +kernel
theorem dX1_isSafe_12 : decode cX1_isSafe 12 = .ok (.iconst 0, 1) := by decide +kernel
theorem dX1_isSafe_13 : decode cX1_isSafe 13 = .ok (.ireturn, 1) := by decide +kernel
theorem dX1_isSafe_14 : decode cX1_isSafe 14 = .ok (.aload_n 0, 1) := by decide +kernel
theorem dX1_isSafe_15 : decode cX1_isSafe 15 = .ok (.invokevirtual 122, 3) := by decide +kernel
theorem dX1_isSafe_18 : decode cX1_isSafe 18 = .ok (.aload_n 0, 1) := by decide +kernel
theorem dX1_isSafe_19 : decode cX1_isSafe 19 = .ok (.getfield 87, 3) := by decide +kernel
theorem dX1_isSafe_22 : decode cX1_isSafe 22 = .ok (.aload_n 0, 1) := by decide +kernel
theorem dX1_isSafe_23 : decode cX1_isSafe 23 = .ok (.getfield 91, 3) := by decide +kernel
theorem dX1_isSafe_26 : decode cX1_isSafe 26 = .ok (.lcmp, 1) := by decide +kernel
theorem dX1_isSafe_27 : decode cX1_isSafe 27 = .ok (.ifCond .ge 7, 3) := by decide +kernel
theorem dX1_isSafe_30 : decode cX1_isSafe 30 = .ok (.iconst 1, 1) := by decide +kernel
theorem dX1_isSafe_31 : decode cX1_isSafe 31 = .ok (.goto 4, 3) := by decide +kernel
theorem dX1_isSafe_34 : decode cX1_isSafe 34 = .ok (.iconst 0, 1) := by decide +kernel
theorem dX1_isSafe_35 : decode cX1_isSafe 35 = .ok (.ireturn, 1) := by decide +kernel
set_option maxRecDepth 20000 in
theorem ggX1_isDominant_X1_at : GoodIn wsX1_isDominant wsX1_at := goodIn_r _ [12] (by decide +kernel) (by decide +kernel)
set_option maxRecDepth 20000 in
theorem gX1_isDominant_X1_at : GoodIn wsX1_isDominant (va_wsS RX1 48 yX1_at wsX1_at) := goodIn_app (goodIn_of _ (by decide +kernel)) ggX1_isDominant_X1_at
theorem dX1_isDominant_0 : decode cX1_isDominant 0 = .ok (.aload_n 0, 1) := by decide +kernel
theorem dX1_isDominant_1 : decode cX1_isDominant 1 = .ok (.iconst 0, 1) := by decide +kernel
theorem dX1_isDominant_2 : decode cX1_isDominant 2 = .ok (.putfield 45, 3) := by decide +kernel
theorem dX1_isDominant_5 : decode cX1_isDominant 5 = .ok (.iconst 1, 1) := by decide +kernel
theorem dX1_isDominant_6 : decode cX1_isDominant 6 = .ok (.istore_n 1, 1) := by decide +kernel
theorem dX1_isDominant_7 : decode cX1_isDominant 7 = .ok (.iconst 0, 1) := by decide +kernel
theorem dX1_isDominant_8 : decode cX1_isDominant 8 = .ok (.istore_n 2, 1) := by decide +kernel
theorem dX1_isDominant_9 : decode cX1_isDominant 9 = .ok (.iload_n 2, 1) := by decide +kernel
theorem dX1_isDominant_10 : decode cX1_isDominant 10 = .ok (.aload_n 0, 1) := by decide +kernel
theorem dX1_isDominant_11 : decode cX1_isDominant 11 = .ok (.getfield 7, 3) := by decide +kernel
theorem dX1_isDominant_14 : decode cX1_isDominant 14 = .ok (.if_icmp .ge 114, 3) := by decide +kernel
theorem dX1_isDominant_17 : decode cX1_isDominant 17 = .ok (.bipush 100, 2) := by decide +kernel
theorem dX1_isDominant_19 : decode cX1_isDominant 19 = .ok (.aload_n 0, 1) := by decide +kernel
theorem dX1_isDominant_20 : decode cX1_isDominant 20 = .ok (.getfield 13, 3) := by decide +kernel
theorem dX1_isDominant_23 : decode cX1_isDominant 23 = .ok (.iload_n 2, 1) := by decide +kernel
theorem dX1_isDominant_24 : decode cX1_isDominant 24 = .ok (.iload_n 2, 1) := by decide +kernel
theorem dX1_isDominant_25 : decode cX1_isDominant 25 = .ok (.invokestatic 48, 3) := by decide +kernel
theorem dX1_isDominant_28 : decode cX1_isDominant 28 = .ok (.iaload, 1) := by decide +kernel
theorem dX1_isDominant_29 : decode cX1_isDominant 29 = .ok (.invokestatic 74, 3) := by decide +kernel
theorem dX1_isDominant_32 : decode cX1_isDominant 32 = .ok (.imul, 1) := by decide +kernel
theorem dX1_isDominant_33 : decode cX1_isDominant 33 = .ok (.aload_n 0, 1) := by decide +kernel
theorem dX1_isDominant_34 : decode cX1_isDominant 34 = .ok (.getfield 17, 3) := by decide +kernel
theorem dX1_isDominant_37 : decode cX1_isDominant 37 = .ok (.iload_n 2, 1) := by decide +kernel
theorem dX1_isDominant_38 : decode cX1_isDominant 38 = .ok (.iload_n 2, 1) := by decide +kernel
theorem dX1_isDominant_39 : decode cX1_isDominant 39 = .ok (.invokestatic 48, 3) := by decide +kernel
theorem dX1_isDominant_42 : decode cX1_isDominant 42 = .ok (.iaload, 1) := by decide +kernel
theorem dX1_isDominant_43 : decode cX1_isDominant 43 = .ok (.isub, 1) := by decide +kernel
theorem dX1_isDominant_44 : decode cX1_isDominant 44 = .ok (.istore_n 3, 1) := by decide +kernel
theorem dX1_isDominant_45 : decode cX1_isDominant 45 = .ok (.iconst 0, 1) := by decide +kernel
theorem dX1_isDominant_46 : decode cX1_isDominant 46 = .ok (.istore 4, 2) := by decide +kernel
theorem dX1_isDominant_48 : decode cX1_isDominant 48 = .ok (.iconst 0, 1) := by decide +kernel
theorem dX1_isDominant_49 : decode cX1_isDominant 49 = .ok (.istore 5, 2) := by decide +kernel
theorem dX1_isDominant_51 : decode cX1_isDominant 51 = .ok (.iload 5, 2) := by decide +kernel
theorem dX1_isDominant_53 : decode cX1_isDominant 53 = .ok (.aload_n 0, 1) := by decide +kernel
theorem dX1_isDominant_54 : decode cX1_isDominant 54 = .ok (.getfield 7, 3) := by decide +kernel
theorem dX1_isDominant_57 : decode cX1_isDominant 57 = .ok (.if_icmp .ge 49, 3) := by decide +kernel
theorem dX1_isDominant_60 : decode cX1_isDominant 60 = .ok (.iload 5, 2) := by decide +kernel
theorem dX1_isDominant_62 : decode cX1_isDominant 62 = .ok (.iload_n 2, 1) := by decide +kernel
theorem dX1_isDominant_63 : decode cX1_isDominant 63 = .ok (.if_icmp .eq 37, 3) := by decide +kernel
theorem dX1_isDominant_66 : decode cX1_isDominant 66 = .ok (.iload 4, 2) := by decide +kernel
theorem dX1_isDominant_68 : decode cX1_isDominant 68 = .ok (.bipush 100, 2) := by decide +kernel
theorem dX1_isDominant_70 : decode cX1_isDominant 70 = .ok (.aload_n 0, 1) := by decide +kernel
theorem dX1_isDominant_71 : decode cX1_isDominant 71 = .ok (.getfield 13, 3) := by decide +kernel
theorem dX1_isDominant_74 : decode cX1_isDominant 74 = .ok (.iload_n 2, 1) := by decide +kernel
theorem dX1_isDominant_75 : decode cX1_isDominant 75 = .ok (.iload 5, 2) := by decide +kernel
theorem dX1_isDominant_77 : decode cX1_isDominant 77 = .ok (.invokestatic 48, 3) := by decide +kernel
theorem dX1_isDominant_80 : decode cX1_isDominant 80 = .ok (.iaload, 1) := by decide +kernel
theorem dX1_isDominant_81 : decode cX1_isDominant 81 = .ok (.invokestatic 74, 3) := by decide +kernel
theorem dX1_isDominant_84 : decode cX1_isDominant 84 = .ok (.imul, 1) := by decide +kernel
theorem dX1_isDominant_85 : decode cX1_isDominant 85 = .ok (.aload_n 0, 1) := by decide +kernel
theorem dX1_isDominant_86 : decode cX1_isDominant 86 = .ok (.getfield 17, 3) := by decide +kernel
theorem dX1_isDominant_89 : decode cX1_isDominant 89 = .ok (.iload_n 2, 1) := by decide +kernel
theorem dX1_isDominant_90 : decode cX1_isDominant 90 = .ok (.iload 5, 2) := by decide +kernel
theorem dX1_isDominant_92 : decode cX1_isDominant 92 = .ok (.invokestatic 48, 3) := by decide +kernel
theorem dX1_isDominant_95 : decode cX1_isDominant 95 = .ok (.iaload, 1) := by decide +kernel
theorem dX1_isDominant_96 : decode cX1_isDominant 96 = .ok (.iadd, 1) := by decide +kernel
theorem dX1_isDominant_97 : decode cX1_isDominant 97 = .ok (.iadd, 1) := by decide +kernel
theorem dX1_isDominant_98 : decode cX1_isDominant 98 = .ok (.istore 4, 2) := by decide +kernel
theorem dX1_isDominant_100 : decode cX1_isDominant 100 = .ok (.iinc 5 1, 3) := by decide +kernel
theorem dX1_isDominant_103 : decode cX1_isDominant 103 = .ok (.goto (-52), 3) := by decide +kernel
theorem dX1_isDominant_106 : decode cX1_isDominant 106 = .ok (.iload_n 1, 1) := by decide +kernel
theorem dX1_isDominant_107 : decode cX1_isDominant 107 = .ok (.ifCond .eq 13, 3) := by decide +kernel
theorem dX1_isDominant_110 : decode cX1_isDominant 110 = .ok (.iload_n 3, 1) := by decide +kernel
theorem dX1_isDominant_111 : decode cX1_isDominant 111 = .ok (.iload 4, 2) := by decide +kernel
theorem dX1_isDominant_113 : decode cX1_isDominant 113 = .ok (.if_icmp .le 7, 3) := by decide +kernel
theorem dX1_isDominant_116 : decode cX1_isDominant 116 = .ok (.iconst 1, 1) := by decide +kernel
theorem dX1_isDominant_117 : decode cX1_isDominant 117 = .ok (.goto 4, 3) := by decide +kernel
theorem dX1_isDominant_120 : decode cX1_isDominant 120 = .ok (.iconst 0, 1) := by decide +kernel
theorem dX1_isDominant_121 : decode cX1_isDominant 121 = .ok (.istore_n 1, 1) := by decide +kernel
theorem dX1_isDominant_122 : decode cX1_isDominant 122 = .ok (.iinc 2 1, 3) := by decide +kernel
theorem dX1_isDominant_125 : decode cX1_isDominant 125 = .ok (.goto (-116), 3) := by decide +kernel
theorem dX1_isDominant_128 : decode cX1_isDominant 128 = .ok (.iload_n 1, 1) := by decide +kernel
theorem dX1_isDominant_129 : decode cX1_isDominant 129 = .ok (.ireturn, 1) := by decide +kernel
set_option maxRecDepth 20000 in
theorem ggX1_setBox_X1_isIndex : GoodIn wsX1_setBox wsX1_isIndex := goodIn_r _ [10, 11, 16, 17, 18, 19, 20, 21, 22, 23, 24, 25, 26, 27, 28] (by decide +kernel) (by decide +kernel)
set_option maxRecDepth 20000 in
theorem gX1_setBox_X1_isIndex : GoodIn wsX1_setBox (wsV RX1 58 RX1 yX1_isIndex wsX1_isIndex) := goodIn_app (goodIn_of _ (by decide +kernel)) ggX1_setBox_X1_isIndex
set_option maxRecDepth 20000 in
theorem ggX1_setBox_X1_fail : GoodIn wsX1_setBox wsX1_fail := goodIn_r _ [15, 1, 16, 17, 18, 19, 20, 21, 22, 23, 24, 25, 26, 27, 28] (by decide +kernel) (by decide +kernel)
set_option maxRecDepth 20000 in
theorem gX1_setBox_X1_fail : GoodIn wsX1_setBox (wsV RX1 54 RX1 yX1_fail wsX1_fail) := goodIn_app (goodIn_of _ (by decide +kernel)) ggX1_setBox_X1_fail
theorem dX1_setBox_0 : decode cX1_setBox 0 = .ok (.aload_n 0, 1) := by decide +kernel
theorem dX1_setBox_1 : decode cX1_setBox 1 = .ok (.iconst 0, 1) := by decide +kernel
theorem dX1_setBox_2 : decode cX1_setBox 2 = .ok (.putfield 45, 3) := by decide +kernel
theorem dX1_setBox_5 : decode cX1_setBox 5 = .ok (.aload_n 0, 1) := by decide +kernel
theorem dX1_setBox_6 : decode cX1_setBox 6 = .ok (.iload_n 1, 1) := by decide +kernel
theorem dX1_setBox_7 : decode cX1_setBox 7 = .ok (.invokevirtual 58, 3) := by decide +kernel
theorem dX1_setBox_10 : decode cX1_setBox 10 = .ok (.ifCond .ne 17, 3) := by decide +kernel
theorem dX1_setBox_13 : decode cX1_setBox 13 = .ok (.aload_n 0, 1) := by decide +kernel
theorem dX1_setBox_14 : decode cX1_setBox 14 = .ok (.iconst 1, 1) := by decide +kernel
theorem dX1_setBox_15 : decode cX1_setBox 15 = .ok (.invokevirtual 54, 3) := by decide +kernel
theorem dX1_setBox_18 : decode cX1_setBox 18 = .ok (.ifCond .eq 7, 3) := by decide +kernel
theorem dX1_setBox_21 : decode cX1_setBox 21 = .ok (.iconst 1, 1) := by decide +kernel
theorem dX1_setBox_22 : decode cX1_setBox 22 = .ok (.goto 4, 3) := by decide +kernel
theorem dX1_setBox_25 : decode cX1_setBox 25 = .ok (.iconst 0, 1) := by decide +kernel
theorem dX1_setBox_26 : decode cX1_setBox 26 = .ok (.ireturn, 1) := by decide +kernel
theorem dX1_setBox_27 : decode cX1_setBox 27 = .ok (.iload_n 2, 1) := by decide +kernel
theorem dX1_setBox_28 : decode cX1_setBox 28 = .ok (.ldc 52, 2) := by decide +kernel
theorem dX1_setBox_30 : decode cX1_setBox 30 = .ok (.if_icmp .lt 14, 3) := by decide +kernel
theorem dX1_setBox_33 : decode cX1_setBox 33 = .ok (.iload_n 3, 1) := by decide +kernel
theorem dX1_setBox_34 : decode cX1_setBox 34 = .ok (.ldc 53, 2) := by decide +kernel
theorem dX1_setBox_36 : decode cX1_setBox 36 = .ok (.if_icmp .gt 8, 3) := by decide +kernel
theorem dX1_setBox_39 : decode cX1_setBox 39 = .ok (.iload_n 2, 1) := by decide +kernel
theorem dX1_setBox_40 : decode cX1_setBox 40 = .ok (.iload_n 3, 1) := by decide +kernel
theorem dX1_setBox_41 : decode cX1_setBox 41 = .ok (.if_icmp .le 17, 3) := by decide +kernel
theorem dX1_setBox_44 : decode cX1_setBox 44 = .ok (.aload_n 0, 1) := by decide +kernel
theorem dX1_setBox_45 : decode cX1_setBox 45 = .ok (.iconst 2, 1) := by decide +kernel
theorem dX1_setBox_46 : decode cX1_setBox 46 = .ok (.invokevirtual 54, 3) := by decide +kernel
theorem dX1_setBox_49 : decode cX1_setBox 49 = .ok (.ifCond .eq 7, 3) := by decide +kernel
theorem dX1_setBox_52 : decode cX1_setBox 52 = .ok (.iconst 1, 1) := by decide +kernel
theorem dX1_setBox_53 : decode cX1_setBox 53 = .ok (.goto 4, 3) := by decide +kernel
theorem dX1_setBox_56 : decode cX1_setBox 56 = .ok (.iconst 0, 1) := by decide +kernel
theorem dX1_setBox_57 : decode cX1_setBox 57 = .ok (.ireturn, 1) := by decide +kernel
theorem dX1_setBox_58 : decode cX1_setBox 58 = .ok (.aload_n 0, 1) := by decide +kernel
theorem dX1_setBox_59 : decode cX1_setBox 59 = .ok (.getfield 26, 3) := by decide +kernel
theorem dX1_setBox_62 : decode cX1_setBox 62 = .ok (.iload_n 1, 1) := by decide +kernel
theorem dX1_setBox_63 : decode cX1_setBox 63 = .ok (.iaload, 1) := by decide +kernel
theorem dX1_setBox_64 : decode cX1_setBox 64 = .ok (.iload_n 2, 1) := by decide +kernel
theorem dX1_setBox_65 : decode cX1_setBox 65 = .ok (.if_icmp .ne 13, 3) := by decide +kernel
theorem dX1_setBox_68 : decode cX1_setBox 68 = .ok (.aload_n 0, 1) := by decide +kernel
theorem dX1_setBox_69 : decode cX1_setBox 69 = .ok (.getfield 29, 3) := by decide +kernel
theorem dX1_setBox_72 : decode cX1_setBox 72 = .ok (.iload_n 1, 1) := by decide +kernel
theorem dX1_setBox_73 : decode cX1_setBox 73 = .ok (.iaload, 1) := by decide +kernel
theorem dX1_setBox_74 : decode cX1_setBox 74 = .ok (.iload_n 3, 1) := by decide +kernel
theorem dX1_setBox_75 : decode cX1_setBox 75 = .ok (.if_icmp .eq 7, 3) := by decide +kernel
theorem dX1_setBox_78 : decode cX1_setBox 78 = .ok (.iconst 1, 1) := by decide +kernel
theorem dX1_setBox_79 : decode cX1_setBox 79 = .ok (.goto 4, 3) := by decide +kernel
theorem dX1_setBox_82 : decode cX1_setBox 82 = .ok (.iconst 0, 1) := by decide +kernel
theorem dX1_setBox_83 : decode cX1_setBox 83 = .ok (.istore 4, 2) := by decide +kernel
theorem dX1_setBox_85 : decode cX1_setBox 85 = .ok (.aload_n 0, 1) := by decide +kernel
theorem dX1_setBox_86 : decode cX1_setBox 86 = .ok (.getfield 26, 3) := by decide +kernel
theorem dX1_setBox_89 : decode cX1_setBox 89 = .ok (.iload_n 1, 1) := by decide +kernel
theorem dX1_setBox_90 : decode cX1_setBox 90 = .ok (.iload_n 2, 1) := by decide +kernel
theorem dX1_setBox_91 : decode cX1_setBox 91 = .ok (.iastore, 1) := by decide +kernel
theorem dX1_setBox_92 : decode cX1_setBox 92 = .ok (.aload_n 0, 1) := by decide +kernel
theorem dX1_setBox_93 : decode cX1_setBox 93 = .ok (.getfield 29, 3) := by decide +kernel
theorem dX1_setBox_96 : decode cX1_setBox 96 = .ok (.iload_n 1, 1) := by decide +kernel
theorem dX1_setBox_97 : decode cX1_setBox 97 = .ok (.iload_n 3, 1) := by decide +kernel
theorem dX1_setBox_98 : decode cX1_setBox 98 = .ok (.iastore, 1) := by decide +kernel
theorem dX1_setBox_99 : decode cX1_setBox 99 = .ok (.iload 4, 2) := by decide +kernel
theorem dX1_setBox_101 : decode cX1_setBox 101 = .ok (.ireturn, 1) := by decide +kernel
set_option maxRecDepth 20000 in
theorem ggX1_boxLow_X1_isIndex : GoodIn wsX1_boxLow wsX1_isIndex := goodIn_r _ [7, 8, 13, 14, 15, 16, 17, 18, 19, 20, 21, 22, 23, 24, 25] (by decide +kernel) (by decide +kernel)
set_option maxRecDepth 20000 in
theorem gX1_boxLow_X1_isIndex : GoodIn wsX1_boxLow (wsV RX1 58 RX1 yX1_isIndex wsX1_isIndex) := goodIn_app (goodIn_of _ (by decide +kernel)) ggX1_boxLow_X1_isIndex
set_option maxRecDepth 20000 in
theorem ggX1_boxLow_X1_fail : GoodIn wsX1_boxLow wsX1_fail := goodIn_r _ [12, 1, 13, 14, 15, 16, 17, 18, 19, 20, 21, 22, 23, 24, 25] (by decide +kernel) (by decide +kernel)
set_option maxRecDepth 20000 in
theorem gX1_boxLow_X1_fail : GoodIn wsX1_boxLow (wsV RX1 54 RX1 yX1_fail wsX1_fail) := goodIn_app (goodIn_of _ (by decide +kernel)) ggX1_boxLow_X1_fail
theorem dX1_boxLow_0 : decode cX1_boxLow 0 = .ok (.aload_n 0, 1) := by decide +kernel
theorem dX1_boxLow_1 : decode cX1_boxLow 1 = .ok (.iconst 0, 1) := by decide +kernel
theorem dX1_boxLow_2 : decode cX1_boxLow 2 = .ok (.putfield 45, 3) := by decide +kernel
theorem dX1_boxLow_5 : decode cX1_boxLow 5 = .ok (.aload_n 0, 1) := by decide +kernel
theorem dX1_boxLow_6 : decode cX1_boxLow 6 = .ok (.iload_n 1, 1) := by decide +kernel
theorem dX1_boxLow_7 : decode cX1_boxLow 7 = .ok (.invokevirtual 58, 3) := by decide +kernel
theorem dX1_boxLow_10 : decode cX1_boxLow 10 = .ok (.ifCond .eq 12, 3) := by decide +kernel
theorem dX1_boxLow_13 : decode cX1_boxLow 13 = .ok (.aload_n 0, 1) := by decide +kernel
theorem dX1_boxLow_14 : decode cX1_boxLow 14 = .ok (.getfield 26, 3) := by decide +kernel
theorem dX1_boxLow_17 : decode cX1_boxLow 17 = .ok (.iload_n 1, 1) := by decide +kernel
theorem dX1_boxLow_18 : decode cX1_boxLow 18 = .ok (.iaload, 1) := by decide +kernel
theorem dX1_boxLow_19 : decode cX1_boxLow 19 = .ok (.goto 8, 3) := by decide +kernel
theorem dX1_boxLow_22 : decode cX1_boxLow 22 = .ok (.aload_n 0, 1) := by decide +kernel
theorem dX1_boxLow_23 : decode cX1_boxLow 23 = .ok (.iconst 1, 1) := by decide +kernel
theorem dX1_boxLow_24 : decode cX1_boxLow 24 = .ok (.invokevirtual 54, 3) := by decide +kernel
theorem dX1_boxLow_27 : decode cX1_boxLow 27 = .ok (.ireturn, 1) := by decide +kernel
set_option maxRecDepth 20000 in
theorem ggX1_boxHigh_X1_isIndex : GoodIn wsX1_boxHigh wsX1_isIndex := goodIn_r _ [7, 8, 13, 14, 15, 16, 17, 18, 19, 20, 21, 22, 23, 24, 25] (by decide +kernel) (by decide +kernel)
set_option maxRecDepth 20000 in
theorem gX1_boxHigh_X1_isIndex : GoodIn wsX1_boxHigh (wsV RX1 58 RX1 yX1_isIndex wsX1_isIndex) := goodIn_app (goodIn_of _ (by decide +kernel)) ggX1_boxHigh_X1_isIndex
set_option maxRecDepth 20000 in
theorem ggX1_boxHigh_X1_fail : GoodIn wsX1_boxHigh wsX1_fail := goodIn_r _ [12, 1, 13, 14, 15, 16, 17, 18, 19, 20, 21, 22, 23, 24, 25] (by decide +kernel) (by decide +kernel)
set_option maxRecDepth 20000 in
theorem gX1_boxHigh_X1_fail : GoodIn wsX1_boxHigh (wsV RX1 54 RX1 yX1_fail wsX1_fail) := goodIn_app (goodIn_of _ (by decide +kernel)) ggX1_boxHigh_X1_fail
theorem dX1_boxHigh_0 : decode cX1_boxHigh 0 = .ok (.aload_n 0, 1) := by decide +kernel
theorem dX1_boxHigh_1 : decode cX1_boxHigh 1 = .ok (.iconst 0, 1) := by decide +kernel
theorem dX1_boxHigh_2 : decode cX1_boxHigh 2 = .ok (.putfield 45, 3) := by decide +kernel
theorem dX1_boxHigh_5 : decode cX1_boxHigh 5 = .ok (.aload_n 0, 1) := by decide +kernel
theorem dX1_boxHigh_6 : decode cX1_boxHigh 6 = .ok (.iload_n 1, 1) := by decide +kernel
theorem dX1_boxHigh_7 : decode cX1_boxHigh 7 = .ok (.invokevirtual 58, 3) := by decide +kernel
theorem dX1_boxHigh_10 : decode cX1_boxHigh 10 = .ok (.ifCond .eq 12, 3) := by decide +kernel
theorem dX1_boxHigh_13 : decode cX1_boxHigh 13 = .ok (.aload_n 0, 1) := by decide +kernel
theorem dX1_boxHigh_14 : decode cX1_boxHigh 14 = .ok (.getfield 29, 3) := by decide +kernel
theorem dX1_boxHigh_17 : decode cX1_boxHigh 17 = .ok (.iload_n 1, 1) := by decide +kernel
theorem dX1_boxHigh_18 : decode cX1_boxHigh 18 = .ok (.iaload, 1) := by decide +kernel
theorem dX1_boxHigh_19 : decode cX1_boxHigh 19 = .ok (.goto 8, 3) := by decide +kernel
theorem dX1_boxHigh_22 : decode cX1_boxHigh 22 = .ok (.aload_n 0, 1) := by decide +kernel
theorem dX1_boxHigh_23 : decode cX1_boxHigh 23 = .ok (.iconst 1, 1) := by decide +kernel
theorem dX1_boxHigh_24 : decode cX1_boxHigh 24 = .ok (.invokevirtual 54, 3) := by decide +kernel
theorem dX1_boxHigh_27 : decode cX1_boxHigh 27 = .ok (.ireturn, 1) := by decide +kernel
theorem dX1_down_0 : decode cX1_down 0 = .ok (.lload_n 0, 1) := by decide +kernel
theorem dX1_down_1 : decode cX1_down 1 = .ok (.lload_n 2, 1) := by decide +kernel
theorem dX1_down_2 : decode cX1_down 2 = .ok (.ldiv, 1) := by decide +kernel
theorem dX1_down_3 : decode cX1_down 3 = .ok (.lstore 4, 2) := by decide +kernel
theorem dX1_down_5 : decode cX1_down 5 = .ok (.lload 4, 2) := by decide +kernel
theorem dX1_down_7 : decode cX1_down 7 = .ok (.lload_n 2, 1) := by decide +kernel
theorem dX1_down_8 : decode cX1_down 8 = .ok (.lmul, 1) := by decide +kernel
theorem dX1_down_9 : decode cX1_down 9 = .ok (.lload_n 0, 1) := by decide +kernel
theorem dX1_down_10 : decode cX1_down 10 = .ok (.lcmp, 1) := by decide +kernel
theorem dX1_down_11 : decode cX1_down 11 = .ok (.ifCond .eq 28, 3) := by decide +kernel
theorem dX1_down_14 : decode cX1_down 14 = .ok (.lload_n 0, 1) := by decide +kernel
theorem dX1_down_15 : decode cX1_down 15 = .ok (.lconst 0, 1) := by decide +kernel
theorem dX1_down_16 : decode cX1_down 16 = .ok (.lcmp, 1) := by decide +kernel
theorem dX1_down_17 : decode cX1_down 17 = .ok (.ifCond .ge 7, 3) := by decide +kernel
theorem dX1_down_20 : decode cX1_down 20 = .ok (.iconst 1, 1) := by decide +kernel
theorem dX1_down_21 : decode cX1_down 21 = .ok (.goto 4, 3) := by decide +kernel
theorem dX1_down_24 : decode cX1_down 24 = .ok (.iconst 0, 1) := by decide +kernel
theorem dX1_down_25 : decode cX1_down 25 = .ok (.lload_n 2, 1) := by decide +kernel
theorem dX1_down_26 : decode cX1_down 26 = .ok (.lconst 0, 1) := by decide +kernel
theorem dX1_down_27 : decode cX1_down 27 = .ok (.lcmp, 1) := by decide +kernel
theorem dX1_down_28 : decode cX1_down 28 = .ok (.ifCond .ge 7, 3) := by decide +kernel
theorem dX1_down_31 : decode cX1_down 31 = .ok (.iconst 1, 1) := by decide +kernel
theorem dX1_down_32 : decode cX1_down 32 = .ok (.goto 4, 3) := by decide +kernel
theorem dX1_down_35 : decode cX1_down 35 = .ok (.iconst 0, 1) := by decide +kernel
theorem dX1_down_36 : decode cX1_down 36 = .ok (.if_icmp .ne 8, 3) := by decide +kernel
theorem dX1_down_39 : decode cX1_down 39 = .ok (.lload 4, 2) := by decide +kernel
theorem dX1_down_41 : decode cX1_down 41 = .ok (.goto 7, 3) := by decide +kernel
theorem dX1_down_44 : decode cX1_down 44 = .ok (.lload 4, 2) := by decide +kernel
theorem dX1_down_46 : decode cX1_down 46 = .ok (.lconst 1, 1) := by decide +kernel
theorem dX1_down_47 : decode cX1_down 47 = .ok (.lsub, 1) := by decide +kernel
theorem dX1_down_48 : decode cX1_down 48 = .ok (.lreturn, 1) := by decide +kernel
set_option maxRecDepth 20000 in
theorem ggX1_up_X1_down : GoodIn wsX1_up wsX1_down := goodIn_ca (goodIn_r _ [4] (by decide +kernel) (by decide +kernel)) (goodIn_sub (fun _ h => List.mem_cons_of_mem _ (List.mem_append_right _ h)) (by decide +kernel))
set_option maxRecDepth 20000 in
theorem gX1_up_X1_down : GoodIn wsX1_up (va_wsS RX1 125 yX1_down wsX1_down) := goodIn_app (goodIn_of _ (by decide +kernel)) ggX1_up_X1_down
theorem dX1_up_0 : decode cX1_up 0 = .ok (.lload_n 0, 1) := by decide +kernel
theorem dX1_up_1 : decode cX1_up 1 = .ok (.lneg, 1) := by decide +kernel
theorem dX1_up_2 : decode cX1_up 2 = .ok (.lload_n 2, 1) := by decide +kernel
theorem dX1_up_3 : decode cX1_up 3 = .ok (.invokestatic 125, 3) := by decide +kernel
theorem dX1_up_6 : decode cX1_up 6 = .ok (.lneg, 1) := by decide +kernel
theorem dX1_up_7 : decode cX1_up 7 = .ok (.lreturn, 1) := by decide +kernel
theorem dX1_keep_0 : decode cX1_keep 0 = .ok (.iconst 0, 1) := by decide +kernel
theorem dX1_keep_1 : decode cX1_keep 1 = .ok (.istore_n 1, 1) := by decide +kernel
theorem dX1_keep_2 : decode cX1_keep 2 = .ok (.iload_n 1, 1) := by decide +kernel
theorem dX1_keep_3 : decode cX1_keep 3 = .ok (.aload_n 0, 1) := by decide +kernel
theorem dX1_keep_4 : decode cX1_keep 4 = .ok (.getfield 7, 3) := by decide +kernel
theorem dX1_keep_7 : decode cX1_keep 7 = .ok (.if_icmp .ge 33, 3) := by decide +kernel
theorem dX1_keep_10 : decode cX1_keep 10 = .ok (.aload_n 0, 1) := by decide +kernel
theorem dX1_keep_11 : decode cX1_keep 11 = .ok (.getfield 32, 3) := by decide +kernel
theorem dX1_keep_14 : decode cX1_keep 14 = .ok (.iload_n 1, 1) := by decide +kernel
theorem dX1_keep_15 : decode cX1_keep 15 = .ok (.aload_n 0, 1) := by decide +kernel
theorem dX1_keep_16 : decode cX1_keep 16 = .ok (.getfield 26, 3) := by decide +kernel
theorem dX1_keep_19 : decode cX1_keep 19 = .ok (.iload_n 1, 1) := by decide +kernel
theorem dX1_keep_20 : decode cX1_keep 20 = .ok (.iaload, 1) := by decide +kernel
theorem dX1_keep_21 : decode cX1_keep 21 = .ok (.iastore, 1) := by decide +kernel
theorem dX1_keep_22 : decode cX1_keep 22 = .ok (.aload_n 0, 1) := by decide +kernel
theorem dX1_keep_23 : decode cX1_keep 23 = .ok (.getfield 35, 3) := by decide +kernel
theorem dX1_keep_26 : decode cX1_keep 26 = .ok (.iload_n 1, 1) := by decide +kernel
theorem dX1_keep_27 : decode cX1_keep 27 = .ok (.aload_n 0, 1) := by decide +kernel
theorem dX1_keep_28 : decode cX1_keep 28 = .ok (.getfield 29, 3) := by decide +kernel
theorem dX1_keep_31 : decode cX1_keep 31 = .ok (.iload_n 1, 1) := by decide +kernel
theorem dX1_keep_32 : decode cX1_keep 32 = .ok (.iaload, 1) := by decide +kernel
theorem dX1_keep_33 : decode cX1_keep 33 = .ok (.iastore, 1) := by decide +kernel
theorem dX1_keep_34 : decode cX1_keep 34 = .ok (.iinc 1 1, 3) := by decide +kernel
theorem dX1_keep_37 : decode cX1_keep 37 = .ok (.goto (-35), 3) := by decide +kernel
theorem dX1_keep_40 : decode cX1_keep 40 = .ok (.return_, 1) := by decide +kernel
theorem dX1_judge_0 : decode cX1_judge 0 = .ok (.iconst 0, 1) := by decide +kernel
theorem dX1_judge_1 : decode cX1_judge 1 = .ok (.istore_n 2, 1) := by decide +kernel
theorem dX1_judge_2 : decode cX1_judge 2 = .ok (.iconst 0, 1) := by decide +kernel
theorem dX1_judge_3 : decode cX1_judge 3 = .ok (.istore_n 3, 1) := by decide +kernel
theorem dX1_judge_4 : decode cX1_judge 4 = .ok (.iload_n 3, 1) := by decide +kernel
theorem dX1_judge_5 : decode cX1_judge 5 = .ok (.aload_n 0, 1) := by decide +kernel
theorem dX1_judge_6 : decode cX1_judge 6 = .ok (.getfield 7, 3) := by decide +kernel
theorem dX1_judge_9 : decode cX1_judge 9 = .ok (.if_icmp .ge 75, 3) := by decide +kernel
theorem dX1_judge_12 : decode cX1_judge 12 = .ok (.iload_n 1, 1) := by decide +kernel
theorem dX1_judge_13 : decode cX1_judge 13 = .ok (.ifCond .eq 27, 3) := by decide +kernel
theorem dX1_judge_16 : decode cX1_judge 16 = .ok (.aload_n 0, 1) := by decide +kernel
theorem dX1_judge_17 : decode cX1_judge 17 = .ok (.getfield 26, 3) := by decide +kernel
theorem dX1_judge_20 : decode cX1_judge 20 = .ok (.iload_n 3, 1) := by decide +kernel
theorem dX1_judge_21 : decode cX1_judge 21 = .ok (.aload_n 0, 1) := by decide +kernel
theorem dX1_judge_22 : decode cX1_judge 22 = .ok (.getfield 32, 3) := by decide +kernel
theorem dX1_judge_25 : decode cX1_judge 25 = .ok (.iload_n 3, 1) := by decide +kernel
theorem dX1_judge_26 : decode cX1_judge 26 = .ok (.iaload, 1) := by decide +kernel
theorem dX1_judge_27 : decode cX1_judge 27 = .ok (.iastore, 1) := by decide +kernel
theorem dX1_judge_28 : decode cX1_judge 28 = .ok (.aload_n 0, 1) := by decide +kernel
theorem dX1_judge_29 : decode cX1_judge 29 = .ok (.getfield 29, 3) := by decide +kernel
theorem dX1_judge_32 : decode cX1_judge 32 = .ok (.iload_n 3, 1) := by decide +kernel
theorem dX1_judge_33 : decode cX1_judge 33 = .ok (.aload_n 0, 1) := by decide +kernel
theorem dX1_judge_34 : decode cX1_judge 34 = .ok (.getfield 35, 3) := by decide +kernel
theorem dX1_judge_37 : decode cX1_judge 37 = .ok (.iload_n 3, 1) := by decide +kernel
theorem dX1_judge_38 : decode cX1_judge 38 = .ok (.iaload, 1) := by decide +kernel
theorem dX1_judge_39 : decode cX1_judge 39 = .ok (.iastore, 1) := by decide +kernel
theorem dX1_judge_40 : decode cX1_judge 40 = .ok (.iload_n 2, 1) := by decide +kernel
theorem dX1_judge_41 : decode cX1_judge 41 = .ok (.aload_n 0, 1) := by decide +kernel
theorem dX1_judge_42 : decode cX1_judge 42 = .ok (.getfield 26, 3) := by decide +kernel
theorem dX1_judge_45 : decode cX1_judge 45 = .ok (.iload_n 3, 1) := by decide +kernel
theorem dX1_judge_46 : decode cX1_judge 46 = .ok (.iaload, 1) := by decide +kernel
theorem dX1_judge_47 : decode cX1_judge 47 = .ok (.aload_n 0, 1) := by decide +kernel
theorem dX1_judge_48 : decode cX1_judge 48 = .ok (.getfield 32, 3) := by decide +kernel
theorem dX1_judge_51 : decode cX1_judge 51 = .ok (.iload_n 3, 1) := by decide +kernel
theorem dX1_judge_52 : decode cX1_judge 52 = .ok (.iaload, 1) := by decide +kernel
theorem dX1_judge_53 : decode cX1_judge 53 = .ok (.if_icmp .ne 18, 3) := by decide +kernel
theorem dX1_judge_56 : decode cX1_judge 56 = .ok (.aload_n 0, 1) := by decide +kernel
theorem dX1_judge_57 : decode cX1_judge 57 = .ok (.getfield 29, 3) := by decide +kernel
theorem dX1_judge_60 : decode cX1_judge 60 = .ok (.iload_n 3, 1) := by decide +kernel
theorem dX1_judge_61 : decode cX1_judge 61 = .ok (.iaload, 1) := by decide +kernel
theorem dX1_judge_62 : decode cX1_judge 62 = .ok (.aload_n 0, 1) := by decide +kernel
theorem dX1_judge_63 : decode cX1_judge 63 = .ok (.getfield 35, 3) := by decide +kernel
theorem dX1_judge_66 : decode cX1_judge 66 = .ok (.iload_n 3, 1) := by decide +kernel
theorem dX1_judge_67 : decode cX1_judge 67 = .ok (.iaload, 1) := by decide +kernel
theorem dX1_judge_68 : decode cX1_judge 68 = .ok (.if_icmp .eq 7, 3) := by decide +kernel
theorem dX1_judge_71 : decode cX1_judge 71 = .ok (.iconst 1, 1) := by decide +kernel
theorem dX1_judge_72 : decode cX1_judge 72 = .ok (.goto 4, 3) := by decide +kernel
theorem dX1_judge_75 : decode cX1_judge 75 = .ok (.iconst 0, 1) := by decide +kernel
theorem dX1_judge_76 : decode cX1_judge 76 = .ok (.iadd, 1) := by decide +kernel
theorem dX1_judge_77 : decode cX1_judge 77 = .ok (.istore_n 2, 1) := by decide +kernel
theorem dX1_judge_78 : decode cX1_judge 78 = .ok (.iinc 3 1, 3) := by decide +kernel
theorem dX1_judge_81 : decode cX1_judge 81 = .ok (.goto (-77), 3) := by decide +kernel
theorem dX1_judge_84 : decode cX1_judge 84 = .ok (.iload_n 1, 1) := by decide +kernel
theorem dX1_judge_85 : decode cX1_judge 85 = .ok (.ifCond .eq 7, 3) := by decide +kernel
theorem dX1_judge_88 : decode cX1_judge 88 = .ok (.iconst (-1), 1) := by decide +kernel
theorem dX1_judge_89 : decode cX1_judge 89 = .ok (.goto 4, 3) := by decide +kernel
theorem dX1_judge_92 : decode cX1_judge 92 = .ok (.iload_n 2, 1) := by decide +kernel
theorem dX1_judge_93 : decode cX1_judge 93 = .ok (.ireturn, 1) := by decide +kernel
theorem dX1_cut_0 : decode cX1_cut 0 = .ok (.aload_n 0, 1) := by decide +kernel
theorem dX1_cut_1 : decode cX1_cut 1 = .ok (.getfield 26, 3) := by decide +kernel
theorem dX1_cut_4 : decode cX1_cut 4 = .ok (.iload_n 1, 1) := by decide +kernel
theorem dX1_cut_5 : decode cX1_cut 5 = .ok (.iaload, 1) := by decide +kernel
theorem dX1_cut_6 : decode cX1_cut 6 = .ok (.i2l, 1) := by decide +kernel
theorem dX1_cut_7 : decode cX1_cut 7 = .ok (.lload_n 2, 1) := by decide +kernel
theorem dX1_cut_8 : decode cX1_cut 8 = .ok (.invokestatic 117, 3) := by decide +kernel
theorem dX1_cut_11 : decode cX1_cut 11 = .ok (.lstore 6, 2) := by decide +kernel
theorem dX1_cut_13 : decode cX1_cut 13 = .ok (.aload_n 0, 1) := by decide +kernel
theorem dX1_cut_14 : decode cX1_cut 14 = .ok (.getfield 29, 3) := by decide +kernel
theorem dX1_cut_17 : decode cX1_cut 17 = .ok (.iload_n 1, 1) := by decide +kernel
theorem dX1_cut_18 : decode cX1_cut 18 = .ok (.iaload, 1) := by decide +kernel
theorem dX1_cut_19 : decode cX1_cut 19 = .ok (.i2l, 1) := by decide +kernel
theorem dX1_cut_20 : decode cX1_cut 20 = .ok (.lload 4, 2) := by decide +kernel
theorem dX1_cut_22 : decode cX1_cut 22 = .ok (.invokestatic 128, 3) := by decide +kernel
theorem dX1_cut_25 : decode cX1_cut 25 = .ok (.lstore 8, 2) := by decide +kernel
theorem dX1_cut_27 : decode cX1_cut 27 = .ok (.lload 6, 2) := by decide +kernel
theorem dX1_cut_29 : decode cX1_cut 29 = .ok (.lload 8, 2) := by decide +kernel
theorem dX1_cut_31 : decode cX1_cut 31 = .ok (.lcmp, 1) := by decide +kernel
theorem dX1_cut_32 : decode cX1_cut 32 = .ok (.ifCond .le 5, 3) := by decide +kernel
theorem dX1_cut_35 : decode cX1_cut 35 = .ok (.iconst 0, 1) := by decide +kernel
theorem dX1_cut_36 : decode cX1_cut 36 = .ok (.ireturn, 1) := by decide +kernel
theorem dX1_cut_37 : decode cX1_cut 37 = .ok (.aload_n 0, 1) := by decide +kernel
theorem dX1_cut_38 : decode cX1_cut 38 = .ok (.getfield 26, 3) := by decide +kernel
theorem dX1_cut_41 : decode cX1_cut 41 = .ok (.iload_n 1, 1) := by decide +kernel
theorem dX1_cut_42 : decode cX1_cut 42 = .ok (.lload 6, 2) := by decide +kernel
theorem dX1_cut_44 : decode cX1_cut 44 = .ok (.l2i, 1) := by decide +kernel
theorem dX1_cut_45 : decode cX1_cut 45 = .ok (.iastore, 1) := by decide +kernel
theorem dX1_cut_46 : decode cX1_cut 46 = .ok (.aload_n 0, 1) := by decide +kernel
theorem dX1_cut_47 : decode cX1_cut 47 = .ok (.getfield 29, 3) := by decide +kernel
theorem dX1_cut_50 : decode cX1_cut 50 = .ok (.iload_n 1, 1) := by decide +kernel
theorem dX1_cut_51 : decode cX1_cut 51 = .ok (.lload 8, 2) := by decide +kernel
theorem dX1_cut_53 : decode cX1_cut 53 = .ok (.l2i, 1) := by decide +kernel
theorem dX1_cut_54 : decode cX1_cut 54 = .ok (.iastore, 1) := by decide +kernel
theorem dX1_cut_55 : decode cX1_cut 55 = .ok (.iconst 1, 1) := by decide +kernel
theorem dX1_cut_56 : decode cX1_cut 56 = .ok (.ireturn, 1) := by decide +kernel
set_option maxRecDepth 20000 in
theorem ggX1_cutByRow_X1_at : GoodIn wsX1_cutByRow wsX1_at := goodIn_r _ [18] (by decide +kernel) (by decide +kernel)
set_option maxRecDepth 20000 in
theorem gX1_cutByRow_X1_at : GoodIn wsX1_cutByRow (va_wsS RX1 48 yX1_at wsX1_at) := goodIn_app (goodIn_of _ (by decide +kernel)) ggX1_cutByRow_X1_at
set_option maxRecDepth 20000 in
theorem ggX1_cutByRow_X1_down : GoodIn wsX1_cutByRow wsX1_down := goodIn_ca (goodIn_r _ [21] (by decide +kernel) (by decide +kernel)) (goodIn_sub (fun _ h => List.mem_cons_of_mem _ (List.mem_append_right _ h)) (by decide +kernel))
set_option maxRecDepth 20000 in
theorem gX1_cutByRow_X1_down : GoodIn wsX1_cutByRow (va_wsS RX1 125 yX1_down wsX1_down) := goodIn_app (goodIn_of _ (by decide +kernel)) ggX1_cutByRow_X1_down
set_option maxRecDepth 20000 in
theorem ggX1_cutByRow_X1_up : GoodIn wsX1_cutByRow wsX1_up := goodIn_ca (goodIn_r _ [24, 19, 20, 17, 21] (by decide +kernel) (by decide +kernel)) (goodIn_sub (fun _ h => List.mem_cons_of_mem _ (List.mem_append_right _ h)) (by decide +kernel))
set_option maxRecDepth 20000 in
theorem gX1_cutByRow_X1_up : GoodIn wsX1_cutByRow (va_wsS RX1 132 yX1_up wsX1_up) := goodIn_app (goodIn_of _ (by decide +kernel)) ggX1_cutByRow_X1_up
set_option maxRecDepth 20000 in
theorem ggX1_cutByRow_X1_cut : GoodIn wsX1_cutByRow wsX1_cut := goodIn_ca (goodIn_r _ [28, 6, 8, 9, 10, 11, 7, 12, 13, 14, 29, 30, 31, 32, 33, 34, 35, 36, 37, 38, 39, 40, 41] (by decide +kernel) (by decide +kernel)) (goodIn_sub (fun _ h => List.mem_cons_of_mem _ (List.mem_append_left _ (List.mem_append_right _ h))) (by decide +kernel))
set_option maxRecDepth 20000 in
theorem gX1_cutByRow_X1_cut : GoodIn wsX1_cutByRow (wsV RX1 135 RX1 yX1_cut wsX1_cut) := goodIn_app (goodIn_of _ (by decide +kernel)) ggX1_cutByRow_X1_cut
theorem dX1_cutByRow_0 : decode cX1_cutByRow 0 = .ok (.ldc2_w 130, 3) := by decide +kernel
theorem dX1_cutByRow_3 : decode cX1_cutByRow 3 = .ok (.aload_n 0, 1) := by decide +kernel
theorem dX1_cutByRow_4 : decode cX1_cutByRow 4 = .ok (.getfield 20, 3) := by decide +kernel
theorem dX1_cutByRow_7 : decode cX1_cutByRow 7 = .ok (.iload_n 1, 1) := by decide +kernel
theorem dX1_cutByRow_8 : decode cX1_cutByRow 8 = .ok (.iaload, 1) := by decide +kernel
theorem dX1_cutByRow_9 : decode cX1_cutByRow 9 = .ok (.i2l, 1) := by decide +kernel
theorem dX1_cutByRow_10 : decode cX1_cutByRow 10 = .ok (.lmul, 1) := by decide +kernel
theorem dX1_cutByRow_11 : decode cX1_cutByRow 11 = .ok (.lstore_n 2, 1) := by decide +kernel
theorem dX1_cutByRow_12 : decode cX1_cutByRow 12 = .ok (.ldc2_w 130, 3) := by decide +kernel
theorem dX1_cutByRow_15 : decode cX1_cutByRow 15 = .ok (.aload_n 0, 1) := by decide +kernel
theorem dX1_cutByRow_16 : decode cX1_cutByRow 16 = .ok (.getfield 23, 3) := by decide +kernel
theorem dX1_cutByRow_19 : decode cX1_cutByRow 19 = .ok (.iload_n 1, 1) := by decide +kernel
theorem dX1_cutByRow_20 : decode cX1_cutByRow 20 = .ok (.iaload, 1) := by decide +kernel
theorem dX1_cutByRow_21 : decode cX1_cutByRow 21 = .ok (.i2l, 1) := by decide +kernel
theorem dX1_cutByRow_22 : decode cX1_cutByRow 22 = .ok (.lmul, 1) := by decide +kernel
theorem dX1_cutByRow_23 : decode cX1_cutByRow 23 = .ok (.lstore 4, 2) := by decide +kernel
theorem dX1_cutByRow_25 : decode cX1_cutByRow 25 = .ok (.iconst 0, 1) := by decide +kernel
theorem dX1_cutByRow_26 : decode cX1_cutByRow 26 = .ok (.istore 6, 2) := by decide +kernel
theorem dX1_cutByRow_28 : decode cX1_cutByRow 28 = .ok (.iload 6, 2) := by decide +kernel
theorem dX1_cutByRow_30 : decode cX1_cutByRow 30 = .ok (.aload_n 0, 1) := by decide +kernel
theorem dX1_cutByRow_31 : decode cX1_cutByRow 31 = .ok (.getfield 7, 3) := by decide +kernel
theorem dX1_cutByRow_34 : decode cX1_cutByRow 34 = .ok (.if_icmp .ge 86, 3) := by decide +kernel
theorem dX1_cutByRow_37 : decode cX1_cutByRow 37 = .ok (.iload 6, 2) := by decide +kernel
theorem dX1_cutByRow_39 : decode cX1_cutByRow 39 = .ok (.iload_n 1, 1) := by decide +kernel
theorem dX1_cutByRow_40 : decode cX1_cutByRow 40 = .ok (.if_icmp .ne 6, 3) := by decide +kernel
theorem dX1_cutByRow_43 : decode cX1_cutByRow 43 = .ok (.goto 71, 3) := by decide +kernel
theorem dX1_cutByRow_46 : decode cX1_cutByRow 46 = .ok (.aload_n 0, 1) := by decide +kernel
theorem dX1_cutByRow_47 : decode cX1_cutByRow 47 = .ok (.getfield 13, 3) := by decide +kernel
theorem dX1_cutByRow_50 : decode cX1_cutByRow 50 = .ok (.iload_n 1, 1) := by decide +kernel
theorem dX1_cutByRow_51 : decode cX1_cutByRow 51 = .ok (.iload 6, 2) := by decide +kernel
theorem dX1_cutByRow_53 : decode cX1_cutByRow 53 = .ok (.invokestatic 48, 3) := by decide +kernel
theorem dX1_cutByRow_56 : decode cX1_cutByRow 56 = .ok (.iaload, 1) := by decide +kernel
theorem dX1_cutByRow_57 : decode cX1_cutByRow 57 = .ok (.i2l, 1) := by decide +kernel
theorem dX1_cutByRow_58 : decode cX1_cutByRow 58 = .ok (.aload_n 0, 1) := by decide +kernel
theorem dX1_cutByRow_59 : decode cX1_cutByRow 59 = .ok (.getfield 26, 3) := by decide +kernel
theorem dX1_cutByRow_62 : decode cX1_cutByRow 62 = .ok (.iload 6, 2) := by decide +kernel
theorem dX1_cutByRow_64 : decode cX1_cutByRow 64 = .ok (.iaload, 1) := by decide +kernel
theorem dX1_cutByRow_65 : decode cX1_cutByRow 65 = .ok (.i2l, 1) := by decide +kernel
theorem dX1_cutByRow_66 : decode cX1_cutByRow 66 = .ok (.lmul, 1) := by decide +kernel
theorem dX1_cutByRow_67 : decode cX1_cutByRow 67 = .ok (.lstore 7, 2) := by decide +kernel
theorem dX1_cutByRow_69 : decode cX1_cutByRow 69 = .ok (.aload_n 0, 1) := by decide +kernel
theorem dX1_cutByRow_70 : decode cX1_cutByRow 70 = .ok (.getfield 13, 3) := by decide +kernel
theorem dX1_cutByRow_73 : decode cX1_cutByRow 73 = .ok (.iload_n 1, 1) := by decide +kernel
theorem dX1_cutByRow_74 : decode cX1_cutByRow 74 = .ok (.iload 6, 2) := by decide +kernel
theorem dX1_cutByRow_76 : decode cX1_cutByRow 76 = .ok (.invokestatic 48, 3) := by decide +kernel
theorem dX1_cutByRow_79 : decode cX1_cutByRow 79 = .ok (.iaload, 1) := by decide +kernel
theorem dX1_cutByRow_80 : decode cX1_cutByRow 80 = .ok (.i2l, 1) := by decide +kernel
theorem dX1_cutByRow_81 : decode cX1_cutByRow 81 = .ok (.aload_n 0, 1) := by decide +kernel
theorem dX1_cutByRow_82 : decode cX1_cutByRow 82 = .ok (.getfield 29, 3) := by decide +kernel
theorem dX1_cutByRow_85 : decode cX1_cutByRow 85 = .ok (.iload 6, 2) := by decide +kernel
theorem dX1_cutByRow_87 : decode cX1_cutByRow 87 = .ok (.iaload, 1) := by decide +kernel
theorem dX1_cutByRow_88 : decode cX1_cutByRow 88 = .ok (.i2l, 1) := by decide +kernel
theorem dX1_cutByRow_89 : decode cX1_cutByRow 89 = .ok (.lmul, 1) := by decide +kernel
theorem dX1_cutByRow_90 : decode cX1_cutByRow 90 = .ok (.lstore 9, 2) := by decide +kernel
theorem dX1_cutByRow_92 : decode cX1_cutByRow 92 = .ok (.lload_n 2, 1) := by decide +kernel
theorem dX1_cutByRow_93 : decode cX1_cutByRow 93 = .ok (.lload 7, 2) := by decide +kernel
theorem dX1_cutByRow_95 : decode cX1_cutByRow 95 = .ok (.lload 9, 2) := by decide +kernel
theorem dX1_cutByRow_97 : decode cX1_cutByRow 97 = .ok (.invokestatic 117, 3) := by decide +kernel
theorem dX1_cutByRow_100 : decode cX1_cutByRow 100 = .ok (.lsub, 1) := by decide +kernel
theorem dX1_cutByRow_101 : decode cX1_cutByRow 101 = .ok (.lstore_n 2, 1) := by decide +kernel
theorem dX1_cutByRow_102 : decode cX1_cutByRow 102 = .ok (.lload 4, 2) := by decide +kernel
theorem dX1_cutByRow_104 : decode cX1_cutByRow 104 = .ok (.lload 7, 2) := by decide +kernel
theorem dX1_cutByRow_106 : decode cX1_cutByRow 106 = .ok (.lload 9, 2) := by decide +kernel
theorem dX1_cutByRow_108 : decode cX1_cutByRow 108 = .ok (.invokestatic 128, 3) := by decide +kernel
theorem dX1_cutByRow_111 : decode cX1_cutByRow 111 = .ok (.lsub, 1) := by decide +kernel
theorem dX1_cutByRow_112 : decode cX1_cutByRow 112 = .ok (.lstore 4, 2) := by decide +kernel
theorem dX1_cutByRow_114 : decode cX1_cutByRow 114 = .ok (.iinc 6 1, 3) := by decide +kernel
theorem dX1_cutByRow_117 : decode cX1_cutByRow 117 = .ok (.goto (-89), 3) := by decide +kernel
theorem dX1_cutByRow_120 : decode cX1_cutByRow 120 = .ok (.aload_n 0, 1) := by decide +kernel
theorem dX1_cutByRow_121 : decode cX1_cutByRow 121 = .ok (.getfield 13, 3) := by decide +kernel
theorem dX1_cutByRow_124 : decode cX1_cutByRow 124 = .ok (.iload_n 1, 1) := by decide +kernel
theorem dX1_cutByRow_125 : decode cX1_cutByRow 125 = .ok (.iload_n 1, 1) := by decide +kernel
theorem dX1_cutByRow_126 : decode cX1_cutByRow 126 = .ok (.invokestatic 48, 3) := by decide +kernel
theorem dX1_cutByRow_129 : decode cX1_cutByRow 129 = .ok (.iaload, 1) := by decide +kernel
theorem dX1_cutByRow_130 : decode cX1_cutByRow 130 = .ok (.i2l, 1) := by decide +kernel
theorem dX1_cutByRow_131 : decode cX1_cutByRow 131 = .ok (.lstore 6, 2) := by decide +kernel
theorem dX1_cutByRow_133 : decode cX1_cutByRow 133 = .ok (.lload 6, 2) := by decide +kernel
theorem dX1_cutByRow_135 : decode cX1_cutByRow 135 = .ok (.lconst 0, 1) := by decide +kernel
theorem dX1_cutByRow_136 : decode cX1_cutByRow 136 = .ok (.lcmp, 1) := by decide +kernel
theorem dX1_cutByRow_137 : decode cX1_cutByRow 137 = .ok (.ifCond .le 24, 3) := by decide +kernel
theorem dX1_cutByRow_140 : decode cX1_cutByRow 140 = .ok (.aload_n 0, 1) := by decide +kernel
theorem dX1_cutByRow_141 : decode cX1_cutByRow 141 = .ok (.iload_n 1, 1) := by decide +kernel
theorem dX1_cutByRow_142 : decode cX1_cutByRow 142 = .ok (.lload_n 2, 1) := by decide +kernel
theorem dX1_cutByRow_143 : decode cX1_cutByRow 143 = .ok (.lload 6, 2) := by decide +kernel
theorem dX1_cutByRow_145 : decode cX1_cutByRow 145 = .ok (.invokestatic 125, 3) := by decide +kernel
theorem dX1_cutByRow_148 : decode cX1_cutByRow 148 = .ok (.lload 4, 2) := by decide +kernel
theorem dX1_cutByRow_150 : decode cX1_cutByRow 150 = .ok (.lload 6, 2) := by decide +kernel
theorem dX1_cutByRow_152 : decode cX1_cutByRow 152 = .ok (.invokestatic 132, 3) := by decide +kernel
theorem dX1_cutByRow_155 : decode cX1_cutByRow 155 = .ok (.invokevirtual 135, 3) := by decide +kernel
theorem dX1_cutByRow_158 : decode cX1_cutByRow 158 = .ok (.goto 21, 3) := by decide +kernel
theorem dX1_cutByRow_161 : decode cX1_cutByRow 161 = .ok (.aload_n 0, 1) := by decide +kernel
theorem dX1_cutByRow_162 : decode cX1_cutByRow 162 = .ok (.iload_n 1, 1) := by decide +kernel
theorem dX1_cutByRow_163 : decode cX1_cutByRow 163 = .ok (.lload 4, 2) := by decide +kernel
theorem dX1_cutByRow_165 : decode cX1_cutByRow 165 = .ok (.lload 6, 2) := by decide +kernel
theorem dX1_cutByRow_167 : decode cX1_cutByRow 167 = .ok (.invokestatic 125, 3) := by decide +kernel
theorem dX1_cutByRow_170 : decode cX1_cutByRow 170 = .ok (.lload_n 2, 1) := by decide +kernel
theorem dX1_cutByRow_171 : decode cX1_cutByRow 171 = .ok (.lload 6, 2) := by decide +kernel
theorem dX1_cutByRow_173 : decode cX1_cutByRow 173 = .ok (.invokestatic 132, 3) := by decide +kernel
theorem dX1_cutByRow_176 : decode cX1_cutByRow 176 = .ok (.invokevirtual 135, 3) := by decide +kernel
theorem dX1_cutByRow_179 : decode cX1_cutByRow 179 = .ok (.ireturn, 1) := by decide +kernel
set_option maxRecDepth 20000 in
theorem ggX1_sweepOnce_X1_keep : GoodIn wsX1_sweepOnce wsX1_keep := goodIn_ca (goodIn_r _ [7, 1, 8, 9, 10, 11, 43, 44, 45, 46, 47, 48, 49, 50, 51, 52, 53, 54, 55] (by decide +kernel) (by decide +kernel)) (goodIn_sub (fun _ h => List.mem_cons_of_mem _ (List.mem_append_left _ (List.mem_append_right _ h))) (by decide +kernel))
set_option maxRecDepth 20000 in
theorem gX1_sweepOnce_X1_keep : GoodIn wsX1_sweepOnce (wsV RX1 139 RX1 yX1_keep wsX1_keep) := goodIn_app (goodIn_of _ (by decide +kernel)) ggX1_sweepOnce_X1_keep
set_option maxRecDepth 20000 in
theorem ggX1_sweepOnce_X1_at : GoodIn wsX1_sweepOnce wsX1_at := goodIn_r _ [14] (by decide +kernel) (by decide +kernel)
set_option maxRecDepth 20000 in
theorem gX1_sweepOnce_X1_at : GoodIn wsX1_sweepOnce (va_wsS RX1 48 yX1_at wsX1_at) := goodIn_app (goodIn_of _ (by decide +kernel)) ggX1_sweepOnce_X1_at
set_option maxRecDepth 20000 in
theorem ggX1_sweepOnce_X1_cutByRow : GoodIn wsX1_sweepOnce wsX1_cutByRow := goodIn_ca (goodIn_ca (goodIn_r _ [18, 19, 20, 21, 1, 2, 9, 11, 22, 23, 24, 25, 26, 27, 28, 12, 13, 6, 14, 29, 30, 31, 32, 33, 34, 35, 36, 37, 38, 43, 44, 45, 46, 47, 48, 49, 50, 51, 52, 53, 54, 55] (by decide +kernel) (by decide +kernel)) (goodIn_sub (fun _ h => List.mem_cons_of_mem _ (List.mem_append_left _ (List.mem_append_right _ h))) (by decide +kernel))) (goodIn_sub (fun _ h => List.mem_cons_of_mem _ (List.mem_append_right _ h)) (by decide +kernel))
set_option maxRecDepth 20000 in
theorem gX1_sweepOnce_X1_cutByRow : GoodIn wsX1_sweepOnce (wsV RX1 142 RX1 yX1_cutByRow wsX1_cutByRow) := goodIn_app (goodIn_of _ (by decide +kernel)) ggX1_sweepOnce_X1_cutByRow
set_option maxRecDepth 20000 in
theorem ggX1_sweepOnce_X1_judge : GoodIn wsX1_sweepOnce wsX1_judge := goodIn_ca (goodIn_r _ [42, 1, 9, 8, 11, 10, 43, 44, 45, 46, 47, 48, 49, 50, 51, 52, 53, 54, 55] (by decide +kernel) (by decide +kernel)) (goodIn_sub (fun _ h => List.mem_cons_of_mem _ (List.mem_append_left _ (List.mem_append_right _ h))) (by decide +kernel))
set_option maxRecDepth 20000 in
theorem gX1_sweepOnce_X1_judge : GoodIn wsX1_sweepOnce (wsV RX1 145 RX1 yX1_judge wsX1_judge) := goodIn_app (goodIn_of _ (by decide +kernel)) ggX1_sweepOnce_X1_judge
theorem dX1_sweepOnce_0 : decode cX1_sweepOnce 0 = .ok (.aload_n 0, 1) := by decide +kernel
theorem dX1_sweepOnce_1 : decode cX1_sweepOnce 1 = .ok (.invokevirtual 139, 3) := by decide +kernel
theorem dX1_sweepOnce_4 : decode cX1_sweepOnce 4 = .ok (.iconst 0, 1) := by decide +kernel
theorem dX1_sweepOnce_5 : decode cX1_sweepOnce 5 = .ok (.istore_n 1, 1) := by decide +kernel
theorem dX1_sweepOnce_6 : decode cX1_sweepOnce 6 = .ok (.iload_n 1, 1) := by decide +kernel
theorem dX1_sweepOnce_7 : decode cX1_sweepOnce 7 = .ok (.aload_n 0, 1) := by decide +kernel
theorem dX1_sweepOnce_8 : decode cX1_sweepOnce 8 = .ok (.getfield 7, 3) := by decide +kernel
theorem dX1_sweepOnce_11 : decode cX1_sweepOnce 11 = .ok (.if_icmp .ge 36, 3) := by decide +kernel
theorem dX1_sweepOnce_14 : decode cX1_sweepOnce 14 = .ok (.aload_n 0, 1) := by decide +kernel
theorem dX1_sweepOnce_15 : decode cX1_sweepOnce 15 = .ok (.getfield 13, 3) := by decide +kernel
theorem dX1_sweepOnce_18 : decode cX1_sweepOnce 18 = .ok (.iload_n 1, 1) := by decide +kernel
theorem dX1_sweepOnce_19 : decode cX1_sweepOnce 19 = .ok (.iload_n 1, 1) := by decide +kernel
theorem dX1_sweepOnce_20 : decode cX1_sweepOnce 20 = .ok (.invokestatic 48, 3) := by decide +kernel
theorem dX1_sweepOnce_23 : decode cX1_sweepOnce 23 = .ok (.iaload, 1) := by decide +kernel
theorem dX1_sweepOnce_24 : decode cX1_sweepOnce 24 = .ok (.ifCond .eq 17, 3) := by decide +kernel
theorem dX1_sweepOnce_27 : decode cX1_sweepOnce 27 = .ok (.aload_n 0, 1) := by decide +kernel
theorem dX1_sweepOnce_28 : decode cX1_sweepOnce 28 = .ok (.iload_n 1, 1) := by decide +kernel
theorem dX1_sweepOnce_29 : decode cX1_sweepOnce 29 = .ok (.invokevirtual 142, 3) := by decide +kernel
theorem dX1_sweepOnce_32 : decode cX1_sweepOnce 32 = .ok (.ifCond .ne 9, 3) := by decide +kernel
theorem dX1_sweepOnce_35 : decode cX1_sweepOnce 35 = .ok (.aload_n 0, 1) := by decide +kernel
theorem dX1_sweepOnce_36 : decode cX1_sweepOnce 36 = .ok (.iconst 1, 1) := by decide +kernel
theorem dX1_sweepOnce_37 : decode cX1_sweepOnce 37 = .ok (.invokevirtual 145, 3) := by decide +kernel
theorem dX1_sweepOnce_40 : decode cX1_sweepOnce 40 = .ok (.ireturn, 1) := by decide +kernel
theorem dX1_sweepOnce_41 : decode cX1_sweepOnce 41 = .ok (.iinc 1 1, 3) := by decide +kernel
theorem dX1_sweepOnce_44 : decode cX1_sweepOnce 44 = .ok (.goto (-38), 3) := by decide +kernel
theorem dX1_sweepOnce_47 : decode cX1_sweepOnce 47 = .ok (.aload_n 0, 1) := by decide +kernel
theorem dX1_sweepOnce_48 : decode cX1_sweepOnce 48 = .ok (.iconst 0, 1) := by decide +kernel
theorem dX1_sweepOnce_49 : decode cX1_sweepOnce 49 = .ok (.invokevirtual 145, 3) := by decide +kernel
theorem dX1_sweepOnce_52 : decode cX1_sweepOnce 52 = .ok (.ireturn, 1) := by decide +kernel
set_option maxRecDepth 20000 in
theorem ggX1_sweep_X1_sweepOnce : GoodIn wsX1_sweep wsX1_sweepOnce := goodIn_ca (goodIn_ca (goodIn_r _ [6, 7, 8, 9, 10, 11, 5, 12, 13, 14, 15, 16, 17, 18, 19, 20, 21, 22, 23, 24, 25, 26, 27, 28, 29, 30, 31, 32, 33, 34, 35, 36, 37, 38, 39, 40, 41, 42, 43, 44, 45, 46, 47, 48, 49, 50, 51, 52, 53, 54, 55, 56, 57, 58, 59, 60] (by decide +kernel) (by decide +kernel)) (goodIn_sub (fun _ h => List.mem_cons_of_mem _ (List.mem_append_left _ (List.mem_append_right _ h))) (by decide +kernel))) (goodIn_sub (fun _ h => List.mem_cons_of_mem _ (List.mem_append_right _ h)) (by decide +kernel))
set_option maxRecDepth 20000 in
theorem gX1_sweep_X1_sweepOnce : GoodIn wsX1_sweep (wsV RX1 149 RX1 yX1_sweepOnce wsX1_sweepOnce) := goodIn_app (goodIn_of _ (by decide +kernel)) ggX1_sweep_X1_sweepOnce
theorem dX1_sweep_0 : decode cX1_sweep 0 = .ok (.aload_n 0, 1) := by decide +kernel
theorem dX1_sweep_1 : decode cX1_sweep 1 = .ok (.iconst 0, 1) := by decide +kernel
theorem dX1_sweep_2 : decode cX1_sweep 2 = .ok (.putfield 45, 3) := by decide +kernel
theorem dX1_sweep_5 : decode cX1_sweep 5 = .ok (.aload_n 0, 1) := by decide +kernel
theorem dX1_sweep_6 : decode cX1_sweep 6 = .ok (.invokevirtual 149, 3) := by decide +kernel
theorem dX1_sweep_9 : decode cX1_sweep 9 = .ok (.ireturn, 1) := by decide +kernel
set_option maxRecDepth 20000 in
theorem ggX1_contract_X1_fail : GoodIn wsX1_contract wsX1_fail := goodIn_r _ [6, 1, 52, 53, 54, 55, 56, 57, 58, 59, 60, 61, 62, 63, 64] (by decide +kernel) (by decide +kernel)
set_option maxRecDepth 20000 in
theorem gX1_contract_X1_fail : GoodIn wsX1_contract (wsV RX1 54 RX1 yX1_fail wsX1_fail) := goodIn_app (goodIn_of _ (by decide +kernel)) ggX1_contract_X1_fail
set_option maxRecDepth 20000 in
theorem ggX1_contract_X1_sweepOnce : GoodIn wsX1_contract wsX1_sweepOnce := goodIn_ca (goodIn_ca (goodIn_r _ [10, 11, 12, 13, 14, 15, 5, 16, 17, 18, 19, 20, 21, 22, 23, 24, 25, 26, 27, 28, 29, 30, 31, 32, 33, 34, 35, 36, 37, 38, 39, 40, 41, 42, 43, 44, 45, 46, 47, 48, 49, 50, 51, 52, 53, 54, 55, 56, 57, 58, 59, 60, 61, 62, 63, 64] (by decide +kernel) (by decide +kernel)) (goodIn_sub (fun _ h => List.mem_cons_of_mem _ (List.mem_append_left _ (List.mem_append_right _ h))) (by decide +kernel))) (goodIn_sub (fun _ h => List.mem_cons_of_mem _ (List.mem_append_right _ h)) (by decide +kernel))
set_option maxRecDepth 20000 in
theorem gX1_contract_X1_sweepOnce : GoodIn wsX1_contract (wsV RX1 149 RX1 yX1_sweepOnce wsX1_sweepOnce) := goodIn_app (goodIn_of _ (by decide +kernel)) ggX1_contract_X1_sweepOnce
theorem dX1_contract_0 : decode cX1_contract 0 = .ok (.aload_n 0, 1) := by decide +kernel
theorem dX1_contract_1 : decode cX1_contract 1 = .ok (.iconst 0, 1) := by decide +kernel
theorem dX1_contract_2 : decode cX1_contract 2 = .ok (.putfield 45, 3) := by decide +kernel
theorem dX1_contract_5 : decode cX1_contract 5 = .ok (.iload_n 1, 1) := by decide +kernel
theorem dX1_contract_6 : decode cX1_contract 6 = .ok (.iconst 1, 1) := by decide +kernel
theorem dX1_contract_7 : decode cX1_contract 7 = .ok (.if_icmp .lt 10, 3) := by decide +kernel
theorem dX1_contract_10 : decode cX1_contract 10 = .ok (.iload_n 1, 1) := by decide +kernel
theorem dX1_contract_11 : decode cX1_contract 11 = .ok (.sipush 1000, 3) := by decide +kernel
theorem dX1_contract_14 : decode cX1_contract 14 = .ok (.if_icmp .le 9, 3) := by decide +kernel
theorem dX1_contract_17 : decode cX1_contract 17 = .ok (.aload_n 0, 1) := by decide +kernel
theorem dX1_contract_18 : decode cX1_contract 18 = .ok (.iconst 1, 1) := by decide +kernel
theorem dX1_contract_19 : decode cX1_contract 19 = .ok (.invokevirtual 54, 3) := by decide +kernel
theorem dX1_contract_22 : decode cX1_contract 22 = .ok (.ireturn, 1) := by decide +kernel
theorem dX1_contract_23 : decode cX1_contract 23 = .ok (.iconst 1, 1) := by decide +kernel
theorem dX1_contract_24 : decode cX1_contract 24 = .ok (.istore_n 2, 1) := by decide +kernel
theorem dX1_contract_25 : decode cX1_contract 25 = .ok (.iload_n 2, 1) := by decide +kernel
theorem dX1_contract_26 : decode cX1_contract 26 = .ok (.iload_n 1, 1) := by decide +kernel
theorem dX1_contract_27 : decode cX1_contract 27 = .ok (.if_icmp .gt 27, 3) := by decide +kernel
theorem dX1_contract_30 : decode cX1_contract 30 = .ok (.aload_n 0, 1) := by decide +kernel
theorem dX1_contract_31 : decode cX1_contract 31 = .ok (.invokevirtual 149, 3) := by decide +kernel
theorem dX1_contract_34 : decode cX1_contract 34 = .ok (.istore_n 3, 1) := by decide +kernel
theorem dX1_contract_35 : decode cX1_contract 35 = .ok (.iload_n 3, 1) := by decide +kernel
theorem dX1_contract_36 : decode cX1_contract 36 = .ok (.ifCond .ge 6, 3) := by decide +kernel
theorem dX1_contract_39 : decode cX1_contract 39 = .ok (.iload_n 2, 1) := by decide +kernel
theorem dX1_contract_40 : decode cX1_contract 40 = .ok (.ineg, 1) := by decide +kernel
theorem dX1_contract_41 : decode cX1_contract 41 = .ok (.ireturn, 1) := by decide +kernel
theorem dX1_contract_42 : decode cX1_contract 42 = .ok (.iload_n 3, 1) := by decide +kernel
theorem dX1_contract_43 : decode cX1_contract 43 = .ok (.ifCond .ne 5, 3) := by decide +kernel
theorem dX1_contract_46 : decode cX1_contract 46 = .ok (.iload_n 2, 1) := by decide +kernel
theorem dX1_contract_47 : decode cX1_contract 47 = .ok (.ireturn, 1) := by decide +kernel
theorem dX1_contract_48 : decode cX1_contract 48 = .ok (.iinc 2 1, 3) := by decide +kernel
theorem dX1_contract_51 : decode cX1_contract 51 = .ok (.goto (-26), 3) := by decide +kernel
theorem dX1_contract_54 : decode cX1_contract 54 = .ok (.iload_n 1, 1) := by decide +kernel
theorem dX1_contract_55 : decode cX1_contract 55 = .ok (.ireturn, 1) := by decide +kernel
set_option maxRecDepth 20000 in
theorem ggX1_sharpen_X1_isSingular : GoodIn wsX1_sharpen wsX1_isSingular := goodIn_ca (goodIn_r _ [10, 11, 12, 13, 9, 14, 2, 15, 16, 17, 18, 19, 20, 21, 22, 73, 74, 75, 76, 77, 78, 79, 80, 81, 82, 83, 84, 85] (by decide +kernel) (by decide +kernel)) (goodIn_sub (fun _ h => List.mem_cons_of_mem _ (List.mem_append_left _ (List.mem_append_right _ h))) (by decide +kernel))
set_option maxRecDepth 20000 in
theorem gX1_sharpen_X1_isSingular : GoodIn wsX1_sharpen (wsV RX1 101 RX1 yX1_isSingular wsX1_isSingular) := goodIn_app (goodIn_of _ (by decide +kernel)) ggX1_sharpen_X1_isSingular
set_option maxRecDepth 20000 in
theorem ggX1_sharpen_X1_fail : GoodIn wsX1_sharpen wsX1_fail := goodIn_r _ [26, 1, 73, 74, 75, 76, 77, 78, 79, 80, 81, 82, 83, 84, 85] (by decide +kernel) (by decide +kernel)
set_option maxRecDepth 20000 in
theorem gX1_sharpen_X1_fail : GoodIn wsX1_sharpen (wsV RX1 54 RX1 yX1_fail wsX1_fail) := goodIn_app (goodIn_of _ (by decide +kernel)) ggX1_sharpen_X1_fail
set_option maxRecDepth 20000 in
theorem ggX1_sharpen_X1_keep : GoodIn wsX1_sharpen wsX1_keep := goodIn_ca (goodIn_r _ [30, 2, 31, 32, 33, 34, 73, 74, 75, 76, 77, 78, 79, 80, 81, 82, 83, 84, 85] (by decide +kernel) (by decide +kernel)) (goodIn_sub (fun _ h => List.mem_cons_of_mem _ (List.mem_append_left _ (List.mem_append_right _ h))) (by decide +kernel))
set_option maxRecDepth 20000 in
theorem gX1_sharpen_X1_keep : GoodIn wsX1_sharpen (wsV RX1 139 RX1 yX1_keep wsX1_keep) := goodIn_app (goodIn_of _ (by decide +kernel)) ggX1_sharpen_X1_keep
set_option maxRecDepth 20000 in
theorem ggX1_sharpen_X1_findEnd : GoodIn wsX1_sharpen wsX1_findEnd := goodIn_ca (goodIn_ca (goodIn_r _ [38, 2, 39, 40, 11, 12, 13, 9, 14, 15, 16, 17, 18, 19, 20, 21, 22, 41, 42, 43, 44, 45, 46, 47, 48, 49, 50, 51, 52, 4, 5, 73, 74, 75, 76, 77, 78, 79, 80, 81, 82, 83, 84, 85] (by decide +kernel) (by decide +kernel)) (goodIn_sub (fun _ h => List.mem_cons_of_mem _ (List.mem_append_left _ (List.mem_append_right _ h))) (by decide +kernel))) (goodIn_sub (fun _ h => List.mem_cons_of_mem _ (List.mem_append_right _ h)) (by decide +kernel))
set_option maxRecDepth 20000 in
theorem gX1_sharpen_X1_findEnd : GoodIn wsX1_sharpen (wsV RX1 105 RX1 yX1_findEnd wsX1_findEnd) := goodIn_app (goodIn_of _ (by decide +kernel)) ggX1_sharpen_X1_findEnd
set_option maxRecDepth 20000 in
theorem ggX1_sharpen_X1_down : GoodIn wsX1_sharpen wsX1_down := goodIn_ca (goodIn_r _ [55] (by decide +kernel) (by decide +kernel)) (goodIn_sub (fun _ h => List.mem_cons_of_mem _ (List.mem_append_right _ h)) (by decide +kernel))
set_option maxRecDepth 20000 in
theorem gX1_sharpen_X1_down : GoodIn wsX1_sharpen (va_wsS RX1 125 yX1_down wsX1_down) := goodIn_app (goodIn_of _ (by decide +kernel)) ggX1_sharpen_X1_down
set_option maxRecDepth 20000 in
theorem ggX1_sharpen_X1_up : GoodIn wsX1_sharpen wsX1_up := goodIn_ca (goodIn_r _ [58, 53, 54, 9, 55] (by decide +kernel) (by decide +kernel)) (goodIn_sub (fun _ h => List.mem_cons_of_mem _ (List.mem_append_right _ h)) (by decide +kernel))
set_option maxRecDepth 20000 in
theorem gX1_sharpen_X1_up : GoodIn wsX1_sharpen (va_wsS RX1 132 yX1_up wsX1_up) := goodIn_app (goodIn_of _ (by decide +kernel)) ggX1_sharpen_X1_up
set_option maxRecDepth 20000 in
theorem ggX1_sharpen_X1_cut : GoodIn wsX1_sharpen wsX1_cut := goodIn_ca (goodIn_r _ [62, 32, 63, 64, 51, 65, 34, 66, 67, 68, 73, 74, 75, 76, 77, 78, 79, 80, 81, 82, 83, 84, 85] (by decide +kernel) (by decide +kernel)) (goodIn_sub (fun _ h => List.mem_cons_of_mem _ (List.mem_append_left _ (List.mem_append_right _ h))) (by decide +kernel))
set_option maxRecDepth 20000 in
theorem gX1_sharpen_X1_cut : GoodIn wsX1_sharpen (wsV RX1 135 RX1 yX1_cut wsX1_cut) := goodIn_app (goodIn_of _ (by decide +kernel)) ggX1_sharpen_X1_cut
set_option maxRecDepth 20000 in
theorem ggX1_sharpen_X1_judge : GoodIn wsX1_sharpen wsX1_judge := goodIn_ca (goodIn_r _ [72, 2, 32, 31, 34, 33, 73, 74, 75, 76, 77, 78, 79, 80, 81, 82, 83, 84, 85] (by decide +kernel) (by decide +kernel)) (goodIn_sub (fun _ h => List.mem_cons_of_mem _ (List.mem_append_left _ (List.mem_append_right _ h))) (by decide +kernel))
set_option maxRecDepth 20000 in
theorem gX1_sharpen_X1_judge : GoodIn wsX1_sharpen (wsV RX1 145 RX1 yX1_judge wsX1_judge) := goodIn_app (goodIn_of _ (by decide +kernel)) ggX1_sharpen_X1_judge
theorem dX1_sharpen_0 : decode cX1_sharpen 0 = .ok (.aload_n 0, 1) := by decide +kernel
theorem dX1_sharpen_1 : decode cX1_sharpen 1 = .ok (.iconst 0, 1) := by decide +kernel
theorem dX1_sharpen_2 : decode cX1_sharpen 2 = .ok (.putfield 45, 3) := by decide +kernel
theorem dX1_sharpen_5 : decode cX1_sharpen 5 = .ok (.aload_n 0, 1) := by decide +kernel
theorem dX1_sharpen_6 : decode cX1_sharpen 6 = .ok (.invokevirtual 101, 3) := by decide +kernel
theorem dX1_sharpen_9 : decode cX1_sharpen 9 = .ok (.ifCond .eq 9, 3) := by decide +kernel
theorem dX1_sharpen_12 : decode cX1_sharpen 12 = .ok (.aload_n 0, 1) := by decide +kernel
theorem dX1_sharpen_13 : decode cX1_sharpen 13 = .ok (.iconst 1, 1) := by decide +kernel
theorem dX1_sharpen_14 : decode cX1_sharpen 14 = .ok (.invokevirtual 54, 3) := by decide +kernel
theorem dX1_sharpen_17 : decode cX1_sharpen 17 = .ok (.ireturn, 1) := by decide +kernel
theorem dX1_sharpen_18 : decode cX1_sharpen 18 = .ok (.aload_n 0, 1) := by decide +kernel
theorem dX1_sharpen_19 : decode cX1_sharpen 19 = .ok (.invokevirtual 139, 3) := by decide +kernel
theorem dX1_sharpen_22 : decode cX1_sharpen 22 = .ok (.iconst 0, 1) := by decide +kernel
theorem dX1_sharpen_23 : decode cX1_sharpen 23 = .ok (.istore_n 1, 1) := by decide +kernel
theorem dX1_sharpen_24 : decode cX1_sharpen 24 = .ok (.iload_n 1, 1) := by decide +kernel
theorem dX1_sharpen_25 : decode cX1_sharpen 25 = .ok (.aload_n 0, 1) := by decide +kernel
theorem dX1_sharpen_26 : decode cX1_sharpen 26 = .ok (.getfield 7, 3) := by decide +kernel
theorem dX1_sharpen_29 : decode cX1_sharpen 29 = .ok (.if_icmp .ge 67, 3) := by decide +kernel
theorem dX1_sharpen_32 : decode cX1_sharpen 32 = .ok (.aload_n 0, 1) := by decide +kernel
theorem dX1_sharpen_33 : decode cX1_sharpen 33 = .ok (.iload_n 1, 1) := by decide +kernel
theorem dX1_sharpen_34 : decode cX1_sharpen 34 = .ok (.iconst 0, 1) := by decide +kernel
theorem dX1_sharpen_35 : decode cX1_sharpen 35 = .ok (.invokevirtual 105, 3) := by decide +kernel
theorem dX1_sharpen_38 : decode cX1_sharpen 38 = .ok (.ldc2_w 130, 3) := by decide +kernel
theorem dX1_sharpen_41 : decode cX1_sharpen 41 = .ok (.aload_n 0, 1) := by decide +kernel
theorem dX1_sharpen_42 : decode cX1_sharpen 42 = .ok (.getfield 87, 3) := by decide +kernel
theorem dX1_sharpen_45 : decode cX1_sharpen 45 = .ok (.lmul, 1) := by decide +kernel
theorem dX1_sharpen_46 : decode cX1_sharpen 46 = .ok (.aload_n 0, 1) := by decide +kernel
theorem dX1_sharpen_47 : decode cX1_sharpen 47 = .ok (.getfield 91, 3) := by decide +kernel
theorem dX1_sharpen_50 : decode cX1_sharpen 50 = .ok (.invokestatic 125, 3) := by decide +kernel
theorem dX1_sharpen_53 : decode cX1_sharpen 53 = .ok (.lstore_n 2, 1) := by decide +kernel
theorem dX1_sharpen_54 : decode cX1_sharpen 54 = .ok (.aload_n 0, 1) := by decide +kernel
theorem dX1_sharpen_55 : decode cX1_sharpen 55 = .ok (.iload_n 1, 1) := by decide +kernel
theorem dX1_sharpen_56 : decode cX1_sharpen 56 = .ok (.iconst 1, 1) := by decide +kernel
theorem dX1_sharpen_57 : decode cX1_sharpen 57 = .ok (.invokevirtual 105, 3) := by decide +kernel
theorem dX1_sharpen_60 : decode cX1_sharpen 60 = .ok (.aload_n 0, 1) := by decide +kernel
theorem dX1_sharpen_61 : decode cX1_sharpen 61 = .ok (.iload_n 1, 1) := by decide +kernel
theorem dX1_sharpen_62 : decode cX1_sharpen 62 = .ok (.lload_n 2, 1) := by decide +kernel
theorem dX1_sharpen_63 : decode cX1_sharpen 63 = .ok (.ldc2_w 130, 3) := by decide +kernel
theorem dX1_sharpen_66 : decode cX1_sharpen 66 = .ok (.aload_n 0, 1) := by decide +kernel
theorem dX1_sharpen_67 : decode cX1_sharpen 67 = .ok (.getfield 87, 3) := by decide +kernel
theorem dX1_sharpen_70 : decode cX1_sharpen 70 = .ok (.lmul, 1) := by decide +kernel
theorem dX1_sharpen_71 : decode cX1_sharpen 71 = .ok (.aload_n 0, 1) := by decide +kernel
theorem dX1_sharpen_72 : decode cX1_sharpen 72 = .ok (.getfield 91, 3) := by decide +kernel
theorem dX1_sharpen_75 : decode cX1_sharpen 75 = .ok (.invokestatic 132, 3) := by decide +kernel
theorem dX1_sharpen_78 : decode cX1_sharpen 78 = .ok (.invokevirtual 135, 3) := by decide +kernel
theorem dX1_sharpen_81 : decode cX1_sharpen 81 = .ok (.ifCond .ne 9, 3) := by decide +kernel
theorem dX1_sharpen_84 : decode cX1_sharpen 84 = .ok (.aload_n 0, 1) := by decide +kernel
theorem dX1_sharpen_85 : decode cX1_sharpen 85 = .ok (.iconst 1, 1) := by decide +kernel
theorem dX1_sharpen_86 : decode cX1_sharpen 86 = .ok (.invokevirtual 145, 3) := by decide +kernel
theorem dX1_sharpen_89 : decode cX1_sharpen 89 = .ok (.ireturn, 1) := by decide +kernel
theorem dX1_sharpen_90 : decode cX1_sharpen 90 = .ok (.iinc 1 1, 3) := by decide +kernel
theorem dX1_sharpen_93 : decode cX1_sharpen 93 = .ok (.goto (-69), 3) := by decide +kernel
theorem dX1_sharpen_96 : decode cX1_sharpen 96 = .ok (.aload_n 0, 1) := by decide +kernel
theorem dX1_sharpen_97 : decode cX1_sharpen 97 = .ok (.iconst 0, 1) := by decide +kernel
theorem dX1_sharpen_98 : decode cX1_sharpen 98 = .ok (.invokevirtual 145, 3) := by decide +kernel
theorem dX1_sharpen_101 : decode cX1_sharpen 101 = .ok (.ireturn, 1) := by decide +kernel
set_option maxRecDepth 20000 in
theorem ggX1_isCertified_X1_isSingular : GoodIn wsX1_isCertified wsX1_isSingular := goodIn_ca (goodIn_r _ [12, 13, 14, 15, 11, 16, 2, 17, 18, 19, 20, 21, 22, 23, 24, 53, 54, 55, 56, 57, 58, 59, 60, 61, 62, 63, 64, 65] (by decide +kernel) (by decide +kernel)) (goodIn_sub (fun _ h => List.mem_cons_of_mem _ (List.mem_append_left _ (List.mem_append_right _ h))) (by decide +kernel))
set_option maxRecDepth 20000 in
theorem gX1_isCertified_X1_isSingular : GoodIn wsX1_isCertified (wsV RX1 101 RX1 yX1_isSingular wsX1_isSingular) := goodIn_app (goodIn_of _ (by decide +kernel)) ggX1_isCertified_X1_isSingular
set_option maxRecDepth 20000 in
theorem ggX1_isCertified_X1_fail : GoodIn wsX1_isCertified wsX1_fail := goodIn_r _ [28, 1, 53, 54, 55, 56, 57, 58, 59, 60, 61, 62, 63, 64, 65] (by decide +kernel) (by decide +kernel)
set_option maxRecDepth 20000 in
theorem gX1_isCertified_X1_fail : GoodIn wsX1_isCertified (wsV RX1 54 RX1 yX1_fail wsX1_fail) := goodIn_app (goodIn_of _ (by decide +kernel)) ggX1_isCertified_X1_fail
set_option maxRecDepth 20000 in
theorem ggX1_isCertified_X1_findEnd : GoodIn wsX1_isCertified wsX1_findEnd := goodIn_ca (goodIn_ca (goodIn_r _ [32, 2, 33, 34, 13, 14, 15, 11, 16, 17, 18, 19, 20, 21, 22, 23, 24, 35, 36, 37, 38, 39, 40, 41, 42, 43, 44, 45, 46, 4, 5, 53, 54, 55, 56, 57, 58, 59, 60, 61, 62, 63, 64, 65] (by decide +kernel) (by decide +kernel)) (goodIn_sub (fun _ h => List.mem_cons_of_mem _ (List.mem_append_left _ (List.mem_append_right _ h))) (by decide +kernel))) (goodIn_sub (fun _ h => List.mem_cons_of_mem _ (List.mem_append_right _ h)) (by decide +kernel))
set_option maxRecDepth 20000 in
theorem gX1_isCertified_X1_findEnd : GoodIn wsX1_isCertified (wsV RX1 105 RX1 yX1_findEnd wsX1_findEnd) := goodIn_app (goodIn_of _ (by decide +kernel)) ggX1_isCertified_X1_findEnd
set_option maxRecDepth 20000 in
theorem ggX1_isCertified_X1_down : GoodIn wsX1_isCertified wsX1_down := goodIn_ca (goodIn_r _ [49] (by decide +kernel) (by decide +kernel)) (goodIn_sub (fun _ h => List.mem_cons_of_mem _ (List.mem_append_right _ h)) (by decide +kernel))
set_option maxRecDepth 20000 in
theorem gX1_isCertified_X1_down : GoodIn wsX1_isCertified (va_wsS RX1 125 yX1_down wsX1_down) := goodIn_app (goodIn_of _ (by decide +kernel)) ggX1_isCertified_X1_down
set_option maxRecDepth 20000 in
theorem ggX1_isCertified_X1_up : GoodIn wsX1_isCertified wsX1_up := goodIn_ca (goodIn_r _ [52, 47, 48, 11, 49] (by decide +kernel) (by decide +kernel)) (goodIn_sub (fun _ h => List.mem_cons_of_mem _ (List.mem_append_right _ h)) (by decide +kernel))
set_option maxRecDepth 20000 in
theorem gX1_isCertified_X1_up : GoodIn wsX1_isCertified (va_wsS RX1 132 yX1_up wsX1_up) := goodIn_app (goodIn_of _ (by decide +kernel)) ggX1_isCertified_X1_up
theorem dX1_isCertified_0 : decode cX1_isCertified 0 = .ok (.aload_n 0, 1) := by decide +kernel
theorem dX1_isCertified_1 : decode cX1_isCertified 1 = .ok (.iconst 0, 1) := by decide +kernel
theorem dX1_isCertified_2 : decode cX1_isCertified 2 = .ok (.putfield 45, 3) := by decide +kernel
theorem dX1_isCertified_5 : decode cX1_isCertified 5 = .ok (.aload_n 0, 1) := by decide +kernel
theorem dX1_isCertified_6 : decode cX1_isCertified 6 = .ok (.invokevirtual 101, 3) := by decide +kernel
theorem dX1_isCertified_9 : decode cX1_isCertified 9 = .ok (.ifCond .eq 17, 3) := by decide +kernel
theorem dX1_isCertified_12 : decode cX1_isCertified 12 = .ok (.aload_n 0, 1) := by decide +kernel
theorem dX1_isCertified_13 : decode cX1_isCertified 13 = .ok (.iconst 1, 1) := by decide +kernel
theorem dX1_isCertified_14 : decode cX1_isCertified 14 = .ok (.invokevirtual 54, 3) := by decide +kernel
theorem dX1_isCertified_17 : decode cX1_isCertified 17 = .ok (.ifCond .eq 7, 3) := by decide +kernel
theorem dX1_isCertified_20 : decode cX1_isCertified 20 = .ok (.iconst 1, 1) := by decide +kernel
theorem dX1_isCertified_21 : decode cX1_isCertified 21 = .ok (.goto 4, 3) := by decide +kernel
theorem dX1_isCertified_24 : decode cX1_isCertified 24 = .ok (.iconst 0, 1) := by decide +kernel
theorem dX1_isCertified_25 : decode cX1_isCertified 25 = .ok (.ireturn, 1) := by decide +kernel
theorem dX1_isCertified_26 : decode cX1_isCertified 26 = .ok (.iconst 1, 1) := by decide +kernel
theorem dX1_isCertified_27 : decode cX1_isCertified 27 = .ok (.istore_n 1, 1) := by decide +kernel
theorem dX1_isCertified_28 : decode cX1_isCertified 28 = .ok (.iconst 0, 1) := by decide +kernel
theorem dX1_isCertified_29 : decode cX1_isCertified 29 = .ok (.istore_n 2, 1) := by decide +kernel
theorem dX1_isCertified_30 : decode cX1_isCertified 30 = .ok (.iload_n 2, 1) := by decide +kernel
theorem dX1_isCertified_31 : decode cX1_isCertified 31 = .ok (.aload_n 0, 1) := by decide +kernel
theorem dX1_isCertified_32 : decode cX1_isCertified 32 = .ok (.getfield 7, 3) := by decide +kernel
theorem dX1_isCertified_35 : decode cX1_isCertified 35 = .ok (.if_icmp .ge 93, 3) := by decide +kernel
theorem dX1_isCertified_38 : decode cX1_isCertified 38 = .ok (.aload_n 0, 1) := by decide +kernel
theorem dX1_isCertified_39 : decode cX1_isCertified 39 = .ok (.iload_n 2, 1) := by decide +kernel
theorem dX1_isCertified_40 : decode cX1_isCertified 40 = .ok (.iconst 0, 1) := by decide +kernel
theorem dX1_isCertified_41 : decode cX1_isCertified 41 = .ok (.invokevirtual 105, 3) := by decide +kernel
theorem dX1_isCertified_44 : decode cX1_isCertified 44 = .ok (.iload_n 1, 1) := by decide +kernel
theorem dX1_isCertified_45 : decode cX1_isCertified 45 = .ok (.ifCond .eq 33, 3) := by decide +kernel
theorem dX1_isCertified_48 : decode cX1_isCertified 48 = .ok (.ldc2_w 130, 3) := by decide +kernel
theorem dX1_isCertified_51 : decode cX1_isCertified 51 = .ok (.aload_n 0, 1) := by decide +kernel
theorem dX1_isCertified_52 : decode cX1_isCertified 52 = .ok (.getfield 87, 3) := by decide +kernel
theorem dX1_isCertified_55 : decode cX1_isCertified 55 = .ok (.lmul, 1) := by decide +kernel
theorem dX1_isCertified_56 : decode cX1_isCertified 56 = .ok (.aload_n 0, 1) := by decide +kernel
theorem dX1_isCertified_57 : decode cX1_isCertified 57 = .ok (.getfield 91, 3) := by decide +kernel
theorem dX1_isCertified_60 : decode cX1_isCertified 60 = .ok (.invokestatic 125, 3) := by decide +kernel
theorem dX1_isCertified_63 : decode cX1_isCertified 63 = .ok (.aload_n 0, 1) := by decide +kernel
theorem dX1_isCertified_64 : decode cX1_isCertified 64 = .ok (.getfield 26, 3) := by decide +kernel
theorem dX1_isCertified_67 : decode cX1_isCertified 67 = .ok (.iload_n 2, 1) := by decide +kernel
theorem dX1_isCertified_68 : decode cX1_isCertified 68 = .ok (.iaload, 1) := by decide +kernel
theorem dX1_isCertified_69 : decode cX1_isCertified 69 = .ok (.i2l, 1) := by decide +kernel
theorem dX1_isCertified_70 : decode cX1_isCertified 70 = .ok (.lcmp, 1) := by decide +kernel
theorem dX1_isCertified_71 : decode cX1_isCertified 71 = .ok (.ifCond .lt 7, 3) := by decide +kernel
theorem dX1_isCertified_74 : decode cX1_isCertified 74 = .ok (.iconst 1, 1) := by decide +kernel
theorem dX1_isCertified_75 : decode cX1_isCertified 75 = .ok (.goto 4, 3) := by decide +kernel
theorem dX1_isCertified_78 : decode cX1_isCertified 78 = .ok (.iconst 0, 1) := by decide +kernel
theorem dX1_isCertified_79 : decode cX1_isCertified 79 = .ok (.istore_n 1, 1) := by decide +kernel
theorem dX1_isCertified_80 : decode cX1_isCertified 80 = .ok (.aload_n 0, 1) := by decide +kernel
theorem dX1_isCertified_81 : decode cX1_isCertified 81 = .ok (.iload_n 2, 1) := by decide +kernel
theorem dX1_isCertified_82 : decode cX1_isCertified 82 = .ok (.iconst 1, 1) := by decide +kernel
theorem dX1_isCertified_83 : decode cX1_isCertified 83 = .ok (.invokevirtual 105, 3) := by decide +kernel
theorem dX1_isCertified_86 : decode cX1_isCertified 86 = .ok (.iload_n 1, 1) := by decide +kernel
theorem dX1_isCertified_87 : decode cX1_isCertified 87 = .ok (.ifCond .eq 33, 3) := by decide +kernel
theorem dX1_isCertified_90 : decode cX1_isCertified 90 = .ok (.ldc2_w 130, 3) := by decide +kernel
theorem dX1_isCertified_93 : decode cX1_isCertified 93 = .ok (.aload_n 0, 1) := by decide +kernel
theorem dX1_isCertified_94 : decode cX1_isCertified 94 = .ok (.getfield 87, 3) := by decide +kernel
theorem dX1_isCertified_97 : decode cX1_isCertified 97 = .ok (.lmul, 1) := by decide +kernel
theorem dX1_isCertified_98 : decode cX1_isCertified 98 = .ok (.aload_n 0, 1) := by decide +kernel
theorem dX1_isCertified_99 : decode cX1_isCertified 99 = .ok (.getfield 91, 3) := by decide +kernel
theorem dX1_isCertified_102 : decode cX1_isCertified 102 = .ok (.invokestatic 132, 3) := by decide +kernel
theorem dX1_isCertified_105 : decode cX1_isCertified 105 = .ok (.aload_n 0, 1) := by decide +kernel
theorem dX1_isCertified_106 : decode cX1_isCertified 106 = .ok (.getfield 29, 3) := by decide +kernel
theorem dX1_isCertified_109 : decode cX1_isCertified 109 = .ok (.iload_n 2, 1) := by decide +kernel
theorem dX1_isCertified_110 : decode cX1_isCertified 110 = .ok (.iaload, 1) := by decide +kernel
theorem dX1_isCertified_111 : decode cX1_isCertified 111 = .ok (.i2l, 1) := by decide +kernel
theorem dX1_isCertified_112 : decode cX1_isCertified 112 = .ok (.lcmp, 1) := by decide +kernel
theorem dX1_isCertified_113 : decode cX1_isCertified 113 = .ok (.ifCond .gt 7, 3) := by decide +kernel
theorem dX1_isCertified_116 : decode cX1_isCertified 116 = .ok (.iconst 1, 1) := by decide +kernel
theorem dX1_isCertified_117 : decode cX1_isCertified 117 = .ok (.goto 4, 3) := by decide +kernel
theorem dX1_isCertified_120 : decode cX1_isCertified 120 = .ok (.iconst 0, 1) := by decide +kernel
theorem dX1_isCertified_121 : decode cX1_isCertified 121 = .ok (.istore_n 1, 1) := by decide +kernel
theorem dX1_isCertified_122 : decode cX1_isCertified 122 = .ok (.iinc 2 1, 3) := by decide +kernel
theorem dX1_isCertified_125 : decode cX1_isCertified 125 = .ok (.goto (-95), 3) := by decide +kernel
theorem dX1_isCertified_128 : decode cX1_isCertified 128 = .ok (.iload_n 1, 1) := by decide +kernel
theorem dX1_isCertified_129 : decode cX1_isCertified 129 = .ok (.ireturn, 1) := by decide +kernel
set_option maxRecDepth 20000 in
theorem ggX1_middle_X1_at : GoodIn wsX1_middle wsX1_at := goodIn_r _ [8] (by decide +kernel) (by decide +kernel)
set_option maxRecDepth 20000 in
theorem gX1_middle_X1_at : GoodIn wsX1_middle (va_wsS RX1 48 yX1_at wsX1_at) := goodIn_app (goodIn_of _ (by decide +kernel)) ggX1_middle_X1_at
theorem dX1_middle_0 : decode cX1_middle 0 = .ok (.lconst 0, 1) := by decide +kernel
theorem dX1_middle_1 : decode cX1_middle 1 = .ok (.lstore_n 2, 1) := by decide +kernel
theorem dX1_middle_2 : decode cX1_middle 2 = .ok (.iconst 0, 1) := by decide +kernel
theorem dX1_middle_3 : decode cX1_middle 3 = .ok (.istore 4, 2) := by decide +kernel
theorem dX1_middle_5 : decode cX1_middle 5 = .ok (.iload 4, 2) := by decide +kernel
theorem dX1_middle_7 : decode cX1_middle 7 = .ok (.aload_n 0, 1) := by decide +kernel
theorem dX1_middle_8 : decode cX1_middle 8 = .ok (.getfield 7, 3) := by decide +kernel
theorem dX1_middle_11 : decode cX1_middle 11 = .ok (.if_icmp .ge 42, 3) := by decide +kernel
theorem dX1_middle_14 : decode cX1_middle 14 = .ok (.lload_n 2, 1) := by decide +kernel
theorem dX1_middle_15 : decode cX1_middle 15 = .ok (.aload_n 0, 1) := by decide +kernel
theorem dX1_middle_16 : decode cX1_middle 16 = .ok (.getfield 13, 3) := by decide +kernel
theorem dX1_middle_19 : decode cX1_middle 19 = .ok (.iload_n 1, 1) := by decide +kernel
theorem dX1_middle_20 : decode cX1_middle 20 = .ok (.iload 4, 2) := by decide +kernel
theorem dX1_middle_22 : decode cX1_middle 22 = .ok (.invokestatic 48, 3) := by decide +kernel
theorem dX1_middle_25 : decode cX1_middle 25 = .ok (.iaload, 1) := by decide +kernel
theorem dX1_middle_26 : decode cX1_middle 26 = .ok (.i2l, 1) := by decide +kernel
theorem dX1_middle_27 : decode cX1_middle 27 = .ok (.aload_n 0, 1) := by decide +kernel
theorem dX1_middle_28 : decode cX1_middle 28 = .ok (.getfield 26, 3) := by decide +kernel
theorem dX1_middle_31 : decode cX1_middle 31 = .ok (.iload 4, 2) := by decide +kernel
theorem dX1_middle_33 : decode cX1_middle 33 = .ok (.iaload, 1) := by decide +kernel
theorem dX1_middle_34 : decode cX1_middle 34 = .ok (.i2l, 1) := by decide +kernel
theorem dX1_middle_35 : decode cX1_middle 35 = .ok (.aload_n 0, 1) := by decide +kernel
theorem dX1_middle_36 : decode cX1_middle 36 = .ok (.getfield 29, 3) := by decide +kernel
theorem dX1_middle_39 : decode cX1_middle 39 = .ok (.iload 4, 2) := by decide +kernel
theorem dX1_middle_41 : decode cX1_middle 41 = .ok (.iaload, 1) := by decide +kernel
theorem dX1_middle_42 : decode cX1_middle 42 = .ok (.i2l, 1) := by decide +kernel
theorem dX1_middle_43 : decode cX1_middle 43 = .ok (.ladd, 1) := by decide +kernel
theorem dX1_middle_44 : decode cX1_middle 44 = .ok (.lmul, 1) := by decide +kernel
theorem dX1_middle_45 : decode cX1_middle 45 = .ok (.ladd, 1) := by decide +kernel
theorem dX1_middle_46 : decode cX1_middle 46 = .ok (.lstore_n 2, 1) := by decide +kernel
theorem dX1_middle_47 : decode cX1_middle 47 = .ok (.iinc 4 1, 3) := by decide +kernel
theorem dX1_middle_50 : decode cX1_middle 50 = .ok (.goto (-45), 3) := by decide +kernel
theorem dX1_middle_53 : decode cX1_middle 53 = .ok (.lload_n 2, 1) := by decide +kernel
theorem dX1_middle_54 : decode cX1_middle 54 = .ok (.lreturn, 1) := by decide +kernel
set_option maxRecDepth 20000 in
theorem ggX1_residualLow_X1_isIndex : GoodIn wsX1_residualLow wsX1_isIndex := goodIn_r _ [8, 9, 24, 25, 26, 27, 28, 29, 30, 31, 32, 33, 34, 35, 36] (by decide +kernel) (by decide +kernel)
set_option maxRecDepth 20000 in
theorem gX1_residualLow_X1_isIndex : GoodIn wsX1_residualLow (wsV RX1 58 RX1 yX1_isIndex wsX1_isIndex) := goodIn_app (goodIn_of _ (by decide +kernel)) ggX1_residualLow_X1_isIndex
set_option maxRecDepth 20000 in
theorem ggX1_residualLow_X1_middle : GoodIn wsX1_residualLow wsX1_middle := goodIn_ca (goodIn_r _ [13, 9, 14, 15, 16, 17, 18, 7, 19, 24, 25, 26, 27, 28, 29, 30, 31, 32, 33, 34, 35, 36] (by decide +kernel) (by decide +kernel)) (goodIn_sub (fun _ h => List.mem_cons_of_mem _ (List.mem_append_right _ h)) (by decide +kernel))
set_option maxRecDepth 20000 in
theorem gX1_residualLow_X1_middle : GoodIn wsX1_residualLow (wsV RX1 153 RX1 yX1_middle wsX1_middle) := goodIn_app (goodIn_of _ (by decide +kernel)) ggX1_residualLow_X1_middle
set_option maxRecDepth 20000 in
theorem ggX1_residualLow_X1_fail : GoodIn wsX1_residualLow wsX1_fail := goodIn_r _ [23, 1, 24, 25, 26, 27, 28, 29, 30, 31, 32, 33, 34, 35, 36] (by decide +kernel) (by decide +kernel)
set_option maxRecDepth 20000 in
theorem gX1_residualLow_X1_fail : GoodIn wsX1_residualLow (wsV RX1 54 RX1 yX1_fail wsX1_fail) := goodIn_app (goodIn_of _ (by decide +kernel)) ggX1_residualLow_X1_fail
theorem dX1_residualLow_0 : decode cX1_residualLow 0 = .ok (.aload_n 0, 1) := by decide +kernel
theorem dX1_residualLow_1 : decode cX1_residualLow 1 = .ok (.iconst 0, 1) := by decide +kernel
theorem dX1_residualLow_2 : decode cX1_residualLow 2 = .ok (.putfield 45, 3) := by decide +kernel
theorem dX1_residualLow_5 : decode cX1_residualLow 5 = .ok (.aload_n 0, 1) := by decide +kernel
theorem dX1_residualLow_6 : decode cX1_residualLow 6 = .ok (.iload_n 1, 1) := by decide +kernel
theorem dX1_residualLow_7 : decode cX1_residualLow 7 = .ok (.invokevirtual 58, 3) := by decide +kernel
theorem dX1_residualLow_10 : decode cX1_residualLow 10 = .ok (.ifCond .eq 23, 3) := by decide +kernel
theorem dX1_residualLow_13 : decode cX1_residualLow 13 = .ok (.aload_n 0, 1) := by decide +kernel
theorem dX1_residualLow_14 : decode cX1_residualLow 14 = .ok (.iload_n 1, 1) := by decide +kernel
theorem dX1_residualLow_15 : decode cX1_residualLow 15 = .ok (.invokevirtual 153, 3) := by decide +kernel
theorem dX1_residualLow_18 : decode cX1_residualLow 18 = .ok (.ldc2_w 157, 3) := by decide +kernel
theorem dX1_residualLow_21 : decode cX1_residualLow 21 = .ok (.aload_n 0, 1) := by decide +kernel
theorem dX1_residualLow_22 : decode cX1_residualLow 22 = .ok (.getfield 23, 3) := by decide +kernel
theorem dX1_residualLow_25 : decode cX1_residualLow 25 = .ok (.iload_n 1, 1) := by decide +kernel
theorem dX1_residualLow_26 : decode cX1_residualLow 26 = .ok (.iaload, 1) := by decide +kernel
theorem dX1_residualLow_27 : decode cX1_residualLow 27 = .ok (.i2l, 1) := by decide +kernel
theorem dX1_residualLow_28 : decode cX1_residualLow 28 = .ok (.lmul, 1) := by decide +kernel
theorem dX1_residualLow_29 : decode cX1_residualLow 29 = .ok (.lsub, 1) := by decide +kernel
theorem dX1_residualLow_30 : decode cX1_residualLow 30 = .ok (.goto 9, 3) := by decide +kernel
theorem dX1_residualLow_33 : decode cX1_residualLow 33 = .ok (.aload_n 0, 1) := by decide +kernel
theorem dX1_residualLow_34 : decode cX1_residualLow 34 = .ok (.iconst 1, 1) := by decide +kernel
theorem dX1_residualLow_35 : decode cX1_residualLow 35 = .ok (.invokevirtual 54, 3) := by decide +kernel
theorem dX1_residualLow_38 : decode cX1_residualLow 38 = .ok (.i2l, 1) := by decide +kernel
theorem dX1_residualLow_39 : decode cX1_residualLow 39 = .ok (.lreturn, 1) := by decide +kernel
set_option maxRecDepth 20000 in
theorem ggX1_residualHigh_X1_isIndex : GoodIn wsX1_residualHigh wsX1_isIndex := goodIn_r _ [8, 9, 24, 25, 26, 27, 28, 29, 30, 31, 32, 33, 34, 35, 36] (by decide +kernel) (by decide +kernel)
set_option maxRecDepth 20000 in
theorem gX1_residualHigh_X1_isIndex : GoodIn wsX1_residualHigh (wsV RX1 58 RX1 yX1_isIndex wsX1_isIndex) := goodIn_app (goodIn_of _ (by decide +kernel)) ggX1_residualHigh_X1_isIndex
set_option maxRecDepth 20000 in
theorem ggX1_residualHigh_X1_middle : GoodIn wsX1_residualHigh wsX1_middle := goodIn_ca (goodIn_r _ [13, 9, 14, 15, 16, 17, 18, 7, 19, 24, 25, 26, 27, 28, 29, 30, 31, 32, 33, 34, 35, 36] (by decide +kernel) (by decide +kernel)) (goodIn_sub (fun _ h => List.mem_cons_of_mem _ (List.mem_append_right _ h)) (by decide +kernel))
set_option maxRecDepth 20000 in
theorem gX1_residualHigh_X1_middle : GoodIn wsX1_residualHigh (wsV RX1 153 RX1 yX1_middle wsX1_middle) := goodIn_app (goodIn_of _ (by decide +kernel)) ggX1_residualHigh_X1_middle
set_option maxRecDepth 20000 in
theorem ggX1_residualHigh_X1_fail : GoodIn wsX1_residualHigh wsX1_fail := goodIn_r _ [23, 1, 24, 25, 26, 27, 28, 29, 30, 31, 32, 33, 34, 35, 36] (by decide +kernel) (by decide +kernel)
set_option maxRecDepth 20000 in
theorem gX1_residualHigh_X1_fail : GoodIn wsX1_residualHigh (wsV RX1 54 RX1 yX1_fail wsX1_fail) := goodIn_app (goodIn_of _ (by decide +kernel)) ggX1_residualHigh_X1_fail
theorem dX1_residualHigh_0 : decode cX1_residualHigh 0 = .ok (.aload_n 0, 1) := by decide +kernel
theorem dX1_residualHigh_1 : decode cX1_residualHigh 1 = .ok (.iconst 0, 1) := by decide +kernel
theorem dX1_residualHigh_2 : decode cX1_residualHigh 2 = .ok (.putfield 45, 3) := by decide +kernel
theorem dX1_residualHigh_5 : decode cX1_residualHigh 5 = .ok (.aload_n 0, 1) := by decide +kernel
theorem dX1_residualHigh_6 : decode cX1_residualHigh 6 = .ok (.iload_n 1, 1) := by decide +kernel
theorem dX1_residualHigh_7 : decode cX1_residualHigh 7 = .ok (.invokevirtual 58, 3) := by decide +kernel
theorem dX1_residualHigh_10 : decode cX1_residualHigh 10 = .ok (.ifCond .eq 23, 3) := by decide +kernel
theorem dX1_residualHigh_13 : decode cX1_residualHigh 13 = .ok (.aload_n 0, 1) := by decide +kernel
theorem dX1_residualHigh_14 : decode cX1_residualHigh 14 = .ok (.iload_n 1, 1) := by decide +kernel
theorem dX1_residualHigh_15 : decode cX1_residualHigh 15 = .ok (.invokevirtual 153, 3) := by decide +kernel
theorem dX1_residualHigh_18 : decode cX1_residualHigh 18 = .ok (.ldc2_w 157, 3) := by decide +kernel
theorem dX1_residualHigh_21 : decode cX1_residualHigh 21 = .ok (.aload_n 0, 1) := by decide +kernel
theorem dX1_residualHigh_22 : decode cX1_residualHigh 22 = .ok (.getfield 20, 3) := by decide +kernel
theorem dX1_residualHigh_25 : decode cX1_residualHigh 25 = .ok (.iload_n 1, 1) := by decide +kernel
theorem dX1_residualHigh_26 : decode cX1_residualHigh 26 = .ok (.iaload, 1) := by decide +kernel
theorem dX1_residualHigh_27 : decode cX1_residualHigh 27 = .ok (.i2l, 1) := by decide +kernel
theorem dX1_residualHigh_28 : decode cX1_residualHigh 28 = .ok (.lmul, 1) := by decide +kernel
theorem dX1_residualHigh_29 : decode cX1_residualHigh 29 = .ok (.lsub, 1) := by decide +kernel
theorem dX1_residualHigh_30 : decode cX1_residualHigh 30 = .ok (.goto 9, 3) := by decide +kernel
theorem dX1_residualHigh_33 : decode cX1_residualHigh 33 = .ok (.aload_n 0, 1) := by decide +kernel
theorem dX1_residualHigh_34 : decode cX1_residualHigh 34 = .ok (.iconst 1, 1) := by decide +kernel
theorem dX1_residualHigh_35 : decode cX1_residualHigh 35 = .ok (.invokevirtual 54, 3) := by decide +kernel
theorem dX1_residualHigh_38 : decode cX1_residualHigh 38 = .ok (.i2l, 1) := by decide +kernel
theorem dX1_residualHigh_39 : decode cX1_residualHigh 39 = .ok (.lreturn, 1) := by decide +kernel
set_option maxRecDepth 20000 in
theorem ggX1_digest_X1_at : GoodIn wsX1_digest wsX1_at := goodIn_r _ [14] (by decide +kernel) (by decide +kernel)
set_option maxRecDepth 20000 in
theorem gX1_digest_X1_at : GoodIn wsX1_digest (va_wsS RX1 48 yX1_at wsX1_at) := goodIn_app (goodIn_of _ (by decide +kernel)) ggX1_digest_X1_at
set_option maxRecDepth 20000 in
theorem ggX1_digest_X1_determinantWithout : GoodIn wsX1_digest wsX1_determinantWithout := goodIn_ca (goodIn_r _ [18, 3, 19, 5, 20, 21, 13, 22, 11, 12, 14, 23, 24, 25, 26, 27, 28, 29, 30, 31, 32, 33, 34, 35] (by decide +kernel) (by decide +kernel)) (goodIn_sub (fun _ h => List.mem_cons_of_mem _ (List.mem_append_right _ h)) (by decide +kernel))
set_option maxRecDepth 20000 in
theorem gX1_digest_X1_determinantWithout : GoodIn wsX1_digest (wsV RX1 80 RX1 yX1_determinantWithout wsX1_determinantWithout) := goodIn_app (goodIn_of _ (by decide +kernel)) ggX1_digest_X1_determinantWithout
theorem dX1_digest_0 : decode cX1_digest 0 = .ok (.aload_n 0, 1) := by decide +kernel
theorem dX1_digest_1 : decode cX1_digest 1 = .ok (.iconst 0, 1) := by decide +kernel
theorem dX1_digest_2 : decode cX1_digest 2 = .ok (.putfield 45, 3) := by decide +kernel
theorem dX1_digest_5 : decode cX1_digest 5 = .ok (.ldc2_w 159, 3) := by decide +kernel
theorem dX1_digest_8 : decode cX1_digest 8 = .ok (.aload_n 0, 1) := by decide +kernel
theorem dX1_digest_9 : decode cX1_digest 9 = .ok (.getfield 7, 3) := by decide +kernel
theorem dX1_digest_12 : decode cX1_digest 12 = .ok (.i2l, 1) := by decide +kernel
theorem dX1_digest_13 : decode cX1_digest 13 = .ok (.ladd, 1) := by decide +kernel
theorem dX1_digest_14 : decode cX1_digest 14 = .ok (.lstore_n 1, 1) := by decide +kernel
theorem dX1_digest_15 : decode cX1_digest 15 = .ok (.iconst 0, 1) := by decide +kernel
theorem dX1_digest_16 : decode cX1_digest 16 = .ok (.istore_n 3, 1) := by decide +kernel
theorem dX1_digest_17 : decode cX1_digest 17 = .ok (.iload_n 3, 1) := by decide +kernel
theorem dX1_digest_18 : decode cX1_digest 18 = .ok (.aload_n 0, 1) := by decide +kernel
theorem dX1_digest_19 : decode cX1_digest 19 = .ok (.getfield 7, 3) := by decide +kernel
theorem dX1_digest_22 : decode cX1_digest 22 = .ok (.if_icmp .ge 109, 3) := by decide +kernel
theorem dX1_digest_25 : decode cX1_digest 25 = .ok (.iconst 0, 1) := by decide +kernel
theorem dX1_digest_26 : decode cX1_digest 26 = .ok (.istore 4, 2) := by decide +kernel
theorem dX1_digest_28 : decode cX1_digest 28 = .ok (.iload 4, 2) := by decide +kernel
theorem dX1_digest_30 : decode cX1_digest 30 = .ok (.aload_n 0, 1) := by decide +kernel
theorem dX1_digest_31 : decode cX1_digest 31 = .ok (.getfield 7, 3) := by decide +kernel
theorem dX1_digest_34 : decode cX1_digest 34 = .ok (.if_icmp .ge 28, 3) := by decide +kernel
theorem dX1_digest_37 : decode cX1_digest 37 = .ok (.lload_n 1, 1) := by decide +kernel
theorem dX1_digest_38 : decode cX1_digest 38 = .ok (.ldc2_w 161, 3) := by decide +kernel
theorem dX1_digest_41 : decode cX1_digest 41 = .ok (.lmul, 1) := by decide +kernel
theorem dX1_digest_42 : decode cX1_digest 42 = .ok (.aload_n 0, 1) := by decide +kernel
theorem dX1_digest_43 : decode cX1_digest 43 = .ok (.getfield 13, 3) := by decide +kernel
theorem dX1_digest_46 : decode cX1_digest 46 = .ok (.iload_n 3, 1) := by decide +kernel
theorem dX1_digest_47 : decode cX1_digest 47 = .ok (.iload 4, 2) := by decide +kernel
theorem dX1_digest_49 : decode cX1_digest 49 = .ok (.invokestatic 48, 3) := by decide +kernel
theorem dX1_digest_52 : decode cX1_digest 52 = .ok (.iaload, 1) := by decide +kernel
theorem dX1_digest_53 : decode cX1_digest 53 = .ok (.i2l, 1) := by decide +kernel
theorem dX1_digest_54 : decode cX1_digest 54 = .ok (.ladd, 1) := by decide +kernel
theorem dX1_digest_55 : decode cX1_digest 55 = .ok (.lstore_n 1, 1) := by decide +kernel
theorem dX1_digest_56 : decode cX1_digest 56 = .ok (.iinc 4 1, 3) := by decide +kernel
theorem dX1_digest_59 : decode cX1_digest 59 = .ok (.goto (-31), 3) := by decide +kernel
theorem dX1_digest_62 : decode cX1_digest 62 = .ok (.iconst 0, 1) := by decide +kernel
theorem dX1_digest_63 : decode cX1_digest 63 = .ok (.istore 4, 2) := by decide +kernel
theorem dX1_digest_65 : decode cX1_digest 65 = .ok (.iload 4, 2) := by decide +kernel
theorem dX1_digest_67 : decode cX1_digest 67 = .ok (.aload_n 0, 1) := by decide +kernel
theorem dX1_digest_68 : decode cX1_digest 68 = .ok (.getfield 7, 3) := by decide +kernel
theorem dX1_digest_71 : decode cX1_digest 71 = .ok (.if_icmp .ge 28, 3) := by decide +kernel
theorem dX1_digest_74 : decode cX1_digest 74 = .ok (.lload_n 1, 1) := by decide +kernel
theorem dX1_digest_75 : decode cX1_digest 75 = .ok (.ldc2_w 161, 3) := by decide +kernel
theorem dX1_digest_78 : decode cX1_digest 78 = .ok (.lmul, 1) := by decide +kernel
theorem dX1_digest_79 : decode cX1_digest 79 = .ok (.aload_n 0, 1) := by decide +kernel
theorem dX1_digest_80 : decode cX1_digest 80 = .ok (.getfield 17, 3) := by decide +kernel
theorem dX1_digest_83 : decode cX1_digest 83 = .ok (.iload_n 3, 1) := by decide +kernel
theorem dX1_digest_84 : decode cX1_digest 84 = .ok (.iload 4, 2) := by decide +kernel
theorem dX1_digest_86 : decode cX1_digest 86 = .ok (.invokestatic 48, 3) := by decide +kernel
theorem dX1_digest_89 : decode cX1_digest 89 = .ok (.iaload, 1) := by decide +kernel
theorem dX1_digest_90 : decode cX1_digest 90 = .ok (.i2l, 1) := by decide +kernel
theorem dX1_digest_91 : decode cX1_digest 91 = .ok (.ladd, 1) := by decide +kernel
theorem dX1_digest_92 : decode cX1_digest 92 = .ok (.lstore_n 1, 1) := by decide +kernel
theorem dX1_digest_93 : decode cX1_digest 93 = .ok (.iinc 4 1, 3) := by decide +kernel
theorem dX1_digest_96 : decode cX1_digest 96 = .ok (.goto (-31), 3) := by decide +kernel
theorem dX1_digest_99 : decode cX1_digest 99 = .ok (.lload_n 1, 1) := by decide +kernel
theorem dX1_digest_100 : decode cX1_digest 100 = .ok (.ldc2_w 161, 3) := by decide +kernel
theorem dX1_digest_103 : decode cX1_digest 103 = .ok (.lmul, 1) := by decide +kernel
theorem dX1_digest_104 : decode cX1_digest 104 = .ok (.aload_n 0, 1) := by decide +kernel
theorem dX1_digest_105 : decode cX1_digest 105 = .ok (.getfield 20, 3) := by decide +kernel
theorem dX1_digest_108 : decode cX1_digest 108 = .ok (.iload_n 3, 1) := by decide +kernel
theorem dX1_digest_109 : decode cX1_digest 109 = .ok (.iaload, 1) := by decide +kernel
theorem dX1_digest_110 : decode cX1_digest 110 = .ok (.i2l, 1) := by decide +kernel
theorem dX1_digest_111 : decode cX1_digest 111 = .ok (.ladd, 1) := by decide +kernel
theorem dX1_digest_112 : decode cX1_digest 112 = .ok (.ldc2_w 161, 3) := by decide +kernel
theorem dX1_digest_115 : decode cX1_digest 115 = .ok (.lmul, 1) := by decide +kernel
theorem dX1_digest_116 : decode cX1_digest 116 = .ok (.aload_n 0, 1) := by decide +kernel
theorem dX1_digest_117 : decode cX1_digest 117 = .ok (.getfield 23, 3) := by decide +kernel
theorem dX1_digest_120 : decode cX1_digest 120 = .ok (.iload_n 3, 1) := by decide +kernel
theorem dX1_digest_121 : decode cX1_digest 121 = .ok (.iaload, 1) := by decide +kernel
theorem dX1_digest_122 : decode cX1_digest 122 = .ok (.i2l, 1) := by decide +kernel
theorem dX1_digest_123 : decode cX1_digest 123 = .ok (.ladd, 1) := by decide +kernel
theorem dX1_digest_124 : decode cX1_digest 124 = .ok (.lstore_n 1, 1) := by decide +kernel
theorem dX1_digest_125 : decode cX1_digest 125 = .ok (.iinc 3 1, 3) := by decide +kernel
theorem dX1_digest_128 : decode cX1_digest 128 = .ok (.goto (-111), 3) := by decide +kernel
theorem dX1_digest_131 : decode cX1_digest 131 = .ok (.iconst 0, 1) := by decide +kernel
theorem dX1_digest_132 : decode cX1_digest 132 = .ok (.istore_n 3, 1) := by decide +kernel
theorem dX1_digest_133 : decode cX1_digest 133 = .ok (.iload_n 3, 1) := by decide +kernel
theorem dX1_digest_134 : decode cX1_digest 134 = .ok (.aload_n 0, 1) := by decide +kernel
theorem dX1_digest_135 : decode cX1_digest 135 = .ok (.getfield 7, 3) := by decide +kernel
theorem dX1_digest_138 : decode cX1_digest 138 = .ok (.if_icmp .ge 35, 3) := by decide +kernel
theorem dX1_digest_141 : decode cX1_digest 141 = .ok (.lload_n 1, 1) := by decide +kernel
theorem dX1_digest_142 : decode cX1_digest 142 = .ok (.ldc2_w 161, 3) := by decide +kernel
theorem dX1_digest_145 : decode cX1_digest 145 = .ok (.lmul, 1) := by decide +kernel
theorem dX1_digest_146 : decode cX1_digest 146 = .ok (.aload_n 0, 1) := by decide +kernel
theorem dX1_digest_147 : decode cX1_digest 147 = .ok (.getfield 26, 3) := by decide +kernel
theorem dX1_digest_150 : decode cX1_digest 150 = .ok (.iload_n 3, 1) := by decide +kernel
theorem dX1_digest_151 : decode cX1_digest 151 = .ok (.iaload, 1) := by decide +kernel
theorem dX1_digest_152 : decode cX1_digest 152 = .ok (.i2l, 1) := by decide +kernel
theorem dX1_digest_153 : decode cX1_digest 153 = .ok (.ladd, 1) := by decide +kernel
theorem dX1_digest_154 : decode cX1_digest 154 = .ok (.ldc2_w 161, 3) := by decide +kernel
theorem dX1_digest_157 : decode cX1_digest 157 = .ok (.lmul, 1) := by decide +kernel
theorem dX1_digest_158 : decode cX1_digest 158 = .ok (.aload_n 0, 1) := by decide +kernel
theorem dX1_digest_159 : decode cX1_digest 159 = .ok (.getfield 29, 3) := by decide +kernel
theorem dX1_digest_162 : decode cX1_digest 162 = .ok (.iload_n 3, 1) := by decide +kernel
theorem dX1_digest_163 : decode cX1_digest 163 = .ok (.iaload, 1) := by decide +kernel
theorem dX1_digest_164 : decode cX1_digest 164 = .ok (.i2l, 1) := by decide +kernel
theorem dX1_digest_165 : decode cX1_digest 165 = .ok (.ladd, 1) := by decide +kernel
theorem dX1_digest_166 : decode cX1_digest 166 = .ok (.lstore_n 1, 1) := by decide +kernel
theorem dX1_digest_167 : decode cX1_digest 167 = .ok (.iinc 3 1, 3) := by decide +kernel
theorem dX1_digest_170 : decode cX1_digest 170 = .ok (.goto (-37), 3) := by decide +kernel
theorem dX1_digest_173 : decode cX1_digest 173 = .ok (.lload_n 1, 1) := by decide +kernel
theorem dX1_digest_174 : decode cX1_digest 174 = .ok (.ldc2_w 161, 3) := by decide +kernel
theorem dX1_digest_177 : decode cX1_digest 177 = .ok (.lmul, 1) := by decide +kernel
theorem dX1_digest_178 : decode cX1_digest 178 = .ok (.aload_n 0, 1) := by decide +kernel
theorem dX1_digest_179 : decode cX1_digest 179 = .ok (.iconst (-1), 1) := by decide +kernel
theorem dX1_digest_180 : decode cX1_digest 180 = .ok (.iconst (-1), 1) := by decide +kernel
theorem dX1_digest_181 : decode cX1_digest 181 = .ok (.invokevirtual 80, 3) := by decide +kernel
theorem dX1_digest_184 : decode cX1_digest 184 = .ok (.ladd, 1) := by decide +kernel
theorem dX1_digest_185 : decode cX1_digest 185 = .ok (.lreturn, 1) := by decide +kernel
theorem dJx00060_init_a7421_0 : decode cJx00060_init_a7421 0 = .ok (.aload_n 0, 1) := by decide +kernel
theorem dJx00060_init_a7421_1 : decode cJx00060_init_a7421 1 = .ok (.aload_n 1, 1) := by decide +kernel
theorem dJx00060_init_a7421_2 : decode cJx00060_init_a7421 2 = .ok (.invokespecial 7, 3) := by decide +kernel
theorem dJx00060_init_a7421_5 : decode cJx00060_init_a7421 5 = .ok (.return_, 1) := by decide +kernel
theorem dJ6_bitCount_0f7a4_0 : decode cJ6_bitCount_0f7a4 0 = .ok (.iload_n 0, 1) := by decide +kernel
theorem dJ6_bitCount_0f7a4_1 : decode cJ6_bitCount_0f7a4 1 = .ok (.iload_n 0, 1) := by decide +kernel
theorem dJ6_bitCount_0f7a4_2 : decode cJ6_bitCount_0f7a4 2 = .ok (.iconst 1, 1) := by decide +kernel
theorem dJ6_bitCount_0f7a4_3 : decode cJ6_bitCount_0f7a4 3 = .ok (.iushr, 1) := by decide +kernel
theorem dJ6_bitCount_0f7a4_4 : decode cJ6_bitCount_0f7a4 4 = .ok (.ldc_w 265, 3) := by decide +kernel
theorem dJ6_bitCount_0f7a4_7 : decode cJ6_bitCount_0f7a4 7 = .ok (.iand, 1) := by decide +kernel
theorem dJ6_bitCount_0f7a4_8 : decode cJ6_bitCount_0f7a4 8 = .ok (.isub, 1) := by decide +kernel
theorem dJ6_bitCount_0f7a4_9 : decode cJ6_bitCount_0f7a4 9 = .ok (.istore_n 0, 1) := by decide +kernel
theorem dJ6_bitCount_0f7a4_10 : decode cJ6_bitCount_0f7a4 10 = .ok (.iload_n 0, 1) := by decide +kernel
theorem dJ6_bitCount_0f7a4_11 : decode cJ6_bitCount_0f7a4 11 = .ok (.ldc_w 266, 3) := by decide +kernel
theorem dJ6_bitCount_0f7a4_14 : decode cJ6_bitCount_0f7a4 14 = .ok (.iand, 1) := by decide +kernel
theorem dJ6_bitCount_0f7a4_15 : decode cJ6_bitCount_0f7a4 15 = .ok (.iload_n 0, 1) := by decide +kernel
theorem dJ6_bitCount_0f7a4_16 : decode cJ6_bitCount_0f7a4 16 = .ok (.iconst 2, 1) := by decide +kernel
theorem dJ6_bitCount_0f7a4_17 : decode cJ6_bitCount_0f7a4 17 = .ok (.iushr, 1) := by decide +kernel
theorem dJ6_bitCount_0f7a4_18 : decode cJ6_bitCount_0f7a4 18 = .ok (.ldc_w 266, 3) := by decide +kernel
theorem dJ6_bitCount_0f7a4_21 : decode cJ6_bitCount_0f7a4 21 = .ok (.iand, 1) := by decide +kernel
theorem dJ6_bitCount_0f7a4_22 : decode cJ6_bitCount_0f7a4 22 = .ok (.iadd, 1) := by decide +kernel
theorem dJ6_bitCount_0f7a4_23 : decode cJ6_bitCount_0f7a4 23 = .ok (.istore_n 0, 1) := by decide +kernel
theorem dJ6_bitCount_0f7a4_24 : decode cJ6_bitCount_0f7a4 24 = .ok (.iload_n 0, 1) := by decide +kernel
theorem dJ6_bitCount_0f7a4_25 : decode cJ6_bitCount_0f7a4 25 = .ok (.iload_n 0, 1) := by decide +kernel
theorem dJ6_bitCount_0f7a4_26 : decode cJ6_bitCount_0f7a4 26 = .ok (.iconst 4, 1) := by decide +kernel
theorem dJ6_bitCount_0f7a4_27 : decode cJ6_bitCount_0f7a4 27 = .ok (.iushr, 1) := by decide +kernel
theorem dJ6_bitCount_0f7a4_28 : decode cJ6_bitCount_0f7a4 28 = .ok (.iadd, 1) := by decide +kernel
theorem dJ6_bitCount_0f7a4_29 : decode cJ6_bitCount_0f7a4 29 = .ok (.ldc_w 267, 3) := by decide +kernel
theorem dJ6_bitCount_0f7a4_32 : decode cJ6_bitCount_0f7a4 32 = .ok (.iand, 1) := by decide +kernel
theorem dJ6_bitCount_0f7a4_33 : decode cJ6_bitCount_0f7a4 33 = .ok (.istore_n 0, 1) := by decide +kernel
theorem dJ6_bitCount_0f7a4_34 : decode cJ6_bitCount_0f7a4 34 = .ok (.iload_n 0, 1) := by decide +kernel
theorem dJ6_bitCount_0f7a4_35 : decode cJ6_bitCount_0f7a4 35 = .ok (.iload_n 0, 1) := by decide +kernel
theorem dJ6_bitCount_0f7a4_36 : decode cJ6_bitCount_0f7a4 36 = .ok (.bipush 8, 2) := by decide +kernel
theorem dJ6_bitCount_0f7a4_38 : decode cJ6_bitCount_0f7a4 38 = .ok (.iushr, 1) := by decide +kernel
theorem dJ6_bitCount_0f7a4_39 : decode cJ6_bitCount_0f7a4 39 = .ok (.iadd, 1) := by decide +kernel
theorem dJ6_bitCount_0f7a4_40 : decode cJ6_bitCount_0f7a4 40 = .ok (.istore_n 0, 1) := by decide +kernel
theorem dJ6_bitCount_0f7a4_41 : decode cJ6_bitCount_0f7a4 41 = .ok (.iload_n 0, 1) := by decide +kernel
theorem dJ6_bitCount_0f7a4_42 : decode cJ6_bitCount_0f7a4 42 = .ok (.iload_n 0, 1) := by decide +kernel
theorem dJ6_bitCount_0f7a4_43 : decode cJ6_bitCount_0f7a4 43 = .ok (.bipush 16, 2) := by decide +kernel
theorem dJ6_bitCount_0f7a4_45 : decode cJ6_bitCount_0f7a4 45 = .ok (.iushr, 1) := by decide +kernel
theorem dJ6_bitCount_0f7a4_46 : decode cJ6_bitCount_0f7a4 46 = .ok (.iadd, 1) := by decide +kernel
theorem dJ6_bitCount_0f7a4_47 : decode cJ6_bitCount_0f7a4 47 = .ok (.istore_n 0, 1) := by decide +kernel
theorem dJ6_bitCount_0f7a4_48 : decode cJ6_bitCount_0f7a4 48 = .ok (.iload_n 0, 1) := by decide +kernel
theorem dJ6_bitCount_0f7a4_49 : decode cJ6_bitCount_0f7a4 49 = .ok (.bipush 63, 2) := by decide +kernel
theorem dJ6_bitCount_0f7a4_51 : decode cJ6_bitCount_0f7a4 51 = .ok (.iand, 1) := by decide +kernel
theorem dJ6_bitCount_0f7a4_52 : decode cJ6_bitCount_0f7a4 52 = .ok (.ireturn, 1) := by decide +kernel
theorem dJ9_floorDiv_f86c9_0 : decode cJ9_floorDiv_f86c9 0 = .ok (.lload_n 0, 1) := by decide +kernel
theorem dJ9_floorDiv_f86c9_1 : decode cJ9_floorDiv_f86c9 1 = .ok (.lload_n 2, 1) := by decide +kernel
theorem dJ9_floorDiv_f86c9_2 : decode cJ9_floorDiv_f86c9 2 = .ok (.ldiv, 1) := by decide +kernel
theorem dJ9_floorDiv_f86c9_3 : decode cJ9_floorDiv_f86c9 3 = .ok (.lstore 4, 2) := by decide +kernel
theorem dJ9_floorDiv_f86c9_5 : decode cJ9_floorDiv_f86c9 5 = .ok (.lload_n 0, 1) := by decide +kernel
theorem dJ9_floorDiv_f86c9_6 : decode cJ9_floorDiv_f86c9 6 = .ok (.lload_n 2, 1) := by decide +kernel
theorem dJ9_floorDiv_f86c9_7 : decode cJ9_floorDiv_f86c9 7 = .ok (.lxor, 1) := by decide +kernel
theorem dJ9_floorDiv_f86c9_8 : decode cJ9_floorDiv_f86c9 8 = .ok (.lconst 0, 1) := by decide +kernel
theorem dJ9_floorDiv_f86c9_9 : decode cJ9_floorDiv_f86c9 9 = .ok (.lcmp, 1) := by decide +kernel
theorem dJ9_floorDiv_f86c9_10 : decode cJ9_floorDiv_f86c9 10 = .ok (.ifCond .ge 17, 3) := by decide +kernel
theorem dJ9_floorDiv_f86c9_13 : decode cJ9_floorDiv_f86c9 13 = .ok (.lload 4, 2) := by decide +kernel
theorem dJ9_floorDiv_f86c9_15 : decode cJ9_floorDiv_f86c9 15 = .ok (.lload_n 2, 1) := by decide +kernel
theorem dJ9_floorDiv_f86c9_16 : decode cJ9_floorDiv_f86c9 16 = .ok (.lmul, 1) := by decide +kernel
theorem dJ9_floorDiv_f86c9_17 : decode cJ9_floorDiv_f86c9 17 = .ok (.lload_n 0, 1) := by decide +kernel
theorem dJ9_floorDiv_f86c9_18 : decode cJ9_floorDiv_f86c9 18 = .ok (.lcmp, 1) := by decide +kernel
theorem dJ9_floorDiv_f86c9_19 : decode cJ9_floorDiv_f86c9 19 = .ok (.ifCond .eq 8, 3) := by decide +kernel
theorem dJ9_floorDiv_f86c9_22 : decode cJ9_floorDiv_f86c9 22 = .ok (.lload 4, 2) := by decide +kernel
theorem dJ9_floorDiv_f86c9_24 : decode cJ9_floorDiv_f86c9 24 = .ok (.lconst 1, 1) := by decide +kernel
theorem dJ9_floorDiv_f86c9_25 : decode cJ9_floorDiv_f86c9 25 = .ok (.lsub, 1) := by decide +kernel
theorem dJ9_floorDiv_f86c9_26 : decode cJ9_floorDiv_f86c9 26 = .ok (.lreturn, 1) := by decide +kernel
theorem dJ9_floorDiv_f86c9_27 : decode cJ9_floorDiv_f86c9 27 = .ok (.lload 4, 2) := by decide +kernel
theorem dJ9_floorDiv_f86c9_29 : decode cJ9_floorDiv_f86c9 29 = .ok (.lreturn, 1) := by decide +kernel
theorem dJ9_abs_0f7a4_0 : decode cJ9_abs_0f7a4 0 = .ok (.iload_n 0, 1) := by decide +kernel
theorem dJ9_abs_0f7a4_1 : decode cJ9_abs_0f7a4 1 = .ok (.ifCond .ge 8, 3) := by decide +kernel
theorem dJ9_abs_0f7a4_4 : decode cJ9_abs_0f7a4 4 = .ok (.iload_n 0, 1) := by decide +kernel
theorem dJ9_abs_0f7a4_5 : decode cJ9_abs_0f7a4 5 = .ok (.ineg, 1) := by decide +kernel
theorem dJ9_abs_0f7a4_6 : decode cJ9_abs_0f7a4 6 = .ok (.goto 4, 3) := by decide +kernel
theorem dJ9_abs_0f7a4_9 : decode cJ9_abs_0f7a4 9 = .ok (.iload_n 0, 1) := by decide +kernel
theorem dJ9_abs_0f7a4_10 : decode cJ9_abs_0f7a4 10 = .ok (.ireturn, 1) := by decide +kernel
theorem dJ9_abs_067f4_0 : decode cJ9_abs_067f4 0 = .ok (.lload_n 0, 1) := by decide +kernel
theorem dJ9_abs_067f4_1 : decode cJ9_abs_067f4 1 = .ok (.lconst 0, 1) := by decide +kernel
theorem dJ9_abs_067f4_2 : decode cJ9_abs_067f4 2 = .ok (.lcmp, 1) := by decide +kernel
theorem dJ9_abs_067f4_3 : decode cJ9_abs_067f4 3 = .ok (.ifCond .ge 8, 3) := by decide +kernel
theorem dJ9_abs_067f4_6 : decode cJ9_abs_067f4 6 = .ok (.lload_n 0, 1) := by decide +kernel
theorem dJ9_abs_067f4_7 : decode cJ9_abs_067f4 7 = .ok (.lneg, 1) := by decide +kernel
theorem dJ9_abs_067f4_8 : decode cJ9_abs_067f4 8 = .ok (.goto 4, 3) := by decide +kernel
theorem dJ9_abs_067f4_11 : decode cJ9_abs_067f4 11 = .ok (.lload_n 0, 1) := by decide +kernel
theorem dJ9_abs_067f4_12 : decode cJ9_abs_067f4 12 = .ok (.lreturn, 1) := by decide +kernel
theorem dJ9_max_7cf53_0 : decode cJ9_max_7cf53 0 = .ok (.iload_n 0, 1) := by decide +kernel
theorem dJ9_max_7cf53_1 : decode cJ9_max_7cf53 1 = .ok (.iload_n 1, 1) := by decide +kernel
theorem dJ9_max_7cf53_2 : decode cJ9_max_7cf53 2 = .ok (.if_icmp .lt 7, 3) := by decide +kernel
theorem dJ9_max_7cf53_5 : decode cJ9_max_7cf53 5 = .ok (.iload_n 0, 1) := by decide +kernel
theorem dJ9_max_7cf53_6 : decode cJ9_max_7cf53 6 = .ok (.goto 4, 3) := by decide +kernel
theorem dJ9_max_7cf53_9 : decode cJ9_max_7cf53 9 = .ok (.iload_n 1, 1) := by decide +kernel
theorem dJ9_max_7cf53_10 : decode cJ9_max_7cf53 10 = .ok (.ireturn, 1) := by decide +kernel
theorem dJ9_max_f86c9_0 : decode cJ9_max_f86c9 0 = .ok (.lload_n 0, 1) := by decide +kernel
theorem dJ9_max_f86c9_1 : decode cJ9_max_f86c9 1 = .ok (.lload_n 2, 1) := by decide +kernel
theorem dJ9_max_f86c9_2 : decode cJ9_max_f86c9 2 = .ok (.lcmp, 1) := by decide +kernel
theorem dJ9_max_f86c9_3 : decode cJ9_max_f86c9 3 = .ok (.ifCond .lt 7, 3) := by decide +kernel
theorem dJ9_max_f86c9_6 : decode cJ9_max_f86c9 6 = .ok (.lload_n 0, 1) := by decide +kernel
theorem dJ9_max_f86c9_7 : decode cJ9_max_f86c9 7 = .ok (.goto 4, 3) := by decide +kernel
theorem dJ9_max_f86c9_10 : decode cJ9_max_f86c9 10 = .ok (.lload_n 2, 1) := by decide +kernel
theorem dJ9_max_f86c9_11 : decode cJ9_max_f86c9 11 = .ok (.lreturn, 1) := by decide +kernel
theorem dJ9_min_7cf53_0 : decode cJ9_min_7cf53 0 = .ok (.iload_n 0, 1) := by decide +kernel
theorem dJ9_min_7cf53_1 : decode cJ9_min_7cf53 1 = .ok (.iload_n 1, 1) := by decide +kernel
theorem dJ9_min_7cf53_2 : decode cJ9_min_7cf53 2 = .ok (.if_icmp .gt 7, 3) := by decide +kernel
theorem dJ9_min_7cf53_5 : decode cJ9_min_7cf53 5 = .ok (.iload_n 0, 1) := by decide +kernel
theorem dJ9_min_7cf53_6 : decode cJ9_min_7cf53 6 = .ok (.goto 4, 3) := by decide +kernel
theorem dJ9_min_7cf53_9 : decode cJ9_min_7cf53 9 = .ok (.iload_n 1, 1) := by decide +kernel
theorem dJ9_min_7cf53_10 : decode cJ9_min_7cf53 10 = .ok (.ireturn, 1) := by decide +kernel
theorem dJ9_min_f86c9_0 : decode cJ9_min_f86c9 0 = .ok (.lload_n 0, 1) := by decide +kernel
theorem dJ9_min_f86c9_1 : decode cJ9_min_f86c9 1 = .ok (.lload_n 2, 1) := by decide +kernel
theorem dJ9_min_f86c9_2 : decode cJ9_min_f86c9 2 = .ok (.lcmp, 1) := by decide +kernel
theorem dJ9_min_f86c9_3 : decode cJ9_min_f86c9 3 = .ok (.ifCond .gt 7, 3) := by decide +kernel
theorem dJ9_min_f86c9_6 : decode cJ9_min_f86c9 6 = .ok (.lload_n 0, 1) := by decide +kernel
theorem dJ9_min_f86c9_7 : decode cJ9_min_f86c9 7 = .ok (.goto 4, 3) := by decide +kernel
theorem dJ9_min_f86c9_10 : decode cJ9_min_f86c9 10 = .ok (.lload_n 2, 1) := by decide +kernel
theorem dJ9_min_f86c9_11 : decode cJ9_min_f86c9 11 = .ok (.lreturn, 1) := by decide +kernel
