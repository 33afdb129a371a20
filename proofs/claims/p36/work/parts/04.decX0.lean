set_option maxRecDepth 20000 in
theorem ggX0_init_X0_startSystem : GoodIn wsX0_init wsX0_startSystem := goodIn_r _ [23, 24, 6, 7, 8, 9, 10, 25, 11, 26, 27, 28, 29, 30, 31, 32, 33, 34, 35, 36, 37, 38, 39] (by decide +kernel) (by decide +kernel)
set_option maxRecDepth 20000 in
theorem gX0_init_X0_startSystem : GoodIn wsX0_init (wsV RX0 48 RX0 yX0_startSystem wsX0_startSystem) := goodIn_app (goodIn_of _ (by decide +kernel)) ggX0_init_X0_startSystem
theorem dX0_init_0 : decode cX0_init 0 = .ok (.aload_n 0, 1) := by decide +kernel
theorem dX0_init_1 : decode cX0_init 1 = .ok (.invokespecial 3, 3) := by decide +kernel
theorem dX0_init_4 : decode cX0_init 4 = .ok (.aload_n 0, 1) := by decide +kernel
theorem dX0_init_5 : decode cX0_init 5 = .ok (.iconst 5, 1) := by decide +kernel
theorem dX0_init_6 : decode cX0_init 6 = .ok (.iconst 5, 1) := by decide +kernel
theorem dX0_init_7 : decode cX0_init 7 = .ok (.multianewarray 9 2, 4) := by decide +kernel
theorem dX0_init_11 : decode cX0_init 11 = .ok (.putfield 11, 3) := by decide +kernel
theorem dX0_init_14 : decode cX0_init 14 = .ok (.aload_n 0, 1) := by decide +kernel
theorem dX0_init_15 : decode cX0_init 15 = .ok (.iconst 5, 1) := by decide +kernel
theorem dX0_init_16 : decode cX0_init 16 = .ok (.iconst 5, 1) := by decide +kernel
theorem dX0_init_17 : decode cX0_init 17 = .ok (.multianewarray 9 2, 4) := by decide +kernel
theorem dX0_init_21 : decode cX0_init 21 = .ok (.putfield 14, 3) := by decide +kernel
theorem dX0_init_24 : decode cX0_init 24 = .ok (.aload_n 0, 1) := by decide +kernel
theorem dX0_init_25 : decode cX0_init 25 = .ok (.iconst 5, 1) := by decide +kernel
theorem dX0_init_26 : decode cX0_init 26 = .ok (.newarray .int, 2) := by decide +kernel
theorem dX0_init_28 : decode cX0_init 28 = .ok (.putfield 17, 3) := by decide +kernel
theorem dX0_init_31 : decode cX0_init 31 = .ok (.aload_n 0, 1) := by decide +kernel
theorem dX0_init_32 : decode cX0_init 32 = .ok (.iconst 5, 1) := by decide +kernel
theorem dX0_init_33 : decode cX0_init 33 = .ok (.newarray .int, 2) := by decide +kernel
theorem dX0_init_35 : decode cX0_init 35 = .ok (.putfield 21, 3) := by decide +kernel
theorem dX0_init_38 : decode cX0_init 38 = .ok (.aload_n 0, 1) := by decide +kernel
theorem dX0_init_39 : decode cX0_init 39 = .ok (.iconst 5, 1) := by decide +kernel
theorem dX0_init_40 : decode cX0_init 40 = .ok (.newarray .int, 2) := by decide +kernel
theorem dX0_init_42 : decode cX0_init 42 = .ok (.putfield 24, 3) := by decide +kernel
theorem dX0_init_45 : decode cX0_init 45 = .ok (.aload_n 0, 1) := by decide +kernel
theorem dX0_init_46 : decode cX0_init 46 = .ok (.iconst 5, 1) := by decide +kernel
theorem dX0_init_47 : decode cX0_init 47 = .ok (.newarray .int, 2) := by decide +kernel
theorem dX0_init_49 : decode cX0_init 49 = .ok (.putfield 27, 3) := by decide +kernel
theorem dX0_init_52 : decode cX0_init 52 = .ok (.aload_n 0, 1) := by decide +kernel
theorem dX0_init_53 : decode cX0_init 53 = .ok (.iconst 5, 1) := by decide +kernel
theorem dX0_init_54 : decode cX0_init 54 = .ok (.newarray .int, 2) := by decide +kernel
theorem dX0_init_56 : decode cX0_init 56 = .ok (.putfield 30, 3) := by decide +kernel
theorem dX0_init_59 : decode cX0_init 59 = .ok (.aload_n 0, 1) := by decide +kernel
theorem dX0_init_60 : decode cX0_init 60 = .ok (.iconst 5, 1) := by decide +kernel
theorem dX0_init_61 : decode cX0_init 61 = .ok (.newarray .int, 2) := by decide +kernel
theorem dX0_init_63 : decode cX0_init 63 = .ok (.putfield 33, 3) := by decide +kernel
theorem dX0_init_66 : decode cX0_init 66 = .ok (.aload_n 0, 1) := by decide +kernel
theorem dX0_init_67 : decode cX0_init 67 = .ok (.bipush 32, 2) := by decide +kernel
theorem dX0_init_69 : decode cX0_init 69 = .ok (.newarray .long, 2) := by decide +kernel
theorem dX0_init_71 : decode cX0_init 71 = .ok (.putfield 36, 3) := by decide +kernel
theorem dX0_init_74 : decode cX0_init 74 = .ok (.aload_n 0, 1) := by decide +kernel
theorem dX0_init_75 : decode cX0_init 75 = .ok (.iconst 5, 1) := by decide +kernel
theorem dX0_init_76 : decode cX0_init 76 = .ok (.newarray .long, 2) := by decide +kernel
theorem dX0_init_78 : decode cX0_init 78 = .ok (.putfield 40, 3) := by decide +kernel
theorem dX0_init_81 : decode cX0_init 81 = .ok (.aload_n 0, 1) := by decide +kernel
theorem dX0_init_82 : decode cX0_init 82 = .ok (.iconst 5, 1) := by decide +kernel
theorem dX0_init_83 : decode cX0_init 83 = .ok (.iconst 5, 1) := by decide +kernel
theorem dX0_init_84 : decode cX0_init 84 = .ok (.multianewarray 43 2, 4) := by decide +kernel
theorem dX0_init_88 : decode cX0_init 88 = .ok (.putfield 45, 3) := by decide +kernel
theorem dX0_init_91 : decode cX0_init 91 = .ok (.aload_n 0, 1) := by decide +kernel
theorem dX0_init_92 : decode cX0_init 92 = .ok (.iconst 1, 1) := by decide +kernel
theorem dX0_init_93 : decode cX0_init 93 = .ok (.invokevirtual 48, 3) := by decide +kernel
theorem dX0_init_96 : decode cX0_init 96 = .ok (.return_, 1) := by decide +kernel
set_option maxRecDepth 20000 in
theorem ggX0_setSize_X0_startSystem : GoodIn wsX0_setSize wsX0_startSystem := goodIn_r _ [7, 8, 9, 10, 11, 12, 13, 14, 15, 16, 17, 18, 19, 20, 21, 22, 23, 24, 25, 26, 27, 28, 29] (by decide +kernel) (by decide +kernel)
set_option maxRecDepth 20000 in
theorem gX0_setSize_X0_startSystem : GoodIn wsX0_setSize (wsV RX0 48 RX0 yX0_startSystem wsX0_startSystem) := goodIn_app (goodIn_of _ (by decide +kernel)) ggX0_setSize_X0_startSystem
theorem dX0_setSize_0 : decode cX0_setSize 0 = .ok (.iload_n 1, 1) := by decide +kernel
theorem dX0_setSize_1 : decode cX0_setSize 1 = .ok (.iconst 1, 1) := by decide +kernel
theorem dX0_setSize_2 : decode cX0_setSize 2 = .ok (.if_icmp .lt 8, 3) := by decide +kernel
theorem dX0_setSize_5 : decode cX0_setSize 5 = .ok (.iload_n 1, 1) := by decide +kernel
theorem dX0_setSize_6 : decode cX0_setSize 6 = .ok (.iconst 5, 1) := by decide +kernel
theorem dX0_setSize_7 : decode cX0_setSize 7 = .ok (.if_icmp .le 13, 3) := by decide +kernel
theorem dX0_setSize_10 : decode cX0_setSize 10 = .ok (.new 52, 3) := by decide +kernel
theorem dX0_setSize_13 : decode cX0_setSize 13 = .ok (.dup, 1) := by decide +kernel
theorem dX0_setSize_14 : decode cX0_setSize 14 = .ok (.ldc 54, 2) := by decide +kernel
theorem dX0_setSize_16 : decode cX0_setSize 16 = .ok (.invokespecial 56, 3) := by decide +kernel
theorem dX0_setSize_19 : decode cX0_setSize 19 = .ok (.athrow, 1) := by decide +kernel
theorem dX0_setSize_20 : decode cX0_setSize 20 = .ok (.aload_n 0, 1) := by decide +kernel
theorem dX0_setSize_21 : decode cX0_setSize 21 = .ok (.iload_n 1, 1) := by decide +kernel
theorem dX0_setSize_22 : decode cX0_setSize 22 = .ok (.invokevirtual 48, 3) := by decide +kernel
theorem dX0_setSize_25 : decode cX0_setSize 25 = .ok (.iload_n 1, 1) := by decide +kernel
theorem dX0_setSize_26 : decode cX0_setSize 26 = .ok (.ireturn, 1) := by decide +kernel
theorem dX0_size_0 : decode cX0_size 0 = .ok (.aload_n 0, 1) := by decide +kernel
theorem dX0_size_1 : decode cX0_size 1 = .ok (.getfield 59, 3) := by decide +kernel
theorem dX0_size_4 : decode cX0_size 4 = .ok (.ireturn, 1) := by decide +kernel
set_option maxRecDepth 20000 in
theorem ggX0_setCoefficient_X0_isIndex : GoodIn wsX0_setCoefficient wsX0_isIndex := goodIn_r _ [10, 11, 15, 16, 17, 18, 19, 20, 21, 22, 23, 24, 25, 26, 27] (by decide +kernel) (by decide +kernel)
set_option maxRecDepth 20000 in
theorem gX0_setCoefficient_X0_isIndex : GoodIn wsX0_setCoefficient (wsV RX0 63 RX0 yX0_isIndex wsX0_isIndex) := goodIn_app (goodIn_of _ (by decide +kernel)) ggX0_setCoefficient_X0_isIndex
set_option maxRecDepth 20000 in
theorem ggX0_setCoefficient_X0_isWithin : GoodIn wsX0_setCoefficient wsX0_isWithin := goodIn_r _ [14] (by decide +kernel) (by decide +kernel)
set_option maxRecDepth 20000 in
theorem gX0_setCoefficient_X0_isWithin : GoodIn wsX0_setCoefficient (va_wsS RX0 72 yX0_isWithin wsX0_isWithin) := goodIn_app (goodIn_of _ (by decide +kernel)) ggX0_setCoefficient_X0_isWithin
theorem dX0_setCoefficient_0 : decode cX0_setCoefficient 0 = .ok (.aload_n 0, 1) := by decide +kernel
theorem dX0_setCoefficient_1 : decode cX0_setCoefficient 1 = .ok (.iload_n 1, 1) := by decide +kernel
theorem dX0_setCoefficient_2 : decode cX0_setCoefficient 2 = .ok (.invokevirtual 63, 3) := by decide +kernel
theorem dX0_setCoefficient_5 : decode cX0_setCoefficient 5 = .ok (.ifCond .eq 11, 3) := by decide +kernel
theorem dX0_setCoefficient_8 : decode cX0_setCoefficient 8 = .ok (.aload_n 0, 1) := by decide +kernel
theorem dX0_setCoefficient_9 : decode cX0_setCoefficient 9 = .ok (.iload_n 2, 1) := by decide +kernel
theorem dX0_setCoefficient_10 : decode cX0_setCoefficient 10 = .ok (.invokevirtual 63, 3) := by decide +kernel
theorem dX0_setCoefficient_13 : decode cX0_setCoefficient 13 = .ok (.ifCond .ne 13, 3) := by decide +kernel
theorem dX0_setCoefficient_16 : decode cX0_setCoefficient 16 = .ok (.new 67, 3) := by decide +kernel
theorem dX0_setCoefficient_19 : decode cX0_setCoefficient 19 = .ok (.dup, 1) := by decide +kernel
theorem dX0_setCoefficient_20 : decode cX0_setCoefficient 20 = .ok (.ldc 69, 2) := by decide +kernel
theorem dX0_setCoefficient_22 : decode cX0_setCoefficient 22 = .ok (.invokespecial 71, 3) := by decide +kernel
theorem dX0_setCoefficient_25 : decode cX0_setCoefficient 25 = .ok (.athrow, 1) := by decide +kernel
theorem dX0_setCoefficient_26 : decode cX0_setCoefficient 26 = .ok (.iload_n 3, 1) := by decide +kernel
theorem dX0_setCoefficient_27 : decode cX0_setCoefficient 27 = .ok (.bipush 99, 2) := by decide +kernel
theorem dX0_setCoefficient_29 : decode cX0_setCoefficient 29 = .ok (.invokestatic 72, 3) := by decide +kernel
theorem dX0_setCoefficient_32 : decode cX0_setCoefficient 32 = .ok (.ifCond .ne 13, 3) := by decide +kernel
theorem dX0_setCoefficient_35 : decode cX0_setCoefficient 35 = .ok (.new 52, 3) := by decide +kernel
theorem dX0_setCoefficient_38 : decode cX0_setCoefficient 38 = .ok (.dup, 1) := by decide +kernel
theorem dX0_setCoefficient_39 : decode cX0_setCoefficient 39 = .ok (.ldc 76, 2) := by decide +kernel
theorem dX0_setCoefficient_41 : decode cX0_setCoefficient 41 = .ok (.invokespecial 56, 3) := by decide +kernel
theorem dX0_setCoefficient_44 : decode cX0_setCoefficient 44 = .ok (.athrow, 1) := by decide +kernel
theorem dX0_setCoefficient_45 : decode cX0_setCoefficient 45 = .ok (.aload_n 0, 1) := by decide +kernel
theorem dX0_setCoefficient_46 : decode cX0_setCoefficient 46 = .ok (.getfield 11, 3) := by decide +kernel
theorem dX0_setCoefficient_49 : decode cX0_setCoefficient 49 = .ok (.iload_n 1, 1) := by decide +kernel
theorem dX0_setCoefficient_50 : decode cX0_setCoefficient 50 = .ok (.aaload, 1) := by decide +kernel
theorem dX0_setCoefficient_51 : decode cX0_setCoefficient 51 = .ok (.iload_n 2, 1) := by decide +kernel
theorem dX0_setCoefficient_52 : decode cX0_setCoefficient 52 = .ok (.iaload, 1) := by decide +kernel
theorem dX0_setCoefficient_53 : decode cX0_setCoefficient 53 = .ok (.istore 4, 2) := by decide +kernel
theorem dX0_setCoefficient_55 : decode cX0_setCoefficient 55 = .ok (.aload_n 0, 1) := by decide +kernel
theorem dX0_setCoefficient_56 : decode cX0_setCoefficient 56 = .ok (.getfield 11, 3) := by decide +kernel
theorem dX0_setCoefficient_59 : decode cX0_setCoefficient 59 = .ok (.iload_n 1, 1) := by decide +kernel
theorem dX0_setCoefficient_60 : decode cX0_setCoefficient 60 = .ok (.aaload, 1) := by decide +kernel
theorem dX0_setCoefficient_61 : decode cX0_setCoefficient 61 = .ok (.iload_n 2, 1) := by decide +kernel
theorem dX0_setCoefficient_62 : decode cX0_setCoefficient 62 = .ok (.iload_n 3, 1) := by decide +kernel
theorem dX0_setCoefficient_63 : decode cX0_setCoefficient 63 = .ok (.iastore, 1) := by decide +kernel
theorem dX0_setCoefficient_64 : decode cX0_setCoefficient 64 = .ok (.iload 4, 2) := by decide +kernel
theorem dX0_setCoefficient_66 : decode cX0_setCoefficient 66 = .ok (.ireturn, 1) := by decide +kernel
set_option maxRecDepth 20000 in
theorem ggX0_coefficient_X0_isIndex : GoodIn wsX0_coefficient wsX0_isIndex := goodIn_r _ [8, 9, 10, 11, 12, 13, 14, 15, 16, 17, 18, 19, 20, 21, 22] (by decide +kernel) (by decide +kernel)
set_option maxRecDepth 20000 in
theorem gX0_coefficient_X0_isIndex : GoodIn wsX0_coefficient (wsV RX0 63 RX0 yX0_isIndex wsX0_isIndex) := goodIn_app (goodIn_of _ (by decide +kernel)) ggX0_coefficient_X0_isIndex
theorem dX0_coefficient_0 : decode cX0_coefficient 0 = .ok (.aload_n 0, 1) := by decide +kernel
theorem dX0_coefficient_1 : decode cX0_coefficient 1 = .ok (.iload_n 1, 1) := by decide +kernel
theorem dX0_coefficient_2 : decode cX0_coefficient 2 = .ok (.invokevirtual 63, 3) := by decide +kernel
theorem dX0_coefficient_5 : decode cX0_coefficient 5 = .ok (.ifCond .eq 11, 3) := by decide +kernel
theorem dX0_coefficient_8 : decode cX0_coefficient 8 = .ok (.aload_n 0, 1) := by decide +kernel
theorem dX0_coefficient_9 : decode cX0_coefficient 9 = .ok (.iload_n 2, 1) := by decide +kernel
theorem dX0_coefficient_10 : decode cX0_coefficient 10 = .ok (.invokevirtual 63, 3) := by decide +kernel
theorem dX0_coefficient_13 : decode cX0_coefficient 13 = .ok (.ifCond .ne 13, 3) := by decide +kernel
theorem dX0_coefficient_16 : decode cX0_coefficient 16 = .ok (.new 67, 3) := by decide +kernel
theorem dX0_coefficient_19 : decode cX0_coefficient 19 = .ok (.dup, 1) := by decide +kernel
theorem dX0_coefficient_20 : decode cX0_coefficient 20 = .ok (.ldc 69, 2) := by decide +kernel
theorem dX0_coefficient_22 : decode cX0_coefficient 22 = .ok (.invokespecial 71, 3) := by decide +kernel
theorem dX0_coefficient_25 : decode cX0_coefficient 25 = .ok (.athrow, 1) := by decide +kernel
theorem dX0_coefficient_26 : decode cX0_coefficient 26 = .ok (.aload_n 0, 1) := by decide +kernel
theorem dX0_coefficient_27 : decode cX0_coefficient 27 = .ok (.getfield 11, 3) := by decide +kernel
theorem dX0_coefficient_30 : decode cX0_coefficient 30 = .ok (.iload_n 1, 1) := by decide +kernel
theorem dX0_coefficient_31 : decode cX0_coefficient 31 = .ok (.aaload, 1) := by decide +kernel
theorem dX0_coefficient_32 : decode cX0_coefficient 32 = .ok (.iload_n 2, 1) := by decide +kernel
theorem dX0_coefficient_33 : decode cX0_coefficient 33 = .ok (.iaload, 1) := by decide +kernel
theorem dX0_coefficient_34 : decode cX0_coefficient 34 = .ok (.ireturn, 1) := by decide +kernel
set_option maxRecDepth 20000 in
theorem ggX0_setRight_X0_isIndex : GoodIn wsX0_setRight wsX0_isIndex := goodIn_r _ [11, 12, 19, 20, 21, 22, 23, 24, 25, 26, 27, 28, 29, 30, 31] (by decide +kernel) (by decide +kernel)
set_option maxRecDepth 20000 in
theorem gX0_setRight_X0_isIndex : GoodIn wsX0_setRight (wsV RX0 63 RX0 yX0_isIndex wsX0_isIndex) := goodIn_app (goodIn_of _ (by decide +kernel)) ggX0_setRight_X0_isIndex
set_option maxRecDepth 20000 in
theorem ggX0_setRight_X0_isInterval : GoodIn wsX0_setRight wsX0_isInterval := goodIn_r _ [15, 16, 17, 10, 18] (by decide +kernel) (by decide +kernel)
set_option maxRecDepth 20000 in
theorem gX0_setRight_X0_isInterval : GoodIn wsX0_setRight (va_wsS RX0 80 yX0_isInterval wsX0_isInterval) := goodIn_app (goodIn_of _ (by decide +kernel)) ggX0_setRight_X0_isInterval
theorem dX0_setRight_0 : decode cX0_setRight 0 = .ok (.aload_n 0, 1) := by decide +kernel
theorem dX0_setRight_1 : decode cX0_setRight 1 = .ok (.iload_n 1, 1) := by decide +kernel
theorem dX0_setRight_2 : decode cX0_setRight 2 = .ok (.invokevirtual 63, 3) := by decide +kernel
theorem dX0_setRight_5 : decode cX0_setRight 5 = .ok (.ifCond .ne 13, 3) := by decide +kernel
theorem dX0_setRight_8 : decode cX0_setRight 8 = .ok (.new 67, 3) := by decide +kernel
theorem dX0_setRight_11 : decode cX0_setRight 11 = .ok (.dup, 1) := by decide +kernel
theorem dX0_setRight_12 : decode cX0_setRight 12 = .ok (.ldc 78, 2) := by decide +kernel
theorem dX0_setRight_14 : decode cX0_setRight 14 = .ok (.invokespecial 71, 3) := by decide +kernel
theorem dX0_setRight_17 : decode cX0_setRight 17 = .ok (.athrow, 1) := by decide +kernel
theorem dX0_setRight_18 : decode cX0_setRight 18 = .ok (.iload_n 2, 1) := by decide +kernel
theorem dX0_setRight_19 : decode cX0_setRight 19 = .ok (.iload_n 3, 1) := by decide +kernel
theorem dX0_setRight_20 : decode cX0_setRight 20 = .ok (.sipush 999, 3) := by decide +kernel
theorem dX0_setRight_23 : decode cX0_setRight 23 = .ok (.invokestatic 80, 3) := by decide +kernel
theorem dX0_setRight_26 : decode cX0_setRight 26 = .ok (.ifCond .ne 13, 3) := by decide +kernel
theorem dX0_setRight_29 : decode cX0_setRight 29 = .ok (.new 52, 3) := by decide +kernel
theorem dX0_setRight_32 : decode cX0_setRight 32 = .ok (.dup, 1) := by decide +kernel
theorem dX0_setRight_33 : decode cX0_setRight 33 = .ok (.ldc 84, 2) := by decide +kernel
theorem dX0_setRight_35 : decode cX0_setRight 35 = .ok (.invokespecial 56, 3) := by decide +kernel
theorem dX0_setRight_38 : decode cX0_setRight 38 = .ok (.athrow, 1) := by decide +kernel
theorem dX0_setRight_39 : decode cX0_setRight 39 = .ok (.aload_n 0, 1) := by decide +kernel
theorem dX0_setRight_40 : decode cX0_setRight 40 = .ok (.getfield 17, 3) := by decide +kernel
theorem dX0_setRight_43 : decode cX0_setRight 43 = .ok (.iload_n 1, 1) := by decide +kernel
theorem dX0_setRight_44 : decode cX0_setRight 44 = .ok (.iaload, 1) := by decide +kernel
theorem dX0_setRight_45 : decode cX0_setRight 45 = .ok (.iload_n 2, 1) := by decide +kernel
theorem dX0_setRight_46 : decode cX0_setRight 46 = .ok (.if_icmp .ne 13, 3) := by decide +kernel
theorem dX0_setRight_49 : decode cX0_setRight 49 = .ok (.aload_n 0, 1) := by decide +kernel
theorem dX0_setRight_50 : decode cX0_setRight 50 = .ok (.getfield 21, 3) := by decide +kernel
theorem dX0_setRight_53 : decode cX0_setRight 53 = .ok (.iload_n 1, 1) := by decide +kernel
theorem dX0_setRight_54 : decode cX0_setRight 54 = .ok (.iaload, 1) := by decide +kernel
theorem dX0_setRight_55 : decode cX0_setRight 55 = .ok (.iload_n 3, 1) := by decide +kernel
theorem dX0_setRight_56 : decode cX0_setRight 56 = .ok (.if_icmp .eq 7, 3) := by decide +kernel
theorem dX0_setRight_59 : decode cX0_setRight 59 = .ok (.iconst 1, 1) := by decide +kernel
theorem dX0_setRight_60 : decode cX0_setRight 60 = .ok (.goto 4, 3) := by decide +kernel
theorem dX0_setRight_63 : decode cX0_setRight 63 = .ok (.iconst 0, 1) := by decide +kernel
theorem dX0_setRight_64 : decode cX0_setRight 64 = .ok (.istore 4, 2) := by decide +kernel
theorem dX0_setRight_66 : decode cX0_setRight 66 = .ok (.aload_n 0, 1) := by decide +kernel
theorem dX0_setRight_67 : decode cX0_setRight 67 = .ok (.getfield 17, 3) := by decide +kernel
theorem dX0_setRight_70 : decode cX0_setRight 70 = .ok (.iload_n 1, 1) := by decide +kernel
theorem dX0_setRight_71 : decode cX0_setRight 71 = .ok (.iload_n 2, 1) := by decide +kernel
theorem dX0_setRight_72 : decode cX0_setRight 72 = .ok (.iastore, 1) := by decide +kernel
theorem dX0_setRight_73 : decode cX0_setRight 73 = .ok (.aload_n 0, 1) := by decide +kernel
theorem dX0_setRight_74 : decode cX0_setRight 74 = .ok (.getfield 21, 3) := by decide +kernel
theorem dX0_setRight_77 : decode cX0_setRight 77 = .ok (.iload_n 1, 1) := by decide +kernel
theorem dX0_setRight_78 : decode cX0_setRight 78 = .ok (.iload_n 3, 1) := by decide +kernel
theorem dX0_setRight_79 : decode cX0_setRight 79 = .ok (.iastore, 1) := by decide +kernel
theorem dX0_setRight_80 : decode cX0_setRight 80 = .ok (.iload 4, 2) := by decide +kernel
theorem dX0_setRight_82 : decode cX0_setRight 82 = .ok (.ireturn, 1) := by decide +kernel
set_option maxRecDepth 20000 in
theorem ggX0_rightLow_X0_isIndex : GoodIn wsX0_rightLow wsX0_isIndex := goodIn_r _ [8, 9, 10, 11, 12, 13, 14, 15, 16, 17, 18, 19, 20, 21, 22] (by decide +kernel) (by decide +kernel)
set_option maxRecDepth 20000 in
theorem gX0_rightLow_X0_isIndex : GoodIn wsX0_rightLow (wsV RX0 63 RX0 yX0_isIndex wsX0_isIndex) := goodIn_app (goodIn_of _ (by decide +kernel)) ggX0_rightLow_X0_isIndex
theorem dX0_rightLow_0 : decode cX0_rightLow 0 = .ok (.aload_n 0, 1) := by decide +kernel
theorem dX0_rightLow_1 : decode cX0_rightLow 1 = .ok (.iload_n 1, 1) := by decide +kernel
theorem dX0_rightLow_2 : decode cX0_rightLow 2 = .ok (.invokevirtual 63, 3) := by decide +kernel
theorem dX0_rightLow_5 : decode cX0_rightLow 5 = .ok (.ifCond .ne 13, 3) := by decide +kernel
theorem dX0_rightLow_8 : decode cX0_rightLow 8 = .ok (.new 67, 3) := by decide +kernel
theorem dX0_rightLow_11 : decode cX0_rightLow 11 = .ok (.dup, 1) := by decide +kernel
theorem dX0_rightLow_12 : decode cX0_rightLow 12 = .ok (.ldc 78, 2) := by decide +kernel
theorem dX0_rightLow_14 : decode cX0_rightLow 14 = .ok (.invokespecial 71, 3) := by decide +kernel
theorem dX0_rightLow_17 : decode cX0_rightLow 17 = .ok (.athrow, 1) := by decide +kernel
theorem dX0_rightLow_18 : decode cX0_rightLow 18 = .ok (.aload_n 0, 1) := by decide +kernel
theorem dX0_rightLow_19 : decode cX0_rightLow 19 = .ok (.getfield 17, 3) := by decide +kernel
theorem dX0_rightLow_22 : decode cX0_rightLow 22 = .ok (.iload_n 1, 1) := by decide +kernel
theorem dX0_rightLow_23 : decode cX0_rightLow 23 = .ok (.iaload, 1) := by decide +kernel
theorem dX0_rightLow_24 : decode cX0_rightLow 24 = .ok (.ireturn, 1) := by decide +kernel
set_option maxRecDepth 20000 in
theorem ggX0_rightHigh_X0_isIndex : GoodIn wsX0_rightHigh wsX0_isIndex := goodIn_r _ [8, 9, 10, 11, 12, 13, 14, 15, 16, 17, 18, 19, 20, 21, 22] (by decide +kernel) (by decide +kernel)
set_option maxRecDepth 20000 in
theorem gX0_rightHigh_X0_isIndex : GoodIn wsX0_rightHigh (wsV RX0 63 RX0 yX0_isIndex wsX0_isIndex) := goodIn_app (goodIn_of _ (by decide +kernel)) ggX0_rightHigh_X0_isIndex
theorem dX0_rightHigh_0 : decode cX0_rightHigh 0 = .ok (.aload_n 0, 1) := by decide +kernel
theorem dX0_rightHigh_1 : decode cX0_rightHigh 1 = .ok (.iload_n 1, 1) := by decide +kernel
theorem dX0_rightHigh_2 : decode cX0_rightHigh 2 = .ok (.invokevirtual 63, 3) := by decide +kernel
theorem dX0_rightHigh_5 : decode cX0_rightHigh 5 = .ok (.ifCond .ne 13, 3) := by decide +kernel
theorem dX0_rightHigh_8 : decode cX0_rightHigh 8 = .ok (.new 67, 3) := by decide +kernel
theorem dX0_rightHigh_11 : decode cX0_rightHigh 11 = .ok (.dup, 1) := by decide +kernel
theorem dX0_rightHigh_12 : decode cX0_rightHigh 12 = .ok (.ldc 78, 2) := by decide +kernel
theorem dX0_rightHigh_14 : decode cX0_rightHigh 14 = .ok (.invokespecial 71, 3) := by decide +kernel
theorem dX0_rightHigh_17 : decode cX0_rightHigh 17 = .ok (.athrow, 1) := by decide +kernel
theorem dX0_rightHigh_18 : decode cX0_rightHigh 18 = .ok (.aload_n 0, 1) := by decide +kernel
theorem dX0_rightHigh_19 : decode cX0_rightHigh 19 = .ok (.getfield 21, 3) := by decide +kernel
theorem dX0_rightHigh_22 : decode cX0_rightHigh 22 = .ok (.iload_n 1, 1) := by decide +kernel
theorem dX0_rightHigh_23 : decode cX0_rightHigh 23 = .ok (.iaload, 1) := by decide +kernel
theorem dX0_rightHigh_24 : decode cX0_rightHigh 24 = .ok (.ireturn, 1) := by decide +kernel
set_option maxRecDepth 20000 in
theorem ggX0_swapRows_X0_isIndex : GoodIn wsX0_swapRows wsX0_isIndex := goodIn_r _ [12, 3, 16, 17, 18, 19, 20, 21, 22, 23, 24, 25, 26, 27, 28] (by decide +kernel) (by decide +kernel)
set_option maxRecDepth 20000 in
theorem gX0_swapRows_X0_isIndex : GoodIn wsX0_swapRows (wsV RX0 63 RX0 yX0_isIndex wsX0_isIndex) := goodIn_app (goodIn_of _ (by decide +kernel)) ggX0_swapRows_X0_isIndex
set_option maxRecDepth 20000 in
theorem ggX0_swapRows_X0_exchange : GoodIn wsX0_swapRows wsX0_exchange := goodIn_r _ [15] (by decide +kernel) (by decide +kernel)
set_option maxRecDepth 20000 in
theorem gX0_swapRows_X0_exchange : GoodIn wsX0_swapRows (va_wsS RX0 88 yX0_exchange wsX0_exchange) := goodIn_app (goodIn_of _ (by decide +kernel)) ggX0_swapRows_X0_exchange
theorem dX0_swapRows_0 : decode cX0_swapRows 0 = .ok (.aload_n 0, 1) := by decide +kernel
theorem dX0_swapRows_1 : decode cX0_swapRows 1 = .ok (.iload_n 1, 1) := by decide +kernel
theorem dX0_swapRows_2 : decode cX0_swapRows 2 = .ok (.invokevirtual 63, 3) := by decide +kernel
theorem dX0_swapRows_5 : decode cX0_swapRows 5 = .ok (.ifCond .eq 11, 3) := by decide +kernel
theorem dX0_swapRows_8 : decode cX0_swapRows 8 = .ok (.aload_n 0, 1) := by decide +kernel
theorem dX0_swapRows_9 : decode cX0_swapRows 9 = .ok (.iload_n 2, 1) := by decide +kernel
theorem dX0_swapRows_10 : decode cX0_swapRows 10 = .ok (.invokevirtual 63, 3) := by decide +kernel
theorem dX0_swapRows_13 : decode cX0_swapRows 13 = .ok (.ifCond .ne 13, 3) := by decide +kernel
theorem dX0_swapRows_16 : decode cX0_swapRows 16 = .ok (.new 67, 3) := by decide +kernel
theorem dX0_swapRows_19 : decode cX0_swapRows 19 = .ok (.dup, 1) := by decide +kernel
theorem dX0_swapRows_20 : decode cX0_swapRows 20 = .ok (.ldc 78, 2) := by decide +kernel
theorem dX0_swapRows_22 : decode cX0_swapRows 22 = .ok (.invokespecial 71, 3) := by decide +kernel
theorem dX0_swapRows_25 : decode cX0_swapRows 25 = .ok (.athrow, 1) := by decide +kernel
theorem dX0_swapRows_26 : decode cX0_swapRows 26 = .ok (.iconst 0, 1) := by decide +kernel
theorem dX0_swapRows_27 : decode cX0_swapRows 27 = .ok (.istore_n 3, 1) := by decide +kernel
theorem dX0_swapRows_28 : decode cX0_swapRows 28 = .ok (.iload_n 3, 1) := by decide +kernel
theorem dX0_swapRows_29 : decode cX0_swapRows 29 = .ok (.aload_n 0, 1) := by decide +kernel
theorem dX0_swapRows_30 : decode cX0_swapRows 30 = .ok (.getfield 59, 3) := by decide +kernel
theorem dX0_swapRows_33 : decode cX0_swapRows 33 = .ok (.if_icmp .ge 81, 3) := by decide +kernel
theorem dX0_swapRows_36 : decode cX0_swapRows 36 = .ok (.aload_n 0, 1) := by decide +kernel
theorem dX0_swapRows_37 : decode cX0_swapRows 37 = .ok (.getfield 11, 3) := by decide +kernel
theorem dX0_swapRows_40 : decode cX0_swapRows 40 = .ok (.iload_n 1, 1) := by decide +kernel
theorem dX0_swapRows_41 : decode cX0_swapRows 41 = .ok (.aaload, 1) := by decide +kernel
theorem dX0_swapRows_42 : decode cX0_swapRows 42 = .ok (.iload_n 3, 1) := by decide +kernel
theorem dX0_swapRows_43 : decode cX0_swapRows 43 = .ok (.iaload, 1) := by decide +kernel
theorem dX0_swapRows_44 : decode cX0_swapRows 44 = .ok (.istore 4, 2) := by decide +kernel
theorem dX0_swapRows_46 : decode cX0_swapRows 46 = .ok (.aload_n 0, 1) := by decide +kernel
theorem dX0_swapRows_47 : decode cX0_swapRows 47 = .ok (.getfield 11, 3) := by decide +kernel
theorem dX0_swapRows_50 : decode cX0_swapRows 50 = .ok (.iload_n 1, 1) := by decide +kernel
theorem dX0_swapRows_51 : decode cX0_swapRows 51 = .ok (.aaload, 1) := by decide +kernel
theorem dX0_swapRows_52 : decode cX0_swapRows 52 = .ok (.iload_n 3, 1) := by decide +kernel
theorem dX0_swapRows_53 : decode cX0_swapRows 53 = .ok (.aload_n 0, 1) := by decide +kernel
theorem dX0_swapRows_54 : decode cX0_swapRows 54 = .ok (.getfield 11, 3) := by decide +kernel
theorem dX0_swapRows_57 : decode cX0_swapRows 57 = .ok (.iload_n 2, 1) := by decide +kernel
theorem dX0_swapRows_58 : decode cX0_swapRows 58 = .ok (.aaload, 1) := by decide +kernel
theorem dX0_swapRows_59 : decode cX0_swapRows 59 = .ok (.iload_n 3, 1) := by decide +kernel
theorem dX0_swapRows_60 : decode cX0_swapRows 60 = .ok (.iaload, 1) := by decide +kernel
theorem dX0_swapRows_61 : decode cX0_swapRows 61 = .ok (.iastore, 1) := by decide +kernel
theorem dX0_swapRows_62 : decode cX0_swapRows 62 = .ok (.aload_n 0, 1) := by decide +kernel
theorem dX0_swapRows_63 : decode cX0_swapRows 63 = .ok (.getfield 11, 3) := by decide +kernel
theorem dX0_swapRows_66 : decode cX0_swapRows 66 = .ok (.iload_n 2, 1) := by decide +kernel
theorem dX0_swapRows_67 : decode cX0_swapRows 67 = .ok (.aaload, 1) := by decide +kernel
theorem dX0_swapRows_68 : decode cX0_swapRows 68 = .ok (.iload_n 3, 1) := by decide +kernel
theorem dX0_swapRows_69 : decode cX0_swapRows 69 = .ok (.iload 4, 2) := by decide +kernel
theorem dX0_swapRows_71 : decode cX0_swapRows 71 = .ok (.iastore, 1) := by decide +kernel
theorem dX0_swapRows_72 : decode cX0_swapRows 72 = .ok (.aload_n 0, 1) := by decide +kernel
theorem dX0_swapRows_73 : decode cX0_swapRows 73 = .ok (.getfield 14, 3) := by decide +kernel
theorem dX0_swapRows_76 : decode cX0_swapRows 76 = .ok (.iload_n 1, 1) := by decide +kernel
theorem dX0_swapRows_77 : decode cX0_swapRows 77 = .ok (.aaload, 1) := by decide +kernel
theorem dX0_swapRows_78 : decode cX0_swapRows 78 = .ok (.iload_n 3, 1) := by decide +kernel
theorem dX0_swapRows_79 : decode cX0_swapRows 79 = .ok (.iaload, 1) := by decide +kernel
theorem dX0_swapRows_80 : decode cX0_swapRows 80 = .ok (.istore 5, 2) := by decide +kernel
theorem dX0_swapRows_82 : decode cX0_swapRows 82 = .ok (.aload_n 0, 1) := by decide +kernel
theorem dX0_swapRows_83 : decode cX0_swapRows 83 = .ok (.getfield 14, 3) := by decide +kernel
theorem dX0_swapRows_86 : decode cX0_swapRows 86 = .ok (.iload_n 1, 1) := by decide +kernel
theorem dX0_swapRows_87 : decode cX0_swapRows 87 = .ok (.aaload, 1) := by decide +kernel
theorem dX0_swapRows_88 : decode cX0_swapRows 88 = .ok (.iload_n 3, 1) := by decide +kernel
theorem dX0_swapRows_89 : decode cX0_swapRows 89 = .ok (.aload_n 0, 1) := by decide +kernel
theorem dX0_swapRows_90 : decode cX0_swapRows 90 = .ok (.getfield 14, 3) := by decide +kernel
theorem dX0_swapRows_93 : decode cX0_swapRows 93 = .ok (.iload_n 2, 1) := by decide +kernel
theorem dX0_swapRows_94 : decode cX0_swapRows 94 = .ok (.aaload, 1) := by decide +kernel
theorem dX0_swapRows_95 : decode cX0_swapRows 95 = .ok (.iload_n 3, 1) := by decide +kernel
theorem dX0_swapRows_96 : decode cX0_swapRows 96 = .ok (.iaload, 1) := by decide +kernel
theorem dX0_swapRows_97 : decode cX0_swapRows 97 = .ok (.iastore, 1) := by decide +kernel
theorem dX0_swapRows_98 : decode cX0_swapRows 98 = .ok (.aload_n 0, 1) := by decide +kernel
theorem dX0_swapRows_99 : decode cX0_swapRows 99 = .ok (.getfield 14, 3) := by decide +kernel
theorem dX0_swapRows_102 : decode cX0_swapRows 102 = .ok (.iload_n 2, 1) := by decide +kernel
theorem dX0_swapRows_103 : decode cX0_swapRows 103 = .ok (.aaload, 1) := by decide +kernel
theorem dX0_swapRows_104 : decode cX0_swapRows 104 = .ok (.iload_n 3, 1) := by decide +kernel
theorem dX0_swapRows_105 : decode cX0_swapRows 105 = .ok (.iload 5, 2) := by decide +kernel
theorem dX0_swapRows_107 : decode cX0_swapRows 107 = .ok (.iastore, 1) := by decide +kernel
theorem dX0_swapRows_108 : decode cX0_swapRows 108 = .ok (.iinc 3 1, 3) := by decide +kernel
theorem dX0_swapRows_111 : decode cX0_swapRows 111 = .ok (.goto (-83), 3) := by decide +kernel
theorem dX0_swapRows_114 : decode cX0_swapRows 114 = .ok (.aload_n 0, 1) := by decide +kernel
theorem dX0_swapRows_115 : decode cX0_swapRows 115 = .ok (.getfield 17, 3) := by decide +kernel
theorem dX0_swapRows_118 : decode cX0_swapRows 118 = .ok (.iload_n 1, 1) := by decide +kernel
theorem dX0_swapRows_119 : decode cX0_swapRows 119 = .ok (.iload_n 2, 1) := by decide +kernel
theorem dX0_swapRows_120 : decode cX0_swapRows 120 = .ok (.invokestatic 88, 3) := by decide +kernel
theorem dX0_swapRows_123 : decode cX0_swapRows 123 = .ok (.aload_n 0, 1) := by decide +kernel
theorem dX0_swapRows_124 : decode cX0_swapRows 124 = .ok (.getfield 21, 3) := by decide +kernel
theorem dX0_swapRows_127 : decode cX0_swapRows 127 = .ok (.iload_n 1, 1) := by decide +kernel
theorem dX0_swapRows_128 : decode cX0_swapRows 128 = .ok (.iload_n 2, 1) := by decide +kernel
theorem dX0_swapRows_129 : decode cX0_swapRows 129 = .ok (.invokestatic 88, 3) := by decide +kernel
theorem dX0_swapRows_132 : decode cX0_swapRows 132 = .ok (.iload_n 1, 1) := by decide +kernel
theorem dX0_swapRows_133 : decode cX0_swapRows 133 = .ok (.iload_n 2, 1) := by decide +kernel
theorem dX0_swapRows_134 : decode cX0_swapRows 134 = .ok (.if_icmp .eq 7, 3) := by decide +kernel
theorem dX0_swapRows_137 : decode cX0_swapRows 137 = .ok (.iconst 1, 1) := by decide +kernel
theorem dX0_swapRows_138 : decode cX0_swapRows 138 = .ok (.goto 4, 3) := by decide +kernel
theorem dX0_swapRows_141 : decode cX0_swapRows 141 = .ok (.iconst 0, 1) := by decide +kernel
theorem dX0_swapRows_142 : decode cX0_swapRows 142 = .ok (.ireturn, 1) := by decide +kernel
set_option maxRecDepth 20000 in
theorem ggX0_addRow_X0_isIndex : GoodIn wsX0_addRow wsX0_isIndex := goodIn_r _ [13, 14, 36, 37, 38, 39, 40, 41, 42, 43, 44, 45, 46, 47, 48] (by decide +kernel) (by decide +kernel)
set_option maxRecDepth 20000 in
theorem gX0_addRow_X0_isIndex : GoodIn wsX0_addRow (wsV RX0 63 RX0 yX0_isIndex wsX0_isIndex) := goodIn_app (goodIn_of _ (by decide +kernel)) ggX0_addRow_X0_isIndex
set_option maxRecDepth 20000 in
theorem ggX0_addRow_X0_isWithin : GoodIn wsX0_addRow wsX0_isWithin := goodIn_r _ [17] (by decide +kernel) (by decide +kernel)
set_option maxRecDepth 20000 in
theorem gX0_addRow_X0_isWithin : GoodIn wsX0_addRow (va_wsS RX0 72 yX0_isWithin wsX0_isWithin) := goodIn_app (goodIn_of _ (by decide +kernel)) ggX0_addRow_X0_isWithin
set_option maxRecDepth 20000 in
theorem ggX0_addRow_X0_productLow : GoodIn wsX0_addRow wsX0_productLow := goodIn_r _ [20] (by decide +kernel) (by decide +kernel)
set_option maxRecDepth 20000 in
theorem gX0_addRow_X0_productLow : GoodIn wsX0_addRow (va_wsS RX0 94 yX0_productLow wsX0_productLow) := goodIn_app (goodIn_of _ (by decide +kernel)) ggX0_addRow_X0_productLow
set_option maxRecDepth 20000 in
theorem ggX0_addRow_X0_productHigh : GoodIn wsX0_addRow wsX0_productHigh := goodIn_r _ [23] (by decide +kernel) (by decide +kernel)
set_option maxRecDepth 20000 in
theorem gX0_addRow_X0_productHigh : GoodIn wsX0_addRow (va_wsS RX0 98 yX0_productHigh wsX0_productHigh) := goodIn_app (goodIn_of _ (by decide +kernel)) ggX0_addRow_X0_productHigh
set_option maxRecDepth 20000 in
theorem ggX0_addRow_X0_isInterval : GoodIn wsX0_addRow wsX0_isInterval := goodIn_r _ [26, 15, 16, 12, 17] (by decide +kernel) (by decide +kernel)
set_option maxRecDepth 20000 in
theorem gX0_addRow_X0_isInterval : GoodIn wsX0_addRow (va_wsS RX0 80 yX0_isInterval wsX0_isInterval) := goodIn_app (goodIn_of _ (by decide +kernel)) ggX0_addRow_X0_isInterval
set_option maxRecDepth 20000 in
theorem ggX0_addRow_X0_coefficientsFit : GoodIn wsX0_addRow wsX0_coefficientsFit := goodIn_r _ [30, 14, 31, 15, 16, 12, 17, 36, 37, 38, 39, 40, 41, 42, 43, 44, 45, 46, 47, 48] (by decide +kernel) (by decide +kernel)
set_option maxRecDepth 20000 in
theorem gX0_addRow_X0_coefficientsFit : GoodIn wsX0_addRow (wsV RX0 101 RX0 yX0_coefficientsFit wsX0_coefficientsFit) := goodIn_app (goodIn_of _ (by decide +kernel)) ggX0_addRow_X0_coefficientsFit
set_option maxRecDepth 20000 in
theorem ggX0_addRow_X0_addCoefficients : GoodIn wsX0_addRow wsX0_addCoefficients := goodIn_r _ [35, 14, 31, 36, 37, 38, 39, 40, 41, 42, 43, 44, 45, 46, 47, 48] (by decide +kernel) (by decide +kernel)
set_option maxRecDepth 20000 in
theorem gX0_addRow_X0_addCoefficients : GoodIn wsX0_addRow (wsV RX0 109 RX0 yX0_addCoefficients wsX0_addCoefficients) := goodIn_app (goodIn_of _ (by decide +kernel)) ggX0_addRow_X0_addCoefficients
theorem dX0_addRow_0 : decode cX0_addRow 0 = .ok (.aload_n 0, 1) := by decide +kernel
theorem dX0_addRow_1 : decode cX0_addRow 1 = .ok (.iload_n 1, 1) := by decide +kernel
theorem dX0_addRow_2 : decode cX0_addRow 2 = .ok (.invokevirtual 63, 3) := by decide +kernel
theorem dX0_addRow_5 : decode cX0_addRow 5 = .ok (.ifCond .eq 11, 3) := by decide +kernel
theorem dX0_addRow_8 : decode cX0_addRow 8 = .ok (.aload_n 0, 1) := by decide +kernel
theorem dX0_addRow_9 : decode cX0_addRow 9 = .ok (.iload_n 2, 1) := by decide +kernel
theorem dX0_addRow_10 : decode cX0_addRow 10 = .ok (.invokevirtual 63, 3) := by decide +kernel
theorem dX0_addRow_13 : decode cX0_addRow 13 = .ok (.ifCond .ne 13, 3) := by decide +kernel
theorem dX0_addRow_16 : decode cX0_addRow 16 = .ok (.new 67, 3) := by decide +kernel
theorem dX0_addRow_19 : decode cX0_addRow 19 = .ok (.dup, 1) := by decide +kernel
theorem dX0_addRow_20 : decode cX0_addRow 20 = .ok (.ldc 78, 2) := by decide +kernel
theorem dX0_addRow_22 : decode cX0_addRow 22 = .ok (.invokespecial 71, 3) := by decide +kernel
theorem dX0_addRow_25 : decode cX0_addRow 25 = .ok (.athrow, 1) := by decide +kernel
theorem dX0_addRow_26 : decode cX0_addRow 26 = .ok (.iload_n 1, 1) := by decide +kernel
theorem dX0_addRow_27 : decode cX0_addRow 27 = .ok (.iload_n 2, 1) := by decide +kernel
theorem dX0_addRow_28 : decode cX0_addRow 28 = .ok (.if_icmp .eq 12, 3) := by decide +kernel
theorem dX0_addRow_31 : decode cX0_addRow 31 = .ok (.iload_n 3, 1) := by decide +kernel
theorem dX0_addRow_32 : decode cX0_addRow 32 = .ok (.bipush 99, 2) := by decide +kernel
theorem dX0_addRow_34 : decode cX0_addRow 34 = .ok (.invokestatic 72, 3) := by decide +kernel
theorem dX0_addRow_37 : decode cX0_addRow 37 = .ok (.ifCond .ne 13, 3) := by decide +kernel
theorem dX0_addRow_40 : decode cX0_addRow 40 = .ok (.new 52, 3) := by decide +kernel
theorem dX0_addRow_43 : decode cX0_addRow 43 = .ok (.dup, 1) := by decide +kernel
theorem dX0_addRow_44 : decode cX0_addRow 44 = .ok (.ldc 92, 2) := by decide +kernel
theorem dX0_addRow_46 : decode cX0_addRow 46 = .ok (.invokespecial 56, 3) := by decide +kernel
theorem dX0_addRow_49 : decode cX0_addRow 49 = .ok (.athrow, 1) := by decide +kernel
theorem dX0_addRow_50 : decode cX0_addRow 50 = .ok (.aload_n 0, 1) := by decide +kernel
theorem dX0_addRow_51 : decode cX0_addRow 51 = .ok (.getfield 17, 3) := by decide +kernel
theorem dX0_addRow_54 : decode cX0_addRow 54 = .ok (.iload_n 1, 1) := by decide +kernel
theorem dX0_addRow_55 : decode cX0_addRow 55 = .ok (.iaload, 1) := by decide +kernel
theorem dX0_addRow_56 : decode cX0_addRow 56 = .ok (.iload_n 3, 1) := by decide +kernel
theorem dX0_addRow_57 : decode cX0_addRow 57 = .ok (.aload_n 0, 1) := by decide +kernel
theorem dX0_addRow_58 : decode cX0_addRow 58 = .ok (.getfield 17, 3) := by decide +kernel
theorem dX0_addRow_61 : decode cX0_addRow 61 = .ok (.iload_n 2, 1) := by decide +kernel
theorem dX0_addRow_62 : decode cX0_addRow 62 = .ok (.iaload, 1) := by decide +kernel
theorem dX0_addRow_63 : decode cX0_addRow 63 = .ok (.aload_n 0, 1) := by decide +kernel
theorem dX0_addRow_64 : decode cX0_addRow 64 = .ok (.getfield 21, 3) := by decide +kernel
theorem dX0_addRow_67 : decode cX0_addRow 67 = .ok (.iload_n 2, 1) := by decide +kernel
theorem dX0_addRow_68 : decode cX0_addRow 68 = .ok (.iaload, 1) := by decide +kernel
theorem dX0_addRow_69 : decode cX0_addRow 69 = .ok (.invokestatic 94, 3) := by decide +kernel
theorem dX0_addRow_72 : decode cX0_addRow 72 = .ok (.iadd, 1) := by decide +kernel
theorem dX0_addRow_73 : decode cX0_addRow 73 = .ok (.istore 4, 2) := by decide +kernel
theorem dX0_addRow_75 : decode cX0_addRow 75 = .ok (.aload_n 0, 1) := by decide +kernel
theorem dX0_addRow_76 : decode cX0_addRow 76 = .ok (.getfield 21, 3) := by decide +kernel
theorem dX0_addRow_79 : decode cX0_addRow 79 = .ok (.iload_n 1, 1) := by decide +kernel
theorem dX0_addRow_80 : decode cX0_addRow 80 = .ok (.iaload, 1) := by decide +kernel
theorem dX0_addRow_81 : decode cX0_addRow 81 = .ok (.iload_n 3, 1) := by decide +kernel
theorem dX0_addRow_82 : decode cX0_addRow 82 = .ok (.aload_n 0, 1) := by decide +kernel
theorem dX0_addRow_83 : decode cX0_addRow 83 = .ok (.getfield 17, 3) := by decide +kernel
theorem dX0_addRow_86 : decode cX0_addRow 86 = .ok (.iload_n 2, 1) := by decide +kernel
theorem dX0_addRow_87 : decode cX0_addRow 87 = .ok (.iaload, 1) := by decide +kernel
theorem dX0_addRow_88 : decode cX0_addRow 88 = .ok (.aload_n 0, 1) := by decide +kernel
theorem dX0_addRow_89 : decode cX0_addRow 89 = .ok (.getfield 21, 3) := by decide +kernel
theorem dX0_addRow_92 : decode cX0_addRow 92 = .ok (.iload_n 2, 1) := by decide +kernel
theorem dX0_addRow_93 : decode cX0_addRow 93 = .ok (.iaload, 1) := by decide +kernel
theorem dX0_addRow_94 : decode cX0_addRow 94 = .ok (.invokestatic 98, 3) := by decide +kernel
theorem dX0_addRow_97 : decode cX0_addRow 97 = .ok (.iadd, 1) := by decide +kernel
theorem dX0_addRow_98 : decode cX0_addRow 98 = .ok (.istore 5, 2) := by decide +kernel
theorem dX0_addRow_100 : decode cX0_addRow 100 = .ok (.iload 4, 2) := by decide +kernel
theorem dX0_addRow_102 : decode cX0_addRow 102 = .ok (.iload 5, 2) := by decide +kernel
theorem dX0_addRow_104 : decode cX0_addRow 104 = .ok (.sipush 999, 3) := by decide +kernel
theorem dX0_addRow_107 : decode cX0_addRow 107 = .ok (.invokestatic 80, 3) := by decide +kernel
theorem dX0_addRow_110 : decode cX0_addRow 110 = .ok (.ifCond .eq 13, 3) := by decide +kernel
theorem dX0_addRow_113 : decode cX0_addRow 113 = .ok (.aload_n 0, 1) := by decide +kernel
theorem dX0_addRow_114 : decode cX0_addRow 114 = .ok (.iload_n 1, 1) := by decide +kernel
theorem dX0_addRow_115 : decode cX0_addRow 115 = .ok (.iload_n 2, 1) := by decide +kernel
theorem dX0_addRow_116 : decode cX0_addRow 116 = .ok (.iload_n 3, 1) := by decide +kernel
theorem dX0_addRow_117 : decode cX0_addRow 117 = .ok (.invokevirtual 101, 3) := by decide +kernel
theorem dX0_addRow_120 : decode cX0_addRow 120 = .ok (.ifCond .ne 13, 3) := by decide +kernel
theorem dX0_addRow_123 : decode cX0_addRow 123 = .ok (.new 104, 3) := by decide +kernel
theorem dX0_addRow_126 : decode cX0_addRow 126 = .ok (.dup, 1) := by decide +kernel
theorem dX0_addRow_127 : decode cX0_addRow 127 = .ok (.ldc 106, 2) := by decide +kernel
theorem dX0_addRow_129 : decode cX0_addRow 129 = .ok (.invokespecial 108, 3) := by decide +kernel
theorem dX0_addRow_132 : decode cX0_addRow 132 = .ok (.athrow, 1) := by decide +kernel
theorem dX0_addRow_133 : decode cX0_addRow 133 = .ok (.aload_n 0, 1) := by decide +kernel
theorem dX0_addRow_134 : decode cX0_addRow 134 = .ok (.getfield 17, 3) := by decide +kernel
theorem dX0_addRow_137 : decode cX0_addRow 137 = .ok (.iload_n 1, 1) := by decide +kernel
theorem dX0_addRow_138 : decode cX0_addRow 138 = .ok (.iload 4, 2) := by decide +kernel
theorem dX0_addRow_140 : decode cX0_addRow 140 = .ok (.iastore, 1) := by decide +kernel
theorem dX0_addRow_141 : decode cX0_addRow 141 = .ok (.aload_n 0, 1) := by decide +kernel
theorem dX0_addRow_142 : decode cX0_addRow 142 = .ok (.getfield 21, 3) := by decide +kernel
theorem dX0_addRow_145 : decode cX0_addRow 145 = .ok (.iload_n 1, 1) := by decide +kernel
theorem dX0_addRow_146 : decode cX0_addRow 146 = .ok (.iload 5, 2) := by decide +kernel
theorem dX0_addRow_148 : decode cX0_addRow 148 = .ok (.iastore, 1) := by decide +kernel
theorem dX0_addRow_149 : decode cX0_addRow 149 = .ok (.aload_n 0, 1) := by decide +kernel
theorem dX0_addRow_150 : decode cX0_addRow 150 = .ok (.iload_n 1, 1) := by decide +kernel
theorem dX0_addRow_151 : decode cX0_addRow 151 = .ok (.iload_n 2, 1) := by decide +kernel
theorem dX0_addRow_152 : decode cX0_addRow 152 = .ok (.iload_n 3, 1) := by decide +kernel
theorem dX0_addRow_153 : decode cX0_addRow 153 = .ok (.invokevirtual 109, 3) := by decide +kernel
theorem dX0_addRow_156 : decode cX0_addRow 156 = .ok (.ireturn, 1) := by decide +kernel
set_option maxRecDepth 20000 in
theorem ggX0_determinant_X0_findMinors : GoodIn wsX0_determinant wsX0_findMinors := goodIn_r _ [7, 2, 1, 8, 9, 10, 6, 11, 12, 13, 14, 15, 16, 17, 18, 19, 20, 21, 22, 23, 24, 25, 26, 27, 28, 29, 30, 31, 32, 33, 34, 35, 36] (by decide +kernel) (by decide +kernel)
set_option maxRecDepth 20000 in
theorem gX0_determinant_X0_findMinors : GoodIn wsX0_determinant (wsV RX0 112 RX0 yX0_findMinors wsX0_findMinors) := goodIn_app (goodIn_of _ (by decide +kernel)) ggX0_determinant_X0_findMinors
set_option maxRecDepth 20000 in
theorem ggX0_determinant_X0_allColumns : GoodIn wsX0_determinant wsX0_allColumns := goodIn_r _ [11, 1, 24, 25, 26, 27, 28, 29, 30, 31, 32, 33, 34, 35, 36] (by decide +kernel) (by decide +kernel)
set_option maxRecDepth 20000 in
theorem gX0_determinant_X0_allColumns : GoodIn wsX0_determinant (wsV RX0 115 RX0 yX0_allColumns wsX0_allColumns) := goodIn_app (goodIn_of _ (by decide +kernel)) ggX0_determinant_X0_allColumns
theorem dX0_determinant_0 : decode cX0_determinant 0 = .ok (.aload_n 0, 1) := by decide +kernel
theorem dX0_determinant_1 : decode cX0_determinant 1 = .ok (.aload_n 0, 1) := by decide +kernel
theorem dX0_determinant_2 : decode cX0_determinant 2 = .ok (.getfield 59, 3) := by decide +kernel
theorem dX0_determinant_5 : decode cX0_determinant 5 = .ok (.invokevirtual 112, 3) := by decide +kernel
theorem dX0_determinant_8 : decode cX0_determinant 8 = .ok (.aload_n 0, 1) := by decide +kernel
theorem dX0_determinant_9 : decode cX0_determinant 9 = .ok (.getfield 36, 3) := by decide +kernel
theorem dX0_determinant_12 : decode cX0_determinant 12 = .ok (.aload_n 0, 1) := by decide +kernel
theorem dX0_determinant_13 : decode cX0_determinant 13 = .ok (.invokevirtual 115, 3) := by decide +kernel
theorem dX0_determinant_16 : decode cX0_determinant 16 = .ok (.laload, 1) := by decide +kernel
theorem dX0_determinant_17 : decode cX0_determinant 17 = .ok (.lreturn, 1) := by decide +kernel
set_option maxRecDepth 20000 in
theorem ggX0_lowNumerator_X0_isIndex : GoodIn wsX0_lowNumerator wsX0_isIndex := goodIn_r _ [10, 11, 59, 60, 61, 62, 63, 64, 65, 66, 67, 68, 69, 70, 71] (by decide +kernel) (by decide +kernel)
set_option maxRecDepth 20000 in
theorem gX0_lowNumerator_X0_isIndex : GoodIn wsX0_lowNumerator (wsV RX0 63 RX0 yX0_isIndex wsX0_isIndex) := goodIn_app (goodIn_of _ (by decide +kernel)) ggX0_lowNumerator_X0_isIndex
set_option maxRecDepth 20000 in
theorem ggX0_lowNumerator_X0_invert : GoodIn wsX0_lowNumerator wsX0_invert := goodIn_r _ [15, 16, 17, 18, 19, 5, 11, 20, 21, 22, 23, 24, 25, 9, 26, 27, 28, 29, 30, 31, 32, 33, 34, 35, 36, 37, 38, 39, 40, 41, 42, 43, 44, 45, 46, 59, 60, 61, 62, 63, 64, 65, 66, 67, 68, 69, 70, 71] (by decide +kernel) (by decide +kernel)
set_option maxRecDepth 20000 in
theorem gX0_lowNumerator_X0_invert : GoodIn wsX0_lowNumerator (wsV RX0 121 RX0 yX0_invert wsX0_invert) := goodIn_app (goodIn_of _ (by decide +kernel)) ggX0_lowNumerator_X0_invert
set_option maxRecDepth 20000 in
theorem ggX0_lowNumerator_X0_scaledHullLow : GoodIn wsX0_lowNumerator wsX0_scaledHullLow := goodIn_r _ [50, 11, 21, 51, 52, 59, 60, 61, 62, 63, 64, 65, 66, 67, 68, 69, 70, 71] (by decide +kernel) (by decide +kernel)
set_option maxRecDepth 20000 in
theorem gX0_lowNumerator_X0_scaledHullLow : GoodIn wsX0_lowNumerator (wsV RX0 127 RX0 yX0_scaledHullLow wsX0_scaledHullLow) := goodIn_app (goodIn_of _ (by decide +kernel)) ggX0_lowNumerator_X0_scaledHullLow
set_option maxRecDepth 20000 in
theorem ggX0_lowNumerator_X0_reduced : GoodIn wsX0_lowNumerator wsX0_reduced := goodIn_r _ [55, 56, 57, 9, 58, 16, 17, 18, 19] (by decide +kernel) (by decide +kernel)
set_option maxRecDepth 20000 in
theorem gX0_lowNumerator_X0_reduced : GoodIn wsX0_lowNumerator (va_wsS RX0 135 yX0_reduced wsX0_reduced) := goodIn_app (goodIn_of _ (by decide +kernel)) ggX0_lowNumerator_X0_reduced
theorem dX0_lowNumerator_0 : decode cX0_lowNumerator 0 = .ok (.aload_n 0, 1) := by decide +kernel
theorem dX0_lowNumerator_1 : decode cX0_lowNumerator 1 = .ok (.iload_n 1, 1) := by decide +kernel
theorem dX0_lowNumerator_2 : decode cX0_lowNumerator 2 = .ok (.invokevirtual 63, 3) := by decide +kernel
theorem dX0_lowNumerator_5 : decode cX0_lowNumerator 5 = .ok (.ifCond .ne 13, 3) := by decide +kernel
theorem dX0_lowNumerator_8 : decode cX0_lowNumerator 8 = .ok (.new 67, 3) := by decide +kernel
theorem dX0_lowNumerator_11 : decode cX0_lowNumerator 11 = .ok (.dup, 1) := by decide +kernel
theorem dX0_lowNumerator_12 : decode cX0_lowNumerator 12 = .ok (.ldc 119, 2) := by decide +kernel
theorem dX0_lowNumerator_14 : decode cX0_lowNumerator 14 = .ok (.invokespecial 71, 3) := by decide +kernel
theorem dX0_lowNumerator_17 : decode cX0_lowNumerator 17 = .ok (.athrow, 1) := by decide +kernel
theorem dX0_lowNumerator_18 : decode cX0_lowNumerator 18 = .ok (.aload_n 0, 1) := by decide +kernel
theorem dX0_lowNumerator_19 : decode cX0_lowNumerator 19 = .ok (.invokevirtual 121, 3) := by decide +kernel
theorem dX0_lowNumerator_22 : decode cX0_lowNumerator 22 = .ok (.ifCond .ne 13, 3) := by decide +kernel
theorem dX0_lowNumerator_25 : decode cX0_lowNumerator 25 = .ok (.new 104, 3) := by decide +kernel
theorem dX0_lowNumerator_28 : decode cX0_lowNumerator 28 = .ok (.dup, 1) := by decide +kernel
theorem dX0_lowNumerator_29 : decode cX0_lowNumerator 29 = .ok (.ldc 125, 2) := by decide +kernel
theorem dX0_lowNumerator_31 : decode cX0_lowNumerator 31 = .ok (.invokespecial 108, 3) := by decide +kernel
theorem dX0_lowNumerator_34 : decode cX0_lowNumerator 34 = .ok (.athrow, 1) := by decide +kernel
theorem dX0_lowNumerator_35 : decode cX0_lowNumerator 35 = .ok (.aload_n 0, 1) := by decide +kernel
theorem dX0_lowNumerator_36 : decode cX0_lowNumerator 36 = .ok (.iload_n 1, 1) := by decide +kernel
theorem dX0_lowNumerator_37 : decode cX0_lowNumerator 37 = .ok (.invokevirtual 127, 3) := by decide +kernel
theorem dX0_lowNumerator_40 : decode cX0_lowNumerator 40 = .ok (.aload_n 0, 1) := by decide +kernel
theorem dX0_lowNumerator_41 : decode cX0_lowNumerator 41 = .ok (.getfield 131, 3) := by decide +kernel
theorem dX0_lowNumerator_44 : decode cX0_lowNumerator 44 = .ok (.invokestatic 135, 3) := by decide +kernel
theorem dX0_lowNumerator_47 : decode cX0_lowNumerator 47 = .ok (.lreturn, 1) := by decide +kernel
set_option maxRecDepth 20000 in
theorem ggX0_lowDenominator_X0_isIndex : GoodIn wsX0_lowDenominator wsX0_isIndex := goodIn_r _ [10, 11, 59, 60, 61, 62, 63, 64, 65, 66, 67, 68, 69, 70, 71] (by decide +kernel) (by decide +kernel)
set_option maxRecDepth 20000 in
theorem gX0_lowDenominator_X0_isIndex : GoodIn wsX0_lowDenominator (wsV RX0 63 RX0 yX0_isIndex wsX0_isIndex) := goodIn_app (goodIn_of _ (by decide +kernel)) ggX0_lowDenominator_X0_isIndex
set_option maxRecDepth 20000 in
theorem ggX0_lowDenominator_X0_invert : GoodIn wsX0_lowDenominator wsX0_invert := goodIn_r _ [15, 16, 17, 18, 19, 5, 11, 20, 21, 22, 23, 24, 25, 9, 26, 27, 28, 29, 30, 31, 32, 33, 34, 35, 36, 37, 38, 39, 40, 41, 42, 43, 44, 45, 46, 59, 60, 61, 62, 63, 64, 65, 66, 67, 68, 69, 70, 71] (by decide +kernel) (by decide +kernel)
set_option maxRecDepth 20000 in
theorem gX0_lowDenominator_X0_invert : GoodIn wsX0_lowDenominator (wsV RX0 121 RX0 yX0_invert wsX0_invert) := goodIn_app (goodIn_of _ (by decide +kernel)) ggX0_lowDenominator_X0_invert
set_option maxRecDepth 20000 in
theorem ggX0_lowDenominator_X0_scaledHullLow : GoodIn wsX0_lowDenominator wsX0_scaledHullLow := goodIn_r _ [50, 11, 21, 51, 52, 59, 60, 61, 62, 63, 64, 65, 66, 67, 68, 69, 70, 71] (by decide +kernel) (by decide +kernel)
set_option maxRecDepth 20000 in
theorem gX0_lowDenominator_X0_scaledHullLow : GoodIn wsX0_lowDenominator (wsV RX0 127 RX0 yX0_scaledHullLow wsX0_scaledHullLow) := goodIn_app (goodIn_of _ (by decide +kernel)) ggX0_lowDenominator_X0_scaledHullLow
set_option maxRecDepth 20000 in
theorem ggX0_lowDenominator_X0_reduced : GoodIn wsX0_lowDenominator wsX0_reduced := goodIn_r _ [55, 56, 57, 9, 58, 16, 17, 18, 19] (by decide +kernel) (by decide +kernel)
set_option maxRecDepth 20000 in
theorem gX0_lowDenominator_X0_reduced : GoodIn wsX0_lowDenominator (va_wsS RX0 135 yX0_reduced wsX0_reduced) := goodIn_app (goodIn_of _ (by decide +kernel)) ggX0_lowDenominator_X0_reduced
theorem dX0_lowDenominator_0 : decode cX0_lowDenominator 0 = .ok (.aload_n 0, 1) := by decide +kernel
theorem dX0_lowDenominator_1 : decode cX0_lowDenominator 1 = .ok (.iload_n 1, 1) := by decide +kernel
theorem dX0_lowDenominator_2 : decode cX0_lowDenominator 2 = .ok (.invokevirtual 63, 3) := by decide +kernel
theorem dX0_lowDenominator_5 : decode cX0_lowDenominator 5 = .ok (.ifCond .ne 13, 3) := by decide +kernel
theorem dX0_lowDenominator_8 : decode cX0_lowDenominator 8 = .ok (.new 67, 3) := by decide +kernel
theorem dX0_lowDenominator_11 : decode cX0_lowDenominator 11 = .ok (.dup, 1) := by decide +kernel
theorem dX0_lowDenominator_12 : decode cX0_lowDenominator 12 = .ok (.ldc 119, 2) := by decide +kernel
theorem dX0_lowDenominator_14 : decode cX0_lowDenominator 14 = .ok (.invokespecial 71, 3) := by decide +kernel
theorem dX0_lowDenominator_17 : decode cX0_lowDenominator 17 = .ok (.athrow, 1) := by decide +kernel
theorem dX0_lowDenominator_18 : decode cX0_lowDenominator 18 = .ok (.aload_n 0, 1) := by decide +kernel
theorem dX0_lowDenominator_19 : decode cX0_lowDenominator 19 = .ok (.invokevirtual 121, 3) := by decide +kernel
theorem dX0_lowDenominator_22 : decode cX0_lowDenominator 22 = .ok (.ifCond .ne 13, 3) := by decide +kernel
theorem dX0_lowDenominator_25 : decode cX0_lowDenominator 25 = .ok (.new 104, 3) := by decide +kernel
theorem dX0_lowDenominator_28 : decode cX0_lowDenominator 28 = .ok (.dup, 1) := by decide +kernel
theorem dX0_lowDenominator_29 : decode cX0_lowDenominator 29 = .ok (.ldc 125, 2) := by decide +kernel
theorem dX0_lowDenominator_31 : decode cX0_lowDenominator 31 = .ok (.invokespecial 108, 3) := by decide +kernel
theorem dX0_lowDenominator_34 : decode cX0_lowDenominator 34 = .ok (.athrow, 1) := by decide +kernel
theorem dX0_lowDenominator_35 : decode cX0_lowDenominator 35 = .ok (.aload_n 0, 1) := by decide +kernel
theorem dX0_lowDenominator_36 : decode cX0_lowDenominator 36 = .ok (.getfield 131, 3) := by decide +kernel
theorem dX0_lowDenominator_39 : decode cX0_lowDenominator 39 = .ok (.aload_n 0, 1) := by decide +kernel
theorem dX0_lowDenominator_40 : decode cX0_lowDenominator 40 = .ok (.iload_n 1, 1) := by decide +kernel
theorem dX0_lowDenominator_41 : decode cX0_lowDenominator 41 = .ok (.invokevirtual 127, 3) := by decide +kernel
theorem dX0_lowDenominator_44 : decode cX0_lowDenominator 44 = .ok (.invokestatic 135, 3) := by decide +kernel
theorem dX0_lowDenominator_47 : decode cX0_lowDenominator 47 = .ok (.lreturn, 1) := by decide +kernel
set_option maxRecDepth 20000 in
theorem ggX0_highNumerator_X0_isIndex : GoodIn wsX0_highNumerator wsX0_isIndex := goodIn_r _ [10, 11, 59, 60, 61, 62, 63, 64, 65, 66, 67, 68, 69, 70, 71] (by decide +kernel) (by decide +kernel)
set_option maxRecDepth 20000 in
theorem gX0_highNumerator_X0_isIndex : GoodIn wsX0_highNumerator (wsV RX0 63 RX0 yX0_isIndex wsX0_isIndex) := goodIn_app (goodIn_of _ (by decide +kernel)) ggX0_highNumerator_X0_isIndex
set_option maxRecDepth 20000 in
theorem ggX0_highNumerator_X0_invert : GoodIn wsX0_highNumerator wsX0_invert := goodIn_r _ [15, 16, 17, 18, 19, 5, 11, 20, 21, 22, 23, 24, 25, 9, 26, 27, 28, 29, 30, 31, 32, 33, 34, 35, 36, 37, 38, 39, 40, 41, 42, 43, 44, 45, 46, 59, 60, 61, 62, 63, 64, 65, 66, 67, 68, 69, 70, 71] (by decide +kernel) (by decide +kernel)
set_option maxRecDepth 20000 in
theorem gX0_highNumerator_X0_invert : GoodIn wsX0_highNumerator (wsV RX0 121 RX0 yX0_invert wsX0_invert) := goodIn_app (goodIn_of _ (by decide +kernel)) ggX0_highNumerator_X0_invert
set_option maxRecDepth 20000 in
theorem ggX0_highNumerator_X0_scaledHullHigh : GoodIn wsX0_highNumerator wsX0_scaledHullHigh := goodIn_r _ [50, 11, 21, 51, 52, 59, 60, 61, 62, 63, 64, 65, 66, 67, 68, 69, 70, 71] (by decide +kernel) (by decide +kernel)
set_option maxRecDepth 20000 in
theorem gX0_highNumerator_X0_scaledHullHigh : GoodIn wsX0_highNumerator (wsV RX0 139 RX0 yX0_scaledHullHigh wsX0_scaledHullHigh) := goodIn_app (goodIn_of _ (by decide +kernel)) ggX0_highNumerator_X0_scaledHullHigh
set_option maxRecDepth 20000 in
theorem ggX0_highNumerator_X0_reduced : GoodIn wsX0_highNumerator wsX0_reduced := goodIn_r _ [55, 56, 57, 9, 58, 16, 17, 18, 19] (by decide +kernel) (by decide +kernel)
set_option maxRecDepth 20000 in
theorem gX0_highNumerator_X0_reduced : GoodIn wsX0_highNumerator (va_wsS RX0 135 yX0_reduced wsX0_reduced) := goodIn_app (goodIn_of _ (by decide +kernel)) ggX0_highNumerator_X0_reduced
theorem dX0_highNumerator_0 : decode cX0_highNumerator 0 = .ok (.aload_n 0, 1) := by decide +kernel
theorem dX0_highNumerator_1 : decode cX0_highNumerator 1 = .ok (.iload_n 1, 1) := by decide +kernel
theorem dX0_highNumerator_2 : decode cX0_highNumerator 2 = .ok (.invokevirtual 63, 3) := by decide +kernel
theorem dX0_highNumerator_5 : decode cX0_highNumerator 5 = .ok (.ifCond .ne 13, 3) := by decide +kernel
theorem dX0_highNumerator_8 : decode cX0_highNumerator 8 = .ok (.new 67, 3) := by decide +kernel
theorem dX0_highNumerator_11 : decode cX0_highNumerator 11 = .ok (.dup, 1) := by decide +kernel
theorem dX0_highNumerator_12 : decode cX0_highNumerator 12 = .ok (.ldc 119, 2) := by decide +kernel
theorem dX0_highNumerator_14 : decode cX0_highNumerator 14 = .ok (.invokespecial 71, 3) := by decide +kernel
theorem dX0_highNumerator_17 : decode cX0_highNumerator 17 = .ok (.athrow, 1) := by decide +kernel
theorem dX0_highNumerator_18 : decode cX0_highNumerator 18 = .ok (.aload_n 0, 1) := by decide +kernel
theorem dX0_highNumerator_19 : decode cX0_highNumerator 19 = .ok (.invokevirtual 121, 3) := by decide +kernel
theorem dX0_highNumerator_22 : decode cX0_highNumerator 22 = .ok (.ifCond .ne 13, 3) := by decide +kernel
theorem dX0_highNumerator_25 : decode cX0_highNumerator 25 = .ok (.new 104, 3) := by decide +kernel
theorem dX0_highNumerator_28 : decode cX0_highNumerator 28 = .ok (.dup, 1) := by decide +kernel
theorem dX0_highNumerator_29 : decode cX0_highNumerator 29 = .ok (.ldc 125, 2) := by decide +kernel
theorem dX0_highNumerator_31 : decode cX0_highNumerator 31 = .ok (.invokespecial 108, 3) := by decide +kernel
theorem dX0_highNumerator_34 : decode cX0_highNumerator 34 = .ok (.athrow, 1) := by decide +kernel
theorem dX0_highNumerator_35 : decode cX0_highNumerator 35 = .ok (.aload_n 0, 1) := by decide +kernel
theorem dX0_highNumerator_36 : decode cX0_highNumerator 36 = .ok (.iload_n 1, 1) := by decide +kernel
theorem dX0_highNumerator_37 : decode cX0_highNumerator 37 = .ok (.invokevirtual 139, 3) := by decide +kernel
theorem dX0_highNumerator_40 : decode cX0_highNumerator 40 = .ok (.aload_n 0, 1) := by decide +kernel
theorem dX0_highNumerator_41 : decode cX0_highNumerator 41 = .ok (.getfield 131, 3) := by decide +kernel
theorem dX0_highNumerator_44 : decode cX0_highNumerator 44 = .ok (.invokestatic 135, 3) := by decide +kernel
theorem dX0_highNumerator_47 : decode cX0_highNumerator 47 = .ok (.lreturn, 1) := by decide +kernel
set_option maxRecDepth 20000 in
theorem ggX0_highDenominator_X0_isIndex : GoodIn wsX0_highDenominator wsX0_isIndex := goodIn_r _ [10, 11, 59, 60, 61, 62, 63, 64, 65, 66, 67, 68, 69, 70, 71] (by decide +kernel) (by decide +kernel)
set_option maxRecDepth 20000 in
theorem gX0_highDenominator_X0_isIndex : GoodIn wsX0_highDenominator (wsV RX0 63 RX0 yX0_isIndex wsX0_isIndex) := goodIn_app (goodIn_of _ (by decide +kernel)) ggX0_highDenominator_X0_isIndex
set_option maxRecDepth 20000 in
theorem ggX0_highDenominator_X0_invert : GoodIn wsX0_highDenominator wsX0_invert := goodIn_r _ [15, 16, 17, 18, 19, 5, 11, 20, 21, 22, 23, 24, 25, 9, 26, 27, 28, 29, 30, 31, 32, 33, 34, 35, 36, 37, 38, 39, 40, 41, 42, 43, 44, 45, 46, 59, 60, 61, 62, 63, 64, 65, 66, 67, 68, 69, 70, 71] (by decide +kernel) (by decide +kernel)
set_option maxRecDepth 20000 in
theorem gX0_highDenominator_X0_invert : GoodIn wsX0_highDenominator (wsV RX0 121 RX0 yX0_invert wsX0_invert) := goodIn_app (goodIn_of _ (by decide +kernel)) ggX0_highDenominator_X0_invert
set_option maxRecDepth 20000 in
theorem ggX0_highDenominator_X0_scaledHullHigh : GoodIn wsX0_highDenominator wsX0_scaledHullHigh := goodIn_r _ [50, 11, 21, 51, 52, 59, 60, 61, 62, 63, 64, 65, 66, 67, 68, 69, 70, 71] (by decide +kernel) (by decide +kernel)
set_option maxRecDepth 20000 in
theorem gX0_highDenominator_X0_scaledHullHigh : GoodIn wsX0_highDenominator (wsV RX0 139 RX0 yX0_scaledHullHigh wsX0_scaledHullHigh) := goodIn_app (goodIn_of _ (by decide +kernel)) ggX0_highDenominator_X0_scaledHullHigh
set_option maxRecDepth 20000 in
theorem ggX0_highDenominator_X0_reduced : GoodIn wsX0_highDenominator wsX0_reduced := goodIn_r _ [55, 56, 57, 9, 58, 16, 17, 18, 19] (by decide +kernel) (by decide +kernel)
set_option maxRecDepth 20000 in
theorem gX0_highDenominator_X0_reduced : GoodIn wsX0_highDenominator (va_wsS RX0 135 yX0_reduced wsX0_reduced) := goodIn_app (goodIn_of _ (by decide +kernel)) ggX0_highDenominator_X0_reduced
theorem dX0_highDenominator_0 : decode cX0_highDenominator 0 = .ok (.aload_n 0, 1) := by decide +kernel
theorem dX0_highDenominator_1 : decode cX0_highDenominator 1 = .ok (.iload_n 1, 1) := by decide +kernel
theorem dX0_highDenominator_2 : decode cX0_highDenominator 2 = .ok (.invokevirtual 63, 3) := by decide +kernel
theorem dX0_highDenominator_5 : decode cX0_highDenominator 5 = .ok (.ifCond .ne 13, 3) := by decide +kernel
theorem dX0_highDenominator_8 : decode cX0_highDenominator 8 = .ok (.new 67, 3) := by decide +kernel
theorem dX0_highDenominator_11 : decode cX0_highDenominator 11 = .ok (.dup, 1) := by decide +kernel
theorem dX0_highDenominator_12 : decode cX0_highDenominator 12 = .ok (.ldc 119, 2) := by decide +kernel
theorem dX0_highDenominator_14 : decode cX0_highDenominator 14 = .ok (.invokespecial 71, 3) := by decide +kernel
theorem dX0_highDenominator_17 : decode cX0_highDenominator 17 = .ok (.athrow, 1) := by decide +kernel
theorem dX0_highDenominator_18 : decode cX0_highDenominator 18 = .ok (.aload_n 0, 1) := by decide +kernel
theorem dX0_highDenominator_19 : decode cX0_highDenominator 19 = .ok (.invokevirtual 121, 3) := by decide +kernel
theorem dX0_highDenominator_22 : decode cX0_highDenominator 22 = .ok (.ifCond .ne 13, 3) := by decide +kernel
theorem dX0_highDenominator_25 : decode cX0_highDenominator 25 = .ok (.new 104, 3) := by decide +kernel
theorem dX0_highDenominator_28 : decode cX0_highDenominator 28 = .ok (.dup, 1) := by decide +kernel
theorem dX0_highDenominator_29 : decode cX0_highDenominator 29 = .ok (.ldc 125, 2) := by decide +kernel
theorem dX0_highDenominator_31 : decode cX0_highDenominator 31 = .ok (.invokespecial 108, 3) := by decide +kernel
theorem dX0_highDenominator_34 : decode cX0_highDenominator 34 = .ok (.athrow, 1) := by decide +kernel
theorem dX0_highDenominator_35 : decode cX0_highDenominator 35 = .ok (.aload_n 0, 1) := by decide +kernel
theorem dX0_highDenominator_36 : decode cX0_highDenominator 36 = .ok (.getfield 131, 3) := by decide +kernel
theorem dX0_highDenominator_39 : decode cX0_highDenominator 39 = .ok (.aload_n 0, 1) := by decide +kernel
theorem dX0_highDenominator_40 : decode cX0_highDenominator 40 = .ok (.iload_n 1, 1) := by decide +kernel
theorem dX0_highDenominator_41 : decode cX0_highDenominator 41 = .ok (.invokevirtual 139, 3) := by decide +kernel
theorem dX0_highDenominator_44 : decode cX0_highDenominator 44 = .ok (.invokestatic 135, 3) := by decide +kernel
theorem dX0_highDenominator_47 : decode cX0_highDenominator 47 = .ok (.lreturn, 1) := by decide +kernel
theorem dX0_isSolution_0 : decode cX0_isSolution 0 = .ok (.aload_n 0, 1) := by decide +kernel
theorem dX0_isSolution_1 : decode cX0_isSolution 1 = .ok (.getfield 40, 3) := by decide +kernel
theorem dX0_isSolution_4 : decode cX0_isSolution 4 = .ok (.iconst 0, 1) := by decide +kernel
theorem dX0_isSolution_5 : decode cX0_isSolution 5 = .ok (.iload_n 1, 1) := by decide +kernel
theorem dX0_isSolution_6 : decode cX0_isSolution 6 = .ok (.i2l, 1) := by decide +kernel
theorem dX0_isSolution_7 : decode cX0_isSolution 7 = .ok (.lastore, 1) := by decide +kernel
theorem dX0_isSolution_8 : decode cX0_isSolution 8 = .ok (.aload_n 0, 1) := by decide +kernel
theorem dX0_isSolution_9 : decode cX0_isSolution 9 = .ok (.getfield 40, 3) := by decide +kernel
theorem dX0_isSolution_12 : decode cX0_isSolution 12 = .ok (.iconst 1, 1) := by decide +kernel
theorem dX0_isSolution_13 : decode cX0_isSolution 13 = .ok (.iload_n 2, 1) := by decide +kernel
theorem dX0_isSolution_14 : decode cX0_isSolution 14 = .ok (.i2l, 1) := by decide +kernel
theorem dX0_isSolution_15 : decode cX0_isSolution 15 = .ok (.lastore, 1) := by decide +kernel
theorem dX0_isSolution_16 : decode cX0_isSolution 16 = .ok (.aload_n 0, 1) := by decide +kernel
theorem dX0_isSolution_17 : decode cX0_isSolution 17 = .ok (.getfield 40, 3) := by decide +kernel
theorem dX0_isSolution_20 : decode cX0_isSolution 20 = .ok (.iconst 2, 1) := by decide +kernel
theorem dX0_isSolution_21 : decode cX0_isSolution 21 = .ok (.iload_n 3, 1) := by decide +kernel
theorem dX0_isSolution_22 : decode cX0_isSolution 22 = .ok (.i2l, 1) := by decide +kernel
theorem dX0_isSolution_23 : decode cX0_isSolution 23 = .ok (.lastore, 1) := by decide +kernel
theorem dX0_isSolution_24 : decode cX0_isSolution 24 = .ok (.aload_n 0, 1) := by decide +kernel
theorem dX0_isSolution_25 : decode cX0_isSolution 25 = .ok (.getfield 40, 3) := by decide +kernel
theorem dX0_isSolution_28 : decode cX0_isSolution 28 = .ok (.iconst 3, 1) := by decide +kernel
theorem dX0_isSolution_29 : decode cX0_isSolution 29 = .ok (.iload 4, 2) := by decide +kernel
theorem dX0_isSolution_31 : decode cX0_isSolution 31 = .ok (.i2l, 1) := by decide +kernel
theorem dX0_isSolution_32 : decode cX0_isSolution 32 = .ok (.lastore, 1) := by decide +kernel
theorem dX0_isSolution_33 : decode cX0_isSolution 33 = .ok (.aload_n 0, 1) := by decide +kernel
theorem dX0_isSolution_34 : decode cX0_isSolution 34 = .ok (.getfield 40, 3) := by decide +kernel
theorem dX0_isSolution_37 : decode cX0_isSolution 37 = .ok (.iconst 4, 1) := by decide +kernel
theorem dX0_isSolution_38 : decode cX0_isSolution 38 = .ok (.iload 5, 2) := by decide +kernel
theorem dX0_isSolution_40 : decode cX0_isSolution 40 = .ok (.i2l, 1) := by decide +kernel
theorem dX0_isSolution_41 : decode cX0_isSolution 41 = .ok (.lastore, 1) := by decide +kernel
theorem dX0_isSolution_42 : decode cX0_isSolution 42 = .ok (.iconst 0, 1) := by decide +kernel
theorem dX0_isSolution_43 : decode cX0_isSolution 43 = .ok (.istore 6, 2) := by decide +kernel
theorem dX0_isSolution_45 : decode cX0_isSolution 45 = .ok (.iload 6, 2) := by decide +kernel
theorem dX0_isSolution_47 : decode cX0_isSolution 47 = .ok (.aload_n 0, 1) := by decide +kernel
theorem dX0_isSolution_48 : decode cX0_isSolution 48 = .ok (.getfield 59, 3) := by decide +kernel
theorem dX0_isSolution_51 : decode cX0_isSolution 51 = .ok (.if_icmp .ge 84, 3) := by decide +kernel
theorem dX0_isSolution_54 : decode cX0_isSolution 54 = .ok (.lconst 0, 1) := by decide +kernel
theorem dX0_isSolution_55 : decode cX0_isSolution 55 = .ok (.lstore 7, 2) := by decide +kernel
theorem dX0_isSolution_57 : decode cX0_isSolution 57 = .ok (.iconst 0, 1) := by decide +kernel
theorem dX0_isSolution_58 : decode cX0_isSolution 58 = .ok (.istore 9, 2) := by decide +kernel
theorem dX0_isSolution_60 : decode cX0_isSolution 60 = .ok (.iload 9, 2) := by decide +kernel
theorem dX0_isSolution_62 : decode cX0_isSolution 62 = .ok (.aload_n 0, 1) := by decide +kernel
theorem dX0_isSolution_63 : decode cX0_isSolution 63 = .ok (.getfield 59, 3) := by decide +kernel
theorem dX0_isSolution_66 : decode cX0_isSolution 66 = .ok (.if_icmp .ge 33, 3) := by decide +kernel
theorem dX0_isSolution_69 : decode cX0_isSolution 69 = .ok (.lload 7, 2) := by decide +kernel
theorem dX0_isSolution_71 : decode cX0_isSolution 71 = .ok (.aload_n 0, 1) := by decide +kernel
theorem dX0_isSolution_72 : decode cX0_isSolution 72 = .ok (.getfield 11, 3) := by decide +kernel
theorem dX0_isSolution_75 : decode cX0_isSolution 75 = .ok (.iload 6, 2) := by decide +kernel
theorem dX0_isSolution_77 : decode cX0_isSolution 77 = .ok (.aaload, 1) := by decide +kernel
theorem dX0_isSolution_78 : decode cX0_isSolution 78 = .ok (.iload 9, 2) := by decide +kernel
theorem dX0_isSolution_80 : decode cX0_isSolution 80 = .ok (.iaload, 1) := by decide +kernel
theorem dX0_isSolution_81 : decode cX0_isSolution 81 = .ok (.i2l, 1) := by decide +kernel
theorem dX0_isSolution_82 : decode cX0_isSolution 82 = .ok (.aload_n 0, 1) := by decide +kernel
theorem dX0_isSolution_83 : decode cX0_isSolution 83 = .ok (.getfield 40, 3) := by decide +kernel
theorem dX0_isSolution_86 : decode cX0_isSolution 86 = .ok (.iload 9, 2) := by decide +kernel
theorem dX0_isSolution_88 : decode cX0_isSolution 88 = .ok (.laload, 1) := by decide +kernel
theorem dX0_isSolution_89 : decode cX0_isSolution 89 = .ok (.lmul, 1) := by decide +kernel
theorem dX0_isSolution_90 : decode cX0_isSolution 90 = .ok (.ladd, 1) := by decide +kernel
theorem dX0_isSolution_91 : decode cX0_isSolution 91 = .ok (.lstore 7, 2) := by decide +kernel
theorem dX0_isSolution_93 : decode cX0_isSolution 93 = .ok (.iinc 9 1, 3) := by decide +kernel
theorem dX0_isSolution_96 : decode cX0_isSolution 96 = .ok (.goto (-36), 3) := by decide +kernel
theorem dX0_isSolution_99 : decode cX0_isSolution 99 = .ok (.lload 7, 2) := by decide +kernel
theorem dX0_isSolution_101 : decode cX0_isSolution 101 = .ok (.aload_n 0, 1) := by decide +kernel
theorem dX0_isSolution_102 : decode cX0_isSolution 102 = .ok (.getfield 17, 3) := by decide +kernel
theorem dX0_isSolution_105 : decode cX0_isSolution 105 = .ok (.iload 6, 2) := by decide +kernel
theorem dX0_isSolution_107 : decode cX0_isSolution 107 = .ok (.iaload, 1) := by decide +kernel
theorem dX0_isSolution_108 : decode cX0_isSolution 108 = .ok (.i2l, 1) := by decide +kernel
theorem dX0_isSolution_109 : decode cX0_isSolution 109 = .ok (.lcmp, 1) := by decide +kernel
theorem dX0_isSolution_110 : decode cX0_isSolution 110 = .ok (.ifCond .lt 17, 3) := by decide +kernel
theorem dX0_isSolution_113 : decode cX0_isSolution 113 = .ok (.lload 7, 2) := by decide +kernel
theorem dX0_isSolution_115 : decode cX0_isSolution 115 = .ok (.aload_n 0, 1) := by decide +kernel
theorem dX0_isSolution_116 : decode cX0_isSolution 116 = .ok (.getfield 21, 3) := by decide +kernel
theorem dX0_isSolution_119 : decode cX0_isSolution 119 = .ok (.iload 6, 2) := by decide +kernel
theorem dX0_isSolution_121 : decode cX0_isSolution 121 = .ok (.iaload, 1) := by decide +kernel
theorem dX0_isSolution_122 : decode cX0_isSolution 122 = .ok (.i2l, 1) := by decide +kernel
theorem dX0_isSolution_123 : decode cX0_isSolution 123 = .ok (.lcmp, 1) := by decide +kernel
theorem dX0_isSolution_124 : decode cX0_isSolution 124 = .ok (.ifCond .le 5, 3) := by decide +kernel
theorem dX0_isSolution_127 : decode cX0_isSolution 127 = .ok (.iconst 0, 1) := by decide +kernel
theorem dX0_isSolution_128 : decode cX0_isSolution 128 = .ok (.ireturn, 1) := by decide +kernel
theorem dX0_isSolution_129 : decode cX0_isSolution 129 = .ok (.iinc 6 1, 3) := by decide +kernel
theorem dX0_isSolution_132 : decode cX0_isSolution 132 = .ok (.goto (-87), 3) := by decide +kernel
theorem dX0_isSolution_135 : decode cX0_isSolution 135 = .ok (.iconst 1, 1) := by decide +kernel
theorem dX0_isSolution_136 : decode cX0_isSolution 136 = .ok (.ireturn, 1) := by decide +kernel
set_option maxRecDepth 20000 in
theorem ggX0_setBox_X0_isIndex : GoodIn wsX0_setBox wsX0_isIndex := goodIn_r _ [12, 13, 20, 21, 22, 23, 24, 25, 26, 27, 28, 29, 30, 31, 32] (by decide +kernel) (by decide +kernel)
set_option maxRecDepth 20000 in
theorem gX0_setBox_X0_isIndex : GoodIn wsX0_setBox (wsV RX0 63 RX0 yX0_isIndex wsX0_isIndex) := goodIn_app (goodIn_of _ (by decide +kernel)) ggX0_setBox_X0_isIndex
set_option maxRecDepth 20000 in
theorem ggX0_setBox_X0_isInterval : GoodIn wsX0_setBox wsX0_isInterval := goodIn_r _ [16, 17, 18, 11, 19] (by decide +kernel) (by decide +kernel)
set_option maxRecDepth 20000 in
theorem gX0_setBox_X0_isInterval : GoodIn wsX0_setBox (va_wsS RX0 80 yX0_isInterval wsX0_isInterval) := goodIn_app (goodIn_of _ (by decide +kernel)) ggX0_setBox_X0_isInterval
theorem dX0_setBox_0 : decode cX0_setBox 0 = .ok (.aload_n 0, 1) := by decide +kernel
theorem dX0_setBox_1 : decode cX0_setBox 1 = .ok (.iload_n 1, 1) := by decide +kernel
theorem dX0_setBox_2 : decode cX0_setBox 2 = .ok (.invokevirtual 63, 3) := by decide +kernel
theorem dX0_setBox_5 : decode cX0_setBox 5 = .ok (.ifCond .ne 13, 3) := by decide +kernel
theorem dX0_setBox_8 : decode cX0_setBox 8 = .ok (.new 67, 3) := by decide +kernel
theorem dX0_setBox_11 : decode cX0_setBox 11 = .ok (.dup, 1) := by decide +kernel
theorem dX0_setBox_12 : decode cX0_setBox 12 = .ok (.ldc 119, 2) := by decide +kernel
theorem dX0_setBox_14 : decode cX0_setBox 14 = .ok (.invokespecial 71, 3) := by decide +kernel
theorem dX0_setBox_17 : decode cX0_setBox 17 = .ok (.athrow, 1) := by decide +kernel
theorem dX0_setBox_18 : decode cX0_setBox 18 = .ok (.iload_n 2, 1) := by decide +kernel
theorem dX0_setBox_19 : decode cX0_setBox 19 = .ok (.iload_n 3, 1) := by decide +kernel
theorem dX0_setBox_20 : decode cX0_setBox 20 = .ok (.ldc 160, 2) := by decide +kernel
theorem dX0_setBox_22 : decode cX0_setBox 22 = .ok (.invokestatic 80, 3) := by decide +kernel
theorem dX0_setBox_25 : decode cX0_setBox 25 = .ok (.ifCond .ne 13, 3) := by decide +kernel
theorem dX0_setBox_28 : decode cX0_setBox 28 = .ok (.new 52, 3) := by decide +kernel
theorem dX0_setBox_31 : decode cX0_setBox 31 = .ok (.dup, 1) := by decide +kernel
theorem dX0_setBox_32 : decode cX0_setBox 32 = .ok (.ldc 161, 2) := by decide +kernel
theorem dX0_setBox_34 : decode cX0_setBox 34 = .ok (.invokespecial 56, 3) := by decide +kernel
theorem dX0_setBox_37 : decode cX0_setBox 37 = .ok (.athrow, 1) := by decide +kernel
theorem dX0_setBox_38 : decode cX0_setBox 38 = .ok (.aload_n 0, 1) := by decide +kernel
theorem dX0_setBox_39 : decode cX0_setBox 39 = .ok (.getfield 24, 3) := by decide +kernel
theorem dX0_setBox_42 : decode cX0_setBox 42 = .ok (.iload_n 1, 1) := by decide +kernel
theorem dX0_setBox_43 : decode cX0_setBox 43 = .ok (.iaload, 1) := by decide +kernel
theorem dX0_setBox_44 : decode cX0_setBox 44 = .ok (.iload_n 2, 1) := by decide +kernel
theorem dX0_setBox_45 : decode cX0_setBox 45 = .ok (.if_icmp .ne 13, 3) := by decide +kernel
theorem dX0_setBox_48 : decode cX0_setBox 48 = .ok (.aload_n 0, 1) := by decide +kernel
theorem dX0_setBox_49 : decode cX0_setBox 49 = .ok (.getfield 27, 3) := by decide +kernel
theorem dX0_setBox_52 : decode cX0_setBox 52 = .ok (.iload_n 1, 1) := by decide +kernel
theorem dX0_setBox_53 : decode cX0_setBox 53 = .ok (.iaload, 1) := by decide +kernel
theorem dX0_setBox_54 : decode cX0_setBox 54 = .ok (.iload_n 3, 1) := by decide +kernel
theorem dX0_setBox_55 : decode cX0_setBox 55 = .ok (.if_icmp .eq 7, 3) := by decide +kernel
theorem dX0_setBox_58 : decode cX0_setBox 58 = .ok (.iconst 1, 1) := by decide +kernel
theorem dX0_setBox_59 : decode cX0_setBox 59 = .ok (.goto 4, 3) := by decide +kernel
theorem dX0_setBox_62 : decode cX0_setBox 62 = .ok (.iconst 0, 1) := by decide +kernel
theorem dX0_setBox_63 : decode cX0_setBox 63 = .ok (.istore 4, 2) := by decide +kernel
theorem dX0_setBox_65 : decode cX0_setBox 65 = .ok (.aload_n 0, 1) := by decide +kernel
theorem dX0_setBox_66 : decode cX0_setBox 66 = .ok (.getfield 24, 3) := by decide +kernel
theorem dX0_setBox_69 : decode cX0_setBox 69 = .ok (.iload_n 1, 1) := by decide +kernel
theorem dX0_setBox_70 : decode cX0_setBox 70 = .ok (.iload_n 2, 1) := by decide +kernel
theorem dX0_setBox_71 : decode cX0_setBox 71 = .ok (.iastore, 1) := by decide +kernel
theorem dX0_setBox_72 : decode cX0_setBox 72 = .ok (.aload_n 0, 1) := by decide +kernel
theorem dX0_setBox_73 : decode cX0_setBox 73 = .ok (.getfield 27, 3) := by decide +kernel
theorem dX0_setBox_76 : decode cX0_setBox 76 = .ok (.iload_n 1, 1) := by decide +kernel
theorem dX0_setBox_77 : decode cX0_setBox 77 = .ok (.iload_n 3, 1) := by decide +kernel
theorem dX0_setBox_78 : decode cX0_setBox 78 = .ok (.iastore, 1) := by decide +kernel
theorem dX0_setBox_79 : decode cX0_setBox 79 = .ok (.iload 4, 2) := by decide +kernel
theorem dX0_setBox_81 : decode cX0_setBox 81 = .ok (.ireturn, 1) := by decide +kernel
set_option maxRecDepth 20000 in
theorem ggX0_boxLow_X0_isIndex : GoodIn wsX0_boxLow wsX0_isIndex := goodIn_r _ [8, 9, 10, 11, 12, 13, 14, 15, 16, 17, 18, 19, 20, 21, 22] (by decide +kernel) (by decide +kernel)
set_option maxRecDepth 20000 in
theorem gX0_boxLow_X0_isIndex : GoodIn wsX0_boxLow (wsV RX0 63 RX0 yX0_isIndex wsX0_isIndex) := goodIn_app (goodIn_of _ (by decide +kernel)) ggX0_boxLow_X0_isIndex
theorem dX0_boxLow_0 : decode cX0_boxLow 0 = .ok (.aload_n 0, 1) := by decide +kernel
theorem dX0_boxLow_1 : decode cX0_boxLow 1 = .ok (.iload_n 1, 1) := by decide +kernel
theorem dX0_boxLow_2 : decode cX0_boxLow 2 = .ok (.invokevirtual 63, 3) := by decide +kernel
theorem dX0_boxLow_5 : decode cX0_boxLow 5 = .ok (.ifCond .ne 13, 3) := by decide +kernel
theorem dX0_boxLow_8 : decode cX0_boxLow 8 = .ok (.new 67, 3) := by decide +kernel
theorem dX0_boxLow_11 : decode cX0_boxLow 11 = .ok (.dup, 1) := by decide +kernel
theorem dX0_boxLow_12 : decode cX0_boxLow 12 = .ok (.ldc 119, 2) := by decide +kernel
theorem dX0_boxLow_14 : decode cX0_boxLow 14 = .ok (.invokespecial 71, 3) := by decide +kernel
theorem dX0_boxLow_17 : decode cX0_boxLow 17 = .ok (.athrow, 1) := by decide +kernel
theorem dX0_boxLow_18 : decode cX0_boxLow 18 = .ok (.aload_n 0, 1) := by decide +kernel
theorem dX0_boxLow_19 : decode cX0_boxLow 19 = .ok (.getfield 24, 3) := by decide +kernel
theorem dX0_boxLow_22 : decode cX0_boxLow 22 = .ok (.iload_n 1, 1) := by decide +kernel
theorem dX0_boxLow_23 : decode cX0_boxLow 23 = .ok (.iaload, 1) := by decide +kernel
theorem dX0_boxLow_24 : decode cX0_boxLow 24 = .ok (.ireturn, 1) := by decide +kernel
set_option maxRecDepth 20000 in
theorem ggX0_boxHigh_X0_isIndex : GoodIn wsX0_boxHigh wsX0_isIndex := goodIn_r _ [8, 9, 10, 11, 12, 13, 14, 15, 16, 17, 18, 19, 20, 21, 22] (by decide +kernel) (by decide +kernel)
set_option maxRecDepth 20000 in
theorem gX0_boxHigh_X0_isIndex : GoodIn wsX0_boxHigh (wsV RX0 63 RX0 yX0_isIndex wsX0_isIndex) := goodIn_app (goodIn_of _ (by decide +kernel)) ggX0_boxHigh_X0_isIndex
theorem dX0_boxHigh_0 : decode cX0_boxHigh 0 = .ok (.aload_n 0, 1) := by decide +kernel
theorem dX0_boxHigh_1 : decode cX0_boxHigh 1 = .ok (.iload_n 1, 1) := by decide +kernel
theorem dX0_boxHigh_2 : decode cX0_boxHigh 2 = .ok (.invokevirtual 63, 3) := by decide +kernel
theorem dX0_boxHigh_5 : decode cX0_boxHigh 5 = .ok (.ifCond .ne 13, 3) := by decide +kernel
theorem dX0_boxHigh_8 : decode cX0_boxHigh 8 = .ok (.new 67, 3) := by decide +kernel
theorem dX0_boxHigh_11 : decode cX0_boxHigh 11 = .ok (.dup, 1) := by decide +kernel
theorem dX0_boxHigh_12 : decode cX0_boxHigh 12 = .ok (.ldc 119, 2) := by decide +kernel
theorem dX0_boxHigh_14 : decode cX0_boxHigh 14 = .ok (.invokespecial 71, 3) := by decide +kernel
theorem dX0_boxHigh_17 : decode cX0_boxHigh 17 = .ok (.athrow, 1) := by decide +kernel
theorem dX0_boxHigh_18 : decode cX0_boxHigh 18 = .ok (.aload_n 0, 1) := by decide +kernel
theorem dX0_boxHigh_19 : decode cX0_boxHigh 19 = .ok (.getfield 27, 3) := by decide +kernel
theorem dX0_boxHigh_22 : decode cX0_boxHigh 22 = .ok (.iload_n 1, 1) := by decide +kernel
theorem dX0_boxHigh_23 : decode cX0_boxHigh 23 = .ok (.iaload, 1) := by decide +kernel
theorem dX0_boxHigh_24 : decode cX0_boxHigh 24 = .ok (.ireturn, 1) := by decide +kernel
set_option maxRecDepth 20000 in
theorem ggX0_sweep_X0_keepBox : GoodIn wsX0_sweep wsX0_keepBox := goodIn_r _ [7, 8, 9, 10, 11, 12, 13, 14, 15, 48, 49, 50, 51, 52, 53, 54, 55, 56, 57, 58, 59, 60] (by decide +kernel) (by decide +kernel)
set_option maxRecDepth 20000 in
theorem gX0_sweep_X0_keepBox : GoodIn wsX0_sweep (wsV RX0 163 RX0 yX0_keepBox wsX0_keepBox) := goodIn_app (goodIn_of _ (by decide +kernel)) ggX0_sweep_X0_keepBox
set_option maxRecDepth 20000 in
theorem ggX0_sweep_X0_contractBy : GoodIn wsX0_sweep wsX0_contractBy := goodIn_r _ [19, 20, 21, 22, 1, 2, 8, 14, 23, 24, 6, 25, 26, 27, 28, 29, 30, 31, 32, 33, 34, 35, 36, 37, 38, 39, 40, 41, 42, 43, 48, 49, 50, 51, 52, 53, 54, 55, 56, 57, 58, 59, 60] (by decide +kernel) (by decide +kernel)
set_option maxRecDepth 20000 in
theorem gX0_sweep_X0_contractBy : GoodIn wsX0_sweep (wsV RX0 166 RX0 yX0_contractBy wsX0_contractBy) := goodIn_app (goodIn_of _ (by decide +kernel)) ggX0_sweep_X0_contractBy
set_option maxRecDepth 20000 in
theorem ggX0_sweep_X0_restoreBox : GoodIn wsX0_sweep wsX0_restoreBox := goodIn_r _ [47, 9, 8, 10, 11, 12, 13, 15, 14, 48, 49, 50, 51, 52, 53, 54, 55, 56, 57, 58, 59, 60] (by decide +kernel) (by decide +kernel)
set_option maxRecDepth 20000 in
theorem gX0_sweep_X0_restoreBox : GoodIn wsX0_sweep (wsV RX0 169 RX0 yX0_restoreBox wsX0_restoreBox) := goodIn_app (goodIn_of _ (by decide +kernel)) ggX0_sweep_X0_restoreBox
theorem dX0_sweep_0 : decode cX0_sweep 0 = .ok (.aload_n 0, 1) := by decide +kernel
theorem dX0_sweep_1 : decode cX0_sweep 1 = .ok (.invokevirtual 163, 3) := by decide +kernel
theorem dX0_sweep_4 : decode cX0_sweep 4 = .ok (.iconst 0, 1) := by decide +kernel
theorem dX0_sweep_5 : decode cX0_sweep 5 = .ok (.istore_n 1, 1) := by decide +kernel
theorem dX0_sweep_6 : decode cX0_sweep 6 = .ok (.iconst 0, 1) := by decide +kernel
theorem dX0_sweep_7 : decode cX0_sweep 7 = .ok (.istore_n 2, 1) := by decide +kernel
theorem dX0_sweep_8 : decode cX0_sweep 8 = .ok (.iload_n 2, 1) := by decide +kernel
theorem dX0_sweep_9 : decode cX0_sweep 9 = .ok (.aload_n 0, 1) := by decide +kernel
theorem dX0_sweep_10 : decode cX0_sweep 10 = .ok (.getfield 59, 3) := by decide +kernel
theorem dX0_sweep_13 : decode cX0_sweep 13 = .ok (.if_icmp .ge 44, 3) := by decide +kernel
theorem dX0_sweep_16 : decode cX0_sweep 16 = .ok (.aload_n 0, 1) := by decide +kernel
theorem dX0_sweep_17 : decode cX0_sweep 17 = .ok (.getfield 11, 3) := by decide +kernel
theorem dX0_sweep_20 : decode cX0_sweep 20 = .ok (.iload_n 2, 1) := by decide +kernel
theorem dX0_sweep_21 : decode cX0_sweep 21 = .ok (.aaload, 1) := by decide +kernel
theorem dX0_sweep_22 : decode cX0_sweep 22 = .ok (.iload_n 2, 1) := by decide +kernel
theorem dX0_sweep_23 : decode cX0_sweep 23 = .ok (.iaload, 1) := by decide +kernel
theorem dX0_sweep_24 : decode cX0_sweep 24 = .ok (.ifCond .ne 7, 3) := by decide +kernel
theorem dX0_sweep_27 : decode cX0_sweep 27 = .ok (.iconst 0, 1) := by decide +kernel
theorem dX0_sweep_28 : decode cX0_sweep 28 = .ok (.goto 8, 3) := by decide +kernel
theorem dX0_sweep_31 : decode cX0_sweep 31 = .ok (.aload_n 0, 1) := by decide +kernel
theorem dX0_sweep_32 : decode cX0_sweep 32 = .ok (.iload_n 2, 1) := by decide +kernel
theorem dX0_sweep_33 : decode cX0_sweep 33 = .ok (.invokevirtual 166, 3) := by decide +kernel
theorem dX0_sweep_36 : decode cX0_sweep 36 = .ok (.istore_n 3, 1) := by decide +kernel
theorem dX0_sweep_37 : decode cX0_sweep 37 = .ok (.iload_n 3, 1) := by decide +kernel
theorem dX0_sweep_38 : decode cX0_sweep 38 = .ok (.ifCond .ge 9, 3) := by decide +kernel
theorem dX0_sweep_41 : decode cX0_sweep 41 = .ok (.aload_n 0, 1) := by decide +kernel
theorem dX0_sweep_42 : decode cX0_sweep 42 = .ok (.invokevirtual 169, 3) := by decide +kernel
theorem dX0_sweep_45 : decode cX0_sweep 45 = .ok (.iconst (-1), 1) := by decide +kernel
theorem dX0_sweep_46 : decode cX0_sweep 46 = .ok (.ireturn, 1) := by decide +kernel
theorem dX0_sweep_47 : decode cX0_sweep 47 = .ok (.iload_n 1, 1) := by decide +kernel
theorem dX0_sweep_48 : decode cX0_sweep 48 = .ok (.iload_n 3, 1) := by decide +kernel
theorem dX0_sweep_49 : decode cX0_sweep 49 = .ok (.iadd, 1) := by decide +kernel
theorem dX0_sweep_50 : decode cX0_sweep 50 = .ok (.istore_n 1, 1) := by decide +kernel
theorem dX0_sweep_51 : decode cX0_sweep 51 = .ok (.iinc 2 1, 3) := by decide +kernel
theorem dX0_sweep_54 : decode cX0_sweep 54 = .ok (.goto (-46), 3) := by decide +kernel
theorem dX0_sweep_57 : decode cX0_sweep 57 = .ok (.iload_n 1, 1) := by decide +kernel
theorem dX0_sweep_58 : decode cX0_sweep 58 = .ok (.ireturn, 1) := by decide +kernel
set_option maxRecDepth 20000 in
theorem ggX0_contract_X0_sweep : GoodIn wsX0_contract wsX0_sweep := goodIn_r _ [7, 8, 9, 10, 11, 12, 6, 13, 14, 15, 16, 17, 18, 19, 20, 21, 22, 23, 24, 25, 26, 27, 28, 29, 30, 31, 32, 33, 34, 35, 36, 37, 38, 39, 40, 41, 42, 43, 44, 45, 46, 47, 48, 49, 50, 51, 52, 53, 54, 55, 56, 57, 58, 59, 60, 61, 62, 63, 64, 65, 66] (by decide +kernel) (by decide +kernel)
set_option maxRecDepth 20000 in
theorem gX0_contract_X0_sweep : GoodIn wsX0_contract (wsV RX0 174 RX0 yX0_sweep wsX0_sweep) := goodIn_app (goodIn_of _ (by decide +kernel)) ggX0_contract_X0_sweep
theorem dX0_contract_0 : decode cX0_contract 0 = .ok (.iload_n 1, 1) := by decide +kernel
theorem dX0_contract_1 : decode cX0_contract 1 = .ok (.iconst 1, 1) := by decide +kernel
theorem dX0_contract_2 : decode cX0_contract 2 = .ok (.if_icmp .lt 10, 3) := by decide +kernel
theorem dX0_contract_5 : decode cX0_contract 5 = .ok (.iload_n 1, 1) := by decide +kernel
theorem dX0_contract_6 : decode cX0_contract 6 = .ok (.sipush 1000, 3) := by decide +kernel
theorem dX0_contract_9 : decode cX0_contract 9 = .ok (.if_icmp .le 13, 3) := by decide +kernel
theorem dX0_contract_12 : decode cX0_contract 12 = .ok (.new 52, 3) := by decide +kernel
theorem dX0_contract_15 : decode cX0_contract 15 = .ok (.dup, 1) := by decide +kernel
theorem dX0_contract_16 : decode cX0_contract 16 = .ok (.ldc 172, 2) := by decide +kernel
theorem dX0_contract_18 : decode cX0_contract 18 = .ok (.invokespecial 56, 3) := by decide +kernel
theorem dX0_contract_21 : decode cX0_contract 21 = .ok (.athrow, 1) := by decide +kernel
theorem dX0_contract_22 : decode cX0_contract 22 = .ok (.iconst 1, 1) := by decide +kernel
theorem dX0_contract_23 : decode cX0_contract 23 = .ok (.istore_n 2, 1) := by decide +kernel
theorem dX0_contract_24 : decode cX0_contract 24 = .ok (.iload_n 2, 1) := by decide +kernel
theorem dX0_contract_25 : decode cX0_contract 25 = .ok (.iload_n 1, 1) := by decide +kernel
theorem dX0_contract_26 : decode cX0_contract 26 = .ok (.if_icmp .gt 27, 3) := by decide +kernel
theorem dX0_contract_29 : decode cX0_contract 29 = .ok (.aload_n 0, 1) := by decide +kernel
theorem dX0_contract_30 : decode cX0_contract 30 = .ok (.invokevirtual 174, 3) := by decide +kernel
theorem dX0_contract_33 : decode cX0_contract 33 = .ok (.istore_n 3, 1) := by decide +kernel
theorem dX0_contract_34 : decode cX0_contract 34 = .ok (.iload_n 3, 1) := by decide +kernel
theorem dX0_contract_35 : decode cX0_contract 35 = .ok (.ifCond .ge 6, 3) := by decide +kernel
theorem dX0_contract_38 : decode cX0_contract 38 = .ok (.iload_n 2, 1) := by decide +kernel
theorem dX0_contract_39 : decode cX0_contract 39 = .ok (.ineg, 1) := by decide +kernel
theorem dX0_contract_40 : decode cX0_contract 40 = .ok (.ireturn, 1) := by decide +kernel
theorem dX0_contract_41 : decode cX0_contract 41 = .ok (.iload_n 3, 1) := by decide +kernel
theorem dX0_contract_42 : decode cX0_contract 42 = .ok (.ifCond .ne 5, 3) := by decide +kernel
theorem dX0_contract_45 : decode cX0_contract 45 = .ok (.iload_n 2, 1) := by decide +kernel
theorem dX0_contract_46 : decode cX0_contract 46 = .ok (.ireturn, 1) := by decide +kernel
theorem dX0_contract_47 : decode cX0_contract 47 = .ok (.iinc 2 1, 3) := by decide +kernel
theorem dX0_contract_50 : decode cX0_contract 50 = .ok (.goto (-26), 3) := by decide +kernel
theorem dX0_contract_53 : decode cX0_contract 53 = .ok (.iload_n 1, 1) := by decide +kernel
theorem dX0_contract_54 : decode cX0_contract 54 = .ok (.ireturn, 1) := by decide +kernel
set_option maxRecDepth 20000 in
theorem ggX0_sharpen_X0_invert : GoodIn wsX0_sharpen wsX0_invert := goodIn_r _ [8, 9, 10, 11, 12, 13, 3, 14, 15, 16, 17, 18, 19, 7, 20, 21, 22, 23, 24, 25, 26, 27, 28, 29, 30, 31, 32, 33, 34, 35, 36, 37, 38, 39, 40, 96, 97, 98, 99, 100, 101, 102, 103, 104, 105, 106, 107, 108] (by decide +kernel) (by decide +kernel)
set_option maxRecDepth 20000 in
theorem gX0_sharpen_X0_invert : GoodIn wsX0_sharpen (wsV RX0 121 RX0 yX0_invert wsX0_invert) := goodIn_app (goodIn_of _ (by decide +kernel)) ggX0_sharpen_X0_invert
set_option maxRecDepth 20000 in
theorem ggX0_sharpen_X0_keepBox : GoodIn wsX0_sharpen wsX0_keepBox := goodIn_r _ [44, 45, 46, 47, 48, 49, 50, 51, 52, 96, 97, 98, 99, 100, 101, 102, 103, 104, 105, 106, 107, 108] (by decide +kernel) (by decide +kernel)
set_option maxRecDepth 20000 in
theorem gX0_sharpen_X0_keepBox : GoodIn wsX0_sharpen (wsV RX0 163 RX0 yX0_keepBox wsX0_keepBox) := goodIn_app (goodIn_of _ (by decide +kernel)) ggX0_sharpen_X0_keepBox
set_option maxRecDepth 20000 in
theorem ggX0_sharpen_X0_hullLowInUnits : GoodIn wsX0_sharpen wsX0_hullLowInUnits := goodIn_r _ [56, 57, 13, 58, 59, 60, 7, 61, 3, 15, 62, 63, 64, 65, 66, 67, 68, 69, 70, 96, 97, 98, 99, 100, 101, 102, 103, 104, 105, 106, 107, 108] (by decide +kernel) (by decide +kernel)
set_option maxRecDepth 20000 in
theorem gX0_sharpen_X0_hullLowInUnits : GoodIn wsX0_sharpen (wsV RX0 177 RX0 yX0_hullLowInUnits wsX0_hullLowInUnits) := goodIn_app (goodIn_of _ (by decide +kernel)) ggX0_sharpen_X0_hullLowInUnits
set_option maxRecDepth 20000 in
theorem ggX0_sharpen_X0_hullHighInUnits : GoodIn wsX0_sharpen wsX0_hullHighInUnits := goodIn_r _ [74, 57, 13, 75, 76, 77, 7, 78, 3, 15, 63, 62, 79, 80, 81, 64, 65, 66, 67, 68, 69, 70, 96, 97, 98, 99, 100, 101, 102, 103, 104, 105, 106, 107, 108] (by decide +kernel) (by decide +kernel)
set_option maxRecDepth 20000 in
theorem gX0_sharpen_X0_hullHighInUnits : GoodIn wsX0_sharpen (wsV RX0 180 RX0 yX0_hullHighInUnits wsX0_hullHighInUnits) := goodIn_app (goodIn_of _ (by decide +kernel)) ggX0_sharpen_X0_hullHighInUnits
set_option maxRecDepth 20000 in
theorem ggX0_sharpen_X0_intersect : GoodIn wsX0_sharpen wsX0_intersect := goodIn_r _ [85, 45, 86, 87, 11, 88, 51, 89, 90, 91, 96, 97, 98, 99, 100, 101, 102, 103, 104, 105, 106, 107, 108] (by decide +kernel) (by decide +kernel)
set_option maxRecDepth 20000 in
theorem gX0_sharpen_X0_intersect : GoodIn wsX0_sharpen (wsV RX0 183 RX0 yX0_intersect wsX0_intersect) := goodIn_app (goodIn_of _ (by decide +kernel)) ggX0_sharpen_X0_intersect
set_option maxRecDepth 20000 in
theorem ggX0_sharpen_X0_restoreBox : GoodIn wsX0_sharpen wsX0_restoreBox := goodIn_r _ [95, 46, 45, 47, 48, 49, 50, 52, 51, 96, 97, 98, 99, 100, 101, 102, 103, 104, 105, 106, 107, 108] (by decide +kernel) (by decide +kernel)
set_option maxRecDepth 20000 in
theorem gX0_sharpen_X0_restoreBox : GoodIn wsX0_sharpen (wsV RX0 169 RX0 yX0_restoreBox wsX0_restoreBox) := goodIn_app (goodIn_of _ (by decide +kernel)) ggX0_sharpen_X0_restoreBox
theorem dX0_sharpen_0 : decode cX0_sharpen 0 = .ok (.aload_n 0, 1) := by decide +kernel
theorem dX0_sharpen_1 : decode cX0_sharpen 1 = .ok (.invokevirtual 121, 3) := by decide +kernel
theorem dX0_sharpen_4 : decode cX0_sharpen 4 = .ok (.ifCond .ne 13, 3) := by decide +kernel
theorem dX0_sharpen_7 : decode cX0_sharpen 7 = .ok (.new 104, 3) := by decide +kernel
theorem dX0_sharpen_10 : decode cX0_sharpen 10 = .ok (.dup, 1) := by decide +kernel
theorem dX0_sharpen_11 : decode cX0_sharpen 11 = .ok (.ldc 125, 2) := by decide +kernel
theorem dX0_sharpen_13 : decode cX0_sharpen 13 = .ok (.invokespecial 108, 3) := by decide +kernel
theorem dX0_sharpen_16 : decode cX0_sharpen 16 = .ok (.athrow, 1) := by decide +kernel
theorem dX0_sharpen_17 : decode cX0_sharpen 17 = .ok (.aload_n 0, 1) := by decide +kernel
theorem dX0_sharpen_18 : decode cX0_sharpen 18 = .ok (.invokevirtual 163, 3) := by decide +kernel
theorem dX0_sharpen_21 : decode cX0_sharpen 21 = .ok (.iconst 0, 1) := by decide +kernel
theorem dX0_sharpen_22 : decode cX0_sharpen 22 = .ok (.istore_n 1, 1) := by decide +kernel
theorem dX0_sharpen_23 : decode cX0_sharpen 23 = .ok (.iconst 0, 1) := by decide +kernel
theorem dX0_sharpen_24 : decode cX0_sharpen 24 = .ok (.istore_n 2, 1) := by decide +kernel
theorem dX0_sharpen_25 : decode cX0_sharpen 25 = .ok (.iload_n 2, 1) := by decide +kernel
theorem dX0_sharpen_26 : decode cX0_sharpen 26 = .ok (.aload_n 0, 1) := by decide +kernel
theorem dX0_sharpen_27 : decode cX0_sharpen 27 = .ok (.getfield 59, 3) := by decide +kernel
theorem dX0_sharpen_30 : decode cX0_sharpen 30 = .ok (.if_icmp .ge 39, 3) := by decide +kernel
theorem dX0_sharpen_33 : decode cX0_sharpen 33 = .ok (.aload_n 0, 1) := by decide +kernel
theorem dX0_sharpen_34 : decode cX0_sharpen 34 = .ok (.iload_n 2, 1) := by decide +kernel
theorem dX0_sharpen_35 : decode cX0_sharpen 35 = .ok (.aload_n 0, 1) := by decide +kernel
theorem dX0_sharpen_36 : decode cX0_sharpen 36 = .ok (.iload_n 2, 1) := by decide +kernel
theorem dX0_sharpen_37 : decode cX0_sharpen 37 = .ok (.invokevirtual 177, 3) := by decide +kernel
theorem dX0_sharpen_40 : decode cX0_sharpen 40 = .ok (.aload_n 0, 1) := by decide +kernel
theorem dX0_sharpen_41 : decode cX0_sharpen 41 = .ok (.iload_n 2, 1) := by decide +kernel
theorem dX0_sharpen_42 : decode cX0_sharpen 42 = .ok (.invokevirtual 180, 3) := by decide +kernel
theorem dX0_sharpen_45 : decode cX0_sharpen 45 = .ok (.invokevirtual 183, 3) := by decide +kernel
theorem dX0_sharpen_48 : decode cX0_sharpen 48 = .ok (.istore_n 3, 1) := by decide +kernel
theorem dX0_sharpen_49 : decode cX0_sharpen 49 = .ok (.iload_n 3, 1) := by decide +kernel
theorem dX0_sharpen_50 : decode cX0_sharpen 50 = .ok (.ifCond .ge 9, 3) := by decide +kernel
theorem dX0_sharpen_53 : decode cX0_sharpen 53 = .ok (.aload_n 0, 1) := by decide +kernel
theorem dX0_sharpen_54 : decode cX0_sharpen 54 = .ok (.invokevirtual 169, 3) := by decide +kernel
theorem dX0_sharpen_57 : decode cX0_sharpen 57 = .ok (.iconst (-1), 1) := by decide +kernel
theorem dX0_sharpen_58 : decode cX0_sharpen 58 = .ok (.ireturn, 1) := by decide +kernel
theorem dX0_sharpen_59 : decode cX0_sharpen 59 = .ok (.iload_n 1, 1) := by decide +kernel
theorem dX0_sharpen_60 : decode cX0_sharpen 60 = .ok (.iload_n 3, 1) := by decide +kernel
theorem dX0_sharpen_61 : decode cX0_sharpen 61 = .ok (.iadd, 1) := by decide +kernel
theorem dX0_sharpen_62 : decode cX0_sharpen 62 = .ok (.istore_n 1, 1) := by decide +kernel
theorem dX0_sharpen_63 : decode cX0_sharpen 63 = .ok (.iinc 2 1, 3) := by decide +kernel
theorem dX0_sharpen_66 : decode cX0_sharpen 66 = .ok (.goto (-41), 3) := by decide +kernel
theorem dX0_sharpen_69 : decode cX0_sharpen 69 = .ok (.iload_n 1, 1) := by decide +kernel
theorem dX0_sharpen_70 : decode cX0_sharpen 70 = .ok (.ireturn, 1) := by decide +kernel
theorem dX0_startSystem_0 : decode cX0_startSystem 0 = .ok (.aload_n 0, 1) := by decide +kernel
theorem dX0_startSystem_1 : decode cX0_startSystem 1 = .ok (.iload_n 1, 1) := by decide +kernel
theorem dX0_startSystem_2 : decode cX0_startSystem 2 = .ok (.putfield 59, 3) := by decide +kernel
theorem dX0_startSystem_5 : decode cX0_startSystem 5 = .ok (.iconst 0, 1) := by decide +kernel
theorem dX0_startSystem_6 : decode cX0_startSystem 6 = .ok (.istore_n 2, 1) := by decide +kernel
theorem dX0_startSystem_7 : decode cX0_startSystem 7 = .ok (.iload_n 2, 1) := by decide +kernel
theorem dX0_startSystem_8 : decode cX0_startSystem 8 = .ok (.iconst 5, 1) := by decide +kernel
theorem dX0_startSystem_9 : decode cX0_startSystem 9 = .ok (.if_icmp .ge 70, 3) := by decide +kernel
theorem dX0_startSystem_12 : decode cX0_startSystem 12 = .ok (.iconst 0, 1) := by decide +kernel
theorem dX0_startSystem_13 : decode cX0_startSystem 13 = .ok (.istore_n 3, 1) := by decide +kernel
theorem dX0_startSystem_14 : decode cX0_startSystem 14 = .ok (.iload_n 3, 1) := by decide +kernel
theorem dX0_startSystem_15 : decode cX0_startSystem 15 = .ok (.iconst 5, 1) := by decide +kernel
theorem dX0_startSystem_16 : decode cX0_startSystem 16 = .ok (.if_icmp .ge 27, 3) := by decide +kernel
theorem dX0_startSystem_19 : decode cX0_startSystem 19 = .ok (.aload_n 0, 1) := by decide +kernel
theorem dX0_startSystem_20 : decode cX0_startSystem 20 = .ok (.getfield 11, 3) := by decide +kernel
theorem dX0_startSystem_23 : decode cX0_startSystem 23 = .ok (.iload_n 2, 1) := by decide +kernel
theorem dX0_startSystem_24 : decode cX0_startSystem 24 = .ok (.aaload, 1) := by decide +kernel
theorem dX0_startSystem_25 : decode cX0_startSystem 25 = .ok (.iload_n 3, 1) := by decide +kernel
theorem dX0_startSystem_26 : decode cX0_startSystem 26 = .ok (.iconst 0, 1) := by decide +kernel
theorem dX0_startSystem_27 : decode cX0_startSystem 27 = .ok (.iastore, 1) := by decide +kernel
theorem dX0_startSystem_28 : decode cX0_startSystem 28 = .ok (.aload_n 0, 1) := by decide +kernel
theorem dX0_startSystem_29 : decode cX0_startSystem 29 = .ok (.getfield 14, 3) := by decide +kernel
theorem dX0_startSystem_32 : decode cX0_startSystem 32 = .ok (.iload_n 2, 1) := by decide +kernel
theorem dX0_startSystem_33 : decode cX0_startSystem 33 = .ok (.aaload, 1) := by decide +kernel
theorem dX0_startSystem_34 : decode cX0_startSystem 34 = .ok (.iload_n 3, 1) := by decide +kernel
theorem dX0_startSystem_35 : decode cX0_startSystem 35 = .ok (.iconst 0, 1) := by decide +kernel
theorem dX0_startSystem_36 : decode cX0_startSystem 36 = .ok (.iastore, 1) := by decide +kernel
theorem dX0_startSystem_37 : decode cX0_startSystem 37 = .ok (.iinc 3 1, 3) := by decide +kernel
theorem dX0_startSystem_40 : decode cX0_startSystem 40 = .ok (.goto (-26), 3) := by decide +kernel
theorem dX0_startSystem_43 : decode cX0_startSystem 43 = .ok (.aload_n 0, 1) := by decide +kernel
theorem dX0_startSystem_44 : decode cX0_startSystem 44 = .ok (.getfield 17, 3) := by decide +kernel
theorem dX0_startSystem_47 : decode cX0_startSystem 47 = .ok (.iload_n 2, 1) := by decide +kernel
theorem dX0_startSystem_48 : decode cX0_startSystem 48 = .ok (.iconst 0, 1) := by decide +kernel
theorem dX0_startSystem_49 : decode cX0_startSystem 49 = .ok (.iastore, 1) := by decide +kernel
theorem dX0_startSystem_50 : decode cX0_startSystem 50 = .ok (.aload_n 0, 1) := by decide +kernel
theorem dX0_startSystem_51 : decode cX0_startSystem 51 = .ok (.getfield 21, 3) := by decide +kernel
theorem dX0_startSystem_54 : decode cX0_startSystem 54 = .ok (.iload_n 2, 1) := by decide +kernel
theorem dX0_startSystem_55 : decode cX0_startSystem 55 = .ok (.iconst 0, 1) := by decide +kernel
theorem dX0_startSystem_56 : decode cX0_startSystem 56 = .ok (.iastore, 1) := by decide +kernel
theorem dX0_startSystem_57 : decode cX0_startSystem 57 = .ok (.aload_n 0, 1) := by decide +kernel
theorem dX0_startSystem_58 : decode cX0_startSystem 58 = .ok (.getfield 24, 3) := by decide +kernel
theorem dX0_startSystem_61 : decode cX0_startSystem 61 = .ok (.iload_n 2, 1) := by decide +kernel
theorem dX0_startSystem_62 : decode cX0_startSystem 62 = .ok (.ldc 200, 2) := by decide +kernel
theorem dX0_startSystem_64 : decode cX0_startSystem 64 = .ok (.iastore, 1) := by decide +kernel
theorem dX0_startSystem_65 : decode cX0_startSystem 65 = .ok (.aload_n 0, 1) := by decide +kernel
theorem dX0_startSystem_66 : decode cX0_startSystem 66 = .ok (.getfield 27, 3) := by decide +kernel
theorem dX0_startSystem_69 : decode cX0_startSystem 69 = .ok (.iload_n 2, 1) := by decide +kernel
theorem dX0_startSystem_70 : decode cX0_startSystem 70 = .ok (.ldc 160, 2) := by decide +kernel
theorem dX0_startSystem_72 : decode cX0_startSystem 72 = .ok (.iastore, 1) := by decide +kernel
theorem dX0_startSystem_73 : decode cX0_startSystem 73 = .ok (.iinc 2 1, 3) := by decide +kernel
theorem dX0_startSystem_76 : decode cX0_startSystem 76 = .ok (.goto (-69), 3) := by decide +kernel
theorem dX0_startSystem_79 : decode cX0_startSystem 79 = .ok (.return_, 1) := by decide +kernel
theorem dX0_isIndex_0 : decode cX0_isIndex 0 = .ok (.iload_n 1, 1) := by decide +kernel
theorem dX0_isIndex_1 : decode cX0_isIndex 1 = .ok (.ifCond .lt 15, 3) := by decide +kernel
theorem dX0_isIndex_4 : decode cX0_isIndex 4 = .ok (.iload_n 1, 1) := by decide +kernel
theorem dX0_isIndex_5 : decode cX0_isIndex 5 = .ok (.aload_n 0, 1) := by decide +kernel
theorem dX0_isIndex_6 : decode cX0_isIndex 6 = .ok (.getfield 59, 3) := by decide +kernel
theorem dX0_isIndex_9 : decode cX0_isIndex 9 = .ok (.if_icmp .ge 7, 3) := by decide +kernel
theorem dX0_isIndex_12 : decode cX0_isIndex 12 = .ok (.iconst 1, 1) := by decide +kernel
theorem dX0_isIndex_13 : decode cX0_isIndex 13 = .ok (.goto 4, 3) := by decide +kernel
theorem dX0_isIndex_16 : decode cX0_isIndex 16 = .ok (.iconst 0, 1) := by decide +kernel
theorem dX0_isIndex_17 : decode cX0_isIndex 17 = .ok (.ireturn, 1) := by decide +kernel
theorem dX0_isWithin_0 : decode cX0_isWithin 0 = .ok (.iload_n 0, 1) := by decide +kernel
theorem dX0_isWithin_1 : decode cX0_isWithin 1 = .ok (.iload_n 1, 1) := by decide +kernel
theorem dX0_isWithin_2 : decode cX0_isWithin 2 = .ok (.ineg, 1) := by decide +kernel
theorem dX0_isWithin_3 : decode cX0_isWithin 3 = .ok (.if_icmp .lt 12, 3) := by decide +kernel
theorem dX0_isWithin_6 : decode cX0_isWithin 6 = .ok (.iload_n 0, 1) := by decide +kernel
theorem dX0_isWithin_7 : decode cX0_isWithin 7 = .ok (.iload_n 1, 1) := by decide +kernel
theorem dX0_isWithin_8 : decode cX0_isWithin 8 = .ok (.if_icmp .gt 7, 3) := by decide +kernel
theorem dX0_isWithin_11 : decode cX0_isWithin 11 = .ok (.iconst 1, 1) := by decide +kernel
theorem dX0_isWithin_12 : decode cX0_isWithin 12 = .ok (.goto 4, 3) := by decide +kernel
theorem dX0_isWithin_15 : decode cX0_isWithin 15 = .ok (.iconst 0, 1) := by decide +kernel
theorem dX0_isWithin_16 : decode cX0_isWithin 16 = .ok (.ireturn, 1) := by decide +kernel
set_option maxRecDepth 20000 in
theorem ggX0_isInterval_X0_isWithin : GoodIn wsX0_isInterval wsX0_isWithin := goodIn_r _ [4] (by decide +kernel) (by decide +kernel)
set_option maxRecDepth 20000 in
theorem gX0_isInterval_X0_isWithin : GoodIn wsX0_isInterval (va_wsS RX0 72 yX0_isWithin wsX0_isWithin) := goodIn_app (goodIn_of _ (by decide +kernel)) ggX0_isInterval_X0_isWithin
theorem dX0_isInterval_0 : decode cX0_isInterval 0 = .ok (.iload_n 0, 1) := by decide +kernel
theorem dX0_isInterval_1 : decode cX0_isInterval 1 = .ok (.iload_n 2, 1) := by decide +kernel
theorem dX0_isInterval_2 : decode cX0_isInterval 2 = .ok (.invokestatic 72, 3) := by decide +kernel
theorem dX0_isInterval_5 : decode cX0_isInterval 5 = .ok (.ifCond .eq 20, 3) := by decide +kernel
theorem dX0_isInterval_8 : decode cX0_isInterval 8 = .ok (.iload_n 1, 1) := by decide +kernel
theorem dX0_isInterval_9 : decode cX0_isInterval 9 = .ok (.iload_n 2, 1) := by decide +kernel
theorem dX0_isInterval_10 : decode cX0_isInterval 10 = .ok (.invokestatic 72, 3) := by decide +kernel
theorem dX0_isInterval_13 : decode cX0_isInterval 13 = .ok (.ifCond .eq 12, 3) := by decide +kernel
theorem dX0_isInterval_16 : decode cX0_isInterval 16 = .ok (.iload_n 0, 1) := by decide +kernel
theorem dX0_isInterval_17 : decode cX0_isInterval 17 = .ok (.iload_n 1, 1) := by decide +kernel
theorem dX0_isInterval_18 : decode cX0_isInterval 18 = .ok (.if_icmp .gt 7, 3) := by decide +kernel
theorem dX0_isInterval_21 : decode cX0_isInterval 21 = .ok (.iconst 1, 1) := by decide +kernel
theorem dX0_isInterval_22 : decode cX0_isInterval 22 = .ok (.goto 4, 3) := by decide +kernel
theorem dX0_isInterval_25 : decode cX0_isInterval 25 = .ok (.iconst 0, 1) := by decide +kernel
theorem dX0_isInterval_26 : decode cX0_isInterval 26 = .ok (.ireturn, 1) := by decide +kernel
theorem dX0_exchange_0 : decode cX0_exchange 0 = .ok (.aload_n 0, 1) := by decide +kernel
theorem dX0_exchange_1 : decode cX0_exchange 1 = .ok (.iload_n 1, 1) := by decide +kernel
theorem dX0_exchange_2 : decode cX0_exchange 2 = .ok (.iaload, 1) := by decide +kernel
theorem dX0_exchange_3 : decode cX0_exchange 3 = .ok (.istore_n 3, 1) := by decide +kernel
theorem dX0_exchange_4 : decode cX0_exchange 4 = .ok (.aload_n 0, 1) := by decide +kernel
theorem dX0_exchange_5 : decode cX0_exchange 5 = .ok (.iload_n 1, 1) := by decide +kernel
theorem dX0_exchange_6 : decode cX0_exchange 6 = .ok (.aload_n 0, 1) := by decide +kernel
theorem dX0_exchange_7 : decode cX0_exchange 7 = .ok (.iload_n 2, 1) := by decide +kernel
theorem dX0_exchange_8 : decode cX0_exchange 8 = .ok (.iaload, 1) := by decide +kernel
theorem dX0_exchange_9 : decode cX0_exchange 9 = .ok (.iastore, 1) := by decide +kernel
theorem dX0_exchange_10 : decode cX0_exchange 10 = .ok (.aload_n 0, 1) := by decide +kernel
theorem dX0_exchange_11 : decode cX0_exchange 11 = .ok (.iload_n 2, 1) := by decide +kernel
theorem dX0_exchange_12 : decode cX0_exchange 12 = .ok (.iload_n 3, 1) := by decide +kernel
theorem dX0_exchange_13 : decode cX0_exchange 13 = .ok (.iastore, 1) := by decide +kernel
theorem dX0_exchange_14 : decode cX0_exchange 14 = .ok (.return_, 1) := by decide +kernel
set_option maxRecDepth 20000 in
theorem ggX0_coefficientsFit_X0_isWithin : GoodIn wsX0_coefficientsFit wsX0_isWithin := goodIn_r _ [6] (by decide +kernel) (by decide +kernel)
set_option maxRecDepth 20000 in
theorem gX0_coefficientsFit_X0_isWithin : GoodIn wsX0_coefficientsFit (va_wsS RX0 72 yX0_isWithin wsX0_isWithin) := goodIn_app (goodIn_of _ (by decide +kernel)) ggX0_coefficientsFit_X0_isWithin
theorem dX0_coefficientsFit_0 : decode cX0_coefficientsFit 0 = .ok (.iconst 0, 1) := by decide +kernel
theorem dX0_coefficientsFit_1 : decode cX0_coefficientsFit 1 = .ok (.istore 4, 2) := by decide +kernel
theorem dX0_coefficientsFit_3 : decode cX0_coefficientsFit 3 = .ok (.iload 4, 2) := by decide +kernel
theorem dX0_coefficientsFit_5 : decode cX0_coefficientsFit 5 = .ok (.aload_n 0, 1) := by decide +kernel
theorem dX0_coefficientsFit_6 : decode cX0_coefficientsFit 6 = .ok (.getfield 59, 3) := by decide +kernel
theorem dX0_coefficientsFit_9 : decode cX0_coefficientsFit 9 = .ok (.if_icmp .ge 40, 3) := by decide +kernel
theorem dX0_coefficientsFit_12 : decode cX0_coefficientsFit 12 = .ok (.aload_n 0, 1) := by decide +kernel
theorem dX0_coefficientsFit_13 : decode cX0_coefficientsFit 13 = .ok (.getfield 11, 3) := by decide +kernel
theorem dX0_coefficientsFit_16 : decode cX0_coefficientsFit 16 = .ok (.iload_n 1, 1) := by decide +kernel
theorem dX0_coefficientsFit_17 : decode cX0_coefficientsFit 17 = .ok (.aaload, 1) := by decide +kernel
theorem dX0_coefficientsFit_18 : decode cX0_coefficientsFit 18 = .ok (.iload 4, 2) := by decide +kernel
theorem dX0_coefficientsFit_20 : decode cX0_coefficientsFit 20 = .ok (.iaload, 1) := by decide +kernel
theorem dX0_coefficientsFit_21 : decode cX0_coefficientsFit 21 = .ok (.iload_n 3, 1) := by decide +kernel
theorem dX0_coefficientsFit_22 : decode cX0_coefficientsFit 22 = .ok (.aload_n 0, 1) := by decide +kernel
theorem dX0_coefficientsFit_23 : decode cX0_coefficientsFit 23 = .ok (.getfield 11, 3) := by decide +kernel
theorem dX0_coefficientsFit_26 : decode cX0_coefficientsFit 26 = .ok (.iload_n 2, 1) := by decide +kernel
theorem dX0_coefficientsFit_27 : decode cX0_coefficientsFit 27 = .ok (.aaload, 1) := by decide +kernel
theorem dX0_coefficientsFit_28 : decode cX0_coefficientsFit 28 = .ok (.iload 4, 2) := by decide +kernel
theorem dX0_coefficientsFit_30 : decode cX0_coefficientsFit 30 = .ok (.iaload, 1) := by decide +kernel
theorem dX0_coefficientsFit_31 : decode cX0_coefficientsFit 31 = .ok (.imul, 1) := by decide +kernel
theorem dX0_coefficientsFit_32 : decode cX0_coefficientsFit 32 = .ok (.iadd, 1) := by decide +kernel
theorem dX0_coefficientsFit_33 : decode cX0_coefficientsFit 33 = .ok (.bipush 99, 2) := by decide +kernel
theorem dX0_coefficientsFit_35 : decode cX0_coefficientsFit 35 = .ok (.invokestatic 72, 3) := by decide +kernel
theorem dX0_coefficientsFit_38 : decode cX0_coefficientsFit 38 = .ok (.ifCond .ne 5, 3) := by decide +kernel
theorem dX0_coefficientsFit_41 : decode cX0_coefficientsFit 41 = .ok (.iconst 0, 1) := by decide +kernel
theorem dX0_coefficientsFit_42 : decode cX0_coefficientsFit 42 = .ok (.ireturn, 1) := by decide +kernel
theorem dX0_coefficientsFit_43 : decode cX0_coefficientsFit 43 = .ok (.iinc 4 1, 3) := by decide +kernel
theorem dX0_coefficientsFit_46 : decode cX0_coefficientsFit 46 = .ok (.goto (-43), 3) := by decide +kernel
theorem dX0_coefficientsFit_49 : decode cX0_coefficientsFit 49 = .ok (.iconst 1, 1) := by decide +kernel
theorem dX0_coefficientsFit_50 : decode cX0_coefficientsFit 50 = .ok (.ireturn, 1) := by decide +kernel
theorem dX0_addCoefficients_0 : decode cX0_addCoefficients 0 = .ok (.iconst 0, 1) := by decide +kernel
theorem dX0_addCoefficients_1 : decode cX0_addCoefficients 1 = .ok (.istore 4, 2) := by decide +kernel
theorem dX0_addCoefficients_3 : decode cX0_addCoefficients 3 = .ok (.iconst 0, 1) := by decide +kernel
theorem dX0_addCoefficients_4 : decode cX0_addCoefficients 4 = .ok (.istore 5, 2) := by decide +kernel
theorem dX0_addCoefficients_6 : decode cX0_addCoefficients 6 = .ok (.iload 5, 2) := by decide +kernel
theorem dX0_addCoefficients_8 : decode cX0_addCoefficients 8 = .ok (.aload_n 0, 1) := by decide +kernel
theorem dX0_addCoefficients_9 : decode cX0_addCoefficients 9 = .ok (.getfield 59, 3) := by decide +kernel
theorem dX0_addCoefficients_12 : decode cX0_addCoefficients 12 = .ok (.if_icmp .ge 51, 3) := by decide +kernel
theorem dX0_addCoefficients_15 : decode cX0_addCoefficients 15 = .ok (.iload_n 3, 1) := by decide +kernel
theorem dX0_addCoefficients_16 : decode cX0_addCoefficients 16 = .ok (.aload_n 0, 1) := by decide +kernel
theorem dX0_addCoefficients_17 : decode cX0_addCoefficients 17 = .ok (.getfield 11, 3) := by decide +kernel
theorem dX0_addCoefficients_20 : decode cX0_addCoefficients 20 = .ok (.iload_n 2, 1) := by decide +kernel
theorem dX0_addCoefficients_21 : decode cX0_addCoefficients 21 = .ok (.aaload, 1) := by decide +kernel
theorem dX0_addCoefficients_22 : decode cX0_addCoefficients 22 = .ok (.iload 5, 2) := by decide +kernel
theorem dX0_addCoefficients_24 : decode cX0_addCoefficients 24 = .ok (.iaload, 1) := by decide +kernel
theorem dX0_addCoefficients_25 : decode cX0_addCoefficients 25 = .ok (.imul, 1) := by decide +kernel
theorem dX0_addCoefficients_26 : decode cX0_addCoefficients 26 = .ok (.istore 6, 2) := by decide +kernel
theorem dX0_addCoefficients_28 : decode cX0_addCoefficients 28 = .ok (.aload_n 0, 1) := by decide +kernel
theorem dX0_addCoefficients_29 : decode cX0_addCoefficients 29 = .ok (.getfield 11, 3) := by decide +kernel
theorem dX0_addCoefficients_32 : decode cX0_addCoefficients 32 = .ok (.iload_n 1, 1) := by decide +kernel
theorem dX0_addCoefficients_33 : decode cX0_addCoefficients 33 = .ok (.aaload, 1) := by decide +kernel
theorem dX0_addCoefficients_34 : decode cX0_addCoefficients 34 = .ok (.iload 5, 2) := by decide +kernel
theorem dX0_addCoefficients_36 : decode cX0_addCoefficients 36 = .ok (.dup2, 1) := by decide +kernel
theorem dX0_addCoefficients_37 : decode cX0_addCoefficients 37 = .ok (.iaload, 1) := by decide +kernel
theorem dX0_addCoefficients_38 : decode cX0_addCoefficients 38 = .ok (.iload 6, 2) := by decide +kernel
theorem dX0_addCoefficients_40 : decode cX0_addCoefficients 40 = .ok (.iadd, 1) := by decide +kernel
theorem dX0_addCoefficients_41 : decode cX0_addCoefficients 41 = .ok (.iastore, 1) := by decide +kernel
theorem dX0_addCoefficients_42 : decode cX0_addCoefficients 42 = .ok (.iload 4, 2) := by decide +kernel
theorem dX0_addCoefficients_44 : decode cX0_addCoefficients 44 = .ok (.iload 6, 2) := by decide +kernel
theorem dX0_addCoefficients_46 : decode cX0_addCoefficients 46 = .ok (.ifCond .ne 7, 3) := by decide +kernel
theorem dX0_addCoefficients_49 : decode cX0_addCoefficients 49 = .ok (.iconst 0, 1) := by decide +kernel
theorem dX0_addCoefficients_50 : decode cX0_addCoefficients 50 = .ok (.goto 4, 3) := by decide +kernel
theorem dX0_addCoefficients_53 : decode cX0_addCoefficients 53 = .ok (.iconst 1, 1) := by decide +kernel
theorem dX0_addCoefficients_54 : decode cX0_addCoefficients 54 = .ok (.iadd, 1) := by decide +kernel
theorem dX0_addCoefficients_55 : decode cX0_addCoefficients 55 = .ok (.istore 4, 2) := by decide +kernel
theorem dX0_addCoefficients_57 : decode cX0_addCoefficients 57 = .ok (.iinc 5 1, 3) := by decide +kernel
theorem dX0_addCoefficients_60 : decode cX0_addCoefficients 60 = .ok (.goto (-54), 3) := by decide +kernel
theorem dX0_addCoefficients_63 : decode cX0_addCoefficients 63 = .ok (.iload 4, 2) := by decide +kernel
theorem dX0_addCoefficients_65 : decode cX0_addCoefficients 65 = .ok (.ireturn, 1) := by decide +kernel
theorem dX0_productLow_0 : decode cX0_productLow 0 = .ok (.iload_n 0, 1) := by decide +kernel
theorem dX0_productLow_1 : decode cX0_productLow 1 = .ok (.iload_n 0, 1) := by decide +kernel
theorem dX0_productLow_2 : decode cX0_productLow 2 = .ok (.ifCond .ge 7, 3) := by decide +kernel
theorem dX0_productLow_5 : decode cX0_productLow 5 = .ok (.iload_n 2, 1) := by decide +kernel
theorem dX0_productLow_6 : decode cX0_productLow 6 = .ok (.goto 4, 3) := by decide +kernel
theorem dX0_productLow_9 : decode cX0_productLow 9 = .ok (.iload_n 1, 1) := by decide +kernel
theorem dX0_productLow_10 : decode cX0_productLow 10 = .ok (.imul, 1) := by decide +kernel
theorem dX0_productLow_11 : decode cX0_productLow 11 = .ok (.ireturn, 1) := by decide +kernel
theorem dX0_productHigh_0 : decode cX0_productHigh 0 = .ok (.iload_n 0, 1) := by decide +kernel
theorem dX0_productHigh_1 : decode cX0_productHigh 1 = .ok (.iload_n 0, 1) := by decide +kernel
theorem dX0_productHigh_2 : decode cX0_productHigh 2 = .ok (.ifCond .ge 7, 3) := by decide +kernel
theorem dX0_productHigh_5 : decode cX0_productHigh 5 = .ok (.iload_n 1, 1) := by decide +kernel
theorem dX0_productHigh_6 : decode cX0_productHigh 6 = .ok (.goto 4, 3) := by decide +kernel
theorem dX0_productHigh_9 : decode cX0_productHigh 9 = .ok (.iload_n 2, 1) := by decide +kernel
theorem dX0_productHigh_10 : decode cX0_productHigh 10 = .ok (.imul, 1) := by decide +kernel
theorem dX0_productHigh_11 : decode cX0_productHigh 11 = .ok (.ireturn, 1) := by decide +kernel
theorem dX0_allColumns_0 : decode cX0_allColumns 0 = .ok (.iconst 1, 1) := by decide +kernel
theorem dX0_allColumns_1 : decode cX0_allColumns 1 = .ok (.aload_n 0, 1) := by decide +kernel
theorem dX0_allColumns_2 : decode cX0_allColumns 2 = .ok (.getfield 59, 3) := by decide +kernel
theorem dX0_allColumns_5 : decode cX0_allColumns 5 = .ok (.ishl, 1) := by decide +kernel
theorem dX0_allColumns_6 : decode cX0_allColumns 6 = .ok (.iconst 1, 1) := by decide +kernel
theorem dX0_allColumns_7 : decode cX0_allColumns 7 = .ok (.isub, 1) := by decide +kernel
theorem dX0_allColumns_8 : decode cX0_allColumns 8 = .ok (.ireturn, 1) := by decide +kernel
set_option maxRecDepth 20000 in
theorem ggX0_findMinors_X0_allColumns : GoodIn wsX0_findMinors wsX0_allColumns := goodIn_r _ [7, 2, 20, 21, 22, 23, 24, 25, 26, 27, 28, 29, 30, 31, 32] (by decide +kernel) (by decide +kernel)
set_option maxRecDepth 20000 in
theorem gX0_findMinors_X0_allColumns : GoodIn wsX0_findMinors (wsV RX0 115 RX0 yX0_allColumns wsX0_allColumns) := goodIn_app (goodIn_of _ (by decide +kernel)) ggX0_findMinors_X0_allColumns
set_option maxRecDepth 20000 in
theorem ggX0_findMinors_J6_bitCount_0f7a4 : GoodIn wsX0_findMinors wsJ6_bitCount_0f7a4 := goodIn_r _ [11, 12, 13, 14] (by decide +kernel) (by decide +kernel)
set_option maxRecDepth 20000 in
theorem gX0_findMinors_J6_bitCount_0f7a4 : GoodIn wsX0_findMinors (va_wsS RX0 201 yJ6_bitCount_0f7a4 wsJ6_bitCount_0f7a4) := goodIn_app (goodIn_of _ (by decide +kernel)) ggX0_findMinors_J6_bitCount_0f7a4
set_option maxRecDepth 20000 in
theorem ggX0_findMinors_X0_expanded : GoodIn wsX0_findMinors wsX0_expanded := goodIn_r _ [18, 2, 19, 1, 20, 21, 22, 23, 24, 25, 26, 27, 28, 29, 30, 31, 32] (by decide +kernel) (by decide +kernel)
set_option maxRecDepth 20000 in
theorem gX0_findMinors_X0_expanded : GoodIn wsX0_findMinors (wsV RX0 206 RX0 yX0_expanded wsX0_expanded) := goodIn_app (goodIn_of _ (by decide +kernel)) ggX0_findMinors_X0_expanded
theorem dX0_findMinors_0 : decode cX0_findMinors 0 = .ok (.aload_n 0, 1) := by decide +kernel
theorem dX0_findMinors_1 : decode cX0_findMinors 1 = .ok (.getfield 36, 3) := by decide +kernel
theorem dX0_findMinors_4 : decode cX0_findMinors 4 = .ok (.iconst 0, 1) := by decide +kernel
theorem dX0_findMinors_5 : decode cX0_findMinors 5 = .ok (.lconst 1, 1) := by decide +kernel
theorem dX0_findMinors_6 : decode cX0_findMinors 6 = .ok (.lastore, 1) := by decide +kernel
theorem dX0_findMinors_7 : decode cX0_findMinors 7 = .ok (.iconst 1, 1) := by decide +kernel
theorem dX0_findMinors_8 : decode cX0_findMinors 8 = .ok (.istore_n 2, 1) := by decide +kernel
theorem dX0_findMinors_9 : decode cX0_findMinors 9 = .ok (.iload_n 2, 1) := by decide +kernel
theorem dX0_findMinors_10 : decode cX0_findMinors 10 = .ok (.aload_n 0, 1) := by decide +kernel
theorem dX0_findMinors_11 : decode cX0_findMinors 11 = .ok (.invokevirtual 115, 3) := by decide +kernel
theorem dX0_findMinors_14 : decode cX0_findMinors 14 = .ok (.if_icmp .gt 48, 3) := by decide +kernel
theorem dX0_findMinors_17 : decode cX0_findMinors 17 = .ok (.iload_n 2, 1) := by decide +kernel
theorem dX0_findMinors_18 : decode cX0_findMinors 18 = .ok (.invokestatic 201, 3) := by decide +kernel
theorem dX0_findMinors_21 : decode cX0_findMinors 21 = .ok (.iconst 1, 1) := by decide +kernel
theorem dX0_findMinors_22 : decode cX0_findMinors 22 = .ok (.isub, 1) := by decide +kernel
theorem dX0_findMinors_23 : decode cX0_findMinors 23 = .ok (.istore_n 3, 1) := by decide +kernel
theorem dX0_findMinors_24 : decode cX0_findMinors 24 = .ok (.iload_n 3, 1) := by decide +kernel
theorem dX0_findMinors_25 : decode cX0_findMinors 25 = .ok (.iload_n 1, 1) := by decide +kernel
theorem dX0_findMinors_26 : decode cX0_findMinors 26 = .ok (.if_icmp .lt 6, 3) := by decide +kernel
theorem dX0_findMinors_29 : decode cX0_findMinors 29 = .ok (.iinc 3 1, 3) := by decide +kernel
theorem dX0_findMinors_32 : decode cX0_findMinors 32 = .ok (.aload_n 0, 1) := by decide +kernel
theorem dX0_findMinors_33 : decode cX0_findMinors 33 = .ok (.getfield 36, 3) := by decide +kernel
theorem dX0_findMinors_36 : decode cX0_findMinors 36 = .ok (.iload_n 2, 1) := by decide +kernel
theorem dX0_findMinors_37 : decode cX0_findMinors 37 = .ok (.iload_n 3, 1) := by decide +kernel
theorem dX0_findMinors_38 : decode cX0_findMinors 38 = .ok (.aload_n 0, 1) := by decide +kernel
theorem dX0_findMinors_39 : decode cX0_findMinors 39 = .ok (.getfield 59, 3) := by decide +kernel
theorem dX0_findMinors_42 : decode cX0_findMinors 42 = .ok (.if_icmp .ge 12, 3) := by decide +kernel
theorem dX0_findMinors_45 : decode cX0_findMinors 45 = .ok (.aload_n 0, 1) := by decide +kernel
theorem dX0_findMinors_46 : decode cX0_findMinors 46 = .ok (.iload_n 3, 1) := by decide +kernel
theorem dX0_findMinors_47 : decode cX0_findMinors 47 = .ok (.iload_n 2, 1) := by decide +kernel
theorem dX0_findMinors_48 : decode cX0_findMinors 48 = .ok (.invokevirtual 206, 3) := by decide +kernel
theorem dX0_findMinors_51 : decode cX0_findMinors 51 = .ok (.goto 4, 3) := by decide +kernel
theorem dX0_findMinors_54 : decode cX0_findMinors 54 = .ok (.lconst 0, 1) := by decide +kernel
theorem dX0_findMinors_55 : decode cX0_findMinors 55 = .ok (.lastore, 1) := by decide +kernel
theorem dX0_findMinors_56 : decode cX0_findMinors 56 = .ok (.iinc 2 1, 3) := by decide +kernel
theorem dX0_findMinors_59 : decode cX0_findMinors 59 = .ok (.goto (-50), 3) := by decide +kernel
theorem dX0_findMinors_62 : decode cX0_findMinors 62 = .ok (.return_, 1) := by decide +kernel
theorem dX0_expanded_0 : decode cX0_expanded 0 = .ok (.lconst 0, 1) := by decide +kernel
theorem dX0_expanded_1 : decode cX0_expanded 1 = .ok (.lstore_n 3, 1) := by decide +kernel
theorem dX0_expanded_2 : decode cX0_expanded 2 = .ok (.lconst 1, 1) := by decide +kernel
theorem dX0_expanded_3 : decode cX0_expanded 3 = .ok (.lstore 5, 2) := by decide +kernel
theorem dX0_expanded_5 : decode cX0_expanded 5 = .ok (.aload_n 0, 1) := by decide +kernel
theorem dX0_expanded_6 : decode cX0_expanded 6 = .ok (.getfield 59, 3) := by decide +kernel
theorem dX0_expanded_9 : decode cX0_expanded 9 = .ok (.iconst 1, 1) := by decide +kernel
theorem dX0_expanded_10 : decode cX0_expanded 10 = .ok (.isub, 1) := by decide +kernel
theorem dX0_expanded_11 : decode cX0_expanded 11 = .ok (.istore 7, 2) := by decide +kernel
theorem dX0_expanded_13 : decode cX0_expanded 13 = .ok (.iload 7, 2) := by decide +kernel
theorem dX0_expanded_15 : decode cX0_expanded 15 = .ok (.ifCond .lt 53, 3) := by decide +kernel
theorem dX0_expanded_18 : decode cX0_expanded 18 = .ok (.iconst 1, 1) := by decide +kernel
theorem dX0_expanded_19 : decode cX0_expanded 19 = .ok (.iload 7, 2) := by decide +kernel
theorem dX0_expanded_21 : decode cX0_expanded 21 = .ok (.ishl, 1) := by decide +kernel
theorem dX0_expanded_22 : decode cX0_expanded 22 = .ok (.istore 8, 2) := by decide +kernel
theorem dX0_expanded_24 : decode cX0_expanded 24 = .ok (.iload_n 2, 1) := by decide +kernel
theorem dX0_expanded_25 : decode cX0_expanded 25 = .ok (.iload 8, 2) := by decide +kernel
theorem dX0_expanded_27 : decode cX0_expanded 27 = .ok (.iand, 1) := by decide +kernel
theorem dX0_expanded_28 : decode cX0_expanded 28 = .ok (.ifCond .eq 34, 3) := by decide +kernel
theorem dX0_expanded_31 : decode cX0_expanded 31 = .ok (.lload_n 3, 1) := by decide +kernel
theorem dX0_expanded_32 : decode cX0_expanded 32 = .ok (.lload 5, 2) := by decide +kernel
theorem dX0_expanded_34 : decode cX0_expanded 34 = .ok (.aload_n 0, 1) := by decide +kernel
theorem dX0_expanded_35 : decode cX0_expanded 35 = .ok (.getfield 11, 3) := by decide +kernel
theorem dX0_expanded_38 : decode cX0_expanded 38 = .ok (.iload_n 1, 1) := by decide +kernel
theorem dX0_expanded_39 : decode cX0_expanded 39 = .ok (.aaload, 1) := by decide +kernel
theorem dX0_expanded_40 : decode cX0_expanded 40 = .ok (.iload 7, 2) := by decide +kernel
theorem dX0_expanded_42 : decode cX0_expanded 42 = .ok (.iaload, 1) := by decide +kernel
theorem dX0_expanded_43 : decode cX0_expanded 43 = .ok (.i2l, 1) := by decide +kernel
theorem dX0_expanded_44 : decode cX0_expanded 44 = .ok (.lmul, 1) := by decide +kernel
theorem dX0_expanded_45 : decode cX0_expanded 45 = .ok (.aload_n 0, 1) := by decide +kernel
theorem dX0_expanded_46 : decode cX0_expanded 46 = .ok (.getfield 36, 3) := by decide +kernel
theorem dX0_expanded_49 : decode cX0_expanded 49 = .ok (.iload_n 2, 1) := by decide +kernel
theorem dX0_expanded_50 : decode cX0_expanded 50 = .ok (.iload 8, 2) := by decide +kernel
theorem dX0_expanded_52 : decode cX0_expanded 52 = .ok (.ixor, 1) := by decide +kernel
theorem dX0_expanded_53 : decode cX0_expanded 53 = .ok (.laload, 1) := by decide +kernel
theorem dX0_expanded_54 : decode cX0_expanded 54 = .ok (.lmul, 1) := by decide +kernel
theorem dX0_expanded_55 : decode cX0_expanded 55 = .ok (.ladd, 1) := by decide +kernel
theorem dX0_expanded_56 : decode cX0_expanded 56 = .ok (.lstore_n 3, 1) := by decide +kernel
theorem dX0_expanded_57 : decode cX0_expanded 57 = .ok (.lload 5, 2) := by decide +kernel
theorem dX0_expanded_59 : decode cX0_expanded 59 = .ok (.lneg, 1) := by decide +kernel
theorem dX0_expanded_60 : decode cX0_expanded 60 = .ok (.lstore 5, 2) := by decide +kernel
theorem dX0_expanded_62 : decode cX0_expanded 62 = .ok (.iinc 7 (-1), 3) := by decide +kernel
theorem dX0_expanded_65 : decode cX0_expanded 65 = .ok (.goto (-52), 3) := by decide +kernel
theorem dX0_expanded_68 : decode cX0_expanded 68 = .ok (.lload_n 3, 1) := by decide +kernel
theorem dX0_expanded_69 : decode cX0_expanded 69 = .ok (.lreturn, 1) := by decide +kernel
set_option maxRecDepth 20000 in
theorem ggX0_invert_X0_determinant : GoodIn wsX0_invert wsX0_determinant := goodIn_r _ [14, 6, 9, 15, 16, 17, 13, 18, 19, 20, 21, 22, 23, 24, 25, 26, 27, 28, 29, 30, 31, 32, 33, 34, 35, 36, 37, 38, 39, 40, 41, 42, 43, 44, 45, 46, 47] (by decide +kernel) (by decide +kernel)
set_option maxRecDepth 20000 in
theorem gX0_invert_X0_determinant : GoodIn wsX0_invert (wsV RX0 197 RX0 yX0_determinant wsX0_determinant) := goodIn_app (goodIn_of _ (by decide +kernel)) ggX0_invert_X0_determinant
set_option maxRecDepth 20000 in
theorem ggX0_invert_X0_findMinors : GoodIn wsX0_invert wsX0_findMinors := goodIn_r _ [18, 9, 6, 19, 20, 21, 13, 22, 23, 24, 25, 26, 27, 28, 29, 30, 31, 32, 33, 34, 35, 36, 37, 38, 39, 40, 41, 42, 43, 44, 45, 46, 47] (by decide +kernel) (by decide +kernel)
set_option maxRecDepth 20000 in
theorem gX0_invert_X0_findMinors : GoodIn wsX0_invert (wsV RX0 112 RX0 yX0_findMinors wsX0_findMinors) := goodIn_app (goodIn_of _ (by decide +kernel)) ggX0_invert_X0_findMinors
set_option maxRecDepth 20000 in
theorem ggX0_invert_X0_allColumns : GoodIn wsX0_invert wsX0_allColumns := goodIn_r _ [22, 6, 35, 36, 37, 38, 39, 40, 41, 42, 43, 44, 45, 46, 47] (by decide +kernel) (by decide +kernel)
set_option maxRecDepth 20000 in
theorem gX0_invert_X0_allColumns : GoodIn wsX0_invert (wsV RX0 115 RX0 yX0_allColumns wsX0_allColumns) := goodIn_app (goodIn_of _ (by decide +kernel)) ggX0_invert_X0_allColumns
theorem dX0_invert_0 : decode cX0_invert 0 = .ok (.aload_n 0, 1) := by decide +kernel
theorem dX0_invert_1 : decode cX0_invert 1 = .ok (.invokevirtual 197, 3) := by decide +kernel
theorem dX0_invert_4 : decode cX0_invert 4 = .ok (.lstore_n 1, 1) := by decide +kernel
theorem dX0_invert_5 : decode cX0_invert 5 = .ok (.lload_n 1, 1) := by decide +kernel
theorem dX0_invert_6 : decode cX0_invert 6 = .ok (.lconst 0, 1) := by decide +kernel
theorem dX0_invert_7 : decode cX0_invert 7 = .ok (.lcmp, 1) := by decide +kernel
theorem dX0_invert_8 : decode cX0_invert 8 = .ok (.ifCond .ne 5, 3) := by decide +kernel
theorem dX0_invert_11 : decode cX0_invert 11 = .ok (.iconst 0, 1) := by decide +kernel
theorem dX0_invert_12 : decode cX0_invert 12 = .ok (.ireturn, 1) := by decide +kernel
theorem dX0_invert_13 : decode cX0_invert 13 = .ok (.aload_n 0, 1) := by decide +kernel
theorem dX0_invert_14 : decode cX0_invert 14 = .ok (.lload_n 1, 1) := by decide +kernel
theorem dX0_invert_15 : decode cX0_invert 15 = .ok (.invokestatic 148, 3) := by decide +kernel
theorem dX0_invert_18 : decode cX0_invert 18 = .ok (.putfield 131, 3) := by decide +kernel
theorem dX0_invert_21 : decode cX0_invert 21 = .ok (.iconst 0, 1) := by decide +kernel
theorem dX0_invert_22 : decode cX0_invert 22 = .ok (.istore_n 3, 1) := by decide +kernel
theorem dX0_invert_23 : decode cX0_invert 23 = .ok (.iload_n 3, 1) := by decide +kernel
theorem dX0_invert_24 : decode cX0_invert 24 = .ok (.aload_n 0, 1) := by decide +kernel
theorem dX0_invert_25 : decode cX0_invert 25 = .ok (.getfield 59, 3) := by decide +kernel
theorem dX0_invert_28 : decode cX0_invert 28 = .ok (.if_icmp .ge 97, 3) := by decide +kernel
theorem dX0_invert_31 : decode cX0_invert 31 = .ok (.aload_n 0, 1) := by decide +kernel
theorem dX0_invert_32 : decode cX0_invert 32 = .ok (.iload_n 3, 1) := by decide +kernel
theorem dX0_invert_33 : decode cX0_invert 33 = .ok (.invokevirtual 112, 3) := by decide +kernel
theorem dX0_invert_36 : decode cX0_invert 36 = .ok (.lload_n 1, 1) := by decide +kernel
theorem dX0_invert_37 : decode cX0_invert 37 = .ok (.lconst 0, 1) := by decide +kernel
theorem dX0_invert_38 : decode cX0_invert 38 = .ok (.lcmp, 1) := by decide +kernel
theorem dX0_invert_39 : decode cX0_invert 39 = .ok (.ifCond .ge 7, 3) := by decide +kernel
theorem dX0_invert_42 : decode cX0_invert 42 = .ok (.iconst 1, 1) := by decide +kernel
theorem dX0_invert_43 : decode cX0_invert 43 = .ok (.goto 4, 3) := by decide +kernel
theorem dX0_invert_46 : decode cX0_invert 46 = .ok (.iconst 0, 1) := by decide +kernel
theorem dX0_invert_47 : decode cX0_invert 47 = .ok (.iload_n 3, 1) := by decide +kernel
theorem dX0_invert_48 : decode cX0_invert 48 = .ok (.iconst 2, 1) := by decide +kernel
theorem dX0_invert_49 : decode cX0_invert 49 = .ok (.irem, 1) := by decide +kernel
theorem dX0_invert_50 : decode cX0_invert 50 = .ok (.ifCond .ne 7, 3) := by decide +kernel
theorem dX0_invert_53 : decode cX0_invert 53 = .ok (.iconst 1, 1) := by decide +kernel
theorem dX0_invert_54 : decode cX0_invert 54 = .ok (.goto 4, 3) := by decide +kernel
theorem dX0_invert_57 : decode cX0_invert 57 = .ok (.iconst 0, 1) := by decide +kernel
theorem dX0_invert_58 : decode cX0_invert 58 = .ok (.if_icmp .ne 9, 3) := by decide +kernel
theorem dX0_invert_61 : decode cX0_invert 61 = .ok (.ldc2_w 210, 3) := by decide +kernel
theorem dX0_invert_64 : decode cX0_invert 64 = .ok (.goto 4, 3) := by decide +kernel
theorem dX0_invert_67 : decode cX0_invert 67 = .ok (.lconst 1, 1) := by decide +kernel
theorem dX0_invert_68 : decode cX0_invert 68 = .ok (.lstore 4, 2) := by decide +kernel
theorem dX0_invert_70 : decode cX0_invert 70 = .ok (.iconst 0, 1) := by decide +kernel
theorem dX0_invert_71 : decode cX0_invert 71 = .ok (.istore 6, 2) := by decide +kernel
theorem dX0_invert_73 : decode cX0_invert 73 = .ok (.iload 6, 2) := by decide +kernel
theorem dX0_invert_75 : decode cX0_invert 75 = .ok (.aload_n 0, 1) := by decide +kernel
theorem dX0_invert_76 : decode cX0_invert 76 = .ok (.getfield 59, 3) := by decide +kernel
theorem dX0_invert_79 : decode cX0_invert 79 = .ok (.if_icmp .ge 40, 3) := by decide +kernel
theorem dX0_invert_82 : decode cX0_invert 82 = .ok (.aload_n 0, 1) := by decide +kernel
theorem dX0_invert_83 : decode cX0_invert 83 = .ok (.getfield 45, 3) := by decide +kernel
theorem dX0_invert_86 : decode cX0_invert 86 = .ok (.iload 6, 2) := by decide +kernel
theorem dX0_invert_88 : decode cX0_invert 88 = .ok (.aaload, 1) := by decide +kernel
theorem dX0_invert_89 : decode cX0_invert 89 = .ok (.iload_n 3, 1) := by decide +kernel
theorem dX0_invert_90 : decode cX0_invert 90 = .ok (.lload 4, 2) := by decide +kernel
theorem dX0_invert_92 : decode cX0_invert 92 = .ok (.aload_n 0, 1) := by decide +kernel
theorem dX0_invert_93 : decode cX0_invert 93 = .ok (.getfield 36, 3) := by decide +kernel
theorem dX0_invert_96 : decode cX0_invert 96 = .ok (.aload_n 0, 1) := by decide +kernel
theorem dX0_invert_97 : decode cX0_invert 97 = .ok (.invokevirtual 115, 3) := by decide +kernel
theorem dX0_invert_100 : decode cX0_invert 100 = .ok (.iconst 1, 1) := by decide +kernel
theorem dX0_invert_101 : decode cX0_invert 101 = .ok (.iload 6, 2) := by decide +kernel
theorem dX0_invert_103 : decode cX0_invert 103 = .ok (.ishl, 1) := by decide +kernel
theorem dX0_invert_104 : decode cX0_invert 104 = .ok (.ixor, 1) := by decide +kernel
theorem dX0_invert_105 : decode cX0_invert 105 = .ok (.laload, 1) := by decide +kernel
theorem dX0_invert_106 : decode cX0_invert 106 = .ok (.lmul, 1) := by decide +kernel
theorem dX0_invert_107 : decode cX0_invert 107 = .ok (.lastore, 1) := by decide +kernel
theorem dX0_invert_108 : decode cX0_invert 108 = .ok (.lload 4, 2) := by decide +kernel
theorem dX0_invert_110 : decode cX0_invert 110 = .ok (.lneg, 1) := by decide +kernel
theorem dX0_invert_111 : decode cX0_invert 111 = .ok (.lstore 4, 2) := by decide +kernel
theorem dX0_invert_113 : decode cX0_invert 113 = .ok (.iinc 6 1, 3) := by decide +kernel
theorem dX0_invert_116 : decode cX0_invert 116 = .ok (.goto (-43), 3) := by decide +kernel
theorem dX0_invert_119 : decode cX0_invert 119 = .ok (.iinc 3 1, 3) := by decide +kernel
theorem dX0_invert_122 : decode cX0_invert 122 = .ok (.goto (-99), 3) := by decide +kernel
theorem dX0_invert_125 : decode cX0_invert 125 = .ok (.iconst 1, 1) := by decide +kernel
theorem dX0_invert_126 : decode cX0_invert 126 = .ok (.ireturn, 1) := by decide +kernel
theorem dX0_scaledHullLow_0 : decode cX0_scaledHullLow 0 = .ok (.lconst 0, 1) := by decide +kernel
theorem dX0_scaledHullLow_1 : decode cX0_scaledHullLow 1 = .ok (.lstore_n 2, 1) := by decide +kernel
theorem dX0_scaledHullLow_2 : decode cX0_scaledHullLow 2 = .ok (.iconst 0, 1) := by decide +kernel
theorem dX0_scaledHullLow_3 : decode cX0_scaledHullLow 3 = .ok (.istore 4, 2) := by decide +kernel
theorem dX0_scaledHullLow_5 : decode cX0_scaledHullLow 5 = .ok (.iload 4, 2) := by decide +kernel
theorem dX0_scaledHullLow_7 : decode cX0_scaledHullLow 7 = .ok (.aload_n 0, 1) := by decide +kernel
theorem dX0_scaledHullLow_8 : decode cX0_scaledHullLow 8 = .ok (.getfield 59, 3) := by decide +kernel
theorem dX0_scaledHullLow_11 : decode cX0_scaledHullLow 11 = .ok (.if_icmp .ge 51, 3) := by decide +kernel
theorem dX0_scaledHullLow_14 : decode cX0_scaledHullLow 14 = .ok (.aload_n 0, 1) := by decide +kernel
theorem dX0_scaledHullLow_15 : decode cX0_scaledHullLow 15 = .ok (.getfield 45, 3) := by decide +kernel
theorem dX0_scaledHullLow_18 : decode cX0_scaledHullLow 18 = .ok (.iload_n 1, 1) := by decide +kernel
theorem dX0_scaledHullLow_19 : decode cX0_scaledHullLow 19 = .ok (.aaload, 1) := by decide +kernel
theorem dX0_scaledHullLow_20 : decode cX0_scaledHullLow 20 = .ok (.iload 4, 2) := by decide +kernel
theorem dX0_scaledHullLow_22 : decode cX0_scaledHullLow 22 = .ok (.laload, 1) := by decide +kernel
theorem dX0_scaledHullLow_23 : decode cX0_scaledHullLow 23 = .ok (.lstore 5, 2) := by decide +kernel
theorem dX0_scaledHullLow_25 : decode cX0_scaledHullLow 25 = .ok (.lload_n 2, 1) := by decide +kernel
theorem dX0_scaledHullLow_26 : decode cX0_scaledHullLow 26 = .ok (.lload 5, 2) := by decide +kernel
theorem dX0_scaledHullLow_28 : decode cX0_scaledHullLow 28 = .ok (.lload 5, 2) := by decide +kernel
theorem dX0_scaledHullLow_30 : decode cX0_scaledHullLow 30 = .ok (.lconst 0, 1) := by decide +kernel
theorem dX0_scaledHullLow_31 : decode cX0_scaledHullLow 31 = .ok (.lcmp, 1) := by decide +kernel
theorem dX0_scaledHullLow_32 : decode cX0_scaledHullLow 32 = .ok (.ifCond .ge 13, 3) := by decide +kernel
theorem dX0_scaledHullLow_35 : decode cX0_scaledHullLow 35 = .ok (.aload_n 0, 1) := by decide +kernel
theorem dX0_scaledHullLow_36 : decode cX0_scaledHullLow 36 = .ok (.getfield 21, 3) := by decide +kernel
theorem dX0_scaledHullLow_39 : decode cX0_scaledHullLow 39 = .ok (.iload 4, 2) := by decide +kernel
theorem dX0_scaledHullLow_41 : decode cX0_scaledHullLow 41 = .ok (.iaload, 1) := by decide +kernel
theorem dX0_scaledHullLow_42 : decode cX0_scaledHullLow 42 = .ok (.goto 10, 3) := by decide +kernel
theorem dX0_scaledHullLow_45 : decode cX0_scaledHullLow 45 = .ok (.aload_n 0, 1) := by decide +kernel
theorem dX0_scaledHullLow_46 : decode cX0_scaledHullLow 46 = .ok (.getfield 17, 3) := by decide +kernel
theorem dX0_scaledHullLow_49 : decode cX0_scaledHullLow 49 = .ok (.iload 4, 2) := by decide +kernel
theorem dX0_scaledHullLow_51 : decode cX0_scaledHullLow 51 = .ok (.iaload, 1) := by decide +kernel
theorem dX0_scaledHullLow_52 : decode cX0_scaledHullLow 52 = .ok (.i2l, 1) := by decide +kernel
theorem dX0_scaledHullLow_53 : decode cX0_scaledHullLow 53 = .ok (.lmul, 1) := by decide +kernel
theorem dX0_scaledHullLow_54 : decode cX0_scaledHullLow 54 = .ok (.ladd, 1) := by decide +kernel
theorem dX0_scaledHullLow_55 : decode cX0_scaledHullLow 55 = .ok (.lstore_n 2, 1) := by decide +kernel
theorem dX0_scaledHullLow_56 : decode cX0_scaledHullLow 56 = .ok (.iinc 4 1, 3) := by decide +kernel
theorem dX0_scaledHullLow_59 : decode cX0_scaledHullLow 59 = .ok (.goto (-54), 3) := by decide +kernel
theorem dX0_scaledHullLow_62 : decode cX0_scaledHullLow 62 = .ok (.lload_n 2, 1) := by decide +kernel
theorem dX0_scaledHullLow_63 : decode cX0_scaledHullLow 63 = .ok (.lreturn, 1) := by decide +kernel
theorem dX0_scaledHullHigh_0 : decode cX0_scaledHullHigh 0 = .ok (.lconst 0, 1) := by decide +kernel
theorem dX0_scaledHullHigh_1 : decode cX0_scaledHullHigh 1 = .ok (.lstore_n 2, 1) := by decide +kernel
theorem dX0_scaledHullHigh_2 : decode cX0_scaledHullHigh 2 = .ok (.iconst 0, 1) := by decide +kernel
theorem dX0_scaledHullHigh_3 : decode cX0_scaledHullHigh 3 = .ok (.istore 4, 2) := by decide +kernel
theorem dX0_scaledHullHigh_5 : decode cX0_scaledHullHigh 5 = .ok (.iload 4, 2) := by decide +kernel
theorem dX0_scaledHullHigh_7 : decode cX0_scaledHullHigh 7 = .ok (.aload_n 0, 1) := by decide +kernel
theorem dX0_scaledHullHigh_8 : decode cX0_scaledHullHigh 8 = .ok (.getfield 59, 3) := by decide +kernel
theorem dX0_scaledHullHigh_11 : decode cX0_scaledHullHigh 11 = .ok (.if_icmp .ge 51, 3) := by decide +kernel
theorem dX0_scaledHullHigh_14 : decode cX0_scaledHullHigh 14 = .ok (.aload_n 0, 1) := by decide +kernel
theorem dX0_scaledHullHigh_15 : decode cX0_scaledHullHigh 15 = .ok (.getfield 45, 3) := by decide +kernel
theorem dX0_scaledHullHigh_18 : decode cX0_scaledHullHigh 18 = .ok (.iload_n 1, 1) := by decide +kernel
theorem dX0_scaledHullHigh_19 : decode cX0_scaledHullHigh 19 = .ok (.aaload, 1) := by decide +kernel
theorem dX0_scaledHullHigh_20 : decode cX0_scaledHullHigh 20 = .ok (.iload 4, 2) := by decide +kernel
theorem dX0_scaledHullHigh_22 : decode cX0_scaledHullHigh 22 = .ok (.laload, 1) := by decide +kernel
theorem dX0_scaledHullHigh_23 : decode cX0_scaledHullHigh 23 = .ok (.lstore 5, 2) := by decide +kernel
theorem dX0_scaledHullHigh_25 : decode cX0_scaledHullHigh 25 = .ok (.lload_n 2, 1) := by decide +kernel
theorem dX0_scaledHullHigh_26 : decode cX0_scaledHullHigh 26 = .ok (.lload 5, 2) := by decide +kernel
theorem dX0_scaledHullHigh_28 : decode cX0_scaledHullHigh 28 = .ok (.lload 5, 2) := by decide +kernel
theorem dX0_scaledHullHigh_30 : decode cX0_scaledHullHigh 30 = .ok (.lconst 0, 1) := by decide +kernel
theorem dX0_scaledHullHigh_31 : decode cX0_scaledHullHigh 31 = .ok (.lcmp, 1) := by decide +kernel
theorem dX0_scaledHullHigh_32 : decode cX0_scaledHullHigh 32 = .ok (.ifCond .ge 13, 3) := by decide +kernel
theorem dX0_scaledHullHigh_35 : decode cX0_scaledHullHigh 35 = .ok (.aload_n 0, 1) := by decide +kernel
theorem dX0_scaledHullHigh_36 : decode cX0_scaledHullHigh 36 = .ok (.getfield 17, 3) := by decide +kernel
theorem dX0_scaledHullHigh_39 : decode cX0_scaledHullHigh 39 = .ok (.iload 4, 2) := by decide +kernel
theorem dX0_scaledHullHigh_41 : decode cX0_scaledHullHigh 41 = .ok (.iaload, 1) := by decide +kernel
theorem dX0_scaledHullHigh_42 : decode cX0_scaledHullHigh 42 = .ok (.goto 10, 3) := by decide +kernel
theorem dX0_scaledHullHigh_45 : decode cX0_scaledHullHigh 45 = .ok (.aload_n 0, 1) := by decide +kernel
theorem dX0_scaledHullHigh_46 : decode cX0_scaledHullHigh 46 = .ok (.getfield 21, 3) := by decide +kernel
theorem dX0_scaledHullHigh_49 : decode cX0_scaledHullHigh 49 = .ok (.iload 4, 2) := by decide +kernel
theorem dX0_scaledHullHigh_51 : decode cX0_scaledHullHigh 51 = .ok (.iaload, 1) := by decide +kernel
theorem dX0_scaledHullHigh_52 : decode cX0_scaledHullHigh 52 = .ok (.i2l, 1) := by decide +kernel
theorem dX0_scaledHullHigh_53 : decode cX0_scaledHullHigh 53 = .ok (.lmul, 1) := by decide +kernel
theorem dX0_scaledHullHigh_54 : decode cX0_scaledHullHigh 54 = .ok (.ladd, 1) := by decide +kernel
theorem dX0_scaledHullHigh_55 : decode cX0_scaledHullHigh 55 = .ok (.lstore_n 2, 1) := by decide +kernel
theorem dX0_scaledHullHigh_56 : decode cX0_scaledHullHigh 56 = .ok (.iinc 4 1, 3) := by decide +kernel
theorem dX0_scaledHullHigh_59 : decode cX0_scaledHullHigh 59 = .ok (.goto (-54), 3) := by decide +kernel
theorem dX0_scaledHullHigh_62 : decode cX0_scaledHullHigh 62 = .ok (.lload_n 2, 1) := by decide +kernel
theorem dX0_scaledHullHigh_63 : decode cX0_scaledHullHigh 63 = .ok (.lreturn, 1) := by decide +kernel
set_option maxRecDepth 20000 in
theorem ggX0_reduced_X0_greatestCommonDivisor : GoodIn wsX0_reduced wsX0_greatestCommonDivisor := goodIn_r _ [4, 5, 6, 7, 8] (by decide +kernel) (by decide +kernel)
set_option maxRecDepth 20000 in
theorem gX0_reduced_X0_greatestCommonDivisor : GoodIn wsX0_reduced (va_wsS RX0 212 yX0_greatestCommonDivisor wsX0_greatestCommonDivisor) := goodIn_app (goodIn_of _ (by decide +kernel)) ggX0_reduced_X0_greatestCommonDivisor
theorem dX0_reduced_0 : decode cX0_reduced 0 = .ok (.lload_n 0, 1) := by decide +kernel
theorem dX0_reduced_1 : decode cX0_reduced 1 = .ok (.lload_n 2, 1) := by decide +kernel
theorem dX0_reduced_2 : decode cX0_reduced 2 = .ok (.invokestatic 212, 3) := by decide +kernel
theorem dX0_reduced_5 : decode cX0_reduced 5 = .ok (.lstore 4, 2) := by decide +kernel
theorem dX0_reduced_7 : decode cX0_reduced 7 = .ok (.lload 4, 2) := by decide +kernel
theorem dX0_reduced_9 : decode cX0_reduced 9 = .ok (.lconst 0, 1) := by decide +kernel
theorem dX0_reduced_10 : decode cX0_reduced 10 = .ok (.lcmp, 1) := by decide +kernel
theorem dX0_reduced_11 : decode cX0_reduced 11 = .ok (.ifCond .ne 7, 3) := by decide +kernel
theorem dX0_reduced_14 : decode cX0_reduced 14 = .ok (.lload_n 0, 1) := by decide +kernel
theorem dX0_reduced_15 : decode cX0_reduced 15 = .ok (.goto 7, 3) := by decide +kernel
theorem dX0_reduced_18 : decode cX0_reduced 18 = .ok (.lload_n 0, 1) := by decide +kernel
theorem dX0_reduced_19 : decode cX0_reduced 19 = .ok (.lload 4, 2) := by decide +kernel
theorem dX0_reduced_21 : decode cX0_reduced 21 = .ok (.ldiv, 1) := by decide +kernel
theorem dX0_reduced_22 : decode cX0_reduced 22 = .ok (.lreturn, 1) := by decide +kernel
theorem dX0_greatestCommonDivisor_0 : decode cX0_greatestCommonDivisor 0 = .ok (.lload_n 0, 1) := by decide +kernel
theorem dX0_greatestCommonDivisor_1 : decode cX0_greatestCommonDivisor 1 = .ok (.invokestatic 148, 3) := by decide +kernel
theorem dX0_greatestCommonDivisor_4 : decode cX0_greatestCommonDivisor 4 = .ok (.lstore 4, 2) := by decide +kernel
theorem dX0_greatestCommonDivisor_6 : decode cX0_greatestCommonDivisor 6 = .ok (.lload_n 2, 1) := by decide +kernel
theorem dX0_greatestCommonDivisor_7 : decode cX0_greatestCommonDivisor 7 = .ok (.invokestatic 148, 3) := by decide +kernel
theorem dX0_greatestCommonDivisor_10 : decode cX0_greatestCommonDivisor 10 = .ok (.lstore 6, 2) := by decide +kernel
theorem dX0_greatestCommonDivisor_12 : decode cX0_greatestCommonDivisor 12 = .ok (.iconst 0, 1) := by decide +kernel
theorem dX0_greatestCommonDivisor_13 : decode cX0_greatestCommonDivisor 13 = .ok (.istore 8, 2) := by decide +kernel
theorem dX0_greatestCommonDivisor_15 : decode cX0_greatestCommonDivisor 15 = .ok (.iload 8, 2) := by decide +kernel
theorem dX0_greatestCommonDivisor_17 : decode cX0_greatestCommonDivisor 17 = .ok (.bipush 100, 2) := by decide +kernel
theorem dX0_greatestCommonDivisor_19 : decode cX0_greatestCommonDivisor 19 = .ok (.if_icmp .ge 31, 3) := by decide +kernel
theorem dX0_greatestCommonDivisor_22 : decode cX0_greatestCommonDivisor 22 = .ok (.lload 6, 2) := by decide +kernel
theorem dX0_greatestCommonDivisor_24 : decode cX0_greatestCommonDivisor 24 = .ok (.lconst 0, 1) := by decide +kernel
theorem dX0_greatestCommonDivisor_25 : decode cX0_greatestCommonDivisor 25 = .ok (.lcmp, 1) := by decide +kernel
theorem dX0_greatestCommonDivisor_26 : decode cX0_greatestCommonDivisor 26 = .ok (.ifCond .eq 24, 3) := by decide +kernel
theorem dX0_greatestCommonDivisor_29 : decode cX0_greatestCommonDivisor 29 = .ok (.lload 4, 2) := by decide +kernel
theorem dX0_greatestCommonDivisor_31 : decode cX0_greatestCommonDivisor 31 = .ok (.lload 6, 2) := by decide +kernel
theorem dX0_greatestCommonDivisor_33 : decode cX0_greatestCommonDivisor 33 = .ok (.lrem, 1) := by decide +kernel
theorem dX0_greatestCommonDivisor_34 : decode cX0_greatestCommonDivisor 34 = .ok (.lstore 9, 2) := by decide +kernel
theorem dX0_greatestCommonDivisor_36 : decode cX0_greatestCommonDivisor 36 = .ok (.lload 6, 2) := by decide +kernel
theorem dX0_greatestCommonDivisor_38 : decode cX0_greatestCommonDivisor 38 = .ok (.lstore 4, 2) := by decide +kernel
theorem dX0_greatestCommonDivisor_40 : decode cX0_greatestCommonDivisor 40 = .ok (.lload 9, 2) := by decide +kernel
theorem dX0_greatestCommonDivisor_42 : decode cX0_greatestCommonDivisor 42 = .ok (.lstore 6, 2) := by decide +kernel
theorem dX0_greatestCommonDivisor_44 : decode cX0_greatestCommonDivisor 44 = .ok (.iinc 8 1, 3) := by decide +kernel
theorem dX0_greatestCommonDivisor_47 : decode cX0_greatestCommonDivisor 47 = .ok (.goto (-32), 3) := by decide +kernel
theorem dX0_greatestCommonDivisor_50 : decode cX0_greatestCommonDivisor 50 = .ok (.lload 4, 2) := by decide +kernel
theorem dX0_greatestCommonDivisor_52 : decode cX0_greatestCommonDivisor 52 = .ok (.lreturn, 1) := by decide +kernel
theorem dX0_keepBox_0 : decode cX0_keepBox 0 = .ok (.aload_n 0, 1) := by decide +kernel
theorem dX0_keepBox_1 : decode cX0_keepBox 1 = .ok (.getfield 24, 3) := by decide +kernel
theorem dX0_keepBox_4 : decode cX0_keepBox 4 = .ok (.iconst 0, 1) := by decide +kernel
theorem dX0_keepBox_5 : decode cX0_keepBox 5 = .ok (.aload_n 0, 1) := by decide +kernel
theorem dX0_keepBox_6 : decode cX0_keepBox 6 = .ok (.getfield 30, 3) := by decide +kernel
theorem dX0_keepBox_9 : decode cX0_keepBox 9 = .ok (.iconst 0, 1) := by decide +kernel
theorem dX0_keepBox_10 : decode cX0_keepBox 10 = .ok (.iconst 5, 1) := by decide +kernel
theorem dX0_keepBox_11 : decode cX0_keepBox 11 = .ok (.invokestatic 215, 3) := by decide +kernel
theorem dX0_keepBox_14 : decode cX0_keepBox 14 = .ok (.aload_n 0, 1) := by decide +kernel
theorem dX0_keepBox_15 : decode cX0_keepBox 15 = .ok (.getfield 27, 3) := by decide +kernel
theorem dX0_keepBox_18 : decode cX0_keepBox 18 = .ok (.iconst 0, 1) := by decide +kernel
theorem dX0_keepBox_19 : decode cX0_keepBox 19 = .ok (.aload_n 0, 1) := by decide +kernel
theorem dX0_keepBox_20 : decode cX0_keepBox 20 = .ok (.getfield 33, 3) := by decide +kernel
theorem dX0_keepBox_23 : decode cX0_keepBox 23 = .ok (.iconst 0, 1) := by decide +kernel
theorem dX0_keepBox_24 : decode cX0_keepBox 24 = .ok (.iconst 5, 1) := by decide +kernel
theorem dX0_keepBox_25 : decode cX0_keepBox 25 = .ok (.invokestatic 215, 3) := by decide +kernel
theorem dX0_keepBox_28 : decode cX0_keepBox 28 = .ok (.return_, 1) := by decide +kernel
theorem dX0_restoreBox_0 : decode cX0_restoreBox 0 = .ok (.aload_n 0, 1) := by decide +kernel
theorem dX0_restoreBox_1 : decode cX0_restoreBox 1 = .ok (.getfield 30, 3) := by decide +kernel
theorem dX0_restoreBox_4 : decode cX0_restoreBox 4 = .ok (.iconst 0, 1) := by decide +kernel
theorem dX0_restoreBox_5 : decode cX0_restoreBox 5 = .ok (.aload_n 0, 1) := by decide +kernel
theorem dX0_restoreBox_6 : decode cX0_restoreBox 6 = .ok (.getfield 24, 3) := by decide +kernel
theorem dX0_restoreBox_9 : decode cX0_restoreBox 9 = .ok (.iconst 0, 1) := by decide +kernel
theorem dX0_restoreBox_10 : decode cX0_restoreBox 10 = .ok (.iconst 5, 1) := by decide +kernel
theorem dX0_restoreBox_11 : decode cX0_restoreBox 11 = .ok (.invokestatic 215, 3) := by decide +kernel
theorem dX0_restoreBox_14 : decode cX0_restoreBox 14 = .ok (.aload_n 0, 1) := by decide +kernel
theorem dX0_restoreBox_15 : decode cX0_restoreBox 15 = .ok (.getfield 33, 3) := by decide +kernel
theorem dX0_restoreBox_18 : decode cX0_restoreBox 18 = .ok (.iconst 0, 1) := by decide +kernel
theorem dX0_restoreBox_19 : decode cX0_restoreBox 19 = .ok (.aload_n 0, 1) := by decide +kernel
theorem dX0_restoreBox_20 : decode cX0_restoreBox 20 = .ok (.getfield 27, 3) := by decide +kernel
theorem dX0_restoreBox_23 : decode cX0_restoreBox 23 = .ok (.iconst 0, 1) := by decide +kernel
theorem dX0_restoreBox_24 : decode cX0_restoreBox 24 = .ok (.iconst 5, 1) := by decide +kernel
theorem dX0_restoreBox_25 : decode cX0_restoreBox 25 = .ok (.invokestatic 215, 3) := by decide +kernel
theorem dX0_restoreBox_28 : decode cX0_restoreBox 28 = .ok (.return_, 1) := by decide +kernel
set_option maxRecDepth 20000 in
theorem ggX0_contractBy_X0_quotientDown : GoodIn wsX0_contractBy wsX0_quotientDown := goodIn_r _ [11, 12, 13, 14, 15] (by decide +kernel) (by decide +kernel)
set_option maxRecDepth 20000 in
theorem gX0_contractBy_X0_quotientDown : GoodIn wsX0_contractBy (va_wsS RX0 223 yX0_quotientDown wsX0_quotientDown) := goodIn_app (goodIn_of _ (by decide +kernel)) ggX0_contractBy_X0_quotientDown
set_option maxRecDepth 20000 in
theorem ggX0_contractBy_X0_quotientUp : GoodIn wsX0_contractBy wsX0_quotientUp := goodIn_r _ [18, 8, 9, 10, 11, 12, 13, 14, 15] (by decide +kernel) (by decide +kernel)
set_option maxRecDepth 20000 in
theorem gX0_contractBy_X0_quotientUp : GoodIn wsX0_contractBy (va_wsS RX0 226 yX0_quotientUp wsX0_quotientUp) := goodIn_app (goodIn_of _ (by decide +kernel)) ggX0_contractBy_X0_quotientUp
set_option maxRecDepth 20000 in
theorem ggX0_contractBy_X0_intersect : GoodIn wsX0_contractBy wsX0_intersect := goodIn_r _ [22, 6, 23, 24, 25, 26, 7, 27, 28, 29, 30, 31, 32, 33, 34, 35, 36, 37, 38, 39, 40, 41, 42] (by decide +kernel) (by decide +kernel)
set_option maxRecDepth 20000 in
theorem gX0_contractBy_X0_intersect : GoodIn wsX0_contractBy (wsV RX0 183 RX0 yX0_intersect wsX0_intersect) := goodIn_app (goodIn_of _ (by decide +kernel)) ggX0_contractBy_X0_intersect
theorem dX0_contractBy_0 : decode cX0_contractBy 0 = .ok (.ldc2_w 221, 3) := by decide +kernel
theorem dX0_contractBy_3 : decode cX0_contractBy 3 = .ok (.aload_n 0, 1) := by decide +kernel
theorem dX0_contractBy_4 : decode cX0_contractBy 4 = .ok (.getfield 17, 3) := by decide +kernel
theorem dX0_contractBy_7 : decode cX0_contractBy 7 = .ok (.iload_n 1, 1) := by decide +kernel
theorem dX0_contractBy_8 : decode cX0_contractBy 8 = .ok (.iaload, 1) := by decide +kernel
theorem dX0_contractBy_9 : decode cX0_contractBy 9 = .ok (.i2l, 1) := by decide +kernel
theorem dX0_contractBy_10 : decode cX0_contractBy 10 = .ok (.lmul, 1) := by decide +kernel
theorem dX0_contractBy_11 : decode cX0_contractBy 11 = .ok (.lstore_n 2, 1) := by decide +kernel
theorem dX0_contractBy_12 : decode cX0_contractBy 12 = .ok (.ldc2_w 221, 3) := by decide +kernel
theorem dX0_contractBy_15 : decode cX0_contractBy 15 = .ok (.aload_n 0, 1) := by decide +kernel
theorem dX0_contractBy_16 : decode cX0_contractBy 16 = .ok (.getfield 21, 3) := by decide +kernel
theorem dX0_contractBy_19 : decode cX0_contractBy 19 = .ok (.iload_n 1, 1) := by decide +kernel
theorem dX0_contractBy_20 : decode cX0_contractBy 20 = .ok (.iaload, 1) := by decide +kernel
theorem dX0_contractBy_21 : decode cX0_contractBy 21 = .ok (.i2l, 1) := by decide +kernel
theorem dX0_contractBy_22 : decode cX0_contractBy 22 = .ok (.lmul, 1) := by decide +kernel
theorem dX0_contractBy_23 : decode cX0_contractBy 23 = .ok (.lstore 4, 2) := by decide +kernel
theorem dX0_contractBy_25 : decode cX0_contractBy 25 = .ok (.iconst 0, 1) := by decide +kernel
theorem dX0_contractBy_26 : decode cX0_contractBy 26 = .ok (.istore 6, 2) := by decide +kernel
theorem dX0_contractBy_28 : decode cX0_contractBy 28 = .ok (.iload 6, 2) := by decide +kernel
theorem dX0_contractBy_30 : decode cX0_contractBy 30 = .ok (.aload_n 0, 1) := by decide +kernel
theorem dX0_contractBy_31 : decode cX0_contractBy 31 = .ok (.getfield 59, 3) := by decide +kernel
theorem dX0_contractBy_34 : decode cX0_contractBy 34 = .ok (.if_icmp .ge 91, 3) := by decide +kernel
theorem dX0_contractBy_37 : decode cX0_contractBy 37 = .ok (.iload 6, 2) := by decide +kernel
theorem dX0_contractBy_39 : decode cX0_contractBy 39 = .ok (.iload_n 1, 1) := by decide +kernel
theorem dX0_contractBy_40 : decode cX0_contractBy 40 = .ok (.if_icmp .eq 79, 3) := by decide +kernel
theorem dX0_contractBy_43 : decode cX0_contractBy 43 = .ok (.aload_n 0, 1) := by decide +kernel
theorem dX0_contractBy_44 : decode cX0_contractBy 44 = .ok (.getfield 11, 3) := by decide +kernel
theorem dX0_contractBy_47 : decode cX0_contractBy 47 = .ok (.iload_n 1, 1) := by decide +kernel
theorem dX0_contractBy_48 : decode cX0_contractBy 48 = .ok (.aaload, 1) := by decide +kernel
theorem dX0_contractBy_49 : decode cX0_contractBy 49 = .ok (.iload 6, 2) := by decide +kernel
theorem dX0_contractBy_51 : decode cX0_contractBy 51 = .ok (.iaload, 1) := by decide +kernel
theorem dX0_contractBy_52 : decode cX0_contractBy 52 = .ok (.i2l, 1) := by decide +kernel
theorem dX0_contractBy_53 : decode cX0_contractBy 53 = .ok (.lstore 7, 2) := by decide +kernel
theorem dX0_contractBy_55 : decode cX0_contractBy 55 = .ok (.lload_n 2, 1) := by decide +kernel
theorem dX0_contractBy_56 : decode cX0_contractBy 56 = .ok (.lload 7, 2) := by decide +kernel
theorem dX0_contractBy_58 : decode cX0_contractBy 58 = .ok (.lload 7, 2) := by decide +kernel
theorem dX0_contractBy_60 : decode cX0_contractBy 60 = .ok (.lconst 0, 1) := by decide +kernel
theorem dX0_contractBy_61 : decode cX0_contractBy 61 = .ok (.lcmp, 1) := by decide +kernel
theorem dX0_contractBy_62 : decode cX0_contractBy 62 = .ok (.ifCond .ge 13, 3) := by decide +kernel
theorem dX0_contractBy_65 : decode cX0_contractBy 65 = .ok (.aload_n 0, 1) := by decide +kernel
theorem dX0_contractBy_66 : decode cX0_contractBy 66 = .ok (.getfield 24, 3) := by decide +kernel
theorem dX0_contractBy_69 : decode cX0_contractBy 69 = .ok (.iload 6, 2) := by decide +kernel
theorem dX0_contractBy_71 : decode cX0_contractBy 71 = .ok (.iaload, 1) := by decide +kernel
theorem dX0_contractBy_72 : decode cX0_contractBy 72 = .ok (.goto 10, 3) := by decide +kernel
theorem dX0_contractBy_75 : decode cX0_contractBy 75 = .ok (.aload_n 0, 1) := by decide +kernel
theorem dX0_contractBy_76 : decode cX0_contractBy 76 = .ok (.getfield 27, 3) := by decide +kernel
theorem dX0_contractBy_79 : decode cX0_contractBy 79 = .ok (.iload 6, 2) := by decide +kernel
theorem dX0_contractBy_81 : decode cX0_contractBy 81 = .ok (.iaload, 1) := by decide +kernel
theorem dX0_contractBy_82 : decode cX0_contractBy 82 = .ok (.i2l, 1) := by decide +kernel
theorem dX0_contractBy_83 : decode cX0_contractBy 83 = .ok (.lmul, 1) := by decide +kernel
theorem dX0_contractBy_84 : decode cX0_contractBy 84 = .ok (.lsub, 1) := by decide +kernel
theorem dX0_contractBy_85 : decode cX0_contractBy 85 = .ok (.lstore_n 2, 1) := by decide +kernel
theorem dX0_contractBy_86 : decode cX0_contractBy 86 = .ok (.lload 4, 2) := by decide +kernel
theorem dX0_contractBy_88 : decode cX0_contractBy 88 = .ok (.lload 7, 2) := by decide +kernel
theorem dX0_contractBy_90 : decode cX0_contractBy 90 = .ok (.lload 7, 2) := by decide +kernel
theorem dX0_contractBy_92 : decode cX0_contractBy 92 = .ok (.lconst 0, 1) := by decide +kernel
theorem dX0_contractBy_93 : decode cX0_contractBy 93 = .ok (.lcmp, 1) := by decide +kernel
theorem dX0_contractBy_94 : decode cX0_contractBy 94 = .ok (.ifCond .ge 13, 3) := by decide +kernel
theorem dX0_contractBy_97 : decode cX0_contractBy 97 = .ok (.aload_n 0, 1) := by decide +kernel
theorem dX0_contractBy_98 : decode cX0_contractBy 98 = .ok (.getfield 27, 3) := by decide +kernel
theorem dX0_contractBy_101 : decode cX0_contractBy 101 = .ok (.iload 6, 2) := by decide +kernel
theorem dX0_contractBy_103 : decode cX0_contractBy 103 = .ok (.iaload, 1) := by decide +kernel
theorem dX0_contractBy_104 : decode cX0_contractBy 104 = .ok (.goto 10, 3) := by decide +kernel
theorem dX0_contractBy_107 : decode cX0_contractBy 107 = .ok (.aload_n 0, 1) := by decide +kernel
theorem dX0_contractBy_108 : decode cX0_contractBy 108 = .ok (.getfield 24, 3) := by decide +kernel
theorem dX0_contractBy_111 : decode cX0_contractBy 111 = .ok (.iload 6, 2) := by decide +kernel
theorem dX0_contractBy_113 : decode cX0_contractBy 113 = .ok (.iaload, 1) := by decide +kernel
theorem dX0_contractBy_114 : decode cX0_contractBy 114 = .ok (.i2l, 1) := by decide +kernel
theorem dX0_contractBy_115 : decode cX0_contractBy 115 = .ok (.lmul, 1) := by decide +kernel
theorem dX0_contractBy_116 : decode cX0_contractBy 116 = .ok (.lsub, 1) := by decide +kernel
theorem dX0_contractBy_117 : decode cX0_contractBy 117 = .ok (.lstore 4, 2) := by decide +kernel
theorem dX0_contractBy_119 : decode cX0_contractBy 119 = .ok (.iinc 6 1, 3) := by decide +kernel
theorem dX0_contractBy_122 : decode cX0_contractBy 122 = .ok (.goto (-94), 3) := by decide +kernel
theorem dX0_contractBy_125 : decode cX0_contractBy 125 = .ok (.aload_n 0, 1) := by decide +kernel
theorem dX0_contractBy_126 : decode cX0_contractBy 126 = .ok (.getfield 11, 3) := by decide +kernel
theorem dX0_contractBy_129 : decode cX0_contractBy 129 = .ok (.iload_n 1, 1) := by decide +kernel
theorem dX0_contractBy_130 : decode cX0_contractBy 130 = .ok (.aaload, 1) := by decide +kernel
theorem dX0_contractBy_131 : decode cX0_contractBy 131 = .ok (.iload_n 1, 1) := by decide +kernel
theorem dX0_contractBy_132 : decode cX0_contractBy 132 = .ok (.iaload, 1) := by decide +kernel
theorem dX0_contractBy_133 : decode cX0_contractBy 133 = .ok (.i2l, 1) := by decide +kernel
theorem dX0_contractBy_134 : decode cX0_contractBy 134 = .ok (.lstore 6, 2) := by decide +kernel
theorem dX0_contractBy_136 : decode cX0_contractBy 136 = .ok (.lload 6, 2) := by decide +kernel
theorem dX0_contractBy_138 : decode cX0_contractBy 138 = .ok (.lconst 0, 1) := by decide +kernel
theorem dX0_contractBy_139 : decode cX0_contractBy 139 = .ok (.lcmp, 1) := by decide +kernel
theorem dX0_contractBy_140 : decode cX0_contractBy 140 = .ok (.ifCond .ge 24, 3) := by decide +kernel
theorem dX0_contractBy_143 : decode cX0_contractBy 143 = .ok (.aload_n 0, 1) := by decide +kernel
theorem dX0_contractBy_144 : decode cX0_contractBy 144 = .ok (.iload_n 1, 1) := by decide +kernel
theorem dX0_contractBy_145 : decode cX0_contractBy 145 = .ok (.lload 4, 2) := by decide +kernel
theorem dX0_contractBy_147 : decode cX0_contractBy 147 = .ok (.lload 6, 2) := by decide +kernel
theorem dX0_contractBy_149 : decode cX0_contractBy 149 = .ok (.invokestatic 223, 3) := by decide +kernel
theorem dX0_contractBy_152 : decode cX0_contractBy 152 = .ok (.lload_n 2, 1) := by decide +kernel
theorem dX0_contractBy_153 : decode cX0_contractBy 153 = .ok (.lload 6, 2) := by decide +kernel
theorem dX0_contractBy_155 : decode cX0_contractBy 155 = .ok (.invokestatic 226, 3) := by decide +kernel
theorem dX0_contractBy_158 : decode cX0_contractBy 158 = .ok (.invokevirtual 183, 3) := by decide +kernel
theorem dX0_contractBy_161 : decode cX0_contractBy 161 = .ok (.goto 21, 3) := by decide +kernel
theorem dX0_contractBy_164 : decode cX0_contractBy 164 = .ok (.aload_n 0, 1) := by decide +kernel
theorem dX0_contractBy_165 : decode cX0_contractBy 165 = .ok (.iload_n 1, 1) := by decide +kernel
theorem dX0_contractBy_166 : decode cX0_contractBy 166 = .ok (.lload_n 2, 1) := by decide +kernel
theorem dX0_contractBy_167 : decode cX0_contractBy 167 = .ok (.lload 6, 2) := by decide +kernel
theorem dX0_contractBy_169 : decode cX0_contractBy 169 = .ok (.invokestatic 223, 3) := by decide +kernel
theorem dX0_contractBy_172 : decode cX0_contractBy 172 = .ok (.lload 4, 2) := by decide +kernel
theorem dX0_contractBy_174 : decode cX0_contractBy 174 = .ok (.lload 6, 2) := by decide +kernel
theorem dX0_contractBy_176 : decode cX0_contractBy 176 = .ok (.invokestatic 226, 3) := by decide +kernel
theorem dX0_contractBy_179 : decode cX0_contractBy 179 = .ok (.invokevirtual 183, 3) := by decide +kernel
theorem dX0_contractBy_182 : decode cX0_contractBy 182 = .ok (.ireturn, 1) := by decide +kernel
theorem dX0_intersect_0 : decode cX0_intersect 0 = .ok (.lload_n 2, 1) := by decide +kernel
theorem dX0_intersect_1 : decode cX0_intersect 1 = .ok (.aload_n 0, 1) := by decide +kernel
theorem dX0_intersect_2 : decode cX0_intersect 2 = .ok (.getfield 24, 3) := by decide +kernel
theorem dX0_intersect_5 : decode cX0_intersect 5 = .ok (.iload_n 1, 1) := by decide +kernel
theorem dX0_intersect_6 : decode cX0_intersect 6 = .ok (.iaload, 1) := by decide +kernel
theorem dX0_intersect_7 : decode cX0_intersect 7 = .ok (.i2l, 1) := by decide +kernel
theorem dX0_intersect_8 : decode cX0_intersect 8 = .ok (.invokestatic 151, 3) := by decide +kernel
theorem dX0_intersect_11 : decode cX0_intersect 11 = .ok (.lstore 6, 2) := by decide +kernel
theorem dX0_intersect_13 : decode cX0_intersect 13 = .ok (.lload 4, 2) := by decide +kernel
theorem dX0_intersect_15 : decode cX0_intersect 15 = .ok (.aload_n 0, 1) := by decide +kernel
theorem dX0_intersect_16 : decode cX0_intersect 16 = .ok (.getfield 27, 3) := by decide +kernel
theorem dX0_intersect_19 : decode cX0_intersect 19 = .ok (.iload_n 1, 1) := by decide +kernel
theorem dX0_intersect_20 : decode cX0_intersect 20 = .ok (.iaload, 1) := by decide +kernel
theorem dX0_intersect_21 : decode cX0_intersect 21 = .ok (.i2l, 1) := by decide +kernel
theorem dX0_intersect_22 : decode cX0_intersect 22 = .ok (.invokestatic 229, 3) := by decide +kernel
theorem dX0_intersect_25 : decode cX0_intersect 25 = .ok (.lstore 8, 2) := by decide +kernel
theorem dX0_intersect_27 : decode cX0_intersect 27 = .ok (.lload 6, 2) := by decide +kernel
theorem dX0_intersect_29 : decode cX0_intersect 29 = .ok (.lload 8, 2) := by decide +kernel
theorem dX0_intersect_31 : decode cX0_intersect 31 = .ok (.lcmp, 1) := by decide +kernel
theorem dX0_intersect_32 : decode cX0_intersect 32 = .ok (.ifCond .le 5, 3) := by decide +kernel
theorem dX0_intersect_35 : decode cX0_intersect 35 = .ok (.iconst (-1), 1) := by decide +kernel
theorem dX0_intersect_36 : decode cX0_intersect 36 = .ok (.ireturn, 1) := by decide +kernel
theorem dX0_intersect_37 : decode cX0_intersect 37 = .ok (.lload 6, 2) := by decide +kernel
theorem dX0_intersect_39 : decode cX0_intersect 39 = .ok (.aload_n 0, 1) := by decide +kernel
theorem dX0_intersect_40 : decode cX0_intersect 40 = .ok (.getfield 24, 3) := by decide +kernel
theorem dX0_intersect_43 : decode cX0_intersect 43 = .ok (.iload_n 1, 1) := by decide +kernel
theorem dX0_intersect_44 : decode cX0_intersect 44 = .ok (.iaload, 1) := by decide +kernel
theorem dX0_intersect_45 : decode cX0_intersect 45 = .ok (.i2l, 1) := by decide +kernel
theorem dX0_intersect_46 : decode cX0_intersect 46 = .ok (.lcmp, 1) := by decide +kernel
theorem dX0_intersect_47 : decode cX0_intersect 47 = .ok (.ifCond .ne 16, 3) := by decide +kernel
theorem dX0_intersect_50 : decode cX0_intersect 50 = .ok (.lload 8, 2) := by decide +kernel
theorem dX0_intersect_52 : decode cX0_intersect 52 = .ok (.aload_n 0, 1) := by decide +kernel
theorem dX0_intersect_53 : decode cX0_intersect 53 = .ok (.getfield 27, 3) := by decide +kernel
theorem dX0_intersect_56 : decode cX0_intersect 56 = .ok (.iload_n 1, 1) := by decide +kernel
theorem dX0_intersect_57 : decode cX0_intersect 57 = .ok (.iaload, 1) := by decide +kernel
theorem dX0_intersect_58 : decode cX0_intersect 58 = .ok (.i2l, 1) := by decide +kernel
theorem dX0_intersect_59 : decode cX0_intersect 59 = .ok (.lcmp, 1) := by decide +kernel
theorem dX0_intersect_60 : decode cX0_intersect 60 = .ok (.ifCond .eq 7, 3) := by decide +kernel
theorem dX0_intersect_63 : decode cX0_intersect 63 = .ok (.iconst 1, 1) := by decide +kernel
theorem dX0_intersect_64 : decode cX0_intersect 64 = .ok (.goto 4, 3) := by decide +kernel
theorem dX0_intersect_67 : decode cX0_intersect 67 = .ok (.iconst 0, 1) := by decide +kernel
theorem dX0_intersect_68 : decode cX0_intersect 68 = .ok (.istore 10, 2) := by decide +kernel
theorem dX0_intersect_70 : decode cX0_intersect 70 = .ok (.aload_n 0, 1) := by decide +kernel
theorem dX0_intersect_71 : decode cX0_intersect 71 = .ok (.getfield 24, 3) := by decide +kernel
theorem dX0_intersect_74 : decode cX0_intersect 74 = .ok (.iload_n 1, 1) := by decide +kernel
theorem dX0_intersect_75 : decode cX0_intersect 75 = .ok (.lload 6, 2) := by decide +kernel
theorem dX0_intersect_77 : decode cX0_intersect 77 = .ok (.l2i, 1) := by decide +kernel
theorem dX0_intersect_78 : decode cX0_intersect 78 = .ok (.iastore, 1) := by decide +kernel
theorem dX0_intersect_79 : decode cX0_intersect 79 = .ok (.aload_n 0, 1) := by decide +kernel
theorem dX0_intersect_80 : decode cX0_intersect 80 = .ok (.getfield 27, 3) := by decide +kernel
theorem dX0_intersect_83 : decode cX0_intersect 83 = .ok (.iload_n 1, 1) := by decide +kernel
theorem dX0_intersect_84 : decode cX0_intersect 84 = .ok (.lload 8, 2) := by decide +kernel
theorem dX0_intersect_86 : decode cX0_intersect 86 = .ok (.l2i, 1) := by decide +kernel
theorem dX0_intersect_87 : decode cX0_intersect 87 = .ok (.iastore, 1) := by decide +kernel
theorem dX0_intersect_88 : decode cX0_intersect 88 = .ok (.iload 10, 2) := by decide +kernel
theorem dX0_intersect_90 : decode cX0_intersect 90 = .ok (.ifCond .eq 7, 3) := by decide +kernel
theorem dX0_intersect_93 : decode cX0_intersect 93 = .ok (.iconst 1, 1) := by decide +kernel
theorem dX0_intersect_94 : decode cX0_intersect 94 = .ok (.goto 4, 3) := by decide +kernel
theorem dX0_intersect_97 : decode cX0_intersect 97 = .ok (.iconst 0, 1) := by decide +kernel
theorem dX0_intersect_98 : decode cX0_intersect 98 = .ok (.ireturn, 1) := by decide +kernel
set_option maxRecDepth 20000 in
theorem ggX0_hullLowInUnits_X0_scaledHullLow : GoodIn wsX0_hullLowInUnits wsX0_scaledHullLow := goodIn_r _ [7, 8, 9, 10, 11, 19, 20, 21, 22, 23, 24, 25, 26, 27, 28, 29, 30, 31] (by decide +kernel) (by decide +kernel)
set_option maxRecDepth 20000 in
theorem gX0_hullLowInUnits_X0_scaledHullLow : GoodIn wsX0_hullLowInUnits (wsV RX0 127 RX0 yX0_scaledHullLow wsX0_scaledHullLow) := goodIn_app (goodIn_of _ (by decide +kernel)) ggX0_hullLowInUnits_X0_scaledHullLow
set_option maxRecDepth 20000 in
theorem ggX0_hullLowInUnits_X0_quotientDown : GoodIn wsX0_hullLowInUnits wsX0_quotientDown := goodIn_r _ [14, 15, 16, 17, 18] (by decide +kernel) (by decide +kernel)
set_option maxRecDepth 20000 in
theorem gX0_hullLowInUnits_X0_quotientDown : GoodIn wsX0_hullLowInUnits (va_wsS RX0 223 yX0_quotientDown wsX0_quotientDown) := goodIn_app (goodIn_of _ (by decide +kernel)) ggX0_hullLowInUnits_X0_quotientDown
theorem dX0_hullLowInUnits_0 : decode cX0_hullLowInUnits 0 = .ok (.ldc2_w 221, 3) := by decide +kernel
theorem dX0_hullLowInUnits_3 : decode cX0_hullLowInUnits 3 = .ok (.aload_n 0, 1) := by decide +kernel
theorem dX0_hullLowInUnits_4 : decode cX0_hullLowInUnits 4 = .ok (.iload_n 1, 1) := by decide +kernel
theorem dX0_hullLowInUnits_5 : decode cX0_hullLowInUnits 5 = .ok (.invokevirtual 127, 3) := by decide +kernel
theorem dX0_hullLowInUnits_8 : decode cX0_hullLowInUnits 8 = .ok (.lmul, 1) := by decide +kernel
theorem dX0_hullLowInUnits_9 : decode cX0_hullLowInUnits 9 = .ok (.aload_n 0, 1) := by decide +kernel
theorem dX0_hullLowInUnits_10 : decode cX0_hullLowInUnits 10 = .ok (.getfield 131, 3) := by decide +kernel
theorem dX0_hullLowInUnits_13 : decode cX0_hullLowInUnits 13 = .ok (.invokestatic 223, 3) := by decide +kernel
theorem dX0_hullLowInUnits_16 : decode cX0_hullLowInUnits 16 = .ok (.lreturn, 1) := by decide +kernel
set_option maxRecDepth 20000 in
theorem ggX0_hullHighInUnits_X0_scaledHullHigh : GoodIn wsX0_hullHighInUnits wsX0_scaledHullHigh := goodIn_r _ [7, 8, 9, 10, 11, 22, 23, 24, 25, 26, 27, 28, 29, 30, 31, 32, 33, 34] (by decide +kernel) (by decide +kernel)
set_option maxRecDepth 20000 in
theorem gX0_hullHighInUnits_X0_scaledHullHigh : GoodIn wsX0_hullHighInUnits (wsV RX0 139 RX0 yX0_scaledHullHigh wsX0_scaledHullHigh) := goodIn_app (goodIn_of _ (by decide +kernel)) ggX0_hullHighInUnits_X0_scaledHullHigh
set_option maxRecDepth 20000 in
theorem ggX0_hullHighInUnits_X0_quotientUp : GoodIn wsX0_hullHighInUnits wsX0_quotientUp := goodIn_r _ [14, 15, 16, 6, 17, 18, 19, 20, 21] (by decide +kernel) (by decide +kernel)
set_option maxRecDepth 20000 in
theorem gX0_hullHighInUnits_X0_quotientUp : GoodIn wsX0_hullHighInUnits (va_wsS RX0 226 yX0_quotientUp wsX0_quotientUp) := goodIn_app (goodIn_of _ (by decide +kernel)) ggX0_hullHighInUnits_X0_quotientUp
theorem dX0_hullHighInUnits_0 : decode cX0_hullHighInUnits 0 = .ok (.ldc2_w 221, 3) := by decide +kernel
theorem dX0_hullHighInUnits_3 : decode cX0_hullHighInUnits 3 = .ok (.aload_n 0, 1) := by decide +kernel
theorem dX0_hullHighInUnits_4 : decode cX0_hullHighInUnits 4 = .ok (.iload_n 1, 1) := by decide +kernel
theorem dX0_hullHighInUnits_5 : decode cX0_hullHighInUnits 5 = .ok (.invokevirtual 139, 3) := by decide +kernel
theorem dX0_hullHighInUnits_8 : decode cX0_hullHighInUnits 8 = .ok (.lmul, 1) := by decide +kernel
theorem dX0_hullHighInUnits_9 : decode cX0_hullHighInUnits 9 = .ok (.aload_n 0, 1) := by decide +kernel
theorem dX0_hullHighInUnits_10 : decode cX0_hullHighInUnits 10 = .ok (.getfield 131, 3) := by decide +kernel
theorem dX0_hullHighInUnits_13 : decode cX0_hullHighInUnits 13 = .ok (.invokestatic 226, 3) := by decide +kernel
theorem dX0_hullHighInUnits_16 : decode cX0_hullHighInUnits 16 = .ok (.lreturn, 1) := by decide +kernel
set_option maxRecDepth 20000 in
theorem ggX0_quotientDown_J9_floorDiv_f86c9 : GoodIn wsX0_quotientDown wsJ9_floorDiv_f86c9 := goodIn_r _ [4] (by decide +kernel) (by decide +kernel)
set_option maxRecDepth 20000 in
theorem gX0_quotientDown_J9_floorDiv_f86c9 : GoodIn wsX0_quotientDown (va_wsS RX0 232 yJ9_floorDiv_f86c9 wsJ9_floorDiv_f86c9) := goodIn_app (goodIn_of _ (by decide +kernel)) ggX0_quotientDown_J9_floorDiv_f86c9
theorem dX0_quotientDown_0 : decode cX0_quotientDown 0 = .ok (.lload_n 2, 1) := by decide +kernel
theorem dX0_quotientDown_1 : decode cX0_quotientDown 1 = .ok (.lconst 0, 1) := by decide +kernel
theorem dX0_quotientDown_2 : decode cX0_quotientDown 2 = .ok (.lcmp, 1) := by decide +kernel
theorem dX0_quotientDown_3 : decode cX0_quotientDown 3 = .ok (.ifCond .ne 7, 3) := by decide +kernel
theorem dX0_quotientDown_6 : decode cX0_quotientDown 6 = .ok (.lconst 0, 1) := by decide +kernel
theorem dX0_quotientDown_7 : decode cX0_quotientDown 7 = .ok (.goto 8, 3) := by decide +kernel
theorem dX0_quotientDown_10 : decode cX0_quotientDown 10 = .ok (.lload_n 0, 1) := by decide +kernel
theorem dX0_quotientDown_11 : decode cX0_quotientDown 11 = .ok (.lload_n 2, 1) := by decide +kernel
theorem dX0_quotientDown_12 : decode cX0_quotientDown 12 = .ok (.invokestatic 232, 3) := by decide +kernel
theorem dX0_quotientDown_15 : decode cX0_quotientDown 15 = .ok (.lreturn, 1) := by decide +kernel
set_option maxRecDepth 20000 in
theorem ggX0_quotientUp_X0_quotientDown : GoodIn wsX0_quotientUp wsX0_quotientDown := goodIn_r _ [4, 5, 6, 7, 8] (by decide +kernel) (by decide +kernel)
set_option maxRecDepth 20000 in
theorem gX0_quotientUp_X0_quotientDown : GoodIn wsX0_quotientUp (va_wsS RX0 223 yX0_quotientDown wsX0_quotientDown) := goodIn_app (goodIn_of _ (by decide +kernel)) ggX0_quotientUp_X0_quotientDown
theorem dX0_quotientUp_0 : decode cX0_quotientUp 0 = .ok (.lload_n 0, 1) := by decide +kernel
theorem dX0_quotientUp_1 : decode cX0_quotientUp 1 = .ok (.lneg, 1) := by decide +kernel
theorem dX0_quotientUp_2 : decode cX0_quotientUp 2 = .ok (.lload_n 2, 1) := by decide +kernel
theorem dX0_quotientUp_3 : decode cX0_quotientUp 3 = .ok (.invokestatic 223, 3) := by decide +kernel
theorem dX0_quotientUp_6 : decode cX0_quotientUp 6 = .ok (.lneg, 1) := by decide +kernel
theorem dX0_quotientUp_7 : decode cX0_quotientUp 7 = .ok (.lreturn, 1) := by decide +kernel
theorem dJ6_bitCount_0f7a4_0 : decode cJ6_bitCount_0f7a4 0 = .ok (.iload_n 0, 1) := by decide +kernel
theorem dJ6_bitCount_0f7a4_1 : decode cJ6_bitCount_0f7a4 1 = .ok (.iload_n 0, 1) := by decide +kernel
theorem dJ6_bitCount_0f7a4_2 : decode cJ6_bitCount_0f7a4 2 = .ok (.iconst 1, 1) := by decide +kernel
theorem dJ6_bitCount_0f7a4_3 : decode cJ6_bitCount_0f7a4 3 = .ok (.iushr, 1) := by decide +kernel
theorem dJ6_bitCount_0f7a4_4 : decode cJ6_bitCount_0f7a4 4 = .ok (.ldc_w 265, 3) := by decide +kernel
theorem dJ6_bitCount_0f7a4_7 : decode cJ6_bitCount_0f7a4 7 = .ok (.iand, 1) := by decide +kernel
theorem dJ6_bitCount_0f7a4_8 : decode cJ6_bitCount_0f7a4 8 = .ok (.isub, 1) := by decide +kernel
theorem dJ6_bitCount_0f7a4_9 : decode cJ6_bitCount_0f7a4 9 = .ok (.istore_n 0, 1) := by decide +kernel
theorem dJ6_bitCount_0f7a4_10 : decode cJ6_bitCount_0f7a4 10 = .ok (.iload_n 0, 1) := by decide +kernel
theorem dJ6_bitCount_0f7a4_11 : decode cJ6_bitCount_0f7a4 11 = .ok (.ldc_w 266, 3) := by decide +kernel
theorem dJ6_bitCount_0f7a4_14 : decode cJ6_bitCount_0f7a4 14 = .ok (.iand, 1) := by decide +kernel
theorem dJ6_bitCount_0f7a4_15 : decode cJ6_bitCount_0f7a4 15 = .ok (.iload_n 0, 1) := by decide +kernel
theorem dJ6_bitCount_0f7a4_16 : decode cJ6_bitCount_0f7a4 16 = .ok (.iconst 2, 1) := by decide +kernel
theorem dJ6_bitCount_0f7a4_17 : decode cJ6_bitCount_0f7a4 17 = .ok (.iushr, 1) := by decide +kernel
theorem dJ6_bitCount_0f7a4_18 : decode cJ6_bitCount_0f7a4 18 = .ok (.ldc_w 266, 3) := by decide +kernel
theorem dJ6_bitCount_0f7a4_21 : decode cJ6_bitCount_0f7a4 21 = .ok (.iand, 1) := by decide +kernel
theorem dJ6_bitCount_0f7a4_22 : decode cJ6_bitCount_0f7a4 22 = .ok (.iadd, 1) := by decide +kernel
theorem dJ6_bitCount_0f7a4_23 : decode cJ6_bitCount_0f7a4 23 = .ok (.istore_n 0, 1) := by decide +kernel
theorem dJ6_bitCount_0f7a4_24 : decode cJ6_bitCount_0f7a4 24 = .ok (.iload_n 0, 1) := by decide +kernel
theorem dJ6_bitCount_0f7a4_25 : decode cJ6_bitCount_0f7a4 25 = .ok (.iload_n 0, 1) := by decide +kernel
theorem dJ6_bitCount_0f7a4_26 : decode cJ6_bitCount_0f7a4 26 = .ok (.iconst 4, 1) := by decide +kernel
theorem dJ6_bitCount_0f7a4_27 : decode cJ6_bitCount_0f7a4 27 = .ok (.iushr, 1) := by decide +kernel
theorem dJ6_bitCount_0f7a4_28 : decode cJ6_bitCount_0f7a4 28 = .ok (.iadd, 1) := by decide +kernel
theorem dJ6_bitCount_0f7a4_29 : decode cJ6_bitCount_0f7a4 29 = .ok (.ldc_w 267, 3) := by decide +kernel
theorem dJ6_bitCount_0f7a4_32 : decode cJ6_bitCount_0f7a4 32 = .ok (.iand, 1) := by decide +kernel
theorem dJ6_bitCount_0f7a4_33 : decode cJ6_bitCount_0f7a4 33 = .ok (.istore_n 0, 1) := by decide +kernel
theorem dJ6_bitCount_0f7a4_34 : decode cJ6_bitCount_0f7a4 34 = .ok (.iload_n 0, 1) := by decide +kernel
theorem dJ6_bitCount_0f7a4_35 : decode cJ6_bitCount_0f7a4 35 = .ok (.iload_n 0, 1) := by decide +kernel
theorem dJ6_bitCount_0f7a4_36 : decode cJ6_bitCount_0f7a4 36 = .ok (.bipush 8, 2) := by decide +kernel
theorem dJ6_bitCount_0f7a4_38 : decode cJ6_bitCount_0f7a4 38 = .ok (.iushr, 1) := by decide +kernel
theorem dJ6_bitCount_0f7a4_39 : decode cJ6_bitCount_0f7a4 39 = .ok (.iadd, 1) := by decide +kernel
theorem dJ6_bitCount_0f7a4_40 : decode cJ6_bitCount_0f7a4 40 = .ok (.istore_n 0, 1) := by decide +kernel
theorem dJ6_bitCount_0f7a4_41 : decode cJ6_bitCount_0f7a4 41 = .ok (.iload_n 0, 1) := by decide +kernel
theorem dJ6_bitCount_0f7a4_42 : decode cJ6_bitCount_0f7a4 42 = .ok (.iload_n 0, 1) := by decide +kernel
theorem dJ6_bitCount_0f7a4_43 : decode cJ6_bitCount_0f7a4 43 = .ok (.bipush 16, 2) := by decide +kernel
theorem dJ6_bitCount_0f7a4_45 : decode cJ6_bitCount_0f7a4 45 = .ok (.iushr, 1) := by decide +kernel
theorem dJ6_bitCount_0f7a4_46 : decode cJ6_bitCount_0f7a4 46 = .ok (.iadd, 1) := by decide +kernel
theorem dJ6_bitCount_0f7a4_47 : decode cJ6_bitCount_0f7a4 47 = .ok (.istore_n 0, 1) := by decide +kernel
theorem dJ6_bitCount_0f7a4_48 : decode cJ6_bitCount_0f7a4 48 = .ok (.iload_n 0, 1) := by decide +kernel
theorem dJ6_bitCount_0f7a4_49 : decode cJ6_bitCount_0f7a4 49 = .ok (.bipush 63, 2) := by decide +kernel
theorem dJ6_bitCount_0f7a4_51 : decode cJ6_bitCount_0f7a4 51 = .ok (.iand, 1) := by decide +kernel
theorem dJ6_bitCount_0f7a4_52 : decode cJ6_bitCount_0f7a4 52 = .ok (.ireturn, 1) := by decide +kernel
theorem dJ9_floorDiv_f86c9_0 : decode cJ9_floorDiv_f86c9 0 = .ok (.lload_n 0, 1) := by decide +kernel
theorem dJ9_floorDiv_f86c9_1 : decode cJ9_floorDiv_f86c9 1 = .ok (.lload_n 2, 1) := by decide +kernel
theorem dJ9_floorDiv_f86c9_2 : decode cJ9_floorDiv_f86c9 2 = .ok (.ldiv, 1) := by decide +kernel
theorem dJ9_floorDiv_f86c9_3 : decode cJ9_floorDiv_f86c9 3 = .ok (.lstore 4, 2) := by decide +kernel
theorem dJ9_floorDiv_f86c9_5 : decode cJ9_floorDiv_f86c9 5 = .ok (.lload_n 0, 1) := by decide +kernel
theorem dJ9_floorDiv_f86c9_6 : decode cJ9_floorDiv_f86c9 6 = .ok (.lload_n 2, 1) := by decide +kernel
theorem dJ9_floorDiv_f86c9_7 : decode cJ9_floorDiv_f86c9 7 = .ok (.lxor, 1) := by decide +kernel
theorem dJ9_floorDiv_f86c9_8 : decode cJ9_floorDiv_f86c9 8 = .ok (.lconst 0, 1) := by decide +kernel
theorem dJ9_floorDiv_f86c9_9 : decode cJ9_floorDiv_f86c9 9 = .ok (.lcmp, 1) := by decide +kernel
theorem dJ9_floorDiv_f86c9_10 : decode cJ9_floorDiv_f86c9 10 = .ok (.ifCond .ge 17, 3) := by decide +kernel
theorem dJ9_floorDiv_f86c9_13 : decode cJ9_floorDiv_f86c9 13 = .ok (.lload 4, 2) := by decide +kernel
theorem dJ9_floorDiv_f86c9_15 : decode cJ9_floorDiv_f86c9 15 = .ok (.lload_n 2, 1) := by decide +kernel
theorem dJ9_floorDiv_f86c9_16 : decode cJ9_floorDiv_f86c9 16 = .ok (.lmul, 1) := by decide +kernel
theorem dJ9_floorDiv_f86c9_17 : decode cJ9_floorDiv_f86c9 17 = .ok (.lload_n 0, 1) := by decide +kernel
theorem dJ9_floorDiv_f86c9_18 : decode cJ9_floorDiv_f86c9 18 = .ok (.lcmp, 1) := by decide +kernel
theorem dJ9_floorDiv_f86c9_19 : decode cJ9_floorDiv_f86c9 19 = .ok (.ifCond .eq 8, 3) := by decide +kernel
theorem dJ9_floorDiv_f86c9_22 : decode cJ9_floorDiv_f86c9 22 = .ok (.lload 4, 2) := by decide +kernel
theorem dJ9_floorDiv_f86c9_24 : decode cJ9_floorDiv_f86c9 24 = .ok (.lconst 1, 1) := by decide +kernel
theorem dJ9_floorDiv_f86c9_25 : decode cJ9_floorDiv_f86c9 25 = .ok (.lsub, 1) := by decide +kernel
theorem dJ9_floorDiv_f86c9_26 : decode cJ9_floorDiv_f86c9 26 = .ok (.lreturn, 1) := by decide +kernel
theorem dJ9_floorDiv_f86c9_27 : decode cJ9_floorDiv_f86c9 27 = .ok (.lload 4, 2) := by decide +kernel
theorem dJ9_floorDiv_f86c9_29 : decode cJ9_floorDiv_f86c9 29 = .ok (.lreturn, 1) := by decide +kernel
theorem dJ9_abs_0f7a4_0 : decode cJ9_abs_0f7a4 0 = .ok (.iload_n 0, 1) := by decide +kernel
theorem dJ9_abs_0f7a4_1 : decode cJ9_abs_0f7a4 1 = .ok (.ifCond .ge 8, 3) := by decide +kernel
theorem dJ9_abs_0f7a4_4 : decode cJ9_abs_0f7a4 4 = .ok (.iload_n 0, 1) := by decide +kernel
theorem dJ9_abs_0f7a4_5 : decode cJ9_abs_0f7a4 5 = .ok (.ineg, 1) := by decide +kernel
theorem dJ9_abs_0f7a4_6 : decode cJ9_abs_0f7a4 6 = .ok (.goto 4, 3) := by decide +kernel
theorem dJ9_abs_0f7a4_9 : decode cJ9_abs_0f7a4 9 = .ok (.iload_n 0, 1) := by decide +kernel
theorem dJ9_abs_0f7a4_10 : decode cJ9_abs_0f7a4 10 = .ok (.ireturn, 1) := by decide +kernel
theorem dJ9_abs_067f4_0 : decode cJ9_abs_067f4 0 = .ok (.lload_n 0, 1) := by decide +kernel
theorem dJ9_abs_067f4_1 : decode cJ9_abs_067f4 1 = .ok (.lconst 0, 1) := by decide +kernel
theorem dJ9_abs_067f4_2 : decode cJ9_abs_067f4 2 = .ok (.lcmp, 1) := by decide +kernel
theorem dJ9_abs_067f4_3 : decode cJ9_abs_067f4 3 = .ok (.ifCond .ge 8, 3) := by decide +kernel
theorem dJ9_abs_067f4_6 : decode cJ9_abs_067f4 6 = .ok (.lload_n 0, 1) := by decide +kernel
theorem dJ9_abs_067f4_7 : decode cJ9_abs_067f4 7 = .ok (.lneg, 1) := by decide +kernel
theorem dJ9_abs_067f4_8 : decode cJ9_abs_067f4 8 = .ok (.goto 4, 3) := by decide +kernel
theorem dJ9_abs_067f4_11 : decode cJ9_abs_067f4 11 = .ok (.lload_n 0, 1) := by decide +kernel
theorem dJ9_abs_067f4_12 : decode cJ9_abs_067f4 12 = .ok (.lreturn, 1) := by decide +kernel
theorem dJ9_max_f86c9_0 : decode cJ9_max_f86c9 0 = .ok (.lload_n 0, 1) := by decide +kernel
theorem dJ9_max_f86c9_1 : decode cJ9_max_f86c9 1 = .ok (.lload_n 2, 1) := by decide +kernel
theorem dJ9_max_f86c9_2 : decode cJ9_max_f86c9 2 = .ok (.lcmp, 1) := by decide +kernel
theorem dJ9_max_f86c9_3 : decode cJ9_max_f86c9 3 = .ok (.ifCond .lt 7, 3) := by decide +kernel
theorem dJ9_max_f86c9_6 : decode cJ9_max_f86c9 6 = .ok (.lload_n 0, 1) := by decide +kernel
theorem dJ9_max_f86c9_7 : decode cJ9_max_f86c9 7 = .ok (.goto 4, 3) := by decide +kernel
theorem dJ9_max_f86c9_10 : decode cJ9_max_f86c9 10 = .ok (.lload_n 2, 1) := by decide +kernel
theorem dJ9_max_f86c9_11 : decode cJ9_max_f86c9 11 = .ok (.lreturn, 1) := by decide +kernel
theorem dJ9_min_f86c9_0 : decode cJ9_min_f86c9 0 = .ok (.lload_n 0, 1) := by decide +kernel
theorem dJ9_min_f86c9_1 : decode cJ9_min_f86c9 1 = .ok (.lload_n 2, 1) := by decide +kernel
theorem dJ9_min_f86c9_2 : decode cJ9_min_f86c9 2 = .ok (.lcmp, 1) := by decide +kernel
theorem dJ9_min_f86c9_3 : decode cJ9_min_f86c9 3 = .ok (.ifCond .gt 7, 3) := by decide +kernel
theorem dJ9_min_f86c9_6 : decode cJ9_min_f86c9 6 = .ok (.lload_n 0, 1) := by decide +kernel
theorem dJ9_min_f86c9_7 : decode cJ9_min_f86c9 7 = .ok (.goto 4, 3) := by decide +kernel
theorem dJ9_min_f86c9_10 : decode cJ9_min_f86c9 10 = .ok (.lload_n 2, 1) := by decide +kernel
theorem dJ9_min_f86c9_11 : decode cJ9_min_f86c9 11 = .ok (.lreturn, 1) := by decide +kernel
