set_option maxRecDepth 20000 in
theorem ggL_setSize_X0_setSize : GoodIn wsL_setSize wsX0_setSize := goodIn_ca (goodIn_ca (goodIn_r _ [6, 7, 8, 9, 10, 11, 5, 12, 13, 14, 15, 16, 17, 18, 19, 20, 21, 22, 23, 24, 25, 26, 27, 28, 29, 30, 31, 32, 33, 34] (by decide +kernel) (by decide +kernel)) (goodIn_sub (fun _ h => List.mem_cons_of_mem _ (List.mem_append_right _ h)) (by decide +kernel))) (goodIn_sub (fun _ h => List.mem_cons_of_mem _ (List.mem_append_left _ (List.mem_append_right _ h))) (by decide +kernel))
set_option maxRecDepth 20000 in
theorem gL_setSize_X0_setSize : GoodIn wsL_setSize (wsV RL 7 RX0 yX0_setSize wsX0_setSize) := goodIn_app (goodIn_of _ (by decide +kernel)) ggL_setSize_X0_setSize
theorem dL_setSize_0 : decode cL_setSize 0 = .ok (.aload_n 2, 1) := by decide +kernel
theorem dL_setSize_1 : decode cL_setSize 1 = .ok (.iconst 0, 1) := by decide +kernel
theorem dL_setSize_2 : decode cL_setSize 2 = .ok (.aload_n 0, 1) := by decide +kernel
theorem dL_setSize_3 : decode cL_setSize 3 = .ok (.iload_n 1, 1) := by decide +kernel
theorem dL_setSize_4 : decode cL_setSize 4 = .ok (.invokevirtual 7, 3) := by decide +kernel
theorem dL_setSize_7 : decode cL_setSize 7 = .ok (.i2l, 1) := by decide +kernel
theorem dL_setSize_8 : decode cL_setSize 8 = .ok (.lastore, 1) := by decide +kernel
theorem dL_setSize_9 : decode cL_setSize 9 = .ok (.goto 6, 3) := by decide +kernel
theorem dL_setSize_12 : decode cL_setSize 12 = .ok (.astore_n 3, 1) := by decide +kernel
theorem dL_setSize_13 : decode cL_setSize 13 = .ok (.iconst 1, 1) := by decide +kernel
theorem dL_setSize_14 : decode cL_setSize 14 = .ok (.ireturn, 1) := by decide +kernel
theorem dL_setSize_15 : decode cL_setSize 15 = .ok (.iconst 0, 1) := by decide +kernel
theorem dL_setSize_16 : decode cL_setSize 16 = .ok (.ireturn, 1) := by decide +kernel
set_option maxRecDepth 20000 in
theorem ggL_setCoefficient_X0_setCoefficient : GoodIn wsL_setCoefficient wsX0_setCoefficient := goodIn_ca (goodIn_ca (goodIn_ca (goodIn_r _ [7, 8, 9, 10, 11, 12, 13, 14, 15, 6, 16, 17, 18, 19, 20, 21, 22, 23, 24, 25, 26, 27, 28, 29, 30, 31, 32, 33] (by decide +kernel) (by decide +kernel)) (goodIn_sub (fun _ h => List.mem_cons_of_mem _ (List.mem_append_left _ (List.mem_append_right _ h))) (by decide +kernel))) (goodIn_sub (fun _ h => List.mem_cons_of_mem _ (List.mem_append_right _ h)) (by decide +kernel))) (goodIn_sub (fun _ h => List.mem_cons_of_mem _ (List.mem_append_left _ (List.mem_append_left _ (List.mem_append_right _ h)))) (by decide +kernel))
set_option maxRecDepth 20000 in
theorem gL_setCoefficient_X0_setCoefficient : GoodIn wsL_setCoefficient (wsV RL 15 RX0 yX0_setCoefficient wsX0_setCoefficient) := goodIn_app (goodIn_of _ (by decide +kernel)) ggL_setCoefficient_X0_setCoefficient
theorem dL_setCoefficient_0 : decode cL_setCoefficient 0 = .ok (.aload 4, 2) := by decide +kernel
theorem dL_setCoefficient_2 : decode cL_setCoefficient 2 = .ok (.iconst 0, 1) := by decide +kernel
theorem dL_setCoefficient_3 : decode cL_setCoefficient 3 = .ok (.aload_n 0, 1) := by decide +kernel
theorem dL_setCoefficient_4 : decode cL_setCoefficient 4 = .ok (.iload_n 1, 1) := by decide +kernel
theorem dL_setCoefficient_5 : decode cL_setCoefficient 5 = .ok (.iload_n 2, 1) := by decide +kernel
theorem dL_setCoefficient_6 : decode cL_setCoefficient 6 = .ok (.iload_n 3, 1) := by decide +kernel
theorem dL_setCoefficient_7 : decode cL_setCoefficient 7 = .ok (.invokevirtual 15, 3) := by decide +kernel
theorem dL_setCoefficient_10 : decode cL_setCoefficient 10 = .ok (.i2l, 1) := by decide +kernel
theorem dL_setCoefficient_11 : decode cL_setCoefficient 11 = .ok (.lastore, 1) := by decide +kernel
theorem dL_setCoefficient_12 : decode cL_setCoefficient 12 = .ok (.goto 11, 3) := by decide +kernel
theorem dL_setCoefficient_15 : decode cL_setCoefficient 15 = .ok (.astore 5, 2) := by decide +kernel
theorem dL_setCoefficient_17 : decode cL_setCoefficient 17 = .ok (.iconst 1, 1) := by decide +kernel
theorem dL_setCoefficient_18 : decode cL_setCoefficient 18 = .ok (.ireturn, 1) := by decide +kernel
theorem dL_setCoefficient_19 : decode cL_setCoefficient 19 = .ok (.astore 5, 2) := by decide +kernel
theorem dL_setCoefficient_21 : decode cL_setCoefficient 21 = .ok (.iconst 2, 1) := by decide +kernel
theorem dL_setCoefficient_22 : decode cL_setCoefficient 22 = .ok (.ireturn, 1) := by decide +kernel
theorem dL_setCoefficient_23 : decode cL_setCoefficient 23 = .ok (.iconst 0, 1) := by decide +kernel
theorem dL_setCoefficient_24 : decode cL_setCoefficient 24 = .ok (.ireturn, 1) := by decide +kernel
set_option maxRecDepth 20000 in
theorem ggL_coefficient_X0_coefficient : GoodIn wsL_coefficient wsX0_coefficient := goodIn_ca (goodIn_ca (goodIn_r _ [6, 7, 8, 9, 10, 11, 12, 5, 13, 14, 15, 16, 17, 18, 19, 20, 21, 22, 23, 24, 25, 26, 27] (by decide +kernel) (by decide +kernel)) (goodIn_sub (fun _ h => List.mem_cons_of_mem _ (List.mem_append_right _ h)) (by decide +kernel))) (goodIn_sub (fun _ h => List.mem_cons_of_mem _ (List.mem_append_left _ (List.mem_append_right _ h))) (by decide +kernel))
set_option maxRecDepth 20000 in
theorem gL_coefficient_X0_coefficient : GoodIn wsL_coefficient (wsV RL 21 RX0 yX0_coefficient wsX0_coefficient) := goodIn_app (goodIn_of _ (by decide +kernel)) ggL_coefficient_X0_coefficient
theorem dL_coefficient_0 : decode cL_coefficient 0 = .ok (.aload_n 3, 1) := by decide +kernel
theorem dL_coefficient_1 : decode cL_coefficient 1 = .ok (.iconst 0, 1) := by decide +kernel
theorem dL_coefficient_2 : decode cL_coefficient 2 = .ok (.aload_n 0, 1) := by decide +kernel
theorem dL_coefficient_3 : decode cL_coefficient 3 = .ok (.iload_n 1, 1) := by decide +kernel
theorem dL_coefficient_4 : decode cL_coefficient 4 = .ok (.iload_n 2, 1) := by decide +kernel
theorem dL_coefficient_5 : decode cL_coefficient 5 = .ok (.invokevirtual 21, 3) := by decide +kernel
theorem dL_coefficient_8 : decode cL_coefficient 8 = .ok (.i2l, 1) := by decide +kernel
theorem dL_coefficient_9 : decode cL_coefficient 9 = .ok (.lastore, 1) := by decide +kernel
theorem dL_coefficient_10 : decode cL_coefficient 10 = .ok (.goto 7, 3) := by decide +kernel
theorem dL_coefficient_13 : decode cL_coefficient 13 = .ok (.astore 4, 2) := by decide +kernel
theorem dL_coefficient_15 : decode cL_coefficient 15 = .ok (.iconst 1, 1) := by decide +kernel
theorem dL_coefficient_16 : decode cL_coefficient 16 = .ok (.ireturn, 1) := by decide +kernel
theorem dL_coefficient_17 : decode cL_coefficient 17 = .ok (.iconst 0, 1) := by decide +kernel
theorem dL_coefficient_18 : decode cL_coefficient 18 = .ok (.ireturn, 1) := by decide +kernel
set_option maxRecDepth 20000 in
theorem ggL_setRight_X0_setRight : GoodIn wsL_setRight wsX0_setRight := goodIn_ca (goodIn_ca (goodIn_ca (goodIn_r _ [7, 8, 9, 10, 11, 12, 13, 14, 15, 16, 6, 17, 18, 19, 20, 21, 22, 23, 24, 25, 26, 27, 28, 29, 30, 31, 32, 33, 34, 35, 36, 37] (by decide +kernel) (by decide +kernel)) (goodIn_sub (fun _ h => List.mem_cons_of_mem _ (List.mem_append_left _ (List.mem_append_right _ h))) (by decide +kernel))) (goodIn_sub (fun _ h => List.mem_cons_of_mem _ (List.mem_append_right _ h)) (by decide +kernel))) (goodIn_sub (fun _ h => List.mem_cons_of_mem _ (List.mem_append_left _ (List.mem_append_left _ (List.mem_append_right _ h)))) (by decide +kernel))
set_option maxRecDepth 20000 in
theorem gL_setRight_X0_setRight : GoodIn wsL_setRight (wsV RL 25 RX0 yX0_setRight wsX0_setRight) := goodIn_app (goodIn_of _ (by decide +kernel)) ggL_setRight_X0_setRight
theorem dL_setRight_0 : decode cL_setRight 0 = .ok (.aload 4, 2) := by decide +kernel
theorem dL_setRight_2 : decode cL_setRight 2 = .ok (.iconst 0, 1) := by decide +kernel
theorem dL_setRight_3 : decode cL_setRight 3 = .ok (.aload_n 0, 1) := by decide +kernel
theorem dL_setRight_4 : decode cL_setRight 4 = .ok (.iload_n 1, 1) := by decide +kernel
theorem dL_setRight_5 : decode cL_setRight 5 = .ok (.iload_n 2, 1) := by decide +kernel
theorem dL_setRight_6 : decode cL_setRight 6 = .ok (.iload_n 3, 1) := by decide +kernel
theorem dL_setRight_7 : decode cL_setRight 7 = .ok (.invokevirtual 25, 3) := by decide +kernel
theorem dL_setRight_10 : decode cL_setRight 10 = .ok (.ifCond .eq 7, 3) := by decide +kernel
theorem dL_setRight_13 : decode cL_setRight 13 = .ok (.lconst 1, 1) := by decide +kernel
theorem dL_setRight_14 : decode cL_setRight 14 = .ok (.goto 4, 3) := by decide +kernel
theorem dL_setRight_17 : decode cL_setRight 17 = .ok (.lconst 0, 1) := by decide +kernel
theorem dL_setRight_18 : decode cL_setRight 18 = .ok (.lastore, 1) := by decide +kernel
theorem dL_setRight_19 : decode cL_setRight 19 = .ok (.goto 11, 3) := by decide +kernel
theorem dL_setRight_22 : decode cL_setRight 22 = .ok (.astore 5, 2) := by decide +kernel
theorem dL_setRight_24 : decode cL_setRight 24 = .ok (.iconst 1, 1) := by decide +kernel
theorem dL_setRight_25 : decode cL_setRight 25 = .ok (.ireturn, 1) := by decide +kernel
theorem dL_setRight_26 : decode cL_setRight 26 = .ok (.astore 5, 2) := by decide +kernel
theorem dL_setRight_28 : decode cL_setRight 28 = .ok (.iconst 2, 1) := by decide +kernel
theorem dL_setRight_29 : decode cL_setRight 29 = .ok (.ireturn, 1) := by decide +kernel
theorem dL_setRight_30 : decode cL_setRight 30 = .ok (.iconst 0, 1) := by decide +kernel
theorem dL_setRight_31 : decode cL_setRight 31 = .ok (.ireturn, 1) := by decide +kernel
set_option maxRecDepth 20000 in
theorem ggL_rightLow_X0_rightLow : GoodIn wsL_rightLow wsX0_rightLow := goodIn_ca (goodIn_ca (goodIn_r _ [6, 7, 8, 9, 10, 11, 12, 5, 13, 14, 15, 16, 17, 18, 19, 20, 21, 22, 23, 24, 25, 26, 27] (by decide +kernel) (by decide +kernel)) (goodIn_sub (fun _ h => List.mem_cons_of_mem _ (List.mem_append_right _ h)) (by decide +kernel))) (goodIn_sub (fun _ h => List.mem_cons_of_mem _ (List.mem_append_left _ (List.mem_append_right _ h))) (by decide +kernel))
set_option maxRecDepth 20000 in
theorem gL_rightLow_X0_rightLow : GoodIn wsL_rightLow (wsV RL 29 RX0 yX0_rightLow wsX0_rightLow) := goodIn_app (goodIn_of _ (by decide +kernel)) ggL_rightLow_X0_rightLow
theorem dL_rightLow_0 : decode cL_rightLow 0 = .ok (.aload_n 2, 1) := by decide +kernel
theorem dL_rightLow_1 : decode cL_rightLow 1 = .ok (.iconst 0, 1) := by decide +kernel
theorem dL_rightLow_2 : decode cL_rightLow 2 = .ok (.aload_n 0, 1) := by decide +kernel
theorem dL_rightLow_3 : decode cL_rightLow 3 = .ok (.iload_n 1, 1) := by decide +kernel
theorem dL_rightLow_4 : decode cL_rightLow 4 = .ok (.invokevirtual 29, 3) := by decide +kernel
theorem dL_rightLow_7 : decode cL_rightLow 7 = .ok (.i2l, 1) := by decide +kernel
theorem dL_rightLow_8 : decode cL_rightLow 8 = .ok (.lastore, 1) := by decide +kernel
theorem dL_rightLow_9 : decode cL_rightLow 9 = .ok (.goto 6, 3) := by decide +kernel
theorem dL_rightLow_12 : decode cL_rightLow 12 = .ok (.astore_n 3, 1) := by decide +kernel
theorem dL_rightLow_13 : decode cL_rightLow 13 = .ok (.iconst 1, 1) := by decide +kernel
theorem dL_rightLow_14 : decode cL_rightLow 14 = .ok (.ireturn, 1) := by decide +kernel
theorem dL_rightLow_15 : decode cL_rightLow 15 = .ok (.iconst 0, 1) := by decide +kernel
theorem dL_rightLow_16 : decode cL_rightLow 16 = .ok (.ireturn, 1) := by decide +kernel
set_option maxRecDepth 20000 in
theorem ggL_rightHigh_X0_rightHigh : GoodIn wsL_rightHigh wsX0_rightHigh := goodIn_ca (goodIn_ca (goodIn_r _ [6, 7, 8, 9, 10, 11, 12, 5, 13, 14, 15, 16, 17, 18, 19, 20, 21, 22, 23, 24, 25, 26, 27] (by decide +kernel) (by decide +kernel)) (goodIn_sub (fun _ h => List.mem_cons_of_mem _ (List.mem_append_right _ h)) (by decide +kernel))) (goodIn_sub (fun _ h => List.mem_cons_of_mem _ (List.mem_append_left _ (List.mem_append_right _ h))) (by decide +kernel))
set_option maxRecDepth 20000 in
theorem gL_rightHigh_X0_rightHigh : GoodIn wsL_rightHigh (wsV RL 32 RX0 yX0_rightHigh wsX0_rightHigh) := goodIn_app (goodIn_of _ (by decide +kernel)) ggL_rightHigh_X0_rightHigh
theorem dL_rightHigh_0 : decode cL_rightHigh 0 = .ok (.aload_n 2, 1) := by decide +kernel
theorem dL_rightHigh_1 : decode cL_rightHigh 1 = .ok (.iconst 0, 1) := by decide +kernel
theorem dL_rightHigh_2 : decode cL_rightHigh 2 = .ok (.aload_n 0, 1) := by decide +kernel
theorem dL_rightHigh_3 : decode cL_rightHigh 3 = .ok (.iload_n 1, 1) := by decide +kernel
theorem dL_rightHigh_4 : decode cL_rightHigh 4 = .ok (.invokevirtual 32, 3) := by decide +kernel
theorem dL_rightHigh_7 : decode cL_rightHigh 7 = .ok (.i2l, 1) := by decide +kernel
theorem dL_rightHigh_8 : decode cL_rightHigh 8 = .ok (.lastore, 1) := by decide +kernel
theorem dL_rightHigh_9 : decode cL_rightHigh 9 = .ok (.goto 6, 3) := by decide +kernel
theorem dL_rightHigh_12 : decode cL_rightHigh 12 = .ok (.astore_n 3, 1) := by decide +kernel
theorem dL_rightHigh_13 : decode cL_rightHigh 13 = .ok (.iconst 1, 1) := by decide +kernel
theorem dL_rightHigh_14 : decode cL_rightHigh 14 = .ok (.ireturn, 1) := by decide +kernel
theorem dL_rightHigh_15 : decode cL_rightHigh 15 = .ok (.iconst 0, 1) := by decide +kernel
theorem dL_rightHigh_16 : decode cL_rightHigh 16 = .ok (.ireturn, 1) := by decide +kernel
set_option maxRecDepth 20000 in
theorem ggL_setSpread_X0_setSpread : GoodIn wsL_setSpread wsX0_setSpread := goodIn_ca (goodIn_ca (goodIn_ca (goodIn_r _ [7, 8, 9, 10, 11, 12, 13, 14, 15, 6, 16, 17, 18, 19, 20, 21, 22, 23, 24, 25, 26, 27, 28, 29, 30] (by decide +kernel) (by decide +kernel)) (goodIn_sub (fun _ h => List.mem_cons_of_mem _ (List.mem_append_left _ (List.mem_append_right _ h))) (by decide +kernel))) (goodIn_sub (fun _ h => List.mem_cons_of_mem _ (List.mem_append_right _ h)) (by decide +kernel))) (goodIn_sub (fun _ h => List.mem_cons_of_mem _ (List.mem_append_left _ (List.mem_append_left _ (List.mem_append_right _ h)))) (by decide +kernel))
set_option maxRecDepth 20000 in
theorem gL_setSpread_X0_setSpread : GoodIn wsL_setSpread (wsV RL 35 RX0 yX0_setSpread wsX0_setSpread) := goodIn_app (goodIn_of _ (by decide +kernel)) ggL_setSpread_X0_setSpread
theorem dL_setSpread_0 : decode cL_setSpread 0 = .ok (.aload 4, 2) := by decide +kernel
theorem dL_setSpread_2 : decode cL_setSpread 2 = .ok (.iconst 0, 1) := by decide +kernel
theorem dL_setSpread_3 : decode cL_setSpread 3 = .ok (.aload_n 0, 1) := by decide +kernel
theorem dL_setSpread_4 : decode cL_setSpread 4 = .ok (.iload_n 1, 1) := by decide +kernel
theorem dL_setSpread_5 : decode cL_setSpread 5 = .ok (.iload_n 2, 1) := by decide +kernel
theorem dL_setSpread_6 : decode cL_setSpread 6 = .ok (.iload_n 3, 1) := by decide +kernel
theorem dL_setSpread_7 : decode cL_setSpread 7 = .ok (.invokevirtual 35, 3) := by decide +kernel
theorem dL_setSpread_10 : decode cL_setSpread 10 = .ok (.i2l, 1) := by decide +kernel
theorem dL_setSpread_11 : decode cL_setSpread 11 = .ok (.lastore, 1) := by decide +kernel
theorem dL_setSpread_12 : decode cL_setSpread 12 = .ok (.goto 11, 3) := by decide +kernel
theorem dL_setSpread_15 : decode cL_setSpread 15 = .ok (.astore 5, 2) := by decide +kernel
theorem dL_setSpread_17 : decode cL_setSpread 17 = .ok (.iconst 1, 1) := by decide +kernel
theorem dL_setSpread_18 : decode cL_setSpread 18 = .ok (.ireturn, 1) := by decide +kernel
theorem dL_setSpread_19 : decode cL_setSpread 19 = .ok (.astore 5, 2) := by decide +kernel
theorem dL_setSpread_21 : decode cL_setSpread 21 = .ok (.iconst 2, 1) := by decide +kernel
theorem dL_setSpread_22 : decode cL_setSpread 22 = .ok (.ireturn, 1) := by decide +kernel
theorem dL_setSpread_23 : decode cL_setSpread 23 = .ok (.iconst 0, 1) := by decide +kernel
theorem dL_setSpread_24 : decode cL_setSpread 24 = .ok (.ireturn, 1) := by decide +kernel
set_option maxRecDepth 20000 in
theorem ggL_swapRows_X0_swapRows : GoodIn wsL_swapRows wsX0_swapRows := goodIn_ca (goodIn_ca (goodIn_r _ [6, 7, 8, 9, 10, 11, 12, 13, 14, 15, 16, 5, 17, 18, 19, 20, 21, 22, 23, 24, 25, 26, 27, 28, 29, 30, 31, 32, 33] (by decide +kernel) (by decide +kernel)) (goodIn_sub (fun _ h => List.mem_cons_of_mem _ (List.mem_append_right _ h)) (by decide +kernel))) (goodIn_sub (fun _ h => List.mem_cons_of_mem _ (List.mem_append_left _ (List.mem_append_right _ h))) (by decide +kernel))
set_option maxRecDepth 20000 in
theorem gL_swapRows_X0_swapRows : GoodIn wsL_swapRows (wsV RL 38 RX0 yX0_swapRows wsX0_swapRows) := goodIn_app (goodIn_of _ (by decide +kernel)) ggL_swapRows_X0_swapRows
theorem dL_swapRows_0 : decode cL_swapRows 0 = .ok (.aload_n 3, 1) := by decide +kernel
theorem dL_swapRows_1 : decode cL_swapRows 1 = .ok (.iconst 0, 1) := by decide +kernel
theorem dL_swapRows_2 : decode cL_swapRows 2 = .ok (.aload_n 0, 1) := by decide +kernel
theorem dL_swapRows_3 : decode cL_swapRows 3 = .ok (.iload_n 1, 1) := by decide +kernel
theorem dL_swapRows_4 : decode cL_swapRows 4 = .ok (.iload_n 2, 1) := by decide +kernel
theorem dL_swapRows_5 : decode cL_swapRows 5 = .ok (.invokevirtual 38, 3) := by decide +kernel
theorem dL_swapRows_8 : decode cL_swapRows 8 = .ok (.ifCond .eq 7, 3) := by decide +kernel
theorem dL_swapRows_11 : decode cL_swapRows 11 = .ok (.lconst 1, 1) := by decide +kernel
theorem dL_swapRows_12 : decode cL_swapRows 12 = .ok (.goto 4, 3) := by decide +kernel
theorem dL_swapRows_15 : decode cL_swapRows 15 = .ok (.lconst 0, 1) := by decide +kernel
theorem dL_swapRows_16 : decode cL_swapRows 16 = .ok (.lastore, 1) := by decide +kernel
theorem dL_swapRows_17 : decode cL_swapRows 17 = .ok (.goto 7, 3) := by decide +kernel
theorem dL_swapRows_20 : decode cL_swapRows 20 = .ok (.astore 4, 2) := by decide +kernel
theorem dL_swapRows_22 : decode cL_swapRows 22 = .ok (.iconst 1, 1) := by decide +kernel
theorem dL_swapRows_23 : decode cL_swapRows 23 = .ok (.ireturn, 1) := by decide +kernel
theorem dL_swapRows_24 : decode cL_swapRows 24 = .ok (.iconst 0, 1) := by decide +kernel
theorem dL_swapRows_25 : decode cL_swapRows 25 = .ok (.ireturn, 1) := by decide +kernel
set_option maxRecDepth 20000 in
theorem ggL_addRow_X0_addRow : GoodIn wsL_addRow wsX0_addRow := goodIn_ca (goodIn_ca (goodIn_ca (goodIn_ca (goodIn_r _ [8, 9, 10, 11, 12, 13, 14, 15, 16, 17, 18, 19, 7, 20, 21, 22, 23, 24, 25, 26, 27, 28, 29, 30, 31, 32, 33, 34, 35, 36, 37, 38, 39, 40, 41, 42, 43, 44, 45, 46, 47, 48, 49, 50, 51, 52, 53, 54, 55] (by decide +kernel) (by decide +kernel)) (goodIn_sub (fun _ h => List.mem_cons_of_mem _ (List.mem_append_left _ (List.mem_append_left _ (List.mem_append_right _ h)))) (by decide +kernel))) (goodIn_sub (fun _ h => List.mem_cons_of_mem _ (List.mem_append_left _ (List.mem_append_right _ h))) (by decide +kernel))) (goodIn_sub (fun _ h => List.mem_cons_of_mem _ (List.mem_append_left _ (List.mem_append_left _ (List.mem_append_left _ (List.mem_append_right _ h))))) (by decide +kernel))) (goodIn_sub (fun _ h => List.mem_cons_of_mem _ (List.mem_append_right _ h)) (by decide +kernel))
set_option maxRecDepth 20000 in
theorem gL_addRow_X0_addRow : GoodIn wsL_addRow (wsV RL 42 RX0 yX0_addRow wsX0_addRow) := goodIn_app (goodIn_of _ (by decide +kernel)) ggL_addRow_X0_addRow
theorem dL_addRow_0 : decode cL_addRow 0 = .ok (.aload 4, 2) := by decide +kernel
theorem dL_addRow_2 : decode cL_addRow 2 = .ok (.iconst 0, 1) := by decide +kernel
theorem dL_addRow_3 : decode cL_addRow 3 = .ok (.aload_n 0, 1) := by decide +kernel
theorem dL_addRow_4 : decode cL_addRow 4 = .ok (.iload_n 1, 1) := by decide +kernel
theorem dL_addRow_5 : decode cL_addRow 5 = .ok (.iload_n 2, 1) := by decide +kernel
theorem dL_addRow_6 : decode cL_addRow 6 = .ok (.iload_n 3, 1) := by decide +kernel
theorem dL_addRow_7 : decode cL_addRow 7 = .ok (.invokevirtual 42, 3) := by decide +kernel
theorem dL_addRow_10 : decode cL_addRow 10 = .ok (.i2l, 1) := by decide +kernel
theorem dL_addRow_11 : decode cL_addRow 11 = .ok (.lastore, 1) := by decide +kernel
theorem dL_addRow_12 : decode cL_addRow 12 = .ok (.goto 15, 3) := by decide +kernel
theorem dL_addRow_15 : decode cL_addRow 15 = .ok (.astore 5, 2) := by decide +kernel
theorem dL_addRow_17 : decode cL_addRow 17 = .ok (.iconst 1, 1) := by decide +kernel
theorem dL_addRow_18 : decode cL_addRow 18 = .ok (.ireturn, 1) := by decide +kernel
theorem dL_addRow_19 : decode cL_addRow 19 = .ok (.astore 5, 2) := by decide +kernel
theorem dL_addRow_21 : decode cL_addRow 21 = .ok (.iconst 2, 1) := by decide +kernel
theorem dL_addRow_22 : decode cL_addRow 22 = .ok (.ireturn, 1) := by decide +kernel
theorem dL_addRow_23 : decode cL_addRow 23 = .ok (.astore 5, 2) := by decide +kernel
theorem dL_addRow_25 : decode cL_addRow 25 = .ok (.iconst 3, 1) := by decide +kernel
theorem dL_addRow_26 : decode cL_addRow 26 = .ok (.ireturn, 1) := by decide +kernel
theorem dL_addRow_27 : decode cL_addRow 27 = .ok (.iconst 0, 1) := by decide +kernel
theorem dL_addRow_28 : decode cL_addRow 28 = .ok (.ireturn, 1) := by decide +kernel
set_option maxRecDepth 20000 in
theorem ggL_lowNumerator_X0_lowNumerator : GoodIn wsL_lowNumerator wsX0_lowNumerator := goodIn_ca (goodIn_ca (goodIn_ca (goodIn_ca (goodIn_r _ [7, 8, 9, 10, 11, 12, 13, 14, 15, 6, 16, 17, 18, 19, 20, 21, 22, 23, 24, 25, 26, 27, 28, 29, 30, 31, 32, 33, 34, 35, 36, 37, 38, 39, 40, 41, 42, 43, 44, 45, 46, 47, 48, 49, 50, 51, 52, 53, 54, 55, 56, 57, 58, 59, 60, 61, 62, 63, 64, 65, 66, 67, 68, 69, 70, 71, 72, 73, 74, 75, 76, 77] (by decide +kernel) (by decide +kernel)) (goodIn_sub (fun _ h => List.mem_cons_of_mem _ (List.mem_append_left _ (List.mem_append_left _ (List.mem_append_right _ h)))) (by decide +kernel))) (goodIn_sub (fun _ h => List.mem_cons_of_mem _ (List.mem_append_left _ (List.mem_append_right _ h))) (by decide +kernel))) (goodIn_sub (fun _ h => List.mem_cons_of_mem _ (List.mem_append_left _ (List.mem_append_left _ (List.mem_append_left _ (List.mem_append_right _ h))))) (by decide +kernel))) (goodIn_sub (fun _ h => List.mem_cons_of_mem _ (List.mem_append_right _ h)) (by decide +kernel))
set_option maxRecDepth 20000 in
theorem gL_lowNumerator_X0_lowNumerator : GoodIn wsL_lowNumerator (wsV RL 47 RX0 yX0_lowNumerator wsX0_lowNumerator) := goodIn_app (goodIn_of _ (by decide +kernel)) ggL_lowNumerator_X0_lowNumerator
theorem dL_lowNumerator_0 : decode cL_lowNumerator 0 = .ok (.aload_n 2, 1) := by decide +kernel
theorem dL_lowNumerator_1 : decode cL_lowNumerator 1 = .ok (.iconst 0, 1) := by decide +kernel
theorem dL_lowNumerator_2 : decode cL_lowNumerator 2 = .ok (.aload_n 0, 1) := by decide +kernel
theorem dL_lowNumerator_3 : decode cL_lowNumerator 3 = .ok (.iload_n 1, 1) := by decide +kernel
theorem dL_lowNumerator_4 : decode cL_lowNumerator 4 = .ok (.invokevirtual 47, 3) := by decide +kernel
theorem dL_lowNumerator_7 : decode cL_lowNumerator 7 = .ok (.lastore, 1) := by decide +kernel
theorem dL_lowNumerator_8 : decode cL_lowNumerator 8 = .ok (.goto 9, 3) := by decide +kernel
theorem dL_lowNumerator_11 : decode cL_lowNumerator 11 = .ok (.astore_n 3, 1) := by decide +kernel
theorem dL_lowNumerator_12 : decode cL_lowNumerator 12 = .ok (.iconst 1, 1) := by decide +kernel
theorem dL_lowNumerator_13 : decode cL_lowNumerator 13 = .ok (.ireturn, 1) := by decide +kernel
theorem dL_lowNumerator_14 : decode cL_lowNumerator 14 = .ok (.astore_n 3, 1) := by decide +kernel
theorem dL_lowNumerator_15 : decode cL_lowNumerator 15 = .ok (.iconst 2, 1) := by decide +kernel
theorem dL_lowNumerator_16 : decode cL_lowNumerator 16 = .ok (.ireturn, 1) := by decide +kernel
theorem dL_lowNumerator_17 : decode cL_lowNumerator 17 = .ok (.iconst 0, 1) := by decide +kernel
theorem dL_lowNumerator_18 : decode cL_lowNumerator 18 = .ok (.ireturn, 1) := by decide +kernel
set_option maxRecDepth 20000 in
theorem ggL_lowDenominator_X0_lowDenominator : GoodIn wsL_lowDenominator wsX0_lowDenominator := goodIn_ca (goodIn_ca (goodIn_ca (goodIn_ca (goodIn_r _ [7, 8, 9, 10, 11, 12, 13, 14, 15, 6, 16, 17, 18, 19, 20, 21, 22, 23, 24, 25, 26, 27, 28, 29, 30, 31, 32, 33, 34, 35, 36, 37, 38, 39, 40, 41, 42, 43, 44, 45, 46, 47, 48, 49, 50, 51, 52, 53, 54, 55, 56, 57, 58, 59, 60, 61, 62, 63, 64, 65, 66, 67, 68, 69, 70, 71, 72, 73, 74, 75, 76, 77] (by decide +kernel) (by decide +kernel)) (goodIn_sub (fun _ h => List.mem_cons_of_mem _ (List.mem_append_left _ (List.mem_append_left _ (List.mem_append_right _ h)))) (by decide +kernel))) (goodIn_sub (fun _ h => List.mem_cons_of_mem _ (List.mem_append_left _ (List.mem_append_right _ h))) (by decide +kernel))) (goodIn_sub (fun _ h => List.mem_cons_of_mem _ (List.mem_append_left _ (List.mem_append_left _ (List.mem_append_left _ (List.mem_append_right _ h))))) (by decide +kernel))) (goodIn_sub (fun _ h => List.mem_cons_of_mem _ (List.mem_append_right _ h)) (by decide +kernel))
set_option maxRecDepth 20000 in
theorem gL_lowDenominator_X0_lowDenominator : GoodIn wsL_lowDenominator (wsV RL 51 RX0 yX0_lowDenominator wsX0_lowDenominator) := goodIn_app (goodIn_of _ (by decide +kernel)) ggL_lowDenominator_X0_lowDenominator
theorem dL_lowDenominator_0 : decode cL_lowDenominator 0 = .ok (.aload_n 2, 1) := by decide +kernel
theorem dL_lowDenominator_1 : decode cL_lowDenominator 1 = .ok (.iconst 0, 1) := by decide +kernel
theorem dL_lowDenominator_2 : decode cL_lowDenominator 2 = .ok (.aload_n 0, 1) := by decide +kernel
theorem dL_lowDenominator_3 : decode cL_lowDenominator 3 = .ok (.iload_n 1, 1) := by decide +kernel
theorem dL_lowDenominator_4 : decode cL_lowDenominator 4 = .ok (.invokevirtual 51, 3) := by decide +kernel
theorem dL_lowDenominator_7 : decode cL_lowDenominator 7 = .ok (.lastore, 1) := by decide +kernel
theorem dL_lowDenominator_8 : decode cL_lowDenominator 8 = .ok (.goto 9, 3) := by decide +kernel
theorem dL_lowDenominator_11 : decode cL_lowDenominator 11 = .ok (.astore_n 3, 1) := by decide +kernel
theorem dL_lowDenominator_12 : decode cL_lowDenominator 12 = .ok (.iconst 1, 1) := by decide +kernel
theorem dL_lowDenominator_13 : decode cL_lowDenominator 13 = .ok (.ireturn, 1) := by decide +kernel
theorem dL_lowDenominator_14 : decode cL_lowDenominator 14 = .ok (.astore_n 3, 1) := by decide +kernel
theorem dL_lowDenominator_15 : decode cL_lowDenominator 15 = .ok (.iconst 2, 1) := by decide +kernel
theorem dL_lowDenominator_16 : decode cL_lowDenominator 16 = .ok (.ireturn, 1) := by decide +kernel
theorem dL_lowDenominator_17 : decode cL_lowDenominator 17 = .ok (.iconst 0, 1) := by decide +kernel
theorem dL_lowDenominator_18 : decode cL_lowDenominator 18 = .ok (.ireturn, 1) := by decide +kernel
set_option maxRecDepth 20000 in
theorem ggL_highNumerator_X0_highNumerator : GoodIn wsL_highNumerator wsX0_highNumerator := goodIn_ca (goodIn_ca (goodIn_ca (goodIn_ca (goodIn_r _ [7, 8, 9, 10, 11, 12, 13, 14, 15, 6, 16, 17, 18, 19, 20, 21, 22, 23, 24, 25, 26, 27, 28, 29, 30, 31, 32, 33, 34, 35, 36, 37, 38, 39, 40, 41, 42, 43, 44, 45, 46, 47, 48, 49, 50, 51, 52, 53, 54, 55, 56, 57, 58, 59, 60, 61, 62, 63, 64, 65, 66, 67, 68, 69, 70, 71, 72, 73, 74, 75, 76, 77] (by decide +kernel) (by decide +kernel)) (goodIn_sub (fun _ h => List.mem_cons_of_mem _ (List.mem_append_left _ (List.mem_append_left _ (List.mem_append_right _ h)))) (by decide +kernel))) (goodIn_sub (fun _ h => List.mem_cons_of_mem _ (List.mem_append_left _ (List.mem_append_right _ h))) (by decide +kernel))) (goodIn_sub (fun _ h => List.mem_cons_of_mem _ (List.mem_append_left _ (List.mem_append_left _ (List.mem_append_left _ (List.mem_append_right _ h))))) (by decide +kernel))) (goodIn_sub (fun _ h => List.mem_cons_of_mem _ (List.mem_append_right _ h)) (by decide +kernel))
set_option maxRecDepth 20000 in
theorem gL_highNumerator_X0_highNumerator : GoodIn wsL_highNumerator (wsV RL 54 RX0 yX0_highNumerator wsX0_highNumerator) := goodIn_app (goodIn_of _ (by decide +kernel)) ggL_highNumerator_X0_highNumerator
theorem dL_highNumerator_0 : decode cL_highNumerator 0 = .ok (.aload_n 2, 1) := by decide +kernel
theorem dL_highNumerator_1 : decode cL_highNumerator 1 = .ok (.iconst 0, 1) := by decide +kernel
theorem dL_highNumerator_2 : decode cL_highNumerator 2 = .ok (.aload_n 0, 1) := by decide +kernel
theorem dL_highNumerator_3 : decode cL_highNumerator 3 = .ok (.iload_n 1, 1) := by decide +kernel
theorem dL_highNumerator_4 : decode cL_highNumerator 4 = .ok (.invokevirtual 54, 3) := by decide +kernel
theorem dL_highNumerator_7 : decode cL_highNumerator 7 = .ok (.lastore, 1) := by decide +kernel
theorem dL_highNumerator_8 : decode cL_highNumerator 8 = .ok (.goto 9, 3) := by decide +kernel
theorem dL_highNumerator_11 : decode cL_highNumerator 11 = .ok (.astore_n 3, 1) := by decide +kernel
theorem dL_highNumerator_12 : decode cL_highNumerator 12 = .ok (.iconst 1, 1) := by decide +kernel
theorem dL_highNumerator_13 : decode cL_highNumerator 13 = .ok (.ireturn, 1) := by decide +kernel
theorem dL_highNumerator_14 : decode cL_highNumerator 14 = .ok (.astore_n 3, 1) := by decide +kernel
theorem dL_highNumerator_15 : decode cL_highNumerator 15 = .ok (.iconst 2, 1) := by decide +kernel
theorem dL_highNumerator_16 : decode cL_highNumerator 16 = .ok (.ireturn, 1) := by decide +kernel
theorem dL_highNumerator_17 : decode cL_highNumerator 17 = .ok (.iconst 0, 1) := by decide +kernel
theorem dL_highNumerator_18 : decode cL_highNumerator 18 = .ok (.ireturn, 1) := by decide +kernel
set_option maxRecDepth 20000 in
theorem ggL_highDenominator_X0_highDenominator : GoodIn wsL_highDenominator wsX0_highDenominator := goodIn_ca (goodIn_ca (goodIn_ca (goodIn_ca (goodIn_r _ [7, 8, 9, 10, 11, 12, 13, 14, 15, 6, 16, 17, 18, 19, 20, 21, 22, 23, 24, 25, 26, 27, 28, 29, 30, 31, 32, 33, 34, 35, 36, 37, 38, 39, 40, 41, 42, 43, 44, 45, 46, 47, 48, 49, 50, 51, 52, 53, 54, 55, 56, 57, 58, 59, 60, 61, 62, 63, 64, 65, 66, 67, 68, 69, 70, 71, 72, 73, 74, 75, 76, 77] (by decide +kernel) (by decide +kernel)) (goodIn_sub (fun _ h => List.mem_cons_of_mem _ (List.mem_append_left _ (List.mem_append_left _ (List.mem_append_right _ h)))) (by decide +kernel))) (goodIn_sub (fun _ h => List.mem_cons_of_mem _ (List.mem_append_left _ (List.mem_append_right _ h))) (by decide +kernel))) (goodIn_sub (fun _ h => List.mem_cons_of_mem _ (List.mem_append_left _ (List.mem_append_left _ (List.mem_append_left _ (List.mem_append_right _ h))))) (by decide +kernel))) (goodIn_sub (fun _ h => List.mem_cons_of_mem _ (List.mem_append_right _ h)) (by decide +kernel))
set_option maxRecDepth 20000 in
theorem gL_highDenominator_X0_highDenominator : GoodIn wsL_highDenominator (wsV RL 57 RX0 yX0_highDenominator wsX0_highDenominator) := goodIn_app (goodIn_of _ (by decide +kernel)) ggL_highDenominator_X0_highDenominator
theorem dL_highDenominator_0 : decode cL_highDenominator 0 = .ok (.aload_n 2, 1) := by decide +kernel
theorem dL_highDenominator_1 : decode cL_highDenominator 1 = .ok (.iconst 0, 1) := by decide +kernel
theorem dL_highDenominator_2 : decode cL_highDenominator 2 = .ok (.aload_n 0, 1) := by decide +kernel
theorem dL_highDenominator_3 : decode cL_highDenominator 3 = .ok (.iload_n 1, 1) := by decide +kernel
theorem dL_highDenominator_4 : decode cL_highDenominator 4 = .ok (.invokevirtual 57, 3) := by decide +kernel
theorem dL_highDenominator_7 : decode cL_highDenominator 7 = .ok (.lastore, 1) := by decide +kernel
theorem dL_highDenominator_8 : decode cL_highDenominator 8 = .ok (.goto 9, 3) := by decide +kernel
theorem dL_highDenominator_11 : decode cL_highDenominator 11 = .ok (.astore_n 3, 1) := by decide +kernel
theorem dL_highDenominator_12 : decode cL_highDenominator 12 = .ok (.iconst 1, 1) := by decide +kernel
theorem dL_highDenominator_13 : decode cL_highDenominator 13 = .ok (.ireturn, 1) := by decide +kernel
theorem dL_highDenominator_14 : decode cL_highDenominator 14 = .ok (.astore_n 3, 1) := by decide +kernel
theorem dL_highDenominator_15 : decode cL_highDenominator 15 = .ok (.iconst 2, 1) := by decide +kernel
theorem dL_highDenominator_16 : decode cL_highDenominator 16 = .ok (.ireturn, 1) := by decide +kernel
theorem dL_highDenominator_17 : decode cL_highDenominator 17 = .ok (.iconst 0, 1) := by decide +kernel
theorem dL_highDenominator_18 : decode cL_highDenominator 18 = .ok (.ireturn, 1) := by decide +kernel
set_option maxRecDepth 20000 in
theorem ggL_inverseNumerator_X0_inverseNumerator : GoodIn wsL_inverseNumerator wsX0_inverseNumerator := goodIn_ca (goodIn_ca (goodIn_ca (goodIn_ca (goodIn_r _ [7, 8, 9, 10, 11, 12, 13, 14, 15, 16, 6, 17, 18, 19, 20, 21, 22, 23, 24, 25, 26, 27, 28, 29, 30, 31, 32, 33, 34, 35, 36, 37, 38, 39, 40, 41, 42, 43, 44, 45, 46, 47, 48, 49, 50, 51, 52, 53, 54, 55, 56, 57, 58, 59, 60, 61, 62, 63, 64, 65, 66, 67, 68, 69, 70, 71] (by decide +kernel) (by decide +kernel)) (goodIn_sub (fun _ h => List.mem_cons_of_mem _ (List.mem_append_left _ (List.mem_append_left _ (List.mem_append_right _ h)))) (by decide +kernel))) (goodIn_sub (fun _ h => List.mem_cons_of_mem _ (List.mem_append_left _ (List.mem_append_right _ h))) (by decide +kernel))) (goodIn_sub (fun _ h => List.mem_cons_of_mem _ (List.mem_append_left _ (List.mem_append_left _ (List.mem_append_left _ (List.mem_append_right _ h))))) (by decide +kernel))) (goodIn_sub (fun _ h => List.mem_cons_of_mem _ (List.mem_append_right _ h)) (by decide +kernel))
set_option maxRecDepth 20000 in
theorem gL_inverseNumerator_X0_inverseNumerator : GoodIn wsL_inverseNumerator (wsV RL 60 RX0 yX0_inverseNumerator wsX0_inverseNumerator) := goodIn_app (goodIn_of _ (by decide +kernel)) ggL_inverseNumerator_X0_inverseNumerator
theorem dL_inverseNumerator_0 : decode cL_inverseNumerator 0 = .ok (.aload_n 3, 1) := by decide +kernel
theorem dL_inverseNumerator_1 : decode cL_inverseNumerator 1 = .ok (.iconst 0, 1) := by decide +kernel
theorem dL_inverseNumerator_2 : decode cL_inverseNumerator 2 = .ok (.aload_n 0, 1) := by decide +kernel
theorem dL_inverseNumerator_3 : decode cL_inverseNumerator 3 = .ok (.iload_n 1, 1) := by decide +kernel
theorem dL_inverseNumerator_4 : decode cL_inverseNumerator 4 = .ok (.iload_n 2, 1) := by decide +kernel
theorem dL_inverseNumerator_5 : decode cL_inverseNumerator 5 = .ok (.invokevirtual 60, 3) := by decide +kernel
theorem dL_inverseNumerator_8 : decode cL_inverseNumerator 8 = .ok (.lastore, 1) := by decide +kernel
theorem dL_inverseNumerator_9 : decode cL_inverseNumerator 9 = .ok (.goto 11, 3) := by decide +kernel
theorem dL_inverseNumerator_12 : decode cL_inverseNumerator 12 = .ok (.astore 4, 2) := by decide +kernel
theorem dL_inverseNumerator_14 : decode cL_inverseNumerator 14 = .ok (.iconst 1, 1) := by decide +kernel
theorem dL_inverseNumerator_15 : decode cL_inverseNumerator 15 = .ok (.ireturn, 1) := by decide +kernel
theorem dL_inverseNumerator_16 : decode cL_inverseNumerator 16 = .ok (.astore 4, 2) := by decide +kernel
theorem dL_inverseNumerator_18 : decode cL_inverseNumerator 18 = .ok (.iconst 2, 1) := by decide +kernel
theorem dL_inverseNumerator_19 : decode cL_inverseNumerator 19 = .ok (.ireturn, 1) := by decide +kernel
theorem dL_inverseNumerator_20 : decode cL_inverseNumerator 20 = .ok (.iconst 0, 1) := by decide +kernel
theorem dL_inverseNumerator_21 : decode cL_inverseNumerator 21 = .ok (.ireturn, 1) := by decide +kernel
set_option maxRecDepth 20000 in
theorem ggL_inverseDenominator_X0_inverseDenominator : GoodIn wsL_inverseDenominator wsX0_inverseDenominator := goodIn_ca (goodIn_ca (goodIn_ca (goodIn_ca (goodIn_r _ [7, 8, 9, 10, 11, 12, 13, 14, 15, 16, 6, 17, 18, 19, 20, 21, 22, 23, 24, 25, 26, 27, 28, 29, 30, 31, 32, 33, 34, 35, 36, 37, 38, 39, 40, 41, 42, 43, 44, 45, 46, 47, 48, 49, 50, 51, 52, 53, 54, 55, 56, 57, 58, 59, 60, 61, 62, 63, 64, 65, 66, 67, 68, 69, 70, 71] (by decide +kernel) (by decide +kernel)) (goodIn_sub (fun _ h => List.mem_cons_of_mem _ (List.mem_append_left _ (List.mem_append_left _ (List.mem_append_right _ h)))) (by decide +kernel))) (goodIn_sub (fun _ h => List.mem_cons_of_mem _ (List.mem_append_left _ (List.mem_append_right _ h))) (by decide +kernel))) (goodIn_sub (fun _ h => List.mem_cons_of_mem _ (List.mem_append_left _ (List.mem_append_left _ (List.mem_append_left _ (List.mem_append_right _ h))))) (by decide +kernel))) (goodIn_sub (fun _ h => List.mem_cons_of_mem _ (List.mem_append_right _ h)) (by decide +kernel))
set_option maxRecDepth 20000 in
theorem gL_inverseDenominator_X0_inverseDenominator : GoodIn wsL_inverseDenominator (wsV RL 64 RX0 yX0_inverseDenominator wsX0_inverseDenominator) := goodIn_app (goodIn_of _ (by decide +kernel)) ggL_inverseDenominator_X0_inverseDenominator
theorem dL_inverseDenominator_0 : decode cL_inverseDenominator 0 = .ok (.aload_n 3, 1) := by decide +kernel
theorem dL_inverseDenominator_1 : decode cL_inverseDenominator 1 = .ok (.iconst 0, 1) := by decide +kernel
theorem dL_inverseDenominator_2 : decode cL_inverseDenominator 2 = .ok (.aload_n 0, 1) := by decide +kernel
theorem dL_inverseDenominator_3 : decode cL_inverseDenominator 3 = .ok (.iload_n 1, 1) := by decide +kernel
theorem dL_inverseDenominator_4 : decode cL_inverseDenominator 4 = .ok (.iload_n 2, 1) := by decide +kernel
theorem dL_inverseDenominator_5 : decode cL_inverseDenominator 5 = .ok (.invokevirtual 64, 3) := by decide +kernel
theorem dL_inverseDenominator_8 : decode cL_inverseDenominator 8 = .ok (.lastore, 1) := by decide +kernel
theorem dL_inverseDenominator_9 : decode cL_inverseDenominator 9 = .ok (.goto 11, 3) := by decide +kernel
theorem dL_inverseDenominator_12 : decode cL_inverseDenominator 12 = .ok (.astore 4, 2) := by decide +kernel
theorem dL_inverseDenominator_14 : decode cL_inverseDenominator 14 = .ok (.iconst 1, 1) := by decide +kernel
theorem dL_inverseDenominator_15 : decode cL_inverseDenominator 15 = .ok (.ireturn, 1) := by decide +kernel
theorem dL_inverseDenominator_16 : decode cL_inverseDenominator 16 = .ok (.astore 4, 2) := by decide +kernel
theorem dL_inverseDenominator_18 : decode cL_inverseDenominator 18 = .ok (.iconst 2, 1) := by decide +kernel
theorem dL_inverseDenominator_19 : decode cL_inverseDenominator 19 = .ok (.ireturn, 1) := by decide +kernel
theorem dL_inverseDenominator_20 : decode cL_inverseDenominator 20 = .ok (.iconst 0, 1) := by decide +kernel
theorem dL_inverseDenominator_21 : decode cL_inverseDenominator 21 = .ok (.ireturn, 1) := by decide +kernel
set_option maxRecDepth 20000 in
theorem ggL_condition_X0_condition : GoodIn wsL_condition wsX0_condition := goodIn_ca (goodIn_ca (goodIn_r _ [6, 7, 8, 9, 10, 11, 12, 13, 14, 15, 16, 17, 18, 19, 20, 21, 22, 23, 24, 25, 5, 26, 27, 28, 29, 30, 31, 32, 33, 34, 35, 36, 37, 38, 39, 40, 41, 42, 43, 44, 45, 46, 47, 48, 49, 50, 51, 52, 53, 54, 55, 56, 57, 58, 59, 60, 61, 62, 63, 64] (by decide +kernel) (by decide +kernel)) (goodIn_sub (fun _ h => List.mem_cons_of_mem _ (List.mem_append_right _ h)) (by decide +kernel))) (goodIn_sub (fun _ h => List.mem_cons_of_mem _ (List.mem_append_left _ (List.mem_append_right _ h))) (by decide +kernel))
set_option maxRecDepth 20000 in
theorem gL_condition_X0_condition : GoodIn wsL_condition (wsV RL 67 RX0 yX0_condition wsX0_condition) := goodIn_app (goodIn_of _ (by decide +kernel)) ggL_condition_X0_condition
theorem dL_condition_0 : decode cL_condition 0 = .ok (.aload_n 1, 1) := by decide +kernel
theorem dL_condition_1 : decode cL_condition 1 = .ok (.iconst 0, 1) := by decide +kernel
theorem dL_condition_2 : decode cL_condition 2 = .ok (.aload_n 0, 1) := by decide +kernel
theorem dL_condition_3 : decode cL_condition 3 = .ok (.invokevirtual 67, 3) := by decide +kernel
theorem dL_condition_6 : decode cL_condition 6 = .ok (.dastore, 1) := by decide +kernel
theorem dL_condition_7 : decode cL_condition 7 = .ok (.goto 6, 3) := by decide +kernel
theorem dL_condition_10 : decode cL_condition 10 = .ok (.astore_n 2, 1) := by decide +kernel
theorem dL_condition_11 : decode cL_condition 11 = .ok (.iconst 1, 1) := by decide +kernel
theorem dL_condition_12 : decode cL_condition 12 = .ok (.ireturn, 1) := by decide +kernel
theorem dL_condition_13 : decode cL_condition 13 = .ok (.iconst 0, 1) := by decide +kernel
theorem dL_condition_14 : decode cL_condition 14 = .ok (.ireturn, 1) := by decide +kernel
set_option maxRecDepth 20000 in
theorem ggL_variationNumerator_X0_variationNumerator : GoodIn wsL_variationNumerator wsX0_variationNumerator := goodIn_ca (goodIn_ca (goodIn_ca (goodIn_r _ [6, 7, 8, 9, 10, 11, 12, 13, 5, 14, 15, 16, 17, 18, 19, 20, 21, 22, 23, 24, 25, 26, 27, 28, 29, 30, 31, 32, 33, 34, 35, 36, 37, 38, 39, 40, 41, 42, 43, 44, 45, 46, 47, 48, 49, 50, 51, 52, 53, 54, 55, 56, 57, 58, 59, 60, 61, 62, 63, 64, 65, 66, 67, 68, 69, 70, 71, 72, 73] (by decide +kernel) (by decide +kernel)) (goodIn_sub (fun _ h => List.mem_cons_of_mem _ (List.mem_append_left _ (List.mem_append_right _ h))) (by decide +kernel))) (goodIn_sub (fun _ h => List.mem_cons_of_mem _ (List.mem_append_left _ (List.mem_append_left _ (List.mem_append_right _ h)))) (by decide +kernel))) (goodIn_sub (fun _ h => List.mem_cons_of_mem _ (List.mem_append_right _ h)) (by decide +kernel))
set_option maxRecDepth 20000 in
theorem gL_variationNumerator_X0_variationNumerator : GoodIn wsL_variationNumerator (wsV RL 71 RX0 yX0_variationNumerator wsX0_variationNumerator) := goodIn_app (goodIn_of _ (by decide +kernel)) ggL_variationNumerator_X0_variationNumerator
theorem dL_variationNumerator_0 : decode cL_variationNumerator 0 = .ok (.aload_n 1, 1) := by decide +kernel
theorem dL_variationNumerator_1 : decode cL_variationNumerator 1 = .ok (.iconst 0, 1) := by decide +kernel
theorem dL_variationNumerator_2 : decode cL_variationNumerator 2 = .ok (.aload_n 0, 1) := by decide +kernel
theorem dL_variationNumerator_3 : decode cL_variationNumerator 3 = .ok (.invokevirtual 71, 3) := by decide +kernel
theorem dL_variationNumerator_6 : decode cL_variationNumerator 6 = .ok (.lastore, 1) := by decide +kernel
theorem dL_variationNumerator_7 : decode cL_variationNumerator 7 = .ok (.goto 6, 3) := by decide +kernel
theorem dL_variationNumerator_10 : decode cL_variationNumerator 10 = .ok (.astore_n 2, 1) := by decide +kernel
theorem dL_variationNumerator_11 : decode cL_variationNumerator 11 = .ok (.iconst 1, 1) := by decide +kernel
theorem dL_variationNumerator_12 : decode cL_variationNumerator 12 = .ok (.ireturn, 1) := by decide +kernel
theorem dL_variationNumerator_13 : decode cL_variationNumerator 13 = .ok (.iconst 0, 1) := by decide +kernel
theorem dL_variationNumerator_14 : decode cL_variationNumerator 14 = .ok (.ireturn, 1) := by decide +kernel
set_option maxRecDepth 20000 in
theorem ggL_variationDenominator_X0_variationDenominator : GoodIn wsL_variationDenominator wsX0_variationDenominator := goodIn_ca (goodIn_ca (goodIn_ca (goodIn_r _ [6, 7, 8, 9, 10, 11, 12, 13, 5, 14, 15, 16, 17, 18, 19, 20, 21, 22, 23, 24, 25, 26, 27, 28, 29, 30, 31, 32, 33, 34, 35, 36, 37, 38, 39, 40, 41, 42, 43, 44, 45, 46, 47, 48, 49, 50, 51, 52, 53, 54, 55, 56, 57, 58, 59, 60, 61, 62, 63, 64, 65, 66, 67, 68, 69, 70, 71, 72, 73] (by decide +kernel) (by decide +kernel)) (goodIn_sub (fun _ h => List.mem_cons_of_mem _ (List.mem_append_left _ (List.mem_append_right _ h))) (by decide +kernel))) (goodIn_sub (fun _ h => List.mem_cons_of_mem _ (List.mem_append_left _ (List.mem_append_left _ (List.mem_append_right _ h)))) (by decide +kernel))) (goodIn_sub (fun _ h => List.mem_cons_of_mem _ (List.mem_append_right _ h)) (by decide +kernel))
set_option maxRecDepth 20000 in
theorem gL_variationDenominator_X0_variationDenominator : GoodIn wsL_variationDenominator (wsV RL 75 RX0 yX0_variationDenominator wsX0_variationDenominator) := goodIn_app (goodIn_of _ (by decide +kernel)) ggL_variationDenominator_X0_variationDenominator
theorem dL_variationDenominator_0 : decode cL_variationDenominator 0 = .ok (.aload_n 1, 1) := by decide +kernel
theorem dL_variationDenominator_1 : decode cL_variationDenominator 1 = .ok (.iconst 0, 1) := by decide +kernel
theorem dL_variationDenominator_2 : decode cL_variationDenominator 2 = .ok (.aload_n 0, 1) := by decide +kernel
theorem dL_variationDenominator_3 : decode cL_variationDenominator 3 = .ok (.invokevirtual 75, 3) := by decide +kernel
theorem dL_variationDenominator_6 : decode cL_variationDenominator 6 = .ok (.lastore, 1) := by decide +kernel
theorem dL_variationDenominator_7 : decode cL_variationDenominator 7 = .ok (.goto 6, 3) := by decide +kernel
theorem dL_variationDenominator_10 : decode cL_variationDenominator 10 = .ok (.astore_n 2, 1) := by decide +kernel
theorem dL_variationDenominator_11 : decode cL_variationDenominator 11 = .ok (.iconst 1, 1) := by decide +kernel
theorem dL_variationDenominator_12 : decode cL_variationDenominator 12 = .ok (.ireturn, 1) := by decide +kernel
theorem dL_variationDenominator_13 : decode cL_variationDenominator 13 = .ok (.iconst 0, 1) := by decide +kernel
theorem dL_variationDenominator_14 : decode cL_variationDenominator 14 = .ok (.ireturn, 1) := by decide +kernel
set_option maxRecDepth 20000 in
theorem ggL_setBox_X0_setBox : GoodIn wsL_setBox wsX0_setBox := goodIn_ca (goodIn_ca (goodIn_ca (goodIn_r _ [7, 8, 9, 10, 11, 12, 13, 14, 15, 16, 17, 6, 18, 19, 20, 21, 22, 23, 24, 25, 26, 27, 28, 29, 30, 31, 32, 33, 34, 35, 36, 37, 38] (by decide +kernel) (by decide +kernel)) (goodIn_sub (fun _ h => List.mem_cons_of_mem _ (List.mem_append_left _ (List.mem_append_right _ h))) (by decide +kernel))) (goodIn_sub (fun _ h => List.mem_cons_of_mem _ (List.mem_append_right _ h)) (by decide +kernel))) (goodIn_sub (fun _ h => List.mem_cons_of_mem _ (List.mem_append_left _ (List.mem_append_left _ (List.mem_append_right _ h)))) (by decide +kernel))
set_option maxRecDepth 20000 in
theorem gL_setBox_X0_setBox : GoodIn wsL_setBox (wsV RL 78 RX0 yX0_setBox wsX0_setBox) := goodIn_app (goodIn_of _ (by decide +kernel)) ggL_setBox_X0_setBox
theorem dL_setBox_0 : decode cL_setBox 0 = .ok (.aload 4, 2) := by decide +kernel
theorem dL_setBox_2 : decode cL_setBox 2 = .ok (.iconst 0, 1) := by decide +kernel
theorem dL_setBox_3 : decode cL_setBox 3 = .ok (.aload_n 0, 1) := by decide +kernel
theorem dL_setBox_4 : decode cL_setBox 4 = .ok (.iload_n 1, 1) := by decide +kernel
theorem dL_setBox_5 : decode cL_setBox 5 = .ok (.iload_n 2, 1) := by decide +kernel
theorem dL_setBox_6 : decode cL_setBox 6 = .ok (.iload_n 3, 1) := by decide +kernel
theorem dL_setBox_7 : decode cL_setBox 7 = .ok (.invokevirtual 78, 3) := by decide +kernel
theorem dL_setBox_10 : decode cL_setBox 10 = .ok (.ifCond .eq 7, 3) := by decide +kernel
theorem dL_setBox_13 : decode cL_setBox 13 = .ok (.lconst 1, 1) := by decide +kernel
theorem dL_setBox_14 : decode cL_setBox 14 = .ok (.goto 4, 3) := by decide +kernel
theorem dL_setBox_17 : decode cL_setBox 17 = .ok (.lconst 0, 1) := by decide +kernel
theorem dL_setBox_18 : decode cL_setBox 18 = .ok (.lastore, 1) := by decide +kernel
theorem dL_setBox_19 : decode cL_setBox 19 = .ok (.goto 11, 3) := by decide +kernel
theorem dL_setBox_22 : decode cL_setBox 22 = .ok (.astore 5, 2) := by decide +kernel
theorem dL_setBox_24 : decode cL_setBox 24 = .ok (.iconst 1, 1) := by decide +kernel
theorem dL_setBox_25 : decode cL_setBox 25 = .ok (.ireturn, 1) := by decide +kernel
theorem dL_setBox_26 : decode cL_setBox 26 = .ok (.astore 5, 2) := by decide +kernel
theorem dL_setBox_28 : decode cL_setBox 28 = .ok (.iconst 2, 1) := by decide +kernel
theorem dL_setBox_29 : decode cL_setBox 29 = .ok (.ireturn, 1) := by decide +kernel
theorem dL_setBox_30 : decode cL_setBox 30 = .ok (.iconst 0, 1) := by decide +kernel
theorem dL_setBox_31 : decode cL_setBox 31 = .ok (.ireturn, 1) := by decide +kernel
set_option maxRecDepth 20000 in
theorem ggL_boxLow_X0_boxLow : GoodIn wsL_boxLow wsX0_boxLow := goodIn_ca (goodIn_ca (goodIn_r _ [6, 7, 8, 9, 10, 11, 12, 5, 13, 14, 15, 16, 17, 18, 19, 20, 21, 22, 23, 24, 25, 26, 27] (by decide +kernel) (by decide +kernel)) (goodIn_sub (fun _ h => List.mem_cons_of_mem _ (List.mem_append_right _ h)) (by decide +kernel))) (goodIn_sub (fun _ h => List.mem_cons_of_mem _ (List.mem_append_left _ (List.mem_append_right _ h))) (by decide +kernel))
set_option maxRecDepth 20000 in
theorem gL_boxLow_X0_boxLow : GoodIn wsL_boxLow (wsV RL 81 RX0 yX0_boxLow wsX0_boxLow) := goodIn_app (goodIn_of _ (by decide +kernel)) ggL_boxLow_X0_boxLow
theorem dL_boxLow_0 : decode cL_boxLow 0 = .ok (.aload_n 2, 1) := by decide +kernel
theorem dL_boxLow_1 : decode cL_boxLow 1 = .ok (.iconst 0, 1) := by decide +kernel
theorem dL_boxLow_2 : decode cL_boxLow 2 = .ok (.aload_n 0, 1) := by decide +kernel
theorem dL_boxLow_3 : decode cL_boxLow 3 = .ok (.iload_n 1, 1) := by decide +kernel
theorem dL_boxLow_4 : decode cL_boxLow 4 = .ok (.invokevirtual 81, 3) := by decide +kernel
theorem dL_boxLow_7 : decode cL_boxLow 7 = .ok (.i2l, 1) := by decide +kernel
theorem dL_boxLow_8 : decode cL_boxLow 8 = .ok (.lastore, 1) := by decide +kernel
theorem dL_boxLow_9 : decode cL_boxLow 9 = .ok (.goto 6, 3) := by decide +kernel
theorem dL_boxLow_12 : decode cL_boxLow 12 = .ok (.astore_n 3, 1) := by decide +kernel
theorem dL_boxLow_13 : decode cL_boxLow 13 = .ok (.iconst 1, 1) := by decide +kernel
theorem dL_boxLow_14 : decode cL_boxLow 14 = .ok (.ireturn, 1) := by decide +kernel
theorem dL_boxLow_15 : decode cL_boxLow 15 = .ok (.iconst 0, 1) := by decide +kernel
theorem dL_boxLow_16 : decode cL_boxLow 16 = .ok (.ireturn, 1) := by decide +kernel
set_option maxRecDepth 20000 in
theorem ggL_boxHigh_X0_boxHigh : GoodIn wsL_boxHigh wsX0_boxHigh := goodIn_ca (goodIn_ca (goodIn_r _ [6, 7, 8, 9, 10, 11, 12, 5, 13, 14, 15, 16, 17, 18, 19, 20, 21, 22, 23, 24, 25, 26, 27] (by decide +kernel) (by decide +kernel)) (goodIn_sub (fun _ h => List.mem_cons_of_mem _ (List.mem_append_right _ h)) (by decide +kernel))) (goodIn_sub (fun _ h => List.mem_cons_of_mem _ (List.mem_append_left _ (List.mem_append_right _ h))) (by decide +kernel))
set_option maxRecDepth 20000 in
theorem gL_boxHigh_X0_boxHigh : GoodIn wsL_boxHigh (wsV RL 84 RX0 yX0_boxHigh wsX0_boxHigh) := goodIn_app (goodIn_of _ (by decide +kernel)) ggL_boxHigh_X0_boxHigh
theorem dL_boxHigh_0 : decode cL_boxHigh 0 = .ok (.aload_n 2, 1) := by decide +kernel
theorem dL_boxHigh_1 : decode cL_boxHigh 1 = .ok (.iconst 0, 1) := by decide +kernel
theorem dL_boxHigh_2 : decode cL_boxHigh 2 = .ok (.aload_n 0, 1) := by decide +kernel
theorem dL_boxHigh_3 : decode cL_boxHigh 3 = .ok (.iload_n 1, 1) := by decide +kernel
theorem dL_boxHigh_4 : decode cL_boxHigh 4 = .ok (.invokevirtual 84, 3) := by decide +kernel
theorem dL_boxHigh_7 : decode cL_boxHigh 7 = .ok (.i2l, 1) := by decide +kernel
theorem dL_boxHigh_8 : decode cL_boxHigh 8 = .ok (.lastore, 1) := by decide +kernel
theorem dL_boxHigh_9 : decode cL_boxHigh 9 = .ok (.goto 6, 3) := by decide +kernel
theorem dL_boxHigh_12 : decode cL_boxHigh 12 = .ok (.astore_n 3, 1) := by decide +kernel
theorem dL_boxHigh_13 : decode cL_boxHigh 13 = .ok (.iconst 1, 1) := by decide +kernel
theorem dL_boxHigh_14 : decode cL_boxHigh 14 = .ok (.ireturn, 1) := by decide +kernel
theorem dL_boxHigh_15 : decode cL_boxHigh 15 = .ok (.iconst 0, 1) := by decide +kernel
theorem dL_boxHigh_16 : decode cL_boxHigh 16 = .ok (.ireturn, 1) := by decide +kernel
set_option maxRecDepth 20000 in
theorem ggL_contract_X0_contract : GoodIn wsL_contract wsX0_contract := goodIn_ca (goodIn_ca (goodIn_r _ [6, 7, 8, 9, 10, 11, 5, 12, 13, 14, 15, 16, 17, 18, 19, 20, 21, 22, 23, 24, 25, 26, 27, 28, 29, 30, 31, 32, 33, 34, 35, 36, 37, 38, 39, 40, 41, 42, 43, 44, 45, 46, 47, 48, 49, 50, 51, 52, 53, 54, 55, 56, 57, 58, 59, 60, 61, 62, 63, 64, 65, 66, 67, 68, 69, 70, 71] (by decide +kernel) (by decide +kernel)) (goodIn_sub (fun _ h => List.mem_cons_of_mem _ (List.mem_append_right _ h)) (by decide +kernel))) (goodIn_sub (fun _ h => List.mem_cons_of_mem _ (List.mem_append_left _ (List.mem_append_right _ h))) (by decide +kernel))
set_option maxRecDepth 20000 in
theorem gL_contract_X0_contract : GoodIn wsL_contract (wsV RL 87 RX0 yX0_contract wsX0_contract) := goodIn_app (goodIn_of _ (by decide +kernel)) ggL_contract_X0_contract
theorem dL_contract_0 : decode cL_contract 0 = .ok (.aload_n 2, 1) := by decide +kernel
theorem dL_contract_1 : decode cL_contract 1 = .ok (.iconst 0, 1) := by decide +kernel
theorem dL_contract_2 : decode cL_contract 2 = .ok (.aload_n 0, 1) := by decide +kernel
theorem dL_contract_3 : decode cL_contract 3 = .ok (.iload_n 1, 1) := by decide +kernel
theorem dL_contract_4 : decode cL_contract 4 = .ok (.invokevirtual 87, 3) := by decide +kernel
theorem dL_contract_7 : decode cL_contract 7 = .ok (.i2l, 1) := by decide +kernel
theorem dL_contract_8 : decode cL_contract 8 = .ok (.lastore, 1) := by decide +kernel
theorem dL_contract_9 : decode cL_contract 9 = .ok (.goto 6, 3) := by decide +kernel
theorem dL_contract_12 : decode cL_contract 12 = .ok (.astore_n 3, 1) := by decide +kernel
theorem dL_contract_13 : decode cL_contract 13 = .ok (.iconst 1, 1) := by decide +kernel
theorem dL_contract_14 : decode cL_contract 14 = .ok (.ireturn, 1) := by decide +kernel
theorem dL_contract_15 : decode cL_contract 15 = .ok (.iconst 0, 1) := by decide +kernel
theorem dL_contract_16 : decode cL_contract 16 = .ok (.ireturn, 1) := by decide +kernel
set_option maxRecDepth 20000 in
theorem ggL_sharpen_X0_sharpen : GoodIn wsL_sharpen wsX0_sharpen := goodIn_ca (goodIn_ca (goodIn_r _ [6, 7, 8, 9, 10, 11, 12, 5, 13, 14, 15, 16, 17, 18, 19, 20, 21, 22, 23, 24, 25, 26, 27, 28, 29, 30, 31, 32, 33, 34, 35, 36, 37, 38, 39, 40, 41, 42, 43, 44, 45, 46, 47, 48, 49, 50, 51, 52, 53, 54, 55, 56, 57, 58, 59, 60, 61, 62, 63, 64, 65, 66, 67, 68, 69, 70, 71, 72, 73, 74, 75, 76, 77, 78, 79, 80, 81, 82, 83, 84, 85, 86, 87, 88, 89, 90, 91, 92, 93, 94, 95, 96, 97, 98, 99, 100, 101, 102, 103, 104, 105, 106, 107, 108, 109, 110, 111, 112, 113] (by decide +kernel) (by decide +kernel)) (goodIn_sub (fun _ h => List.mem_cons_of_mem _ (List.mem_append_right _ h)) (by decide +kernel))) (goodIn_sub (fun _ h => List.mem_cons_of_mem _ (List.mem_append_left _ (List.mem_append_right _ h))) (by decide +kernel))
set_option maxRecDepth 20000 in
theorem gL_sharpen_X0_sharpen : GoodIn wsL_sharpen (wsV RL 90 RX0 yX0_sharpen wsX0_sharpen) := goodIn_app (goodIn_of _ (by decide +kernel)) ggL_sharpen_X0_sharpen
theorem dL_sharpen_0 : decode cL_sharpen 0 = .ok (.aload_n 1, 1) := by decide +kernel
theorem dL_sharpen_1 : decode cL_sharpen 1 = .ok (.iconst 0, 1) := by decide +kernel
theorem dL_sharpen_2 : decode cL_sharpen 2 = .ok (.aload_n 0, 1) := by decide +kernel
theorem dL_sharpen_3 : decode cL_sharpen 3 = .ok (.invokevirtual 90, 3) := by decide +kernel
theorem dL_sharpen_6 : decode cL_sharpen 6 = .ok (.i2l, 1) := by decide +kernel
theorem dL_sharpen_7 : decode cL_sharpen 7 = .ok (.lastore, 1) := by decide +kernel
theorem dL_sharpen_8 : decode cL_sharpen 8 = .ok (.goto 6, 3) := by decide +kernel
theorem dL_sharpen_11 : decode cL_sharpen 11 = .ok (.astore_n 2, 1) := by decide +kernel
theorem dL_sharpen_12 : decode cL_sharpen 12 = .ok (.iconst 1, 1) := by decide +kernel
theorem dL_sharpen_13 : decode cL_sharpen 13 = .ok (.ireturn, 1) := by decide +kernel
theorem dL_sharpen_14 : decode cL_sharpen 14 = .ok (.iconst 0, 1) := by decide +kernel
theorem dL_sharpen_15 : decode cL_sharpen 15 = .ok (.ireturn, 1) := by decide +kernel
set_option maxRecDepth 20000 in
theorem ggL_isCertified_X0_isCertified : GoodIn wsL_isCertified wsX0_isCertified := goodIn_ca (goodIn_ca (goodIn_r _ [6, 7, 8, 9, 10, 11, 12, 13, 14, 5, 15, 16, 17, 18, 19, 20, 21, 22, 23, 24, 25, 26, 27, 28, 29, 30, 31, 32, 33, 34, 35, 36, 37, 38, 39, 40, 41, 42, 43, 44, 45, 46, 47, 48, 49, 50, 51, 52, 53, 54, 55, 56, 57, 58, 59, 60, 61, 62, 63, 64, 65, 66, 67, 68, 69, 70, 71, 72, 73, 74, 75, 76, 77, 78, 79, 80, 81, 82, 83, 84, 85, 86, 87, 88, 89] (by decide +kernel) (by decide +kernel)) (goodIn_sub (fun _ h => List.mem_cons_of_mem _ (List.mem_append_right _ h)) (by decide +kernel))) (goodIn_sub (fun _ h => List.mem_cons_of_mem _ (List.mem_append_left _ (List.mem_append_right _ h))) (by decide +kernel))
set_option maxRecDepth 20000 in
theorem gL_isCertified_X0_isCertified : GoodIn wsL_isCertified (wsV RL 94 RX0 yX0_isCertified wsX0_isCertified) := goodIn_app (goodIn_of _ (by decide +kernel)) ggL_isCertified_X0_isCertified
theorem dL_isCertified_0 : decode cL_isCertified 0 = .ok (.aload_n 1, 1) := by decide +kernel
theorem dL_isCertified_1 : decode cL_isCertified 1 = .ok (.iconst 0, 1) := by decide +kernel
theorem dL_isCertified_2 : decode cL_isCertified 2 = .ok (.aload_n 0, 1) := by decide +kernel
theorem dL_isCertified_3 : decode cL_isCertified 3 = .ok (.invokevirtual 94, 3) := by decide +kernel
theorem dL_isCertified_6 : decode cL_isCertified 6 = .ok (.ifCond .eq 7, 3) := by decide +kernel
theorem dL_isCertified_9 : decode cL_isCertified 9 = .ok (.lconst 1, 1) := by decide +kernel
theorem dL_isCertified_10 : decode cL_isCertified 10 = .ok (.goto 4, 3) := by decide +kernel
theorem dL_isCertified_13 : decode cL_isCertified 13 = .ok (.lconst 0, 1) := by decide +kernel
theorem dL_isCertified_14 : decode cL_isCertified 14 = .ok (.lastore, 1) := by decide +kernel
theorem dL_isCertified_15 : decode cL_isCertified 15 = .ok (.goto 6, 3) := by decide +kernel
theorem dL_isCertified_18 : decode cL_isCertified 18 = .ok (.astore_n 2, 1) := by decide +kernel
theorem dL_isCertified_19 : decode cL_isCertified 19 = .ok (.iconst 1, 1) := by decide +kernel
theorem dL_isCertified_20 : decode cL_isCertified 20 = .ok (.ireturn, 1) := by decide +kernel
theorem dL_isCertified_21 : decode cL_isCertified 21 = .ok (.iconst 0, 1) := by decide +kernel
theorem dL_isCertified_22 : decode cL_isCertified 22 = .ok (.ireturn, 1) := by decide +kernel
set_option maxRecDepth 20000 in
theorem ggL_residualLow_X0_residualLow : GoodIn wsL_residualLow wsX0_residualLow := goodIn_ca (goodIn_ca (goodIn_r _ [6, 7, 8, 9, 10, 11, 12, 13, 5, 14, 15, 16, 17, 18, 19, 20, 21, 22, 23, 24, 25, 26, 27, 28, 29, 30, 31, 32, 33, 34, 35] (by decide +kernel) (by decide +kernel)) (goodIn_sub (fun _ h => List.mem_cons_of_mem _ (List.mem_append_right _ h)) (by decide +kernel))) (goodIn_sub (fun _ h => List.mem_cons_of_mem _ (List.mem_append_left _ (List.mem_append_right _ h))) (by decide +kernel))
set_option maxRecDepth 20000 in
theorem gL_residualLow_X0_residualLow : GoodIn wsL_residualLow (wsV RL 98 RX0 yX0_residualLow wsX0_residualLow) := goodIn_app (goodIn_of _ (by decide +kernel)) ggL_residualLow_X0_residualLow
theorem dL_residualLow_0 : decode cL_residualLow 0 = .ok (.aload_n 2, 1) := by decide +kernel
theorem dL_residualLow_1 : decode cL_residualLow 1 = .ok (.iconst 0, 1) := by decide +kernel
theorem dL_residualLow_2 : decode cL_residualLow 2 = .ok (.aload_n 0, 1) := by decide +kernel
theorem dL_residualLow_3 : decode cL_residualLow 3 = .ok (.iload_n 1, 1) := by decide +kernel
theorem dL_residualLow_4 : decode cL_residualLow 4 = .ok (.invokevirtual 98, 3) := by decide +kernel
theorem dL_residualLow_7 : decode cL_residualLow 7 = .ok (.lastore, 1) := by decide +kernel
theorem dL_residualLow_8 : decode cL_residualLow 8 = .ok (.goto 6, 3) := by decide +kernel
theorem dL_residualLow_11 : decode cL_residualLow 11 = .ok (.astore_n 3, 1) := by decide +kernel
theorem dL_residualLow_12 : decode cL_residualLow 12 = .ok (.iconst 1, 1) := by decide +kernel
theorem dL_residualLow_13 : decode cL_residualLow 13 = .ok (.ireturn, 1) := by decide +kernel
theorem dL_residualLow_14 : decode cL_residualLow 14 = .ok (.iconst 0, 1) := by decide +kernel
theorem dL_residualLow_15 : decode cL_residualLow 15 = .ok (.ireturn, 1) := by decide +kernel
set_option maxRecDepth 20000 in
theorem ggL_residualHigh_X0_residualHigh : GoodIn wsL_residualHigh wsX0_residualHigh := goodIn_ca (goodIn_ca (goodIn_r _ [6, 7, 8, 9, 10, 11, 12, 13, 5, 14, 15, 16, 17, 18, 19, 20, 21, 22, 23, 24, 25, 26, 27, 28, 29, 30, 31, 32, 33, 34, 35] (by decide +kernel) (by decide +kernel)) (goodIn_sub (fun _ h => List.mem_cons_of_mem _ (List.mem_append_right _ h)) (by decide +kernel))) (goodIn_sub (fun _ h => List.mem_cons_of_mem _ (List.mem_append_left _ (List.mem_append_right _ h))) (by decide +kernel))
set_option maxRecDepth 20000 in
theorem gL_residualHigh_X0_residualHigh : GoodIn wsL_residualHigh (wsV RL 101 RX0 yX0_residualHigh wsX0_residualHigh) := goodIn_app (goodIn_of _ (by decide +kernel)) ggL_residualHigh_X0_residualHigh
theorem dL_residualHigh_0 : decode cL_residualHigh 0 = .ok (.aload_n 2, 1) := by decide +kernel
theorem dL_residualHigh_1 : decode cL_residualHigh 1 = .ok (.iconst 0, 1) := by decide +kernel
theorem dL_residualHigh_2 : decode cL_residualHigh 2 = .ok (.aload_n 0, 1) := by decide +kernel
theorem dL_residualHigh_3 : decode cL_residualHigh 3 = .ok (.iload_n 1, 1) := by decide +kernel
theorem dL_residualHigh_4 : decode cL_residualHigh 4 = .ok (.invokevirtual 101, 3) := by decide +kernel
theorem dL_residualHigh_7 : decode cL_residualHigh 7 = .ok (.lastore, 1) := by decide +kernel
theorem dL_residualHigh_8 : decode cL_residualHigh 8 = .ok (.goto 6, 3) := by decide +kernel
theorem dL_residualHigh_11 : decode cL_residualHigh 11 = .ok (.astore_n 3, 1) := by decide +kernel
theorem dL_residualHigh_12 : decode cL_residualHigh 12 = .ok (.iconst 1, 1) := by decide +kernel
theorem dL_residualHigh_13 : decode cL_residualHigh 13 = .ok (.ireturn, 1) := by decide +kernel
theorem dL_residualHigh_14 : decode cL_residualHigh 14 = .ok (.iconst 0, 1) := by decide +kernel
theorem dL_residualHigh_15 : decode cL_residualHigh 15 = .ok (.ireturn, 1) := by decide +kernel
set_option maxRecDepth 20000 in
theorem ggL_law_X0_init : GoodIn wsL_law wsX0_init := goodIn_ca (goodIn_r _ [10, 11, 12, 13, 14, 15, 16, 17, 18, 19, 20, 21, 22, 23, 6, 24, 25, 26, 27, 28, 29, 30, 2, 31, 32, 33, 34, 643, 644, 645, 646, 647, 648, 649, 650, 651, 652, 653, 654, 655] (by decide +kernel) (by decide +kernel)) (goodIn_sub (fun _ h => List.mem_append_left _ (List.mem_append_left _ (List.mem_append_left _ (List.mem_append_left _ (List.mem_append_right _ h))))) (by decide +kernel))
set_option maxRecDepth 20000 in
theorem gL_law_X0_init : GoodIn wsL_law (wsX0_init) := ggL_law_X0_init
set_option maxRecDepth 20000 in
theorem ggL_law_X1_init : GoodIn wsL_law wsX1_init := goodIn_ca (goodIn_r _ [37, 38, 12, 13, 39, 15, 40, 41, 42, 43, 44, 45, 46, 47, 6, 48, 49, 50, 51, 5, 52, 53, 54, 55, 56, 57, 656, 657, 658, 659, 660, 661, 662, 663, 664, 665, 666, 667, 668] (by decide +kernel) (by decide +kernel)) (goodIn_sub (fun _ h => List.mem_append_left _ (List.mem_append_left _ (List.mem_append_left _ (List.mem_append_left _ (List.mem_append_right _ h))))) (by decide +kernel))
set_option maxRecDepth 20000 in
theorem gL_law_X1_init : GoodIn wsL_law (wsX1_init) := ggL_law_X1_init
set_option maxRecDepth 20000 in
theorem ggL_law_L_setSize : GoodIn wsL_law wsL_setSize := goodIn_ca (goodIn_ca (goodIn_r _ [61, 62, 63, 64, 65, 2, 66, 67, 68, 28, 29, 30, 31, 32, 16, 17, 18, 19, 20, 33, 21, 34, 643, 644, 645, 646, 647, 648, 649, 650, 651, 652, 653, 654, 655] (by decide +kernel) (by decide +kernel)) (goodIn_sub (fun _ h => List.mem_append_left _ (List.mem_append_left _ (List.mem_append_left _ (List.mem_append_left _ (List.mem_append_right _ h))))) (by decide +kernel))) (goodIn_sub (fun _ h => List.mem_append_left _ (List.mem_append_left _ (List.mem_append_left _ (List.mem_append_right _ h)))) (by decide +kernel))
set_option maxRecDepth 20000 in
theorem gL_law_L_setSize : GoodIn wsL_law (va_wsS RL 108 yL_setSize wsL_setSize) := goodIn_app (goodIn_of _ (by decide +kernel)) ggL_law_L_setSize
set_option maxRecDepth 20000 in
theorem ggL_law_X1_setSize : GoodIn wsL_law wsX1_setSize := goodIn_ca (goodIn_r _ [72, 73, 39, 74, 75, 76, 5, 77, 49, 50, 51, 52, 40, 41, 42, 43, 44, 53, 45, 54, 55, 56, 57, 656, 657, 658, 659, 660, 661, 662, 663, 664, 665, 666, 667, 668] (by decide +kernel) (by decide +kernel)) (goodIn_sub (fun _ h => List.mem_append_left _ (List.mem_append_left _ (List.mem_append_left _ (List.mem_append_left _ (List.mem_append_right _ h))))) (by decide +kernel))
set_option maxRecDepth 20000 in
theorem gL_law_X1_setSize : GoodIn wsL_law (wsV RL 113 RX1 yX1_setSize wsX1_setSize) := goodIn_app (goodIn_of _ (by decide +kernel)) ggL_law_X1_setSize
set_option maxRecDepth 20000 in
theorem ggL_law_X1_thrown : GoodIn wsL_law wsX1_thrown := goodIn_r _ [81, 73, 656, 657, 658, 659, 660, 661, 662, 663, 664, 665, 666, 667, 668] (by decide +kernel) (by decide +kernel)
set_option maxRecDepth 20000 in
theorem gL_law_X1_thrown : GoodIn wsL_law (wsV RL 114 RX1 yX1_thrown wsX1_thrown) := goodIn_app (goodIn_of _ (by decide +kernel)) ggL_law_X1_thrown
set_option maxRecDepth 20000 in
theorem ggL_law_X0_size : GoodIn wsL_law wsX0_size := goodIn_r _ [85, 32, 643, 644, 645, 646, 647, 648, 649, 650, 651, 652, 653, 654, 655] (by decide +kernel) (by decide +kernel)
set_option maxRecDepth 20000 in
theorem gL_law_X0_size : GoodIn wsL_law (wsV RL 117 RX0 yX0_size wsX0_size) := goodIn_app (goodIn_of _ (by decide +kernel)) ggL_law_X0_size
set_option maxRecDepth 20000 in
theorem ggL_law_X1_size : GoodIn wsL_law wsX1_size := goodIn_r _ [89, 73, 39, 656, 657, 658, 659, 660, 661, 662, 663, 664, 665, 666, 667, 668] (by decide +kernel) (by decide +kernel)
set_option maxRecDepth 20000 in
theorem gL_law_X1_size : GoodIn wsL_law (wsV RL 120 RX1 yX1_size wsX1_size) := goodIn_app (goodIn_of _ (by decide +kernel)) ggL_law_X1_size
set_option maxRecDepth 20000 in
theorem ggL_law_L_setCoefficient : GoodIn wsL_law wsL_setCoefficient := goodIn_ca (goodIn_ca (goodIn_ca (goodIn_r _ [92, 93, 62, 94, 95, 96, 2, 97, 98, 99, 67, 68, 16, 100, 101, 102, 103, 32, 104, 105, 106, 643, 644, 645, 646, 647, 648, 649, 650, 651, 652, 653, 654, 655] (by decide +kernel) (by decide +kernel)) (goodIn_sub (fun _ h => List.mem_append_left _ (List.mem_append_left _ (List.mem_append_left _ (List.mem_append_left _ (List.mem_append_right _ h))))) (by decide +kernel))) (goodIn_sub (fun _ h => List.mem_append_left _ (List.mem_append_left _ (List.mem_append_right _ h))) (by decide +kernel))) (goodIn_sub (fun _ h => List.mem_append_left _ (List.mem_append_left _ (List.mem_append_left _ (List.mem_append_right _ h)))) (by decide +kernel))
set_option maxRecDepth 20000 in
theorem gL_law_L_setCoefficient : GoodIn wsL_law (va_wsS RL 121 yL_setCoefficient wsL_setCoefficient) := goodIn_app (goodIn_of _ (by decide +kernel)) ggL_law_L_setCoefficient
set_option maxRecDepth 20000 in
theorem ggL_law_X1_setCoefficient : GoodIn wsL_law wsX1_setCoefficient := goodIn_ca (goodIn_r _ [110, 73, 40, 111, 112, 113, 5, 114, 39, 74, 75, 76, 77, 55, 56, 57, 656, 657, 658, 659, 660, 661, 662, 663, 664, 665, 666, 667, 668] (by decide +kernel) (by decide +kernel)) (goodIn_sub (fun _ h => List.mem_append_left _ (List.mem_append_left _ (List.mem_append_left _ (List.mem_append_left _ (List.mem_append_right _ h))))) (by decide +kernel))
set_option maxRecDepth 20000 in
theorem gL_law_X1_setCoefficient : GoodIn wsL_law (wsV RL 124 RX1 yX1_setCoefficient wsX1_setCoefficient) := goodIn_app (goodIn_of _ (by decide +kernel)) ggL_law_X1_setCoefficient
set_option maxRecDepth 20000 in
theorem ggL_law_L_coefficient : GoodIn wsL_law wsL_coefficient := goodIn_ca (goodIn_ca (goodIn_r _ [117, 93, 118, 119, 120, 2, 121, 98, 99, 16, 100, 101, 102, 103, 32, 643, 644, 645, 646, 647, 648, 649, 650, 651, 652, 653, 654, 655] (by decide +kernel) (by decide +kernel)) (goodIn_sub (fun _ h => List.mem_append_left _ (List.mem_append_left _ (List.mem_append_left _ (List.mem_append_left _ (List.mem_append_right _ h))))) (by decide +kernel))) (goodIn_sub (fun _ h => List.mem_append_left _ (List.mem_append_left _ (List.mem_append_right _ h))) (by decide +kernel))
set_option maxRecDepth 20000 in
theorem gL_law_L_coefficient : GoodIn wsL_law (va_wsS RL 125 yL_coefficient wsL_coefficient) := goodIn_app (goodIn_of _ (by decide +kernel)) ggL_law_L_coefficient
set_option maxRecDepth 20000 in
theorem ggL_law_X1_coefficient : GoodIn wsL_law wsX1_coefficient := goodIn_ca (goodIn_r _ [125, 73, 40, 111, 112, 113, 5, 114, 39, 55, 56, 57, 74, 75, 76, 77, 656, 657, 658, 659, 660, 661, 662, 663, 664, 665, 666, 667, 668] (by decide +kernel) (by decide +kernel)) (goodIn_sub (fun _ h => List.mem_append_left _ (List.mem_append_left _ (List.mem_append_left _ (List.mem_append_left _ (List.mem_append_right _ h))))) (by decide +kernel))
set_option maxRecDepth 20000 in
theorem gL_law_X1_coefficient : GoodIn wsL_law (wsV RL 128 RX1 yX1_coefficient wsX1_coefficient) := goodIn_app (goodIn_of _ (by decide +kernel)) ggL_law_X1_coefficient
set_option maxRecDepth 20000 in
theorem ggL_law_L_setRight : GoodIn wsL_law wsL_setRight := goodIn_ca (goodIn_ca (goodIn_ca (goodIn_r _ [128, 93, 62, 129, 130, 131, 2, 132, 98, 99, 67, 68, 18, 19, 100, 101, 102, 103, 32, 133, 134, 135, 104, 105, 106, 643, 644, 645, 646, 647, 648, 649, 650, 651, 652, 653, 654, 655] (by decide +kernel) (by decide +kernel)) (goodIn_sub (fun _ h => List.mem_append_left _ (List.mem_append_left _ (List.mem_append_left _ (List.mem_append_left _ (List.mem_append_right _ h))))) (by decide +kernel))) (goodIn_sub (fun _ h => List.mem_append_left _ (List.mem_append_left _ (List.mem_append_right _ h))) (by decide +kernel))) (goodIn_sub (fun _ h => List.mem_append_left _ (List.mem_append_left _ (List.mem_append_left _ (List.mem_append_right _ h)))) (by decide +kernel))
set_option maxRecDepth 20000 in
theorem gL_law_L_setRight : GoodIn wsL_law (va_wsS RL 129 yL_setRight wsL_setRight) := goodIn_app (goodIn_of _ (by decide +kernel)) ggL_law_L_setRight
set_option maxRecDepth 20000 in
theorem ggL_law_X1_setRight : GoodIn wsL_law wsX1_setRight := goodIn_ca (goodIn_r _ [139, 73, 42, 43, 111, 112, 113, 5, 114, 39, 74, 75, 76, 77, 656, 657, 658, 659, 660, 661, 662, 663, 664, 665, 666, 667, 668] (by decide +kernel) (by decide +kernel)) (goodIn_sub (fun _ h => List.mem_append_left _ (List.mem_append_left _ (List.mem_append_left _ (List.mem_append_left _ (List.mem_append_right _ h))))) (by decide +kernel))
set_option maxRecDepth 20000 in
theorem gL_law_X1_setRight : GoodIn wsL_law (wsV RL 131 RX1 yX1_setRight wsX1_setRight) := goodIn_app (goodIn_of _ (by decide +kernel)) ggL_law_X1_setRight
set_option maxRecDepth 20000 in
theorem ggL_law_L_rightLow : GoodIn wsL_law wsL_rightLow := goodIn_ca (goodIn_ca (goodIn_r _ [142, 93, 143, 144, 145, 2, 146, 98, 99, 18, 100, 101, 102, 103, 32, 643, 644, 645, 646, 647, 648, 649, 650, 651, 652, 653, 654, 655] (by decide +kernel) (by decide +kernel)) (goodIn_sub (fun _ h => List.mem_append_left _ (List.mem_append_left _ (List.mem_append_left _ (List.mem_append_left _ (List.mem_append_right _ h))))) (by decide +kernel))) (goodIn_sub (fun _ h => List.mem_append_left _ (List.mem_append_left _ (List.mem_append_right _ h))) (by decide +kernel))
set_option maxRecDepth 20000 in
theorem gL_law_L_rightLow : GoodIn wsL_law (va_wsS RL 132 yL_rightLow wsL_rightLow) := goodIn_app (goodIn_of _ (by decide +kernel)) ggL_law_L_rightLow
set_option maxRecDepth 20000 in
theorem ggL_law_X1_rightLow : GoodIn wsL_law wsX1_rightLow := goodIn_ca (goodIn_r _ [150, 73, 42, 111, 112, 113, 5, 114, 39, 74, 75, 76, 77, 656, 657, 658, 659, 660, 661, 662, 663, 664, 665, 666, 667, 668] (by decide +kernel) (by decide +kernel)) (goodIn_sub (fun _ h => List.mem_append_left _ (List.mem_append_left _ (List.mem_append_left _ (List.mem_append_left _ (List.mem_append_right _ h))))) (by decide +kernel))
set_option maxRecDepth 20000 in
theorem gL_law_X1_rightLow : GoodIn wsL_law (wsV RL 134 RX1 yX1_rightLow wsX1_rightLow) := goodIn_app (goodIn_of _ (by decide +kernel)) ggL_law_X1_rightLow
set_option maxRecDepth 20000 in
theorem ggL_law_L_rightHigh : GoodIn wsL_law wsL_rightHigh := goodIn_ca (goodIn_ca (goodIn_r _ [153, 93, 154, 155, 156, 2, 157, 98, 99, 19, 100, 101, 102, 103, 32, 643, 644, 645, 646, 647, 648, 649, 650, 651, 652, 653, 654, 655] (by decide +kernel) (by decide +kernel)) (goodIn_sub (fun _ h => List.mem_append_left _ (List.mem_append_left _ (List.mem_append_left _ (List.mem_append_left _ (List.mem_append_right _ h))))) (by decide +kernel))) (goodIn_sub (fun _ h => List.mem_append_left _ (List.mem_append_left _ (List.mem_append_right _ h))) (by decide +kernel))
set_option maxRecDepth 20000 in
theorem gL_law_L_rightHigh : GoodIn wsL_law (va_wsS RL 135 yL_rightHigh wsL_rightHigh) := goodIn_app (goodIn_of _ (by decide +kernel)) ggL_law_L_rightHigh
set_option maxRecDepth 20000 in
theorem ggL_law_X1_rightHigh : GoodIn wsL_law wsX1_rightHigh := goodIn_ca (goodIn_r _ [161, 73, 43, 111, 112, 113, 5, 114, 39, 74, 75, 76, 77, 656, 657, 658, 659, 660, 661, 662, 663, 664, 665, 666, 667, 668] (by decide +kernel) (by decide +kernel)) (goodIn_sub (fun _ h => List.mem_append_left _ (List.mem_append_left _ (List.mem_append_left _ (List.mem_append_left _ (List.mem_append_right _ h))))) (by decide +kernel))
set_option maxRecDepth 20000 in
theorem gL_law_X1_rightHigh : GoodIn wsL_law (wsV RL 137 RX1 yX1_rightHigh wsX1_rightHigh) := goodIn_app (goodIn_of _ (by decide +kernel)) ggL_law_X1_rightHigh
set_option maxRecDepth 20000 in
theorem ggL_law_L_setSpread : GoodIn wsL_law wsL_setSpread := goodIn_ca (goodIn_ca (goodIn_ca (goodIn_r _ [164, 93, 62, 165, 166, 167, 2, 168, 98, 99, 67, 68, 17, 100, 101, 102, 103, 32, 643, 644, 645, 646, 647, 648, 649, 650, 651, 652, 653, 654, 655] (by decide +kernel) (by decide +kernel)) (goodIn_sub (fun _ h => List.mem_append_left _ (List.mem_append_left _ (List.mem_append_left _ (List.mem_append_left _ (List.mem_append_right _ h))))) (by decide +kernel))) (goodIn_sub (fun _ h => List.mem_append_left _ (List.mem_append_left _ (List.mem_append_right _ h))) (by decide +kernel))) (goodIn_sub (fun _ h => List.mem_append_left _ (List.mem_append_left _ (List.mem_append_left _ (List.mem_append_right _ h)))) (by decide +kernel))
set_option maxRecDepth 20000 in
theorem gL_law_L_setSpread : GoodIn wsL_law (va_wsS RL 138 yL_setSpread wsL_setSpread) := goodIn_app (goodIn_of _ (by decide +kernel)) ggL_law_L_setSpread
set_option maxRecDepth 20000 in
theorem ggL_law_X1_setSpread : GoodIn wsL_law wsX1_setSpread := goodIn_ca (goodIn_r _ [172, 73, 41, 111, 112, 113, 5, 114, 39, 74, 75, 76, 77, 55, 56, 57, 656, 657, 658, 659, 660, 661, 662, 663, 664, 665, 666, 667, 668] (by decide +kernel) (by decide +kernel)) (goodIn_sub (fun _ h => List.mem_append_left _ (List.mem_append_left _ (List.mem_append_left _ (List.mem_append_left _ (List.mem_append_right _ h))))) (by decide +kernel))
set_option maxRecDepth 20000 in
theorem gL_law_X1_setSpread : GoodIn wsL_law (wsV RL 140 RX1 yX1_setSpread wsX1_setSpread) := goodIn_app (goodIn_of _ (by decide +kernel)) ggL_law_X1_setSpread
set_option maxRecDepth 20000 in
theorem ggL_law_L_swapRows : GoodIn wsL_law wsL_swapRows := goodIn_ca (goodIn_ca (goodIn_r _ [175, 93, 176, 177, 178, 2, 179, 98, 99, 32, 16, 17, 18, 19, 100, 101, 102, 103, 180, 181, 182, 643, 644, 645, 646, 647, 648, 649, 650, 651, 652, 653, 654, 655] (by decide +kernel) (by decide +kernel)) (goodIn_sub (fun _ h => List.mem_append_left _ (List.mem_append_left _ (List.mem_append_left _ (List.mem_append_left _ (List.mem_append_right _ h))))) (by decide +kernel))) (goodIn_sub (fun _ h => List.mem_append_left _ (List.mem_append_left _ (List.mem_append_right _ h))) (by decide +kernel))
set_option maxRecDepth 20000 in
theorem gL_law_L_swapRows : GoodIn wsL_law (va_wsS RL 141 yL_swapRows wsL_swapRows) := goodIn_app (goodIn_of _ (by decide +kernel)) ggL_law_L_swapRows
set_option maxRecDepth 20000 in
theorem ggL_law_X1_swapRows : GoodIn wsL_law wsX1_swapRows := goodIn_ca (goodIn_r _ [186, 73, 39, 40, 41, 42, 43, 111, 112, 113, 5, 114, 74, 75, 76, 77, 55, 56, 57, 187, 188, 189, 656, 657, 658, 659, 660, 661, 662, 663, 664, 665, 666, 667, 668] (by decide +kernel) (by decide +kernel)) (goodIn_sub (fun _ h => List.mem_append_left _ (List.mem_append_left _ (List.mem_append_left _ (List.mem_append_left _ (List.mem_append_right _ h))))) (by decide +kernel))
set_option maxRecDepth 20000 in
theorem gL_law_X1_swapRows : GoodIn wsL_law (wsV RL 143 RX1 yX1_swapRows wsX1_swapRows) := goodIn_app (goodIn_of _ (by decide +kernel)) ggL_law_X1_swapRows
set_option maxRecDepth 20000 in
theorem ggL_law_L_addRow : GoodIn wsL_law wsL_addRow := goodIn_ca (goodIn_ca (goodIn_ca (goodIn_ca (goodIn_r _ [192, 93, 62, 193, 194, 195, 196, 2, 197, 98, 99, 67, 68, 198, 199, 18, 19, 100, 101, 102, 103, 32, 104, 105, 106, 200, 201, 202, 203, 204, 205, 133, 134, 135, 206, 207, 208, 209, 16, 210, 211, 212, 213, 643, 644, 645, 646, 647, 648, 649, 650, 651, 652, 653, 654, 655] (by decide +kernel) (by decide +kernel)) (goodIn_sub (fun _ h => List.mem_append_left _ (List.mem_append_left _ (List.mem_append_left _ (List.mem_append_left _ (List.mem_append_right _ h))))) (by decide +kernel))) (goodIn_sub (fun _ h => List.mem_append_left _ (List.mem_append_left _ (List.mem_append_right _ h))) (by decide +kernel))) (goodIn_sub (fun _ h => List.mem_append_left _ (List.mem_append_left _ (List.mem_append_left _ (List.mem_append_right _ h)))) (by decide +kernel))) (goodIn_sub (fun _ h => List.mem_append_left _ (List.mem_append_right _ h)) (by decide +kernel))
set_option maxRecDepth 20000 in
theorem gL_law_L_addRow : GoodIn wsL_law (va_wsS RL 144 yL_addRow wsL_addRow) := goodIn_app (goodIn_of _ (by decide +kernel)) ggL_law_L_addRow
set_option maxRecDepth 20000 in
theorem ggL_law_X1_addRow : GoodIn wsL_law wsX1_addRow := goodIn_ca (goodIn_r _ [217, 73, 42, 43, 218, 219, 220, 221, 222, 223, 224, 39, 40, 225, 226, 227, 111, 112, 113, 5, 114, 74, 75, 76, 77, 55, 56, 57, 656, 657, 658, 659, 660, 661, 662, 663, 664, 665, 666, 667, 668] (by decide +kernel) (by decide +kernel)) (goodIn_sub (fun _ h => List.mem_append_left _ (List.mem_append_left _ (List.mem_append_left _ (List.mem_append_left _ (List.mem_append_right _ h))))) (by decide +kernel))
set_option maxRecDepth 20000 in
theorem gL_law_X1_addRow : GoodIn wsL_law (wsV RL 146 RX1 yX1_addRow wsX1_addRow) := goodIn_app (goodIn_of _ (by decide +kernel)) ggL_law_X1_addRow
set_option maxRecDepth 20000 in
theorem ggL_law_X0_determinant : GoodIn wsL_law wsX0_determinant := goodIn_ca (goodIn_r _ [231, 32, 24, 232, 233, 234, 2, 235, 236, 237, 238, 239, 240, 241, 242, 243, 244, 245, 246, 247, 248, 249, 250, 16, 643, 644, 645, 646, 647, 648, 649, 650, 651, 652, 653, 654, 655] (by decide +kernel) (by decide +kernel)) (goodIn_sub (fun _ h => List.mem_append_left _ (List.mem_append_left _ (List.mem_append_left _ (List.mem_append_left _ (List.mem_append_right _ h))))) (by decide +kernel))
set_option maxRecDepth 20000 in
theorem gL_law_X0_determinant : GoodIn wsL_law (wsV RL 147 RX0 yX0_determinant wsX0_determinant) := goodIn_app (goodIn_of _ (by decide +kernel)) ggL_law_X0_determinant
set_option maxRecDepth 20000 in
theorem ggL_law_X1_determinant : GoodIn wsL_law wsX1_determinant := goodIn_ca (goodIn_r _ [254, 73, 255, 256, 257, 5, 258, 39, 48, 40, 259, 260, 261, 55, 56, 57, 656, 657, 658, 659, 660, 661, 662, 663, 664, 665, 666, 667, 668] (by decide +kernel) (by decide +kernel)) (goodIn_sub (fun _ h => List.mem_append_left _ (List.mem_append_left _ (List.mem_append_left _ (List.mem_append_left _ (List.mem_append_right _ h))))) (by decide +kernel))
set_option maxRecDepth 20000 in
theorem gL_law_X1_determinant : GoodIn wsL_law (wsV RL 150 RX1 yX1_determinant wsX1_determinant) := goodIn_app (goodIn_of _ (by decide +kernel)) ggL_law_X1_determinant
set_option maxRecDepth 20000 in
theorem ggL_law_L_lowNumerator : GoodIn wsL_law wsL_lowNumerator := goodIn_ca (goodIn_ca (goodIn_ca (goodIn_ca (goodIn_r _ [264, 93, 193, 265, 266, 267, 2, 268, 98, 99, 198, 199, 269, 100, 101, 102, 103, 32, 270, 271, 272, 273, 274, 275, 220, 276, 277, 27, 24, 278, 229, 230, 231, 232, 233, 234, 235, 236, 237, 238, 239, 240, 241, 242, 243, 244, 245, 246, 247, 248, 249, 250, 16, 279, 280, 281, 282, 19, 18, 283, 284, 285, 286, 287, 288, 643, 644, 645, 646, 647, 648, 649, 650, 651, 652, 653, 654, 655] (by decide +kernel) (by decide +kernel)) (goodIn_sub (fun _ h => List.mem_append_left _ (List.mem_append_left _ (List.mem_append_left _ (List.mem_append_left _ (List.mem_append_right _ h))))) (by decide +kernel))) (goodIn_sub (fun _ h => List.mem_append_left _ (List.mem_append_left _ (List.mem_append_right _ h))) (by decide +kernel))) (goodIn_sub (fun _ h => List.mem_append_left _ (List.mem_append_right _ h)) (by decide +kernel))) (goodIn_sub (fun _ h => List.mem_append_right _ h) (by decide +kernel))
set_option maxRecDepth 20000 in
theorem gL_law_L_lowNumerator : GoodIn wsL_law (va_wsS RL 151 yL_lowNumerator wsL_lowNumerator) := goodIn_app (goodIn_of _ (by decide +kernel)) ggL_law_L_lowNumerator
set_option maxRecDepth 20000 in
theorem ggL_law_X1_lowNumerator : GoodIn wsL_law wsX1_lowNumerator := goodIn_ca (goodIn_ca (goodIn_r _ [292, 293, 294, 295, 296, 5, 297, 73, 111, 112, 113, 114, 39, 298, 299, 300, 301, 255, 256, 257, 258, 48, 40, 259, 260, 261, 55, 56, 57, 302, 303, 304, 305, 43, 42, 306, 307, 308, 309, 310, 311, 312, 313, 314, 275, 220, 276, 315, 656, 657, 658, 659, 660, 661, 662, 663, 664, 665, 666, 667, 668] (by decide +kernel) (by decide +kernel)) (goodIn_sub (fun _ h => List.mem_append_left _ (List.mem_append_left _ (List.mem_append_left _ (List.mem_append_left _ (List.mem_append_right _ h))))) (by decide +kernel))) (goodIn_sub (fun _ h => List.mem_append_right _ h) (by decide +kernel))
set_option maxRecDepth 20000 in
theorem gL_law_X1_lowNumerator : GoodIn wsL_law (wsV RL 153 RX1 yX1_lowNumerator wsX1_lowNumerator) := goodIn_app (goodIn_of _ (by decide +kernel)) ggL_law_X1_lowNumerator
set_option maxRecDepth 20000 in
theorem ggL_law_L_lowDenominator : GoodIn wsL_law wsL_lowDenominator := goodIn_ca (goodIn_ca (goodIn_ca (goodIn_ca (goodIn_r _ [318, 93, 193, 319, 320, 321, 2, 322, 98, 99, 198, 199, 269, 100, 101, 102, 103, 32, 270, 271, 272, 273, 274, 275, 220, 276, 277, 27, 24, 278, 229, 230, 231, 232, 233, 234, 235, 236, 237, 238, 239, 240, 241, 242, 243, 244, 245, 246, 247, 248, 249, 250, 16, 279, 280, 281, 282, 19, 18, 283, 284, 285, 286, 287, 288, 643, 644, 645, 646, 647, 648, 649, 650, 651, 652, 653, 654, 655] (by decide +kernel) (by decide +kernel)) (goodIn_sub (fun _ h => List.mem_append_left _ (List.mem_append_left _ (List.mem_append_left _ (List.mem_append_left _ (List.mem_append_right _ h))))) (by decide +kernel))) (goodIn_sub (fun _ h => List.mem_append_left _ (List.mem_append_left _ (List.mem_append_right _ h))) (by decide +kernel))) (goodIn_sub (fun _ h => List.mem_append_left _ (List.mem_append_right _ h)) (by decide +kernel))) (goodIn_sub (fun _ h => List.mem_append_right _ h) (by decide +kernel))
set_option maxRecDepth 20000 in
theorem gL_law_L_lowDenominator : GoodIn wsL_law (va_wsS RL 154 yL_lowDenominator wsL_lowDenominator) := goodIn_app (goodIn_of _ (by decide +kernel)) ggL_law_L_lowDenominator
set_option maxRecDepth 20000 in
theorem ggL_law_X1_lowDenominator : GoodIn wsL_law wsX1_lowDenominator := goodIn_ca (goodIn_ca (goodIn_r _ [326, 315, 294, 295, 296, 5, 297, 73, 111, 112, 113, 114, 39, 298, 299, 300, 301, 255, 256, 257, 258, 48, 40, 259, 260, 261, 55, 56, 57, 302, 303, 304, 305, 43, 42, 306, 307, 308, 309, 310, 311, 312, 313, 314, 275, 220, 276, 293, 656, 657, 658, 659, 660, 661, 662, 663, 664, 665, 666, 667, 668] (by decide +kernel) (by decide +kernel)) (goodIn_sub (fun _ h => List.mem_append_left _ (List.mem_append_left _ (List.mem_append_left _ (List.mem_append_left _ (List.mem_append_right _ h))))) (by decide +kernel))) (goodIn_sub (fun _ h => List.mem_append_right _ h) (by decide +kernel))
set_option maxRecDepth 20000 in
theorem gL_law_X1_lowDenominator : GoodIn wsL_law (wsV RL 156 RX1 yX1_lowDenominator wsX1_lowDenominator) := goodIn_app (goodIn_of _ (by decide +kernel)) ggL_law_X1_lowDenominator
set_option maxRecDepth 20000 in
theorem ggL_law_L_highNumerator : GoodIn wsL_law wsL_highNumerator := goodIn_ca (goodIn_ca (goodIn_ca (goodIn_ca (goodIn_r _ [329, 93, 193, 330, 331, 332, 2, 333, 98, 99, 198, 199, 269, 100, 101, 102, 103, 32, 270, 271, 272, 273, 274, 275, 220, 276, 277, 27, 24, 278, 229, 230, 231, 232, 233, 234, 235, 236, 237, 238, 239, 240, 241, 242, 243, 244, 245, 246, 247, 248, 249, 250, 16, 334, 335, 336, 337, 18, 19, 283, 284, 285, 286, 287, 288, 643, 644, 645, 646, 647, 648, 649, 650, 651, 652, 653, 654, 655] (by decide +kernel) (by decide +kernel)) (goodIn_sub (fun _ h => List.mem_append_left _ (List.mem_append_left _ (List.mem_append_left _ (List.mem_append_left _ (List.mem_append_right _ h))))) (by decide +kernel))) (goodIn_sub (fun _ h => List.mem_append_left _ (List.mem_append_left _ (List.mem_append_right _ h))) (by decide +kernel))) (goodIn_sub (fun _ h => List.mem_append_left _ (List.mem_append_right _ h)) (by decide +kernel))) (goodIn_sub (fun _ h => List.mem_append_right _ h) (by decide +kernel))
set_option maxRecDepth 20000 in
theorem gL_law_L_highNumerator : GoodIn wsL_law (va_wsS RL 157 yL_highNumerator wsL_highNumerator) := goodIn_app (goodIn_of _ (by decide +kernel)) ggL_law_L_highNumerator
set_option maxRecDepth 20000 in
theorem ggL_law_X1_highNumerator : GoodIn wsL_law wsX1_highNumerator := goodIn_ca (goodIn_ca (goodIn_r _ [341, 293, 294, 295, 296, 5, 297, 73, 111, 112, 113, 114, 39, 298, 299, 300, 301, 255, 256, 257, 258, 48, 40, 259, 260, 261, 55, 56, 57, 302, 303, 304, 305, 43, 42, 306, 307, 308, 309, 310, 311, 312, 313, 314, 275, 220, 276, 315, 656, 657, 658, 659, 660, 661, 662, 663, 664, 665, 666, 667, 668] (by decide +kernel) (by decide +kernel)) (goodIn_sub (fun _ h => List.mem_append_left _ (List.mem_append_left _ (List.mem_append_left _ (List.mem_append_left _ (List.mem_append_right _ h))))) (by decide +kernel))) (goodIn_sub (fun _ h => List.mem_append_right _ h) (by decide +kernel))
set_option maxRecDepth 20000 in
theorem gL_law_X1_highNumerator : GoodIn wsL_law (wsV RL 159 RX1 yX1_highNumerator wsX1_highNumerator) := goodIn_app (goodIn_of _ (by decide +kernel)) ggL_law_X1_highNumerator
set_option maxRecDepth 20000 in
theorem ggL_law_L_highDenominator : GoodIn wsL_law wsL_highDenominator := goodIn_ca (goodIn_ca (goodIn_ca (goodIn_ca (goodIn_r _ [344, 93, 193, 345, 346, 347, 2, 348, 98, 99, 198, 199, 269, 100, 101, 102, 103, 32, 270, 271, 272, 273, 274, 275, 220, 276, 277, 27, 24, 278, 229, 230, 231, 232, 233, 234, 235, 236, 237, 238, 239, 240, 241, 242, 243, 244, 245, 246, 247, 248, 249, 250, 16, 334, 335, 336, 337, 18, 19, 283, 284, 285, 286, 287, 288, 643, 644, 645, 646, 647, 648, 649, 650, 651, 652, 653, 654, 655] (by decide +kernel) (by decide +kernel)) (goodIn_sub (fun _ h => List.mem_append_left _ (List.mem_append_left _ (List.mem_append_left _ (List.mem_append_left _ (List.mem_append_right _ h))))) (by decide +kernel))) (goodIn_sub (fun _ h => List.mem_append_left _ (List.mem_append_left _ (List.mem_append_right _ h))) (by decide +kernel))) (goodIn_sub (fun _ h => List.mem_append_left _ (List.mem_append_right _ h)) (by decide +kernel))) (goodIn_sub (fun _ h => List.mem_append_right _ h) (by decide +kernel))
set_option maxRecDepth 20000 in
theorem gL_law_L_highDenominator : GoodIn wsL_law (va_wsS RL 160 yL_highDenominator wsL_highDenominator) := goodIn_app (goodIn_of _ (by decide +kernel)) ggL_law_L_highDenominator
set_option maxRecDepth 20000 in
theorem ggL_law_X1_highDenominator : GoodIn wsL_law wsX1_highDenominator := goodIn_ca (goodIn_ca (goodIn_r _ [352, 315, 294, 295, 296, 5, 297, 73, 111, 112, 113, 114, 39, 298, 299, 300, 301, 255, 256, 257, 258, 48, 40, 259, 260, 261, 55, 56, 57, 302, 303, 304, 305, 43, 42, 306, 307, 308, 309, 310, 311, 312, 313, 314, 275, 220, 276, 293, 656, 657, 658, 659, 660, 661, 662, 663, 664, 665, 666, 667, 668] (by decide +kernel) (by decide +kernel)) (goodIn_sub (fun _ h => List.mem_append_left _ (List.mem_append_left _ (List.mem_append_left _ (List.mem_append_left _ (List.mem_append_right _ h))))) (by decide +kernel))) (goodIn_sub (fun _ h => List.mem_append_right _ h) (by decide +kernel))
set_option maxRecDepth 20000 in
theorem gL_law_X1_highDenominator : GoodIn wsL_law (wsV RL 162 RX1 yX1_highDenominator wsX1_highDenominator) := goodIn_app (goodIn_of _ (by decide +kernel)) ggL_law_X1_highDenominator
set_option maxRecDepth 20000 in
theorem ggL_law_L_inverseNumerator : GoodIn wsL_law wsL_inverseNumerator := goodIn_ca (goodIn_ca (goodIn_ca (goodIn_ca (goodIn_r _ [355, 93, 193, 356, 357, 358, 2, 359, 98, 99, 198, 199, 27, 269, 100, 101, 102, 103, 32, 270, 271, 272, 273, 274, 275, 220, 276, 277, 24, 278, 229, 230, 231, 232, 233, 234, 235, 236, 237, 238, 239, 240, 241, 242, 243, 244, 245, 246, 247, 248, 249, 250, 16, 283, 284, 285, 286, 287, 288, 643, 644, 645, 646, 647, 648, 649, 650, 651, 652, 653, 654, 655] (by decide +kernel) (by decide +kernel)) (goodIn_sub (fun _ h => List.mem_append_left _ (List.mem_append_left _ (List.mem_append_left _ (List.mem_append_left _ (List.mem_append_right _ h))))) (by decide +kernel))) (goodIn_sub (fun _ h => List.mem_append_left _ (List.mem_append_left _ (List.mem_append_right _ h))) (by decide +kernel))) (goodIn_sub (fun _ h => List.mem_append_left _ (List.mem_append_right _ h)) (by decide +kernel))) (goodIn_sub (fun _ h => List.mem_append_right _ h) (by decide +kernel))
set_option maxRecDepth 20000 in
theorem gL_law_L_inverseNumerator : GoodIn wsL_law (va_wsS RL 163 yL_inverseNumerator wsL_inverseNumerator) := goodIn_app (goodIn_of _ (by decide +kernel)) ggL_law_L_inverseNumerator
set_option maxRecDepth 20000 in
theorem ggL_law_X1_inverseNumerator : GoodIn wsL_law wsX1_inverseNumerator := goodIn_ca (goodIn_ca (goodIn_r _ [363, 293, 364, 365, 366, 5, 367, 73, 111, 112, 113, 114, 39, 298, 299, 300, 301, 255, 256, 257, 258, 48, 40, 259, 260, 261, 55, 56, 57, 306, 307, 308, 309, 310, 311, 312, 313, 314, 275, 220, 276, 315, 656, 657, 658, 659, 660, 661, 662, 663, 664, 665, 666, 667, 668] (by decide +kernel) (by decide +kernel)) (goodIn_sub (fun _ h => List.mem_append_left _ (List.mem_append_left _ (List.mem_append_left _ (List.mem_append_left _ (List.mem_append_right _ h))))) (by decide +kernel))) (goodIn_sub (fun _ h => List.mem_append_right _ h) (by decide +kernel))
set_option maxRecDepth 20000 in
theorem gL_law_X1_inverseNumerator : GoodIn wsL_law (wsV RL 165 RX1 yX1_inverseNumerator wsX1_inverseNumerator) := goodIn_app (goodIn_of _ (by decide +kernel)) ggL_law_X1_inverseNumerator
set_option maxRecDepth 20000 in
theorem ggL_law_L_inverseDenominator : GoodIn wsL_law wsL_inverseDenominator := goodIn_ca (goodIn_ca (goodIn_ca (goodIn_ca (goodIn_r _ [370, 93, 193, 371, 372, 373, 2, 374, 98, 99, 198, 199, 269, 27, 100, 101, 102, 103, 32, 270, 271, 272, 273, 274, 275, 220, 276, 277, 24, 278, 229, 230, 231, 232, 233, 234, 235, 236, 237, 238, 239, 240, 241, 242, 243, 244, 245, 246, 247, 248, 249, 250, 16, 283, 284, 285, 286, 287, 288, 643, 644, 645, 646, 647, 648, 649, 650, 651, 652, 653, 654, 655] (by decide +kernel) (by decide +kernel)) (goodIn_sub (fun _ h => List.mem_append_left _ (List.mem_append_left _ (List.mem_append_left _ (List.mem_append_left _ (List.mem_append_right _ h))))) (by decide +kernel))) (goodIn_sub (fun _ h => List.mem_append_left _ (List.mem_append_left _ (List.mem_append_right _ h))) (by decide +kernel))) (goodIn_sub (fun _ h => List.mem_append_left _ (List.mem_append_right _ h)) (by decide +kernel))) (goodIn_sub (fun _ h => List.mem_append_right _ h) (by decide +kernel))
set_option maxRecDepth 20000 in
theorem gL_law_L_inverseDenominator : GoodIn wsL_law (va_wsS RL 166 yL_inverseDenominator wsL_inverseDenominator) := goodIn_app (goodIn_of _ (by decide +kernel)) ggL_law_L_inverseDenominator
set_option maxRecDepth 20000 in
theorem ggL_law_X1_inverseDenominator : GoodIn wsL_law wsX1_inverseDenominator := goodIn_ca (goodIn_ca (goodIn_r _ [378, 315, 364, 365, 366, 5, 367, 73, 111, 112, 113, 114, 39, 298, 299, 300, 301, 255, 256, 257, 258, 48, 40, 259, 260, 261, 55, 56, 57, 306, 307, 308, 309, 310, 311, 312, 313, 314, 275, 220, 276, 293, 656, 657, 658, 659, 660, 661, 662, 663, 664, 665, 666, 667, 668] (by decide +kernel) (by decide +kernel)) (goodIn_sub (fun _ h => List.mem_append_left _ (List.mem_append_left _ (List.mem_append_left _ (List.mem_append_left _ (List.mem_append_right _ h))))) (by decide +kernel))) (goodIn_sub (fun _ h => List.mem_append_right _ h) (by decide +kernel))
set_option maxRecDepth 20000 in
theorem gL_law_X1_inverseDenominator : GoodIn wsL_law (wsV RL 168 RX1 yX1_inverseDenominator wsX1_inverseDenominator) := goodIn_app (goodIn_of _ (by decide +kernel)) ggL_law_X1_inverseDenominator
set_option maxRecDepth 20000 in
theorem ggL_law_X0_isSolution : GoodIn wsL_law wsX0_isSolution := goodIn_ca (goodIn_r _ [382, 25, 32, 16, 18, 19, 643, 644, 645, 646, 647, 648, 649, 650, 651, 652, 653, 654, 655] (by decide +kernel) (by decide +kernel)) (goodIn_sub (fun _ h => List.mem_append_left _ (List.mem_append_left _ (List.mem_append_left _ (List.mem_append_left _ (List.mem_append_right _ h))))) (by decide +kernel))
set_option maxRecDepth 20000 in
theorem gL_law_X0_isSolution : GoodIn wsL_law (wsV RL 169 RX0 yX0_isSolution wsX0_isSolution) := goodIn_app (goodIn_of _ (by decide +kernel)) ggL_law_X0_isSolution
set_option maxRecDepth 20000 in
theorem ggL_law_X1_isSolution : GoodIn wsL_law wsX1_isSolution := goodIn_ca (goodIn_r _ [386, 73, 15, 39, 40, 42, 43, 55, 56, 5, 57, 656, 657, 658, 659, 660, 661, 662, 663, 664, 665, 666, 667, 668] (by decide +kernel) (by decide +kernel)) (goodIn_sub (fun _ h => List.mem_append_left _ (List.mem_append_left _ (List.mem_append_left _ (List.mem_append_left _ (List.mem_append_right _ h))))) (by decide +kernel))
set_option maxRecDepth 20000 in
theorem gL_law_X1_isSolution : GoodIn wsL_law (wsV RL 173 RX1 yX1_isSolution wsX1_isSolution) := goodIn_app (goodIn_of _ (by decide +kernel)) ggL_law_X1_isSolution
set_option maxRecDepth 20000 in
theorem ggL_law_L_condition : GoodIn wsL_law wsL_condition := goodIn_ca (goodIn_ca (goodIn_r _ [389, 193, 390, 391, 392, 2, 393, 198, 199, 32, 16, 394, 226, 220, 227, 27, 274, 275, 276, 395, 396, 397, 269, 270, 271, 272, 273, 277, 24, 278, 229, 230, 231, 232, 233, 234, 235, 236, 237, 238, 239, 240, 241, 242, 243, 244, 245, 246, 247, 248, 249, 250, 643, 644, 645, 646, 647, 648, 649, 650, 651, 652, 653, 654, 655] (by decide +kernel) (by decide +kernel)) (goodIn_sub (fun _ h => List.mem_append_left _ (List.mem_append_left _ (List.mem_append_left _ (List.mem_append_left _ (List.mem_append_right _ h))))) (by decide +kernel))) (goodIn_sub (fun _ h => List.mem_append_left _ (List.mem_append_right _ h)) (by decide +kernel))
set_option maxRecDepth 20000 in
theorem gL_law_L_condition : GoodIn wsL_law (va_wsS RL 174 yL_condition wsL_condition) := goodIn_app (goodIn_of _ (by decide +kernel)) ggL_law_L_condition
set_option maxRecDepth 20000 in
theorem ggL_law_X1_condition : GoodIn wsL_law wsX1_condition := goodIn_ca (goodIn_r _ [401, 73, 39, 40, 225, 226, 220, 227, 314, 275, 276, 222, 223, 224, 402, 396, 397, 298, 299, 300, 5, 301, 255, 256, 257, 258, 48, 259, 260, 261, 55, 56, 57, 74, 75, 76, 77, 306, 307, 308, 309, 656, 657, 658, 659, 660, 661, 662, 663, 664, 665, 666, 667, 668] (by decide +kernel) (by decide +kernel)) (goodIn_sub (fun _ h => List.mem_append_left _ (List.mem_append_left _ (List.mem_append_left _ (List.mem_append_left _ (List.mem_append_right _ h))))) (by decide +kernel))
set_option maxRecDepth 20000 in
theorem gL_law_X1_condition : GoodIn wsL_law (wsV RL 177 RX1 yX1_condition wsX1_condition) := goodIn_app (goodIn_of _ (by decide +kernel)) ggL_law_X1_condition
set_option maxRecDepth 20000 in
theorem ggL_law_L_variationNumerator : GoodIn wsL_law wsL_variationNumerator := goodIn_ca (goodIn_ca (goodIn_ca (goodIn_r _ [405, 193, 406, 407, 408, 2, 409, 198, 199, 410, 269, 270, 271, 272, 273, 274, 275, 220, 276, 32, 277, 27, 24, 278, 229, 230, 231, 232, 233, 234, 235, 236, 237, 238, 239, 240, 241, 242, 243, 244, 245, 246, 247, 248, 249, 250, 16, 411, 412, 413, 414, 17, 395, 396, 397, 283, 284, 285, 286, 287, 288, 643, 644, 645, 646, 647, 648, 649, 650, 651, 652, 653, 654, 655] (by decide +kernel) (by decide +kernel)) (goodIn_sub (fun _ h => List.mem_append_left _ (List.mem_append_left _ (List.mem_append_left _ (List.mem_append_left _ (List.mem_append_right _ h))))) (by decide +kernel))) (goodIn_sub (fun _ h => List.mem_append_left _ (List.mem_append_right _ h)) (by decide +kernel))) (goodIn_sub (fun _ h => List.mem_append_right _ h) (by decide +kernel))
set_option maxRecDepth 20000 in
theorem gL_law_L_variationNumerator : GoodIn wsL_law (va_wsS RL 178 yL_variationNumerator wsL_variationNumerator) := goodIn_app (goodIn_of _ (by decide +kernel)) ggL_law_L_variationNumerator
set_option maxRecDepth 20000 in
theorem ggL_law_X1_variationNumerator : GoodIn wsL_law wsX1_variationNumerator := goodIn_ca (goodIn_ca (goodIn_r _ [418, 73, 293, 298, 299, 300, 5, 301, 255, 256, 257, 258, 39, 48, 40, 259, 260, 261, 55, 56, 57, 74, 75, 76, 77, 419, 420, 421, 422, 314, 275, 220, 276, 41, 402, 396, 397, 423, 306, 307, 308, 309, 310, 311, 312, 313, 315, 656, 657, 658, 659, 660, 661, 662, 663, 664, 665, 666, 667, 668] (by decide +kernel) (by decide +kernel)) (goodIn_sub (fun _ h => List.mem_append_left _ (List.mem_append_left _ (List.mem_append_left _ (List.mem_append_left _ (List.mem_append_right _ h))))) (by decide +kernel))) (goodIn_sub (fun _ h => List.mem_append_right _ h) (by decide +kernel))
set_option maxRecDepth 20000 in
theorem gL_law_X1_variationNumerator : GoodIn wsL_law (wsV RL 181 RX1 yX1_variationNumerator wsX1_variationNumerator) := goodIn_app (goodIn_of _ (by decide +kernel)) ggL_law_X1_variationNumerator
set_option maxRecDepth 20000 in
theorem ggL_law_L_variationDenominator : GoodIn wsL_law wsL_variationDenominator := goodIn_ca (goodIn_ca (goodIn_ca (goodIn_r _ [426, 193, 427, 428, 429, 2, 430, 198, 199, 410, 269, 270, 271, 272, 273, 274, 275, 220, 276, 32, 277, 27, 24, 278, 229, 230, 231, 232, 233, 234, 235, 236, 237, 238, 239, 240, 241, 242, 243, 244, 245, 246, 247, 248, 249, 250, 16, 411, 412, 413, 414, 17, 395, 396, 397, 283, 284, 285, 286, 287, 288, 643, 644, 645, 646, 647, 648, 649, 650, 651, 652, 653, 654, 655] (by decide +kernel) (by decide +kernel)) (goodIn_sub (fun _ h => List.mem_append_left _ (List.mem_append_left _ (List.mem_append_left _ (List.mem_append_left _ (List.mem_append_right _ h))))) (by decide +kernel))) (goodIn_sub (fun _ h => List.mem_append_left _ (List.mem_append_right _ h)) (by decide +kernel))) (goodIn_sub (fun _ h => List.mem_append_right _ h) (by decide +kernel))
set_option maxRecDepth 20000 in
theorem gL_law_L_variationDenominator : GoodIn wsL_law (va_wsS RL 182 yL_variationDenominator wsL_variationDenominator) := goodIn_app (goodIn_of _ (by decide +kernel)) ggL_law_L_variationDenominator
set_option maxRecDepth 20000 in
theorem ggL_law_X1_variationDenominator : GoodIn wsL_law wsX1_variationDenominator := goodIn_ca (goodIn_ca (goodIn_r _ [434, 73, 315, 298, 299, 300, 5, 301, 255, 256, 257, 258, 39, 48, 40, 259, 260, 261, 55, 56, 57, 74, 75, 76, 77, 419, 420, 421, 422, 314, 275, 220, 276, 41, 402, 396, 397, 423, 306, 307, 308, 309, 310, 311, 312, 313, 293, 656, 657, 658, 659, 660, 661, 662, 663, 664, 665, 666, 667, 668] (by decide +kernel) (by decide +kernel)) (goodIn_sub (fun _ h => List.mem_append_left _ (List.mem_append_left _ (List.mem_append_left _ (List.mem_append_left _ (List.mem_append_right _ h))))) (by decide +kernel))) (goodIn_sub (fun _ h => List.mem_append_right _ h) (by decide +kernel))
set_option maxRecDepth 20000 in
theorem gL_law_X1_variationDenominator : GoodIn wsL_law (wsV RL 184 RX1 yX1_variationDenominator wsX1_variationDenominator) := goodIn_app (goodIn_of _ (by decide +kernel)) ggL_law_X1_variationDenominator
set_option maxRecDepth 20000 in
theorem ggL_law_X0_isSafe : GoodIn wsL_law wsX0_isSafe := goodIn_ca (goodIn_r _ [438, 410, 269, 270, 271, 272, 2, 273, 274, 275, 220, 276, 32, 277, 27, 24, 278, 229, 230, 231, 232, 233, 234, 235, 236, 237, 238, 239, 240, 241, 242, 243, 244, 245, 246, 247, 248, 249, 250, 16, 411, 412, 413, 414, 17, 395, 396, 397, 643, 644, 645, 646, 647, 648, 649, 650, 651, 652, 653, 654, 655] (by decide +kernel) (by decide +kernel)) (goodIn_sub (fun _ h => List.mem_append_left _ (List.mem_append_left _ (List.mem_append_left _ (List.mem_append_left _ (List.mem_append_right _ h))))) (by decide +kernel))
set_option maxRecDepth 20000 in
theorem gL_law_X0_isSafe : GoodIn wsL_law (wsV RL 185 RX0 yX0_isSafe wsX0_isSafe) := goodIn_app (goodIn_of _ (by decide +kernel)) ggL_law_X0_isSafe
set_option maxRecDepth 20000 in
theorem ggL_law_X1_isSafe : GoodIn wsL_law wsX1_isSafe := goodIn_ca (goodIn_ca (goodIn_r _ [442, 73, 293, 315, 298, 299, 300, 5, 301, 255, 256, 257, 258, 39, 48, 40, 259, 260, 261, 55, 56, 57, 419, 420, 421, 422, 314, 275, 220, 276, 41, 402, 396, 397, 423, 306, 307, 308, 309, 310, 311, 312, 313, 656, 657, 658, 659, 660, 661, 662, 663, 664, 665, 666, 667, 668] (by decide +kernel) (by decide +kernel)) (goodIn_sub (fun _ h => List.mem_append_left _ (List.mem_append_left _ (List.mem_append_left _ (List.mem_append_left _ (List.mem_append_right _ h))))) (by decide +kernel))) (goodIn_sub (fun _ h => List.mem_append_right _ h) (by decide +kernel))
set_option maxRecDepth 20000 in
theorem gL_law_X1_isSafe : GoodIn wsL_law (wsV RL 188 RX1 yX1_isSafe wsX1_isSafe) := goodIn_app (goodIn_of _ (by decide +kernel)) ggL_law_X1_isSafe
set_option maxRecDepth 20000 in
theorem ggL_law_X0_isDominant : GoodIn wsL_law wsX0_isDominant := goodIn_ca (goodIn_r _ [446, 32, 16, 394, 226, 220, 227, 17, 643, 644, 645, 646, 647, 648, 649, 650, 651, 652, 653, 654, 655] (by decide +kernel) (by decide +kernel)) (goodIn_sub (fun _ h => List.mem_append_left _ (List.mem_append_left _ (List.mem_append_left _ (List.mem_append_left _ (List.mem_append_right _ h))))) (by decide +kernel))
set_option maxRecDepth 20000 in
theorem gL_law_X0_isDominant : GoodIn wsL_law (wsV RL 189 RX0 yX0_isDominant wsX0_isDominant) := goodIn_app (goodIn_of _ (by decide +kernel)) ggL_law_X0_isDominant
set_option maxRecDepth 20000 in
theorem ggL_law_X1_isDominant : GoodIn wsL_law wsX1_isDominant := goodIn_ca (goodIn_r _ [450, 73, 39, 40, 225, 226, 220, 227, 41, 55, 56, 5, 57, 656, 657, 658, 659, 660, 661, 662, 663, 664, 665, 666, 667, 668] (by decide +kernel) (by decide +kernel)) (goodIn_sub (fun _ h => List.mem_append_left _ (List.mem_append_left _ (List.mem_append_left _ (List.mem_append_left _ (List.mem_append_right _ h))))) (by decide +kernel))
set_option maxRecDepth 20000 in
theorem gL_law_X1_isDominant : GoodIn wsL_law (wsV RL 192 RX1 yX1_isDominant wsX1_isDominant) := goodIn_app (goodIn_of _ (by decide +kernel)) ggL_law_X1_isDominant
set_option maxRecDepth 20000 in
theorem ggL_law_L_setBox : GoodIn wsL_law wsL_setBox := goodIn_ca (goodIn_ca (goodIn_ca (goodIn_r _ [453, 93, 62, 454, 455, 456, 2, 457, 98, 99, 67, 68, 34, 20, 21, 100, 101, 102, 103, 32, 133, 134, 135, 104, 105, 106, 643, 644, 645, 646, 647, 648, 649, 650, 651, 652, 653, 654, 655] (by decide +kernel) (by decide +kernel)) (goodIn_sub (fun _ h => List.mem_append_left _ (List.mem_append_left _ (List.mem_append_left _ (List.mem_append_left _ (List.mem_append_right _ h))))) (by decide +kernel))) (goodIn_sub (fun _ h => List.mem_append_left _ (List.mem_append_left _ (List.mem_append_right _ h))) (by decide +kernel))) (goodIn_sub (fun _ h => List.mem_append_left _ (List.mem_append_left _ (List.mem_append_left _ (List.mem_append_right _ h)))) (by decide +kernel))
set_option maxRecDepth 20000 in
theorem gL_law_L_setBox : GoodIn wsL_law (va_wsS RL 193 yL_setBox wsL_setBox) := goodIn_app (goodIn_of _ (by decide +kernel)) ggL_law_L_setBox
set_option maxRecDepth 20000 in
theorem ggL_law_X1_setBox : GoodIn wsL_law wsX1_setBox := goodIn_ca (goodIn_r _ [461, 73, 53, 54, 44, 45, 111, 112, 113, 5, 114, 39, 74, 75, 76, 77, 656, 657, 658, 659, 660, 661, 662, 663, 664, 665, 666, 667, 668] (by decide +kernel) (by decide +kernel)) (goodIn_sub (fun _ h => List.mem_append_left _ (List.mem_append_left _ (List.mem_append_left _ (List.mem_append_left _ (List.mem_append_right _ h))))) (by decide +kernel))
set_option maxRecDepth 20000 in
theorem gL_law_X1_setBox : GoodIn wsL_law (wsV RL 195 RX1 yX1_setBox wsX1_setBox) := goodIn_app (goodIn_of _ (by decide +kernel)) ggL_law_X1_setBox
set_option maxRecDepth 20000 in
theorem ggL_law_L_boxLow : GoodIn wsL_law wsL_boxLow := goodIn_ca (goodIn_ca (goodIn_r _ [464, 93, 465, 466, 467, 2, 468, 98, 99, 20, 100, 101, 102, 103, 32, 643, 644, 645, 646, 647, 648, 649, 650, 651, 652, 653, 654, 655] (by decide +kernel) (by decide +kernel)) (goodIn_sub (fun _ h => List.mem_append_left _ (List.mem_append_left _ (List.mem_append_left _ (List.mem_append_left _ (List.mem_append_right _ h))))) (by decide +kernel))) (goodIn_sub (fun _ h => List.mem_append_left _ (List.mem_append_left _ (List.mem_append_right _ h))) (by decide +kernel))
set_option maxRecDepth 20000 in
theorem gL_law_L_boxLow : GoodIn wsL_law (va_wsS RL 196 yL_boxLow wsL_boxLow) := goodIn_app (goodIn_of _ (by decide +kernel)) ggL_law_L_boxLow
set_option maxRecDepth 20000 in
theorem ggL_law_X1_boxLow : GoodIn wsL_law wsX1_boxLow := goodIn_ca (goodIn_r _ [472, 73, 44, 111, 112, 113, 5, 114, 39, 74, 75, 76, 77, 656, 657, 658, 659, 660, 661, 662, 663, 664, 665, 666, 667, 668] (by decide +kernel) (by decide +kernel)) (goodIn_sub (fun _ h => List.mem_append_left _ (List.mem_append_left _ (List.mem_append_left _ (List.mem_append_left _ (List.mem_append_right _ h))))) (by decide +kernel))
set_option maxRecDepth 20000 in
theorem gL_law_X1_boxLow : GoodIn wsL_law (wsV RL 198 RX1 yX1_boxLow wsX1_boxLow) := goodIn_app (goodIn_of _ (by decide +kernel)) ggL_law_X1_boxLow
set_option maxRecDepth 20000 in
theorem ggL_law_L_boxHigh : GoodIn wsL_law wsL_boxHigh := goodIn_ca (goodIn_ca (goodIn_r _ [475, 93, 476, 477, 478, 2, 479, 98, 99, 21, 100, 101, 102, 103, 32, 643, 644, 645, 646, 647, 648, 649, 650, 651, 652, 653, 654, 655] (by decide +kernel) (by decide +kernel)) (goodIn_sub (fun _ h => List.mem_append_left _ (List.mem_append_left _ (List.mem_append_left _ (List.mem_append_left _ (List.mem_append_right _ h))))) (by decide +kernel))) (goodIn_sub (fun _ h => List.mem_append_left _ (List.mem_append_left _ (List.mem_append_right _ h))) (by decide +kernel))
set_option maxRecDepth 20000 in
theorem gL_law_L_boxHigh : GoodIn wsL_law (va_wsS RL 199 yL_boxHigh wsL_boxHigh) := goodIn_app (goodIn_of _ (by decide +kernel)) ggL_law_L_boxHigh
set_option maxRecDepth 20000 in
theorem ggL_law_X1_boxHigh : GoodIn wsL_law wsX1_boxHigh := goodIn_ca (goodIn_r _ [483, 73, 45, 111, 112, 113, 5, 114, 39, 74, 75, 76, 77, 656, 657, 658, 659, 660, 661, 662, 663, 664, 665, 666, 667, 668] (by decide +kernel) (by decide +kernel)) (goodIn_sub (fun _ h => List.mem_append_left _ (List.mem_append_left _ (List.mem_append_left _ (List.mem_append_left _ (List.mem_append_right _ h))))) (by decide +kernel))
set_option maxRecDepth 20000 in
theorem gL_law_X1_boxHigh : GoodIn wsL_law (wsV RL 201 RX1 yX1_boxHigh wsX1_boxHigh) := goodIn_app (goodIn_of _ (by decide +kernel)) ggL_law_X1_boxHigh
set_option maxRecDepth 20000 in
theorem ggL_law_X0_sweep : GoodIn wsL_law wsX0_sweep := goodIn_ca (goodIn_r _ [487, 32, 16, 488, 489, 490, 2, 491, 20, 22, 492, 493, 494, 495, 21, 23, 496, 497, 498, 499, 500, 18, 19, 501, 502, 503, 504, 505, 506, 507, 508, 509, 510, 511, 512, 513, 514, 395, 396, 220, 397, 515, 516, 517, 518, 519, 520, 521, 643, 644, 645, 646, 647, 648, 649, 650, 651, 652, 653, 654, 655] (by decide +kernel) (by decide +kernel)) (goodIn_sub (fun _ h => List.mem_append_left _ (List.mem_append_left _ (List.mem_append_left _ (List.mem_append_left _ (List.mem_append_right _ h))))) (by decide +kernel))
set_option maxRecDepth 20000 in
theorem gL_law_X0_sweep : GoodIn wsL_law (wsV RL 202 RX0 yX0_sweep wsX0_sweep) := goodIn_app (goodIn_of _ (by decide +kernel)) ggL_law_X0_sweep
set_option maxRecDepth 20000 in
theorem ggL_law_X1_sweep : GoodIn wsL_law wsX1_sweep := goodIn_ca (goodIn_ca (goodIn_r _ [525, 73, 526, 527, 528, 5, 529, 39, 40, 530, 531, 532, 533, 46, 44, 47, 45, 55, 56, 57, 534, 535, 536, 537, 538, 42, 43, 402, 396, 220, 397, 539, 516, 517, 540, 541, 542, 543, 544, 545, 546, 547, 548, 549, 550, 551, 552, 553, 656, 657, 658, 659, 660, 661, 662, 663, 664, 665, 666, 667, 668] (by decide +kernel) (by decide +kernel)) (goodIn_sub (fun _ h => List.mem_append_left _ (List.mem_append_left _ (List.mem_append_left _ (List.mem_append_left _ (List.mem_append_right _ h))))) (by decide +kernel))) (goodIn_sub (fun _ h => List.mem_append_right _ h) (by decide +kernel))
set_option maxRecDepth 20000 in
theorem gL_law_X1_sweep : GoodIn wsL_law (wsV RL 205 RX1 yX1_sweep wsX1_sweep) := goodIn_app (goodIn_of _ (by decide +kernel)) ggL_law_X1_sweep
set_option maxRecDepth 20000 in
theorem ggL_law_L_contract : GoodIn wsL_law wsL_contract := goodIn_ca (goodIn_ca (goodIn_r _ [556, 62, 557, 558, 559, 2, 560, 67, 68, 561, 485, 486, 487, 32, 16, 488, 489, 490, 491, 20, 22, 492, 493, 494, 495, 21, 23, 496, 497, 498, 499, 500, 18, 19, 501, 502, 503, 504, 505, 506, 507, 508, 509, 510, 511, 512, 513, 514, 395, 396, 220, 397, 515, 516, 517, 518, 519, 520, 521, 643, 644, 645, 646, 647, 648, 649, 650, 651, 652, 653, 654, 655] (by decide +kernel) (by decide +kernel)) (goodIn_sub (fun _ h => List.mem_append_left _ (List.mem_append_left _ (List.mem_append_left _ (List.mem_append_left _ (List.mem_append_right _ h))))) (by decide +kernel))) (goodIn_sub (fun _ h => List.mem_append_left _ (List.mem_append_left _ (List.mem_append_left _ (List.mem_append_right _ h)))) (by decide +kernel))
set_option maxRecDepth 20000 in
theorem gL_law_L_contract : GoodIn wsL_law (va_wsS RL 206 yL_contract wsL_contract) := goodIn_app (goodIn_of _ (by decide +kernel)) ggL_law_L_contract
set_option maxRecDepth 20000 in
theorem ggL_law_X1_contract : GoodIn wsL_law wsX1_contract := goodIn_ca (goodIn_ca (goodIn_r _ [565, 73, 74, 75, 76, 5, 77, 526, 527, 528, 529, 39, 40, 530, 531, 532, 533, 46, 44, 47, 45, 55, 56, 57, 534, 535, 536, 537, 538, 42, 43, 402, 396, 220, 397, 539, 516, 517, 540, 541, 542, 543, 544, 545, 546, 547, 548, 549, 550, 551, 552, 553, 656, 657, 658, 659, 660, 661, 662, 663, 664, 665, 666, 667, 668] (by decide +kernel) (by decide +kernel)) (goodIn_sub (fun _ h => List.mem_append_left _ (List.mem_append_left _ (List.mem_append_left _ (List.mem_append_left _ (List.mem_append_right _ h))))) (by decide +kernel))) (goodIn_sub (fun _ h => List.mem_append_right _ h) (by decide +kernel))
set_option maxRecDepth 20000 in
theorem gL_law_X1_contract : GoodIn wsL_law (wsV RL 208 RX1 yX1_contract wsX1_contract) := goodIn_app (goodIn_of _ (by decide +kernel)) ggL_law_X1_contract
set_option maxRecDepth 20000 in
theorem ggL_law_L_sharpen : GoodIn wsL_law wsL_sharpen := goodIn_ca (goodIn_ca (goodIn_r _ [568, 193, 569, 570, 571, 2, 572, 198, 199, 32, 270, 271, 272, 273, 274, 275, 220, 276, 269, 277, 27, 24, 278, 229, 230, 231, 232, 233, 234, 235, 236, 237, 238, 239, 240, 241, 242, 243, 244, 245, 246, 247, 248, 249, 250, 16, 488, 489, 490, 491, 20, 22, 492, 493, 494, 495, 21, 23, 573, 574, 575, 576, 500, 279, 280, 281, 282, 19, 18, 501, 502, 503, 504, 505, 506, 507, 577, 578, 579, 580, 334, 335, 336, 337, 508, 509, 510, 511, 512, 513, 514, 395, 396, 397, 515, 516, 517, 518, 519, 520, 521, 643, 644, 645, 646, 647, 648, 649, 650, 651, 652, 653, 654, 655] (by decide +kernel) (by decide +kernel)) (goodIn_sub (fun _ h => List.mem_append_left _ (List.mem_append_left _ (List.mem_append_left _ (List.mem_append_left _ (List.mem_append_right _ h))))) (by decide +kernel))) (goodIn_sub (fun _ h => List.mem_append_left _ (List.mem_append_right _ h)) (by decide +kernel))
set_option maxRecDepth 20000 in
theorem gL_law_L_sharpen : GoodIn wsL_law (va_wsS RL 209 yL_sharpen wsL_sharpen) := goodIn_app (goodIn_of _ (by decide +kernel)) ggL_law_L_sharpen
set_option maxRecDepth 20000 in
theorem ggL_law_X1_sharpen : GoodIn wsL_law wsX1_sharpen := goodIn_ca (goodIn_ca (goodIn_r _ [584, 73, 39, 538, 293, 315, 298, 299, 300, 5, 301, 255, 256, 257, 258, 48, 40, 259, 260, 261, 55, 56, 57, 74, 75, 76, 77, 530, 531, 532, 533, 46, 44, 47, 45, 302, 303, 304, 305, 43, 42, 306, 307, 308, 309, 310, 311, 312, 313, 314, 275, 220, 276, 540, 541, 542, 543, 544, 545, 546, 547, 548, 549, 402, 396, 397, 539, 516, 517, 550, 551, 552, 553, 656, 657, 658, 659, 660, 661, 662, 663, 664, 665, 666, 667, 668] (by decide +kernel) (by decide +kernel)) (goodIn_sub (fun _ h => List.mem_append_left _ (List.mem_append_left _ (List.mem_append_left _ (List.mem_append_left _ (List.mem_append_right _ h))))) (by decide +kernel))) (goodIn_sub (fun _ h => List.mem_append_right _ h) (by decide +kernel))
set_option maxRecDepth 20000 in
theorem gL_law_X1_sharpen : GoodIn wsL_law (wsV RL 211 RX1 yX1_sharpen wsX1_sharpen) := goodIn_app (goodIn_of _ (by decide +kernel)) ggL_law_X1_sharpen
set_option maxRecDepth 20000 in
theorem ggL_law_L_isCertified : GoodIn wsL_law wsL_isCertified := goodIn_ca (goodIn_ca (goodIn_r _ [587, 193, 588, 589, 590, 2, 591, 198, 199, 32, 20, 21, 270, 271, 272, 273, 274, 275, 220, 276, 269, 277, 27, 24, 278, 229, 230, 231, 232, 233, 234, 235, 236, 237, 238, 239, 240, 241, 242, 243, 244, 245, 246, 247, 248, 249, 250, 16, 573, 574, 575, 576, 500, 279, 280, 281, 282, 19, 18, 501, 502, 503, 504, 505, 506, 507, 577, 578, 579, 580, 334, 335, 336, 337, 508, 509, 510, 643, 644, 645, 646, 647, 648, 649, 650, 651, 652, 653, 654, 655] (by decide +kernel) (by decide +kernel)) (goodIn_sub (fun _ h => List.mem_append_left _ (List.mem_append_left _ (List.mem_append_left _ (List.mem_append_left _ (List.mem_append_right _ h))))) (by decide +kernel))) (goodIn_sub (fun _ h => List.mem_append_left _ (List.mem_append_right _ h)) (by decide +kernel))
set_option maxRecDepth 20000 in
theorem gL_law_L_isCertified : GoodIn wsL_law (va_wsS RL 212 yL_isCertified wsL_isCertified) := goodIn_app (goodIn_of _ (by decide +kernel)) ggL_law_L_isCertified
set_option maxRecDepth 20000 in
theorem ggL_law_X1_isCertified : GoodIn wsL_law wsX1_isCertified := goodIn_ca (goodIn_ca (goodIn_r _ [595, 73, 39, 538, 293, 315, 44, 45, 298, 299, 300, 5, 301, 255, 256, 257, 258, 48, 40, 259, 260, 261, 55, 56, 57, 74, 75, 76, 77, 302, 303, 304, 305, 43, 42, 306, 307, 308, 309, 310, 311, 312, 313, 314, 275, 220, 276, 540, 541, 542, 543, 544, 545, 656, 657, 658, 659, 660, 661, 662, 663, 664, 665, 666, 667, 668] (by decide +kernel) (by decide +kernel)) (goodIn_sub (fun _ h => List.mem_append_left _ (List.mem_append_left _ (List.mem_append_left _ (List.mem_append_left _ (List.mem_append_right _ h))))) (by decide +kernel))) (goodIn_sub (fun _ h => List.mem_append_right _ h) (by decide +kernel))
set_option maxRecDepth 20000 in
theorem gL_law_X1_isCertified : GoodIn wsL_law (wsV RL 214 RX1 yX1_isCertified wsX1_isCertified) := goodIn_app (goodIn_of _ (by decide +kernel)) ggL_law_X1_isCertified
set_option maxRecDepth 20000 in
theorem ggL_law_L_residualLow : GoodIn wsL_law wsL_residualLow := goodIn_ca (goodIn_ca (goodIn_r _ [598, 93, 599, 600, 601, 2, 602, 98, 99, 603, 19, 100, 101, 102, 103, 32, 604, 605, 606, 607, 16, 20, 21, 643, 644, 645, 646, 647, 648, 649, 650, 651, 652, 653, 654, 655] (by decide +kernel) (by decide +kernel)) (goodIn_sub (fun _ h => List.mem_append_left _ (List.mem_append_left _ (List.mem_append_left _ (List.mem_append_left _ (List.mem_append_right _ h))))) (by decide +kernel))) (goodIn_sub (fun _ h => List.mem_append_left _ (List.mem_append_left _ (List.mem_append_right _ h))) (by decide +kernel))
set_option maxRecDepth 20000 in
theorem gL_law_L_residualLow : GoodIn wsL_law (va_wsS RL 215 yL_residualLow wsL_residualLow) := goodIn_app (goodIn_of _ (by decide +kernel)) ggL_law_L_residualLow
set_option maxRecDepth 20000 in
theorem ggL_law_X1_residualLow : GoodIn wsL_law wsX1_residualLow := goodIn_ca (goodIn_r _ [611, 73, 612, 43, 111, 112, 113, 5, 114, 39, 613, 614, 615, 616, 40, 44, 45, 55, 56, 57, 74, 75, 76, 77, 656, 657, 658, 659, 660, 661, 662, 663, 664, 665, 666, 667, 668] (by decide +kernel) (by decide +kernel)) (goodIn_sub (fun _ h => List.mem_append_left _ (List.mem_append_left _ (List.mem_append_left _ (List.mem_append_left _ (List.mem_append_right _ h))))) (by decide +kernel))
set_option maxRecDepth 20000 in
theorem gL_law_X1_residualLow : GoodIn wsL_law (wsV RL 217 RX1 yX1_residualLow wsX1_residualLow) := goodIn_app (goodIn_of _ (by decide +kernel)) ggL_law_X1_residualLow
set_option maxRecDepth 20000 in
theorem ggL_law_L_residualHigh : GoodIn wsL_law wsL_residualHigh := goodIn_ca (goodIn_ca (goodIn_r _ [619, 93, 620, 621, 622, 2, 623, 98, 99, 603, 18, 100, 101, 102, 103, 32, 604, 605, 606, 607, 16, 20, 21, 643, 644, 645, 646, 647, 648, 649, 650, 651, 652, 653, 654, 655] (by decide +kernel) (by decide +kernel)) (goodIn_sub (fun _ h => List.mem_append_left _ (List.mem_append_left _ (List.mem_append_left _ (List.mem_append_left _ (List.mem_append_right _ h))))) (by decide +kernel))) (goodIn_sub (fun _ h => List.mem_append_left _ (List.mem_append_left _ (List.mem_append_right _ h))) (by decide +kernel))
set_option maxRecDepth 20000 in
theorem gL_law_L_residualHigh : GoodIn wsL_law (va_wsS RL 218 yL_residualHigh wsL_residualHigh) := goodIn_app (goodIn_of _ (by decide +kernel)) ggL_law_L_residualHigh
set_option maxRecDepth 20000 in
theorem ggL_law_X1_residualHigh : GoodIn wsL_law wsX1_residualHigh := goodIn_ca (goodIn_r _ [627, 73, 612, 42, 111, 112, 113, 5, 114, 39, 613, 614, 615, 616, 40, 44, 45, 55, 56, 57, 74, 75, 76, 77, 656, 657, 658, 659, 660, 661, 662, 663, 664, 665, 666, 667, 668] (by decide +kernel) (by decide +kernel)) (goodIn_sub (fun _ h => List.mem_append_left _ (List.mem_append_left _ (List.mem_append_left _ (List.mem_append_left _ (List.mem_append_right _ h))))) (by decide +kernel))
set_option maxRecDepth 20000 in
theorem gL_law_X1_residualHigh : GoodIn wsL_law (wsV RL 220 RX1 yX1_residualHigh wsX1_residualHigh) := goodIn_app (goodIn_of _ (by decide +kernel)) ggL_law_X1_residualHigh
set_option maxRecDepth 20000 in
theorem ggL_law_X0_digest : GoodIn wsL_law wsX0_digest := goodIn_ca (goodIn_r _ [631, 632, 32, 16, 17, 18, 19, 20, 21, 633, 634, 2, 635, 636, 278, 229, 230, 231, 24, 232, 233, 234, 235, 236, 237, 238, 239, 240, 241, 242, 243, 244, 245, 246, 247, 248, 249, 250, 643, 644, 645, 646, 647, 648, 649, 650, 651, 652, 653, 654, 655] (by decide +kernel) (by decide +kernel)) (goodIn_sub (fun _ h => List.mem_append_left _ (List.mem_append_left _ (List.mem_append_left _ (List.mem_append_left _ (List.mem_append_right _ h))))) (by decide +kernel))
set_option maxRecDepth 20000 in
theorem gL_law_X0_digest : GoodIn wsL_law (wsV RL 221 RX0 yX0_digest wsX0_digest) := goodIn_app (goodIn_of _ (by decide +kernel)) ggL_law_X0_digest
set_option maxRecDepth 20000 in
theorem ggL_law_X1_digest : GoodIn wsL_law wsX1_digest := goodIn_ca (goodIn_r _ [640, 73, 641, 39, 642, 40, 41, 42, 43, 44, 45, 55, 56, 5, 57, 255, 256, 257, 258, 48, 259, 260, 261, 656, 657, 658, 659, 660, 661, 662, 663, 664, 665, 666, 667, 668] (by decide +kernel) (by decide +kernel)) (goodIn_sub (fun _ h => List.mem_append_left _ (List.mem_append_left _ (List.mem_append_left _ (List.mem_append_left _ (List.mem_append_right _ h))))) (by decide +kernel))
set_option maxRecDepth 20000 in
theorem gL_law_X1_digest : GoodIn wsL_law (wsV RL 224 RX1 yX1_digest wsX1_digest) := goodIn_app (goodIn_of _ (by decide +kernel)) ggL_law_X1_digest
theorem dL_law_0 : decode cL_law 0 = .ok (.new 8, 3) := by decide +kernel
theorem dL_law_3 : decode cL_law 3 = .ok (.dup, 1) := by decide +kernel
theorem dL_law_4 : decode cL_law 4 = .ok (.invokespecial 104, 3) := by decide +kernel
theorem dL_law_7 : decode cL_law 7 = .ok (.astore_n 1, 1) := by decide +kernel
theorem dL_law_8 : decode cL_law 8 = .ok (.new 105, 3) := by decide +kernel
theorem dL_law_11 : decode cL_law 11 = .ok (.dup, 1) := by decide +kernel
theorem dL_law_12 : decode cL_law 12 = .ok (.invokespecial 107, 3) := by decide +kernel
theorem dL_law_15 : decode cL_law 15 = .ok (.astore_n 2, 1) := by decide +kernel
theorem dL_law_16 : decode cL_law 16 = .ok (.iconst 1, 1) := by decide +kernel
theorem dL_law_17 : decode cL_law 17 = .ok (.newarray .long, 2) := by decide +kernel
theorem dL_law_19 : decode cL_law 19 = .ok (.astore_n 3, 1) := by decide +kernel
theorem dL_law_20 : decode cL_law 20 = .ok (.iconst 1, 1) := by decide +kernel
theorem dL_law_21 : decode cL_law 21 = .ok (.newarray .double, 2) := by decide +kernel
theorem dL_law_23 : decode cL_law 23 = .ok (.astore 4, 2) := by decide +kernel
theorem dL_law_25 : decode cL_law 25 = .ok (.iconst 0, 1) := by decide +kernel
theorem dL_law_26 : decode cL_law 26 = .ok (.istore 5, 2) := by decide +kernel
theorem dL_law_28 : decode cL_law 28 = .ok (.iload 5, 2) := by decide +kernel
theorem dL_law_30 : decode cL_law 30 = .ok (.aload_n 0, 1) := by decide +kernel
theorem dL_law_31 : decode cL_law 31 = .ok (.arraylength, 1) := by decide +kernel
theorem dL_law_32 : decode cL_law 32 = .ok (.bipush 6, 2) := by decide +kernel
theorem dL_law_34 : decode cL_law 34 = .ok (.isub, 1) := by decide +kernel
theorem dL_law_35 : decode cL_law 35 = .ok (.if_icmp .gt 1919, 3) := by decide +kernel
theorem dL_law_38 : decode cL_law 38 = .ok (.aload_n 0, 1) := by decide +kernel
theorem dL_law_39 : decode cL_law 39 = .ok (.iload 5, 2) := by decide +kernel
theorem dL_law_41 : decode cL_law 41 = .ok (.iaload, 1) := by decide +kernel
theorem dL_law_42 : decode cL_law 42 = .ok (.bipush 63, 2) := by decide +kernel
theorem dL_law_44 : decode cL_law 44 = .ok (.iand, 1) := by decide +kernel
theorem dL_law_45 : decode cL_law 45 = .ok (.tableswitch 1903 0 32 #[147, 203, 216, 296, 364, 451, 507, 563, 643, 718, 798, 812, 867, 922, 977, 1032, 1099, 1166, 1239, 1304, 1347, 1390, 1403, 1416, 1503, 1559, 1615, 1628, 1684, 1728, 1779, 1834, 1889], 147) := by decide +kernel
theorem dL_law_192 : decode cL_law 192 = .ok (.aload_n 1, 1) := by decide +kernel
theorem dL_law_193 : decode cL_law 193 = .ok (.aload_n 0, 1) := by decide +kernel
theorem dL_law_194 : decode cL_law 194 = .ok (.iload 5, 2) := by decide +kernel
theorem dL_law_196 : decode cL_law 196 = .ok (.iconst 1, 1) := by decide +kernel
theorem dL_law_197 : decode cL_law 197 = .ok (.iadd, 1) := by decide +kernel
theorem dL_law_198 : decode cL_law 198 = .ok (.iaload, 1) := by decide +kernel
theorem dL_law_199 : decode cL_law 199 = .ok (.aload_n 3, 1) := by decide +kernel
theorem dL_law_200 : decode cL_law 200 = .ok (.invokestatic 108, 3) := by decide +kernel
theorem dL_law_203 : decode cL_law 203 = .ok (.istore 6, 2) := by decide +kernel
theorem dL_law_205 : decode cL_law 205 = .ok (.aload_n 2, 1) := by decide +kernel
theorem dL_law_206 : decode cL_law 206 = .ok (.aload_n 0, 1) := by decide +kernel
theorem dL_law_207 : decode cL_law 207 = .ok (.iload 5, 2) := by decide +kernel
theorem dL_law_209 : decode cL_law 209 = .ok (.iconst 1, 1) := by decide +kernel
theorem dL_law_210 : decode cL_law 210 = .ok (.iadd, 1) := by decide +kernel
theorem dL_law_211 : decode cL_law 211 = .ok (.iaload, 1) := by decide +kernel
theorem dL_law_212 : decode cL_law 212 = .ok (.invokevirtual 113, 3) := by decide +kernel
theorem dL_law_215 : decode cL_law 215 = .ok (.istore 7, 2) := by decide +kernel
theorem dL_law_217 : decode cL_law 217 = .ok (.aload_n 2, 1) := by decide +kernel
theorem dL_law_218 : decode cL_law 218 = .ok (.invokevirtual 114, 3) := by decide +kernel
theorem dL_law_221 : decode cL_law 221 = .ok (.iload 6, 2) := by decide +kernel
theorem dL_law_223 : decode cL_law 223 = .ok (.if_icmp .eq 5, 3) := by decide +kernel
theorem dL_law_226 : decode cL_law 226 = .ok (.iconst 0, 1) := by decide +kernel
theorem dL_law_227 : decode cL_law 227 = .ok (.ireturn, 1) := by decide +kernel
theorem dL_law_228 : decode cL_law 228 = .ok (.iload 6, 2) := by decide +kernel
theorem dL_law_230 : decode cL_law 230 = .ok (.ifCond .ne 15, 3) := by decide +kernel
theorem dL_law_233 : decode cL_law 233 = .ok (.aload_n 3, 1) := by decide +kernel
theorem dL_law_234 : decode cL_law 234 = .ok (.iconst 0, 1) := by decide +kernel
theorem dL_law_235 : decode cL_law 235 = .ok (.laload, 1) := by decide +kernel
theorem dL_law_236 : decode cL_law 236 = .ok (.iload 7, 2) := by decide +kernel
theorem dL_law_238 : decode cL_law 238 = .ok (.i2l, 1) := by decide +kernel
theorem dL_law_239 : decode cL_law 239 = .ok (.lcmp, 1) := by decide +kernel
theorem dL_law_240 : decode cL_law 240 = .ok (.ifCond .eq 5, 3) := by decide +kernel
theorem dL_law_243 : decode cL_law 243 = .ok (.iconst 0, 1) := by decide +kernel
theorem dL_law_244 : decode cL_law 244 = .ok (.ireturn, 1) := by decide +kernel
theorem dL_law_245 : decode cL_law 245 = .ok (.goto 1703, 3) := by decide +kernel
theorem dL_law_248 : decode cL_law 248 = .ok (.aload_n 1, 1) := by decide +kernel
theorem dL_law_249 : decode cL_law 249 = .ok (.invokevirtual 117, 3) := by decide +kernel
theorem dL_law_252 : decode cL_law 252 = .ok (.aload_n 2, 1) := by decide +kernel
theorem dL_law_253 : decode cL_law 253 = .ok (.invokevirtual 120, 3) := by decide +kernel
theorem dL_law_256 : decode cL_law 256 = .ok (.if_icmp .eq 1692, 3) := by decide +kernel
theorem dL_law_259 : decode cL_law 259 = .ok (.iconst 0, 1) := by decide +kernel
theorem dL_law_260 : decode cL_law 260 = .ok (.ireturn, 1) := by decide +kernel
theorem dL_law_261 : decode cL_law 261 = .ok (.aload_n 1, 1) := by decide +kernel
theorem dL_law_262 : decode cL_law 262 = .ok (.aload_n 0, 1) := by decide +kernel
theorem dL_law_263 : decode cL_law 263 = .ok (.iload 5, 2) := by decide +kernel
theorem dL_law_265 : decode cL_law 265 = .ok (.iconst 1, 1) := by decide +kernel
theorem dL_law_266 : decode cL_law 266 = .ok (.iadd, 1) := by decide +kernel
theorem dL_law_267 : decode cL_law 267 = .ok (.iaload, 1) := by decide +kernel
theorem dL_law_268 : decode cL_law 268 = .ok (.aload_n 0, 1) := by decide +kernel
theorem dL_law_269 : decode cL_law 269 = .ok (.iload 5, 2) := by decide +kernel
theorem dL_law_271 : decode cL_law 271 = .ok (.iconst 2, 1) := by decide +kernel
theorem dL_law_272 : decode cL_law 272 = .ok (.iadd, 1) := by decide +kernel
theorem dL_law_273 : decode cL_law 273 = .ok (.iaload, 1) := by decide +kernel
theorem dL_law_274 : decode cL_law 274 = .ok (.aload_n 0, 1) := by decide +kernel
theorem dL_law_275 : decode cL_law 275 = .ok (.iload 5, 2) := by decide +kernel
theorem dL_law_277 : decode cL_law 277 = .ok (.iconst 3, 1) := by decide +kernel
theorem dL_law_278 : decode cL_law 278 = .ok (.iadd, 1) := by decide +kernel
theorem dL_law_279 : decode cL_law 279 = .ok (.iaload, 1) := by decide +kernel
theorem dL_law_280 : decode cL_law 280 = .ok (.aload_n 3, 1) := by decide +kernel
theorem dL_law_281 : decode cL_law 281 = .ok (.invokestatic 121, 3) := by decide +kernel
theorem dL_law_284 : decode cL_law 284 = .ok (.istore 6, 2) := by decide +kernel
theorem dL_law_286 : decode cL_law 286 = .ok (.aload_n 2, 1) := by decide +kernel
theorem dL_law_287 : decode cL_law 287 = .ok (.aload_n 0, 1) := by decide +kernel
theorem dL_law_288 : decode cL_law 288 = .ok (.iload 5, 2) := by decide +kernel
theorem dL_law_290 : decode cL_law 290 = .ok (.iconst 1, 1) := by decide +kernel
theorem dL_law_291 : decode cL_law 291 = .ok (.iadd, 1) := by decide +kernel
theorem dL_law_292 : decode cL_law 292 = .ok (.iaload, 1) := by decide +kernel
theorem dL_law_293 : decode cL_law 293 = .ok (.aload_n 0, 1) := by decide +kernel
theorem dL_law_294 : decode cL_law 294 = .ok (.iload 5, 2) := by decide +kernel
theorem dL_law_296 : decode cL_law 296 = .ok (.iconst 2, 1) := by decide +kernel
theorem dL_law_297 : decode cL_law 297 = .ok (.iadd, 1) := by decide +kernel
theorem dL_law_298 : decode cL_law 298 = .ok (.iaload, 1) := by decide +kernel
theorem dL_law_299 : decode cL_law 299 = .ok (.aload_n 0, 1) := by decide +kernel
theorem dL_law_300 : decode cL_law 300 = .ok (.iload 5, 2) := by decide +kernel
theorem dL_law_302 : decode cL_law 302 = .ok (.iconst 3, 1) := by decide +kernel
theorem dL_law_303 : decode cL_law 303 = .ok (.iadd, 1) := by decide +kernel
theorem dL_law_304 : decode cL_law 304 = .ok (.iaload, 1) := by decide +kernel
theorem dL_law_305 : decode cL_law 305 = .ok (.invokevirtual 124, 3) := by decide +kernel
theorem dL_law_308 : decode cL_law 308 = .ok (.istore 7, 2) := by decide +kernel
theorem dL_law_310 : decode cL_law 310 = .ok (.aload_n 2, 1) := by decide +kernel
theorem dL_law_311 : decode cL_law 311 = .ok (.invokevirtual 114, 3) := by decide +kernel
theorem dL_law_314 : decode cL_law 314 = .ok (.iload 6, 2) := by decide +kernel
theorem dL_law_316 : decode cL_law 316 = .ok (.if_icmp .eq 5, 3) := by decide +kernel
theorem dL_law_319 : decode cL_law 319 = .ok (.iconst 0, 1) := by decide +kernel
theorem dL_law_320 : decode cL_law 320 = .ok (.ireturn, 1) := by decide +kernel
theorem dL_law_321 : decode cL_law 321 = .ok (.iload 6, 2) := by decide +kernel
theorem dL_law_323 : decode cL_law 323 = .ok (.ifCond .ne 15, 3) := by decide +kernel
theorem dL_law_326 : decode cL_law 326 = .ok (.aload_n 3, 1) := by decide +kernel
theorem dL_law_327 : decode cL_law 327 = .ok (.iconst 0, 1) := by decide +kernel
theorem dL_law_328 : decode cL_law 328 = .ok (.laload, 1) := by decide +kernel
theorem dL_law_329 : decode cL_law 329 = .ok (.iload 7, 2) := by decide +kernel
theorem dL_law_331 : decode cL_law 331 = .ok (.i2l, 1) := by decide +kernel
theorem dL_law_332 : decode cL_law 332 = .ok (.lcmp, 1) := by decide +kernel
theorem dL_law_333 : decode cL_law 333 = .ok (.ifCond .eq 5, 3) := by decide +kernel
theorem dL_law_336 : decode cL_law 336 = .ok (.iconst 0, 1) := by decide +kernel
theorem dL_law_337 : decode cL_law 337 = .ok (.ireturn, 1) := by decide +kernel
theorem dL_law_338 : decode cL_law 338 = .ok (.goto 1610, 3) := by decide +kernel
theorem dL_law_341 : decode cL_law 341 = .ok (.aload_n 1, 1) := by decide +kernel
theorem dL_law_342 : decode cL_law 342 = .ok (.aload_n 0, 1) := by decide +kernel
theorem dL_law_343 : decode cL_law 343 = .ok (.iload 5, 2) := by decide +kernel
theorem dL_law_345 : decode cL_law 345 = .ok (.iconst 1, 1) := by decide +kernel
theorem dL_law_346 : decode cL_law 346 = .ok (.iadd, 1) := by decide +kernel
theorem dL_law_347 : decode cL_law 347 = .ok (.iaload, 1) := by decide +kernel
theorem dL_law_348 : decode cL_law 348 = .ok (.aload_n 0, 1) := by decide +kernel
theorem dL_law_349 : decode cL_law 349 = .ok (.iload 5, 2) := by decide +kernel
theorem dL_law_351 : decode cL_law 351 = .ok (.iconst 2, 1) := by decide +kernel
theorem dL_law_352 : decode cL_law 352 = .ok (.iadd, 1) := by decide +kernel
theorem dL_law_353 : decode cL_law 353 = .ok (.iaload, 1) := by decide +kernel
theorem dL_law_354 : decode cL_law 354 = .ok (.aload_n 3, 1) := by decide +kernel
theorem dL_law_355 : decode cL_law 355 = .ok (.invokestatic 125, 3) := by decide +kernel
theorem dL_law_358 : decode cL_law 358 = .ok (.istore 6, 2) := by decide +kernel
theorem dL_law_360 : decode cL_law 360 = .ok (.aload_n 2, 1) := by decide +kernel
theorem dL_law_361 : decode cL_law 361 = .ok (.aload_n 0, 1) := by decide +kernel
theorem dL_law_362 : decode cL_law 362 = .ok (.iload 5, 2) := by decide +kernel
theorem dL_law_364 : decode cL_law 364 = .ok (.iconst 1, 1) := by decide +kernel
theorem dL_law_365 : decode cL_law 365 = .ok (.iadd, 1) := by decide +kernel
theorem dL_law_366 : decode cL_law 366 = .ok (.iaload, 1) := by decide +kernel
theorem dL_law_367 : decode cL_law 367 = .ok (.aload_n 0, 1) := by decide +kernel
theorem dL_law_368 : decode cL_law 368 = .ok (.iload 5, 2) := by decide +kernel
theorem dL_law_370 : decode cL_law 370 = .ok (.iconst 2, 1) := by decide +kernel
theorem dL_law_371 : decode cL_law 371 = .ok (.iadd, 1) := by decide +kernel
theorem dL_law_372 : decode cL_law 372 = .ok (.iaload, 1) := by decide +kernel
theorem dL_law_373 : decode cL_law 373 = .ok (.invokevirtual 128, 3) := by decide +kernel
theorem dL_law_376 : decode cL_law 376 = .ok (.istore 7, 2) := by decide +kernel
theorem dL_law_378 : decode cL_law 378 = .ok (.aload_n 2, 1) := by decide +kernel
theorem dL_law_379 : decode cL_law 379 = .ok (.invokevirtual 114, 3) := by decide +kernel
theorem dL_law_382 : decode cL_law 382 = .ok (.iload 6, 2) := by decide +kernel
theorem dL_law_384 : decode cL_law 384 = .ok (.if_icmp .eq 5, 3) := by decide +kernel
theorem dL_law_387 : decode cL_law 387 = .ok (.iconst 0, 1) := by decide +kernel
theorem dL_law_388 : decode cL_law 388 = .ok (.ireturn, 1) := by decide +kernel
theorem dL_law_389 : decode cL_law 389 = .ok (.iload 6, 2) := by decide +kernel
theorem dL_law_391 : decode cL_law 391 = .ok (.ifCond .ne 15, 3) := by decide +kernel
theorem dL_law_394 : decode cL_law 394 = .ok (.aload_n 3, 1) := by decide +kernel
theorem dL_law_395 : decode cL_law 395 = .ok (.iconst 0, 1) := by decide +kernel
theorem dL_law_396 : decode cL_law 396 = .ok (.laload, 1) := by decide +kernel
theorem dL_law_397 : decode cL_law 397 = .ok (.iload 7, 2) := by decide +kernel
theorem dL_law_399 : decode cL_law 399 = .ok (.i2l, 1) := by decide +kernel
theorem dL_law_400 : decode cL_law 400 = .ok (.lcmp, 1) := by decide +kernel
theorem dL_law_401 : decode cL_law 401 = .ok (.ifCond .eq 5, 3) := by decide +kernel
theorem dL_law_404 : decode cL_law 404 = .ok (.iconst 0, 1) := by decide +kernel
theorem dL_law_405 : decode cL_law 405 = .ok (.ireturn, 1) := by decide +kernel
theorem dL_law_406 : decode cL_law 406 = .ok (.goto 1542, 3) := by decide +kernel
theorem dL_law_409 : decode cL_law 409 = .ok (.aload_n 1, 1) := by decide +kernel
theorem dL_law_410 : decode cL_law 410 = .ok (.aload_n 0, 1) := by decide +kernel
theorem dL_law_411 : decode cL_law 411 = .ok (.iload 5, 2) := by decide +kernel
theorem dL_law_413 : decode cL_law 413 = .ok (.iconst 1, 1) := by decide +kernel
theorem dL_law_414 : decode cL_law 414 = .ok (.iadd, 1) := by decide +kernel
theorem dL_law_415 : decode cL_law 415 = .ok (.iaload, 1) := by decide +kernel
theorem dL_law_416 : decode cL_law 416 = .ok (.aload_n 0, 1) := by decide +kernel
theorem dL_law_417 : decode cL_law 417 = .ok (.iload 5, 2) := by decide +kernel
theorem dL_law_419 : decode cL_law 419 = .ok (.iconst 2, 1) := by decide +kernel
theorem dL_law_420 : decode cL_law 420 = .ok (.iadd, 1) := by decide +kernel
theorem dL_law_421 : decode cL_law 421 = .ok (.iaload, 1) := by decide +kernel
theorem dL_law_422 : decode cL_law 422 = .ok (.aload_n 0, 1) := by decide +kernel
theorem dL_law_423 : decode cL_law 423 = .ok (.iload 5, 2) := by decide +kernel
theorem dL_law_425 : decode cL_law 425 = .ok (.iconst 3, 1) := by decide +kernel
theorem dL_law_426 : decode cL_law 426 = .ok (.iadd, 1) := by decide +kernel
theorem dL_law_427 : decode cL_law 427 = .ok (.iaload, 1) := by decide +kernel
theorem dL_law_428 : decode cL_law 428 = .ok (.aload_n 3, 1) := by decide +kernel
theorem dL_law_429 : decode cL_law 429 = .ok (.invokestatic 129, 3) := by decide +kernel
theorem dL_law_432 : decode cL_law 432 = .ok (.istore 6, 2) := by decide +kernel
theorem dL_law_434 : decode cL_law 434 = .ok (.aload_n 2, 1) := by decide +kernel
theorem dL_law_435 : decode cL_law 435 = .ok (.aload_n 0, 1) := by decide +kernel
theorem dL_law_436 : decode cL_law 436 = .ok (.iload 5, 2) := by decide +kernel
theorem dL_law_438 : decode cL_law 438 = .ok (.iconst 1, 1) := by decide +kernel
theorem dL_law_439 : decode cL_law 439 = .ok (.iadd, 1) := by decide +kernel
theorem dL_law_440 : decode cL_law 440 = .ok (.iaload, 1) := by decide +kernel
theorem dL_law_441 : decode cL_law 441 = .ok (.aload_n 0, 1) := by decide +kernel
theorem dL_law_442 : decode cL_law 442 = .ok (.iload 5, 2) := by decide +kernel
theorem dL_law_444 : decode cL_law 444 = .ok (.iconst 2, 1) := by decide +kernel
theorem dL_law_445 : decode cL_law 445 = .ok (.iadd, 1) := by decide +kernel
theorem dL_law_446 : decode cL_law 446 = .ok (.iaload, 1) := by decide +kernel
theorem dL_law_447 : decode cL_law 447 = .ok (.aload_n 0, 1) := by decide +kernel
theorem dL_law_448 : decode cL_law 448 = .ok (.iload 5, 2) := by decide +kernel
theorem dL_law_450 : decode cL_law 450 = .ok (.iconst 3, 1) := by decide +kernel
theorem dL_law_451 : decode cL_law 451 = .ok (.iadd, 1) := by decide +kernel
theorem dL_law_452 : decode cL_law 452 = .ok (.iaload, 1) := by decide +kernel
theorem dL_law_453 : decode cL_law 453 = .ok (.invokevirtual 131, 3) := by decide +kernel
theorem dL_law_456 : decode cL_law 456 = .ok (.istore 7, 2) := by decide +kernel
theorem dL_law_458 : decode cL_law 458 = .ok (.aload_n 2, 1) := by decide +kernel
theorem dL_law_459 : decode cL_law 459 = .ok (.invokevirtual 114, 3) := by decide +kernel
theorem dL_law_462 : decode cL_law 462 = .ok (.iload 6, 2) := by decide +kernel
theorem dL_law_464 : decode cL_law 464 = .ok (.if_icmp .eq 5, 3) := by decide +kernel
theorem dL_law_467 : decode cL_law 467 = .ok (.iconst 0, 1) := by decide +kernel
theorem dL_law_468 : decode cL_law 468 = .ok (.ireturn, 1) := by decide +kernel
theorem dL_law_469 : decode cL_law 469 = .ok (.iload 6, 2) := by decide +kernel
theorem dL_law_471 : decode cL_law 471 = .ok (.ifCond .ne 22, 3) := by decide +kernel
theorem dL_law_474 : decode cL_law 474 = .ok (.aload_n 3, 1) := by decide +kernel
theorem dL_law_475 : decode cL_law 475 = .ok (.iconst 0, 1) := by decide +kernel
theorem dL_law_476 : decode cL_law 476 = .ok (.laload, 1) := by decide +kernel
theorem dL_law_477 : decode cL_law 477 = .ok (.iload 7, 2) := by decide +kernel
theorem dL_law_479 : decode cL_law 479 = .ok (.ifCond .eq 7, 3) := by decide +kernel
theorem dL_law_482 : decode cL_law 482 = .ok (.lconst 1, 1) := by decide +kernel
theorem dL_law_483 : decode cL_law 483 = .ok (.goto 4, 3) := by decide +kernel
theorem dL_law_486 : decode cL_law 486 = .ok (.lconst 0, 1) := by decide +kernel
theorem dL_law_487 : decode cL_law 487 = .ok (.lcmp, 1) := by decide +kernel
theorem dL_law_488 : decode cL_law 488 = .ok (.ifCond .eq 5, 3) := by decide +kernel
theorem dL_law_491 : decode cL_law 491 = .ok (.iconst 0, 1) := by decide +kernel
theorem dL_law_492 : decode cL_law 492 = .ok (.ireturn, 1) := by decide +kernel
theorem dL_law_493 : decode cL_law 493 = .ok (.goto 1455, 3) := by decide +kernel
theorem dL_law_496 : decode cL_law 496 = .ok (.aload_n 1, 1) := by decide +kernel
theorem dL_law_497 : decode cL_law 497 = .ok (.aload_n 0, 1) := by decide +kernel
theorem dL_law_498 : decode cL_law 498 = .ok (.iload 5, 2) := by decide +kernel
theorem dL_law_500 : decode cL_law 500 = .ok (.iconst 1, 1) := by decide +kernel
theorem dL_law_501 : decode cL_law 501 = .ok (.iadd, 1) := by decide +kernel
theorem dL_law_502 : decode cL_law 502 = .ok (.iaload, 1) := by decide +kernel
theorem dL_law_503 : decode cL_law 503 = .ok (.aload_n 3, 1) := by decide +kernel
theorem dL_law_504 : decode cL_law 504 = .ok (.invokestatic 132, 3) := by decide +kernel
theorem dL_law_507 : decode cL_law 507 = .ok (.istore 6, 2) := by decide +kernel
theorem dL_law_509 : decode cL_law 509 = .ok (.aload_n 2, 1) := by decide +kernel
theorem dL_law_510 : decode cL_law 510 = .ok (.aload_n 0, 1) := by decide +kernel
theorem dL_law_511 : decode cL_law 511 = .ok (.iload 5, 2) := by decide +kernel
theorem dL_law_513 : decode cL_law 513 = .ok (.iconst 1, 1) := by decide +kernel
theorem dL_law_514 : decode cL_law 514 = .ok (.iadd, 1) := by decide +kernel
theorem dL_law_515 : decode cL_law 515 = .ok (.iaload, 1) := by decide +kernel
theorem dL_law_516 : decode cL_law 516 = .ok (.invokevirtual 134, 3) := by decide +kernel
theorem dL_law_519 : decode cL_law 519 = .ok (.istore 7, 2) := by decide +kernel
theorem dL_law_521 : decode cL_law 521 = .ok (.aload_n 2, 1) := by decide +kernel
theorem dL_law_522 : decode cL_law 522 = .ok (.invokevirtual 114, 3) := by decide +kernel
theorem dL_law_525 : decode cL_law 525 = .ok (.iload 6, 2) := by decide +kernel
theorem dL_law_527 : decode cL_law 527 = .ok (.if_icmp .eq 5, 3) := by decide +kernel
theorem dL_law_530 : decode cL_law 530 = .ok (.iconst 0, 1) := by decide +kernel
theorem dL_law_531 : decode cL_law 531 = .ok (.ireturn, 1) := by decide +kernel
theorem dL_law_532 : decode cL_law 532 = .ok (.iload 6, 2) := by decide +kernel
theorem dL_law_534 : decode cL_law 534 = .ok (.ifCond .ne 15, 3) := by decide +kernel
theorem dL_law_537 : decode cL_law 537 = .ok (.aload_n 3, 1) := by decide +kernel
theorem dL_law_538 : decode cL_law 538 = .ok (.iconst 0, 1) := by decide +kernel
theorem dL_law_539 : decode cL_law 539 = .ok (.laload, 1) := by decide +kernel
theorem dL_law_540 : decode cL_law 540 = .ok (.iload 7, 2) := by decide +kernel
theorem dL_law_542 : decode cL_law 542 = .ok (.i2l, 1) := by decide +kernel
theorem dL_law_543 : decode cL_law 543 = .ok (.lcmp, 1) := by decide +kernel
theorem dL_law_544 : decode cL_law 544 = .ok (.ifCond .eq 5, 3) := by decide +kernel
theorem dL_law_547 : decode cL_law 547 = .ok (.iconst 0, 1) := by decide +kernel
theorem dL_law_548 : decode cL_law 548 = .ok (.ireturn, 1) := by decide +kernel
theorem dL_law_549 : decode cL_law 549 = .ok (.goto 1399, 3) := by decide +kernel
theorem dL_law_552 : decode cL_law 552 = .ok (.aload_n 1, 1) := by decide +kernel
theorem dL_law_553 : decode cL_law 553 = .ok (.aload_n 0, 1) := by decide +kernel
theorem dL_law_554 : decode cL_law 554 = .ok (.iload 5, 2) := by decide +kernel
theorem dL_law_556 : decode cL_law 556 = .ok (.iconst 1, 1) := by decide +kernel
theorem dL_law_557 : decode cL_law 557 = .ok (.iadd, 1) := by decide +kernel
theorem dL_law_558 : decode cL_law 558 = .ok (.iaload, 1) := by decide +kernel
theorem dL_law_559 : decode cL_law 559 = .ok (.aload_n 3, 1) := by decide +kernel
theorem dL_law_560 : decode cL_law 560 = .ok (.invokestatic 135, 3) := by decide +kernel
theorem dL_law_563 : decode cL_law 563 = .ok (.istore 6, 2) := by decide +kernel
theorem dL_law_565 : decode cL_law 565 = .ok (.aload_n 2, 1) := by decide +kernel
theorem dL_law_566 : decode cL_law 566 = .ok (.aload_n 0, 1) := by decide +kernel
theorem dL_law_567 : decode cL_law 567 = .ok (.iload 5, 2) := by decide +kernel
theorem dL_law_569 : decode cL_law 569 = .ok (.iconst 1, 1) := by decide +kernel
theorem dL_law_570 : decode cL_law 570 = .ok (.iadd, 1) := by decide +kernel
theorem dL_law_571 : decode cL_law 571 = .ok (.iaload, 1) := by decide +kernel
theorem dL_law_572 : decode cL_law 572 = .ok (.invokevirtual 137, 3) := by decide +kernel
theorem dL_law_575 : decode cL_law 575 = .ok (.istore 7, 2) := by decide +kernel
theorem dL_law_577 : decode cL_law 577 = .ok (.aload_n 2, 1) := by decide +kernel
theorem dL_law_578 : decode cL_law 578 = .ok (.invokevirtual 114, 3) := by decide +kernel
theorem dL_law_581 : decode cL_law 581 = .ok (.iload 6, 2) := by decide +kernel
theorem dL_law_583 : decode cL_law 583 = .ok (.if_icmp .eq 5, 3) := by decide +kernel
theorem dL_law_586 : decode cL_law 586 = .ok (.iconst 0, 1) := by decide +kernel
theorem dL_law_587 : decode cL_law 587 = .ok (.ireturn, 1) := by decide +kernel
theorem dL_law_588 : decode cL_law 588 = .ok (.iload 6, 2) := by decide +kernel
theorem dL_law_590 : decode cL_law 590 = .ok (.ifCond .ne 15, 3) := by decide +kernel
theorem dL_law_593 : decode cL_law 593 = .ok (.aload_n 3, 1) := by decide +kernel
theorem dL_law_594 : decode cL_law 594 = .ok (.iconst 0, 1) := by decide +kernel
theorem dL_law_595 : decode cL_law 595 = .ok (.laload, 1) := by decide +kernel
theorem dL_law_596 : decode cL_law 596 = .ok (.iload 7, 2) := by decide +kernel
theorem dL_law_598 : decode cL_law 598 = .ok (.i2l, 1) := by decide +kernel
theorem dL_law_599 : decode cL_law 599 = .ok (.lcmp, 1) := by decide +kernel
theorem dL_law_600 : decode cL_law 600 = .ok (.ifCond .eq 5, 3) := by decide +kernel
theorem dL_law_603 : decode cL_law 603 = .ok (.iconst 0, 1) := by decide +kernel
theorem dL_law_604 : decode cL_law 604 = .ok (.ireturn, 1) := by decide +kernel
theorem dL_law_605 : decode cL_law 605 = .ok (.goto 1343, 3) := by decide +kernel
theorem dL_law_608 : decode cL_law 608 = .ok (.aload_n 1, 1) := by decide +kernel
theorem dL_law_609 : decode cL_law 609 = .ok (.aload_n 0, 1) := by decide +kernel
theorem dL_law_610 : decode cL_law 610 = .ok (.iload 5, 2) := by decide +kernel
theorem dL_law_612 : decode cL_law 612 = .ok (.iconst 1, 1) := by decide +kernel
theorem dL_law_613 : decode cL_law 613 = .ok (.iadd, 1) := by decide +kernel
theorem dL_law_614 : decode cL_law 614 = .ok (.iaload, 1) := by decide +kernel
theorem dL_law_615 : decode cL_law 615 = .ok (.aload_n 0, 1) := by decide +kernel
theorem dL_law_616 : decode cL_law 616 = .ok (.iload 5, 2) := by decide +kernel
theorem dL_law_618 : decode cL_law 618 = .ok (.iconst 2, 1) := by decide +kernel
theorem dL_law_619 : decode cL_law 619 = .ok (.iadd, 1) := by decide +kernel
theorem dL_law_620 : decode cL_law 620 = .ok (.iaload, 1) := by decide +kernel
theorem dL_law_621 : decode cL_law 621 = .ok (.aload_n 0, 1) := by decide +kernel
theorem dL_law_622 : decode cL_law 622 = .ok (.iload 5, 2) := by decide +kernel
theorem dL_law_624 : decode cL_law 624 = .ok (.iconst 3, 1) := by decide +kernel
theorem dL_law_625 : decode cL_law 625 = .ok (.iadd, 1) := by decide +kernel
theorem dL_law_626 : decode cL_law 626 = .ok (.iaload, 1) := by decide +kernel
theorem dL_law_627 : decode cL_law 627 = .ok (.aload_n 3, 1) := by decide +kernel
theorem dL_law_628 : decode cL_law 628 = .ok (.invokestatic 138, 3) := by decide +kernel
theorem dL_law_631 : decode cL_law 631 = .ok (.istore 6, 2) := by decide +kernel
theorem dL_law_633 : decode cL_law 633 = .ok (.aload_n 2, 1) := by decide +kernel
theorem dL_law_634 : decode cL_law 634 = .ok (.aload_n 0, 1) := by decide +kernel
theorem dL_law_635 : decode cL_law 635 = .ok (.iload 5, 2) := by decide +kernel
theorem dL_law_637 : decode cL_law 637 = .ok (.iconst 1, 1) := by decide +kernel
theorem dL_law_638 : decode cL_law 638 = .ok (.iadd, 1) := by decide +kernel
theorem dL_law_639 : decode cL_law 639 = .ok (.iaload, 1) := by decide +kernel
theorem dL_law_640 : decode cL_law 640 = .ok (.aload_n 0, 1) := by decide +kernel
theorem dL_law_641 : decode cL_law 641 = .ok (.iload 5, 2) := by decide +kernel
theorem dL_law_643 : decode cL_law 643 = .ok (.iconst 2, 1) := by decide +kernel
theorem dL_law_644 : decode cL_law 644 = .ok (.iadd, 1) := by decide +kernel
theorem dL_law_645 : decode cL_law 645 = .ok (.iaload, 1) := by decide +kernel
theorem dL_law_646 : decode cL_law 646 = .ok (.aload_n 0, 1) := by decide +kernel
theorem dL_law_647 : decode cL_law 647 = .ok (.iload 5, 2) := by decide +kernel
theorem dL_law_649 : decode cL_law 649 = .ok (.iconst 3, 1) := by decide +kernel
theorem dL_law_650 : decode cL_law 650 = .ok (.iadd, 1) := by decide +kernel
theorem dL_law_651 : decode cL_law 651 = .ok (.iaload, 1) := by decide +kernel
theorem dL_law_652 : decode cL_law 652 = .ok (.invokevirtual 140, 3) := by decide +kernel
theorem dL_law_655 : decode cL_law 655 = .ok (.istore 7, 2) := by decide +kernel
theorem dL_law_657 : decode cL_law 657 = .ok (.aload_n 2, 1) := by decide +kernel
theorem dL_law_658 : decode cL_law 658 = .ok (.invokevirtual 114, 3) := by decide +kernel
theorem dL_law_661 : decode cL_law 661 = .ok (.iload 6, 2) := by decide +kernel
theorem dL_law_663 : decode cL_law 663 = .ok (.if_icmp .eq 5, 3) := by decide +kernel
theorem dL_law_666 : decode cL_law 666 = .ok (.iconst 0, 1) := by decide +kernel
theorem dL_law_667 : decode cL_law 667 = .ok (.ireturn, 1) := by decide +kernel
theorem dL_law_668 : decode cL_law 668 = .ok (.iload 6, 2) := by decide +kernel
theorem dL_law_670 : decode cL_law 670 = .ok (.ifCond .ne 15, 3) := by decide +kernel
theorem dL_law_673 : decode cL_law 673 = .ok (.aload_n 3, 1) := by decide +kernel
theorem dL_law_674 : decode cL_law 674 = .ok (.iconst 0, 1) := by decide +kernel
theorem dL_law_675 : decode cL_law 675 = .ok (.laload, 1) := by decide +kernel
theorem dL_law_676 : decode cL_law 676 = .ok (.iload 7, 2) := by decide +kernel
theorem dL_law_678 : decode cL_law 678 = .ok (.i2l, 1) := by decide +kernel
theorem dL_law_679 : decode cL_law 679 = .ok (.lcmp, 1) := by decide +kernel
theorem dL_law_680 : decode cL_law 680 = .ok (.ifCond .eq 5, 3) := by decide +kernel
theorem dL_law_683 : decode cL_law 683 = .ok (.iconst 0, 1) := by decide +kernel
theorem dL_law_684 : decode cL_law 684 = .ok (.ireturn, 1) := by decide +kernel
theorem dL_law_685 : decode cL_law 685 = .ok (.goto 1263, 3) := by decide +kernel
theorem dL_law_688 : decode cL_law 688 = .ok (.aload_n 1, 1) := by decide +kernel
theorem dL_law_689 : decode cL_law 689 = .ok (.aload_n 0, 1) := by decide +kernel
theorem dL_law_690 : decode cL_law 690 = .ok (.iload 5, 2) := by decide +kernel
theorem dL_law_692 : decode cL_law 692 = .ok (.iconst 1, 1) := by decide +kernel
theorem dL_law_693 : decode cL_law 693 = .ok (.iadd, 1) := by decide +kernel
theorem dL_law_694 : decode cL_law 694 = .ok (.iaload, 1) := by decide +kernel
theorem dL_law_695 : decode cL_law 695 = .ok (.aload_n 0, 1) := by decide +kernel
theorem dL_law_696 : decode cL_law 696 = .ok (.iload 5, 2) := by decide +kernel
theorem dL_law_698 : decode cL_law 698 = .ok (.iconst 2, 1) := by decide +kernel
theorem dL_law_699 : decode cL_law 699 = .ok (.iadd, 1) := by decide +kernel
theorem dL_law_700 : decode cL_law 700 = .ok (.iaload, 1) := by decide +kernel
theorem dL_law_701 : decode cL_law 701 = .ok (.aload_n 3, 1) := by decide +kernel
theorem dL_law_702 : decode cL_law 702 = .ok (.invokestatic 141, 3) := by decide +kernel
theorem dL_law_705 : decode cL_law 705 = .ok (.istore 6, 2) := by decide +kernel
theorem dL_law_707 : decode cL_law 707 = .ok (.aload_n 2, 1) := by decide +kernel
theorem dL_law_708 : decode cL_law 708 = .ok (.aload_n 0, 1) := by decide +kernel
theorem dL_law_709 : decode cL_law 709 = .ok (.iload 5, 2) := by decide +kernel
theorem dL_law_711 : decode cL_law 711 = .ok (.iconst 1, 1) := by decide +kernel
theorem dL_law_712 : decode cL_law 712 = .ok (.iadd, 1) := by decide +kernel
theorem dL_law_713 : decode cL_law 713 = .ok (.iaload, 1) := by decide +kernel
theorem dL_law_714 : decode cL_law 714 = .ok (.aload_n 0, 1) := by decide +kernel
theorem dL_law_715 : decode cL_law 715 = .ok (.iload 5, 2) := by decide +kernel
theorem dL_law_717 : decode cL_law 717 = .ok (.iconst 2, 1) := by decide +kernel
theorem dL_law_718 : decode cL_law 718 = .ok (.iadd, 1) := by decide +kernel
theorem dL_law_719 : decode cL_law 719 = .ok (.iaload, 1) := by decide +kernel
theorem dL_law_720 : decode cL_law 720 = .ok (.invokevirtual 143, 3) := by decide +kernel
theorem dL_law_723 : decode cL_law 723 = .ok (.istore 7, 2) := by decide +kernel
theorem dL_law_725 : decode cL_law 725 = .ok (.aload_n 2, 1) := by decide +kernel
theorem dL_law_726 : decode cL_law 726 = .ok (.invokevirtual 114, 3) := by decide +kernel
theorem dL_law_729 : decode cL_law 729 = .ok (.iload 6, 2) := by decide +kernel
theorem dL_law_731 : decode cL_law 731 = .ok (.if_icmp .eq 5, 3) := by decide +kernel
theorem dL_law_734 : decode cL_law 734 = .ok (.iconst 0, 1) := by decide +kernel
theorem dL_law_735 : decode cL_law 735 = .ok (.ireturn, 1) := by decide +kernel
theorem dL_law_736 : decode cL_law 736 = .ok (.iload 6, 2) := by decide +kernel
theorem dL_law_738 : decode cL_law 738 = .ok (.ifCond .ne 22, 3) := by decide +kernel
theorem dL_law_741 : decode cL_law 741 = .ok (.aload_n 3, 1) := by decide +kernel
theorem dL_law_742 : decode cL_law 742 = .ok (.iconst 0, 1) := by decide +kernel
theorem dL_law_743 : decode cL_law 743 = .ok (.laload, 1) := by decide +kernel
theorem dL_law_744 : decode cL_law 744 = .ok (.iload 7, 2) := by decide +kernel
theorem dL_law_746 : decode cL_law 746 = .ok (.ifCond .eq 7, 3) := by decide +kernel
theorem dL_law_749 : decode cL_law 749 = .ok (.lconst 1, 1) := by decide +kernel
theorem dL_law_750 : decode cL_law 750 = .ok (.goto 4, 3) := by decide +kernel
theorem dL_law_753 : decode cL_law 753 = .ok (.lconst 0, 1) := by decide +kernel
theorem dL_law_754 : decode cL_law 754 = .ok (.lcmp, 1) := by decide +kernel
theorem dL_law_755 : decode cL_law 755 = .ok (.ifCond .eq 5, 3) := by decide +kernel
theorem dL_law_758 : decode cL_law 758 = .ok (.iconst 0, 1) := by decide +kernel
theorem dL_law_759 : decode cL_law 759 = .ok (.ireturn, 1) := by decide +kernel
theorem dL_law_760 : decode cL_law 760 = .ok (.goto 1188, 3) := by decide +kernel
theorem dL_law_763 : decode cL_law 763 = .ok (.aload_n 1, 1) := by decide +kernel
theorem dL_law_764 : decode cL_law 764 = .ok (.aload_n 0, 1) := by decide +kernel
theorem dL_law_765 : decode cL_law 765 = .ok (.iload 5, 2) := by decide +kernel
theorem dL_law_767 : decode cL_law 767 = .ok (.iconst 1, 1) := by decide +kernel
theorem dL_law_768 : decode cL_law 768 = .ok (.iadd, 1) := by decide +kernel
theorem dL_law_769 : decode cL_law 769 = .ok (.iaload, 1) := by decide +kernel
theorem dL_law_770 : decode cL_law 770 = .ok (.aload_n 0, 1) := by decide +kernel
theorem dL_law_771 : decode cL_law 771 = .ok (.iload 5, 2) := by decide +kernel
theorem dL_law_773 : decode cL_law 773 = .ok (.iconst 2, 1) := by decide +kernel
theorem dL_law_774 : decode cL_law 774 = .ok (.iadd, 1) := by decide +kernel
theorem dL_law_775 : decode cL_law 775 = .ok (.iaload, 1) := by decide +kernel
theorem dL_law_776 : decode cL_law 776 = .ok (.aload_n 0, 1) := by decide +kernel
theorem dL_law_777 : decode cL_law 777 = .ok (.iload 5, 2) := by decide +kernel
theorem dL_law_779 : decode cL_law 779 = .ok (.iconst 3, 1) := by decide +kernel
theorem dL_law_780 : decode cL_law 780 = .ok (.iadd, 1) := by decide +kernel
theorem dL_law_781 : decode cL_law 781 = .ok (.iaload, 1) := by decide +kernel
theorem dL_law_782 : decode cL_law 782 = .ok (.aload_n 3, 1) := by decide +kernel
theorem dL_law_783 : decode cL_law 783 = .ok (.invokestatic 144, 3) := by decide +kernel
theorem dL_law_786 : decode cL_law 786 = .ok (.istore 6, 2) := by decide +kernel
theorem dL_law_788 : decode cL_law 788 = .ok (.aload_n 2, 1) := by decide +kernel
theorem dL_law_789 : decode cL_law 789 = .ok (.aload_n 0, 1) := by decide +kernel
theorem dL_law_790 : decode cL_law 790 = .ok (.iload 5, 2) := by decide +kernel
theorem dL_law_792 : decode cL_law 792 = .ok (.iconst 1, 1) := by decide +kernel
theorem dL_law_793 : decode cL_law 793 = .ok (.iadd, 1) := by decide +kernel
theorem dL_law_794 : decode cL_law 794 = .ok (.iaload, 1) := by decide +kernel
theorem dL_law_795 : decode cL_law 795 = .ok (.aload_n 0, 1) := by decide +kernel
theorem dL_law_796 : decode cL_law 796 = .ok (.iload 5, 2) := by decide +kernel
theorem dL_law_798 : decode cL_law 798 = .ok (.iconst 2, 1) := by decide +kernel
theorem dL_law_799 : decode cL_law 799 = .ok (.iadd, 1) := by decide +kernel
theorem dL_law_800 : decode cL_law 800 = .ok (.iaload, 1) := by decide +kernel
theorem dL_law_801 : decode cL_law 801 = .ok (.aload_n 0, 1) := by decide +kernel
theorem dL_law_802 : decode cL_law 802 = .ok (.iload 5, 2) := by decide +kernel
theorem dL_law_804 : decode cL_law 804 = .ok (.iconst 3, 1) := by decide +kernel
theorem dL_law_805 : decode cL_law 805 = .ok (.iadd, 1) := by decide +kernel
theorem dL_law_806 : decode cL_law 806 = .ok (.iaload, 1) := by decide +kernel
theorem dL_law_807 : decode cL_law 807 = .ok (.invokevirtual 146, 3) := by decide +kernel
theorem dL_law_810 : decode cL_law 810 = .ok (.istore 7, 2) := by decide +kernel
theorem dL_law_812 : decode cL_law 812 = .ok (.aload_n 2, 1) := by decide +kernel
theorem dL_law_813 : decode cL_law 813 = .ok (.invokevirtual 114, 3) := by decide +kernel
theorem dL_law_816 : decode cL_law 816 = .ok (.iload 6, 2) := by decide +kernel
theorem dL_law_818 : decode cL_law 818 = .ok (.if_icmp .eq 5, 3) := by decide +kernel
theorem dL_law_821 : decode cL_law 821 = .ok (.iconst 0, 1) := by decide +kernel
theorem dL_law_822 : decode cL_law 822 = .ok (.ireturn, 1) := by decide +kernel
theorem dL_law_823 : decode cL_law 823 = .ok (.iload 6, 2) := by decide +kernel
theorem dL_law_825 : decode cL_law 825 = .ok (.ifCond .ne 15, 3) := by decide +kernel
theorem dL_law_828 : decode cL_law 828 = .ok (.aload_n 3, 1) := by decide +kernel
theorem dL_law_829 : decode cL_law 829 = .ok (.iconst 0, 1) := by decide +kernel
theorem dL_law_830 : decode cL_law 830 = .ok (.laload, 1) := by decide +kernel
theorem dL_law_831 : decode cL_law 831 = .ok (.iload 7, 2) := by decide +kernel
theorem dL_law_833 : decode cL_law 833 = .ok (.i2l, 1) := by decide +kernel
theorem dL_law_834 : decode cL_law 834 = .ok (.lcmp, 1) := by decide +kernel
theorem dL_law_835 : decode cL_law 835 = .ok (.ifCond .eq 5, 3) := by decide +kernel
theorem dL_law_838 : decode cL_law 838 = .ok (.iconst 0, 1) := by decide +kernel
theorem dL_law_839 : decode cL_law 839 = .ok (.ireturn, 1) := by decide +kernel
theorem dL_law_840 : decode cL_law 840 = .ok (.goto 1108, 3) := by decide +kernel
theorem dL_law_843 : decode cL_law 843 = .ok (.aload_n 1, 1) := by decide +kernel
theorem dL_law_844 : decode cL_law 844 = .ok (.invokevirtual 147, 3) := by decide +kernel
theorem dL_law_847 : decode cL_law 847 = .ok (.aload_n 2, 1) := by decide +kernel
theorem dL_law_848 : decode cL_law 848 = .ok (.invokevirtual 150, 3) := by decide +kernel
theorem dL_law_851 : decode cL_law 851 = .ok (.lcmp, 1) := by decide +kernel
theorem dL_law_852 : decode cL_law 852 = .ok (.ifCond .eq 1096, 3) := by decide +kernel
theorem dL_law_855 : decode cL_law 855 = .ok (.iconst 0, 1) := by decide +kernel
theorem dL_law_856 : decode cL_law 856 = .ok (.ireturn, 1) := by decide +kernel
theorem dL_law_857 : decode cL_law 857 = .ok (.aload_n 1, 1) := by decide +kernel
theorem dL_law_858 : decode cL_law 858 = .ok (.aload_n 0, 1) := by decide +kernel
theorem dL_law_859 : decode cL_law 859 = .ok (.iload 5, 2) := by decide +kernel
theorem dL_law_861 : decode cL_law 861 = .ok (.iconst 1, 1) := by decide +kernel
theorem dL_law_862 : decode cL_law 862 = .ok (.iadd, 1) := by decide +kernel
theorem dL_law_863 : decode cL_law 863 = .ok (.iaload, 1) := by decide +kernel
theorem dL_law_864 : decode cL_law 864 = .ok (.aload_n 3, 1) := by decide +kernel
theorem dL_law_865 : decode cL_law 865 = .ok (.invokestatic 151, 3) := by decide +kernel
theorem dL_law_868 : decode cL_law 868 = .ok (.istore 6, 2) := by decide +kernel
theorem dL_law_870 : decode cL_law 870 = .ok (.aload_n 2, 1) := by decide +kernel
theorem dL_law_871 : decode cL_law 871 = .ok (.aload_n 0, 1) := by decide +kernel
theorem dL_law_872 : decode cL_law 872 = .ok (.iload 5, 2) := by decide +kernel
theorem dL_law_874 : decode cL_law 874 = .ok (.iconst 1, 1) := by decide +kernel
theorem dL_law_875 : decode cL_law 875 = .ok (.iadd, 1) := by decide +kernel
theorem dL_law_876 : decode cL_law 876 = .ok (.iaload, 1) := by decide +kernel
theorem dL_law_877 : decode cL_law 877 = .ok (.invokevirtual 153, 3) := by decide +kernel
theorem dL_law_880 : decode cL_law 880 = .ok (.lstore 7, 2) := by decide +kernel
theorem dL_law_882 : decode cL_law 882 = .ok (.aload_n 2, 1) := by decide +kernel
theorem dL_law_883 : decode cL_law 883 = .ok (.invokevirtual 114, 3) := by decide +kernel
theorem dL_law_886 : decode cL_law 886 = .ok (.iload 6, 2) := by decide +kernel
theorem dL_law_888 : decode cL_law 888 = .ok (.if_icmp .eq 5, 3) := by decide +kernel
theorem dL_law_891 : decode cL_law 891 = .ok (.iconst 0, 1) := by decide +kernel
theorem dL_law_892 : decode cL_law 892 = .ok (.ireturn, 1) := by decide +kernel
theorem dL_law_893 : decode cL_law 893 = .ok (.iload 6, 2) := by decide +kernel
theorem dL_law_895 : decode cL_law 895 = .ok (.ifCond .ne 14, 3) := by decide +kernel
theorem dL_law_898 : decode cL_law 898 = .ok (.aload_n 3, 1) := by decide +kernel
theorem dL_law_899 : decode cL_law 899 = .ok (.iconst 0, 1) := by decide +kernel
theorem dL_law_900 : decode cL_law 900 = .ok (.laload, 1) := by decide +kernel
theorem dL_law_901 : decode cL_law 901 = .ok (.lload 7, 2) := by decide +kernel
theorem dL_law_903 : decode cL_law 903 = .ok (.lcmp, 1) := by decide +kernel
theorem dL_law_904 : decode cL_law 904 = .ok (.ifCond .eq 5, 3) := by decide +kernel
theorem dL_law_907 : decode cL_law 907 = .ok (.iconst 0, 1) := by decide +kernel
theorem dL_law_908 : decode cL_law 908 = .ok (.ireturn, 1) := by decide +kernel
theorem dL_law_909 : decode cL_law 909 = .ok (.goto 1039, 3) := by decide +kernel
theorem dL_law_912 : decode cL_law 912 = .ok (.aload_n 1, 1) := by decide +kernel
theorem dL_law_913 : decode cL_law 913 = .ok (.aload_n 0, 1) := by decide +kernel
theorem dL_law_914 : decode cL_law 914 = .ok (.iload 5, 2) := by decide +kernel
theorem dL_law_916 : decode cL_law 916 = .ok (.iconst 1, 1) := by decide +kernel
theorem dL_law_917 : decode cL_law 917 = .ok (.iadd, 1) := by decide +kernel
theorem dL_law_918 : decode cL_law 918 = .ok (.iaload, 1) := by decide +kernel
theorem dL_law_919 : decode cL_law 919 = .ok (.aload_n 3, 1) := by decide +kernel
theorem dL_law_920 : decode cL_law 920 = .ok (.invokestatic 154, 3) := by decide +kernel
theorem dL_law_923 : decode cL_law 923 = .ok (.istore 6, 2) := by decide +kernel
theorem dL_law_925 : decode cL_law 925 = .ok (.aload_n 2, 1) := by decide +kernel
theorem dL_law_926 : decode cL_law 926 = .ok (.aload_n 0, 1) := by decide +kernel
theorem dL_law_927 : decode cL_law 927 = .ok (.iload 5, 2) := by decide +kernel
theorem dL_law_929 : decode cL_law 929 = .ok (.iconst 1, 1) := by decide +kernel
theorem dL_law_930 : decode cL_law 930 = .ok (.iadd, 1) := by decide +kernel
theorem dL_law_931 : decode cL_law 931 = .ok (.iaload, 1) := by decide +kernel
theorem dL_law_932 : decode cL_law 932 = .ok (.invokevirtual 156, 3) := by decide +kernel
theorem dL_law_935 : decode cL_law 935 = .ok (.lstore 7, 2) := by decide +kernel
theorem dL_law_937 : decode cL_law 937 = .ok (.aload_n 2, 1) := by decide +kernel
theorem dL_law_938 : decode cL_law 938 = .ok (.invokevirtual 114, 3) := by decide +kernel
theorem dL_law_941 : decode cL_law 941 = .ok (.iload 6, 2) := by decide +kernel
theorem dL_law_943 : decode cL_law 943 = .ok (.if_icmp .eq 5, 3) := by decide +kernel
theorem dL_law_946 : decode cL_law 946 = .ok (.iconst 0, 1) := by decide +kernel
theorem dL_law_947 : decode cL_law 947 = .ok (.ireturn, 1) := by decide +kernel
theorem dL_law_948 : decode cL_law 948 = .ok (.iload 6, 2) := by decide +kernel
theorem dL_law_950 : decode cL_law 950 = .ok (.ifCond .ne 14, 3) := by decide +kernel
theorem dL_law_953 : decode cL_law 953 = .ok (.aload_n 3, 1) := by decide +kernel
theorem dL_law_954 : decode cL_law 954 = .ok (.iconst 0, 1) := by decide +kernel
theorem dL_law_955 : decode cL_law 955 = .ok (.laload, 1) := by decide +kernel
theorem dL_law_956 : decode cL_law 956 = .ok (.lload 7, 2) := by decide +kernel
theorem dL_law_958 : decode cL_law 958 = .ok (.lcmp, 1) := by decide +kernel
theorem dL_law_959 : decode cL_law 959 = .ok (.ifCond .eq 5, 3) := by decide +kernel
theorem dL_law_962 : decode cL_law 962 = .ok (.iconst 0, 1) := by decide +kernel
theorem dL_law_963 : decode cL_law 963 = .ok (.ireturn, 1) := by decide +kernel
theorem dL_law_964 : decode cL_law 964 = .ok (.goto 984, 3) := by decide +kernel
theorem dL_law_967 : decode cL_law 967 = .ok (.aload_n 1, 1) := by decide +kernel
theorem dL_law_968 : decode cL_law 968 = .ok (.aload_n 0, 1) := by decide +kernel
theorem dL_law_969 : decode cL_law 969 = .ok (.iload 5, 2) := by decide +kernel
theorem dL_law_971 : decode cL_law 971 = .ok (.iconst 1, 1) := by decide +kernel
theorem dL_law_972 : decode cL_law 972 = .ok (.iadd, 1) := by decide +kernel
theorem dL_law_973 : decode cL_law 973 = .ok (.iaload, 1) := by decide +kernel
theorem dL_law_974 : decode cL_law 974 = .ok (.aload_n 3, 1) := by decide +kernel
theorem dL_law_975 : decode cL_law 975 = .ok (.invokestatic 157, 3) := by decide +kernel
theorem dL_law_978 : decode cL_law 978 = .ok (.istore 6, 2) := by decide +kernel
theorem dL_law_980 : decode cL_law 980 = .ok (.aload_n 2, 1) := by decide +kernel
theorem dL_law_981 : decode cL_law 981 = .ok (.aload_n 0, 1) := by decide +kernel
theorem dL_law_982 : decode cL_law 982 = .ok (.iload 5, 2) := by decide +kernel
theorem dL_law_984 : decode cL_law 984 = .ok (.iconst 1, 1) := by decide +kernel
theorem dL_law_985 : decode cL_law 985 = .ok (.iadd, 1) := by decide +kernel
theorem dL_law_986 : decode cL_law 986 = .ok (.iaload, 1) := by decide +kernel
theorem dL_law_987 : decode cL_law 987 = .ok (.invokevirtual 159, 3) := by decide +kernel
theorem dL_law_990 : decode cL_law 990 = .ok (.lstore 7, 2) := by decide +kernel
theorem dL_law_992 : decode cL_law 992 = .ok (.aload_n 2, 1) := by decide +kernel
theorem dL_law_993 : decode cL_law 993 = .ok (.invokevirtual 114, 3) := by decide +kernel
theorem dL_law_996 : decode cL_law 996 = .ok (.iload 6, 2) := by decide +kernel
theorem dL_law_998 : decode cL_law 998 = .ok (.if_icmp .eq 5, 3) := by decide +kernel
theorem dL_law_1001 : decode cL_law 1001 = .ok (.iconst 0, 1) := by decide +kernel
theorem dL_law_1002 : decode cL_law 1002 = .ok (.ireturn, 1) := by decide +kernel
theorem dL_law_1003 : decode cL_law 1003 = .ok (.iload 6, 2) := by decide +kernel
theorem dL_law_1005 : decode cL_law 1005 = .ok (.ifCond .ne 14, 3) := by decide +kernel
theorem dL_law_1008 : decode cL_law 1008 = .ok (.aload_n 3, 1) := by decide +kernel
theorem dL_law_1009 : decode cL_law 1009 = .ok (.iconst 0, 1) := by decide +kernel
theorem dL_law_1010 : decode cL_law 1010 = .ok (.laload, 1) := by decide +kernel
theorem dL_law_1011 : decode cL_law 1011 = .ok (.lload 7, 2) := by decide +kernel
theorem dL_law_1013 : decode cL_law 1013 = .ok (.lcmp, 1) := by decide +kernel
theorem dL_law_1014 : decode cL_law 1014 = .ok (.ifCond .eq 5, 3) := by decide +kernel
theorem dL_law_1017 : decode cL_law 1017 = .ok (.iconst 0, 1) := by decide +kernel
theorem dL_law_1018 : decode cL_law 1018 = .ok (.ireturn, 1) := by decide +kernel
theorem dL_law_1019 : decode cL_law 1019 = .ok (.goto 929, 3) := by decide +kernel
theorem dL_law_1022 : decode cL_law 1022 = .ok (.aload_n 1, 1) := by decide +kernel
theorem dL_law_1023 : decode cL_law 1023 = .ok (.aload_n 0, 1) := by decide +kernel
theorem dL_law_1024 : decode cL_law 1024 = .ok (.iload 5, 2) := by decide +kernel
theorem dL_law_1026 : decode cL_law 1026 = .ok (.iconst 1, 1) := by decide +kernel
theorem dL_law_1027 : decode cL_law 1027 = .ok (.iadd, 1) := by decide +kernel
theorem dL_law_1028 : decode cL_law 1028 = .ok (.iaload, 1) := by decide +kernel
theorem dL_law_1029 : decode cL_law 1029 = .ok (.aload_n 3, 1) := by decide +kernel
theorem dL_law_1030 : decode cL_law 1030 = .ok (.invokestatic 160, 3) := by decide +kernel
theorem dL_law_1033 : decode cL_law 1033 = .ok (.istore 6, 2) := by decide +kernel
theorem dL_law_1035 : decode cL_law 1035 = .ok (.aload_n 2, 1) := by decide +kernel
theorem dL_law_1036 : decode cL_law 1036 = .ok (.aload_n 0, 1) := by decide +kernel
theorem dL_law_1037 : decode cL_law 1037 = .ok (.iload 5, 2) := by decide +kernel
theorem dL_law_1039 : decode cL_law 1039 = .ok (.iconst 1, 1) := by decide +kernel
theorem dL_law_1040 : decode cL_law 1040 = .ok (.iadd, 1) := by decide +kernel
theorem dL_law_1041 : decode cL_law 1041 = .ok (.iaload, 1) := by decide +kernel
theorem dL_law_1042 : decode cL_law 1042 = .ok (.invokevirtual 162, 3) := by decide +kernel
theorem dL_law_1045 : decode cL_law 1045 = .ok (.lstore 7, 2) := by decide +kernel
theorem dL_law_1047 : decode cL_law 1047 = .ok (.aload_n 2, 1) := by decide +kernel
theorem dL_law_1048 : decode cL_law 1048 = .ok (.invokevirtual 114, 3) := by decide +kernel
theorem dL_law_1051 : decode cL_law 1051 = .ok (.iload 6, 2) := by decide +kernel
theorem dL_law_1053 : decode cL_law 1053 = .ok (.if_icmp .eq 5, 3) := by decide +kernel
theorem dL_law_1056 : decode cL_law 1056 = .ok (.iconst 0, 1) := by decide +kernel
theorem dL_law_1057 : decode cL_law 1057 = .ok (.ireturn, 1) := by decide +kernel
theorem dL_law_1058 : decode cL_law 1058 = .ok (.iload 6, 2) := by decide +kernel
theorem dL_law_1060 : decode cL_law 1060 = .ok (.ifCond .ne 14, 3) := by decide +kernel
theorem dL_law_1063 : decode cL_law 1063 = .ok (.aload_n 3, 1) := by decide +kernel
theorem dL_law_1064 : decode cL_law 1064 = .ok (.iconst 0, 1) := by decide +kernel
theorem dL_law_1065 : decode cL_law 1065 = .ok (.laload, 1) := by decide +kernel
theorem dL_law_1066 : decode cL_law 1066 = .ok (.lload 7, 2) := by decide +kernel
theorem dL_law_1068 : decode cL_law 1068 = .ok (.lcmp, 1) := by decide +kernel
theorem dL_law_1069 : decode cL_law 1069 = .ok (.ifCond .eq 5, 3) := by decide +kernel
theorem dL_law_1072 : decode cL_law 1072 = .ok (.iconst 0, 1) := by decide +kernel
theorem dL_law_1073 : decode cL_law 1073 = .ok (.ireturn, 1) := by decide +kernel
theorem dL_law_1074 : decode cL_law 1074 = .ok (.goto 874, 3) := by decide +kernel
theorem dL_law_1077 : decode cL_law 1077 = .ok (.aload_n 1, 1) := by decide +kernel
theorem dL_law_1078 : decode cL_law 1078 = .ok (.aload_n 0, 1) := by decide +kernel
theorem dL_law_1079 : decode cL_law 1079 = .ok (.iload 5, 2) := by decide +kernel
theorem dL_law_1081 : decode cL_law 1081 = .ok (.iconst 1, 1) := by decide +kernel
theorem dL_law_1082 : decode cL_law 1082 = .ok (.iadd, 1) := by decide +kernel
theorem dL_law_1083 : decode cL_law 1083 = .ok (.iaload, 1) := by decide +kernel
theorem dL_law_1084 : decode cL_law 1084 = .ok (.aload_n 0, 1) := by decide +kernel
theorem dL_law_1085 : decode cL_law 1085 = .ok (.iload 5, 2) := by decide +kernel
theorem dL_law_1087 : decode cL_law 1087 = .ok (.iconst 2, 1) := by decide +kernel
theorem dL_law_1088 : decode cL_law 1088 = .ok (.iadd, 1) := by decide +kernel
theorem dL_law_1089 : decode cL_law 1089 = .ok (.iaload, 1) := by decide +kernel
theorem dL_law_1090 : decode cL_law 1090 = .ok (.aload_n 3, 1) := by decide +kernel
theorem dL_law_1091 : decode cL_law 1091 = .ok (.invokestatic 163, 3) := by decide +kernel
theorem dL_law_1094 : decode cL_law 1094 = .ok (.istore 6, 2) := by decide +kernel
theorem dL_law_1096 : decode cL_law 1096 = .ok (.aload_n 2, 1) := by decide +kernel
theorem dL_law_1097 : decode cL_law 1097 = .ok (.aload_n 0, 1) := by decide +kernel
theorem dL_law_1098 : decode cL_law 1098 = .ok (.iload 5, 2) := by decide +kernel
theorem dL_law_1100 : decode cL_law 1100 = .ok (.iconst 1, 1) := by decide +kernel
theorem dL_law_1101 : decode cL_law 1101 = .ok (.iadd, 1) := by decide +kernel
theorem dL_law_1102 : decode cL_law 1102 = .ok (.iaload, 1) := by decide +kernel
theorem dL_law_1103 : decode cL_law 1103 = .ok (.aload_n 0, 1) := by decide +kernel
theorem dL_law_1104 : decode cL_law 1104 = .ok (.iload 5, 2) := by decide +kernel
theorem dL_law_1106 : decode cL_law 1106 = .ok (.iconst 2, 1) := by decide +kernel
theorem dL_law_1107 : decode cL_law 1107 = .ok (.iadd, 1) := by decide +kernel
theorem dL_law_1108 : decode cL_law 1108 = .ok (.iaload, 1) := by decide +kernel
theorem dL_law_1109 : decode cL_law 1109 = .ok (.invokevirtual 165, 3) := by decide +kernel
theorem dL_law_1112 : decode cL_law 1112 = .ok (.lstore 7, 2) := by decide +kernel
theorem dL_law_1114 : decode cL_law 1114 = .ok (.aload_n 2, 1) := by decide +kernel
theorem dL_law_1115 : decode cL_law 1115 = .ok (.invokevirtual 114, 3) := by decide +kernel
theorem dL_law_1118 : decode cL_law 1118 = .ok (.iload 6, 2) := by decide +kernel
theorem dL_law_1120 : decode cL_law 1120 = .ok (.if_icmp .eq 5, 3) := by decide +kernel
theorem dL_law_1123 : decode cL_law 1123 = .ok (.iconst 0, 1) := by decide +kernel
theorem dL_law_1124 : decode cL_law 1124 = .ok (.ireturn, 1) := by decide +kernel
theorem dL_law_1125 : decode cL_law 1125 = .ok (.iload 6, 2) := by decide +kernel
theorem dL_law_1127 : decode cL_law 1127 = .ok (.ifCond .ne 14, 3) := by decide +kernel
theorem dL_law_1130 : decode cL_law 1130 = .ok (.aload_n 3, 1) := by decide +kernel
theorem dL_law_1131 : decode cL_law 1131 = .ok (.iconst 0, 1) := by decide +kernel
theorem dL_law_1132 : decode cL_law 1132 = .ok (.laload, 1) := by decide +kernel
theorem dL_law_1133 : decode cL_law 1133 = .ok (.lload 7, 2) := by decide +kernel
theorem dL_law_1135 : decode cL_law 1135 = .ok (.lcmp, 1) := by decide +kernel
theorem dL_law_1136 : decode cL_law 1136 = .ok (.ifCond .eq 5, 3) := by decide +kernel
theorem dL_law_1139 : decode cL_law 1139 = .ok (.iconst 0, 1) := by decide +kernel
theorem dL_law_1140 : decode cL_law 1140 = .ok (.ireturn, 1) := by decide +kernel
theorem dL_law_1141 : decode cL_law 1141 = .ok (.goto 807, 3) := by decide +kernel
theorem dL_law_1144 : decode cL_law 1144 = .ok (.aload_n 1, 1) := by decide +kernel
theorem dL_law_1145 : decode cL_law 1145 = .ok (.aload_n 0, 1) := by decide +kernel
theorem dL_law_1146 : decode cL_law 1146 = .ok (.iload 5, 2) := by decide +kernel
theorem dL_law_1148 : decode cL_law 1148 = .ok (.iconst 1, 1) := by decide +kernel
theorem dL_law_1149 : decode cL_law 1149 = .ok (.iadd, 1) := by decide +kernel
theorem dL_law_1150 : decode cL_law 1150 = .ok (.iaload, 1) := by decide +kernel
theorem dL_law_1151 : decode cL_law 1151 = .ok (.aload_n 0, 1) := by decide +kernel
theorem dL_law_1152 : decode cL_law 1152 = .ok (.iload 5, 2) := by decide +kernel
theorem dL_law_1154 : decode cL_law 1154 = .ok (.iconst 2, 1) := by decide +kernel
theorem dL_law_1155 : decode cL_law 1155 = .ok (.iadd, 1) := by decide +kernel
theorem dL_law_1156 : decode cL_law 1156 = .ok (.iaload, 1) := by decide +kernel
theorem dL_law_1157 : decode cL_law 1157 = .ok (.aload_n 3, 1) := by decide +kernel
theorem dL_law_1158 : decode cL_law 1158 = .ok (.invokestatic 166, 3) := by decide +kernel
theorem dL_law_1161 : decode cL_law 1161 = .ok (.istore 6, 2) := by decide +kernel
theorem dL_law_1163 : decode cL_law 1163 = .ok (.aload_n 2, 1) := by decide +kernel
theorem dL_law_1164 : decode cL_law 1164 = .ok (.aload_n 0, 1) := by decide +kernel
theorem dL_law_1165 : decode cL_law 1165 = .ok (.iload 5, 2) := by decide +kernel
theorem dL_law_1167 : decode cL_law 1167 = .ok (.iconst 1, 1) := by decide +kernel
theorem dL_law_1168 : decode cL_law 1168 = .ok (.iadd, 1) := by decide +kernel
theorem dL_law_1169 : decode cL_law 1169 = .ok (.iaload, 1) := by decide +kernel
theorem dL_law_1170 : decode cL_law 1170 = .ok (.aload_n 0, 1) := by decide +kernel
theorem dL_law_1171 : decode cL_law 1171 = .ok (.iload 5, 2) := by decide +kernel
theorem dL_law_1173 : decode cL_law 1173 = .ok (.iconst 2, 1) := by decide +kernel
theorem dL_law_1174 : decode cL_law 1174 = .ok (.iadd, 1) := by decide +kernel
theorem dL_law_1175 : decode cL_law 1175 = .ok (.iaload, 1) := by decide +kernel
theorem dL_law_1176 : decode cL_law 1176 = .ok (.invokevirtual 168, 3) := by decide +kernel
theorem dL_law_1179 : decode cL_law 1179 = .ok (.lstore 7, 2) := by decide +kernel
theorem dL_law_1181 : decode cL_law 1181 = .ok (.aload_n 2, 1) := by decide +kernel
theorem dL_law_1182 : decode cL_law 1182 = .ok (.invokevirtual 114, 3) := by decide +kernel
theorem dL_law_1185 : decode cL_law 1185 = .ok (.iload 6, 2) := by decide +kernel
theorem dL_law_1187 : decode cL_law 1187 = .ok (.if_icmp .eq 5, 3) := by decide +kernel
theorem dL_law_1190 : decode cL_law 1190 = .ok (.iconst 0, 1) := by decide +kernel
theorem dL_law_1191 : decode cL_law 1191 = .ok (.ireturn, 1) := by decide +kernel
theorem dL_law_1192 : decode cL_law 1192 = .ok (.iload 6, 2) := by decide +kernel
theorem dL_law_1194 : decode cL_law 1194 = .ok (.ifCond .ne 14, 3) := by decide +kernel
theorem dL_law_1197 : decode cL_law 1197 = .ok (.aload_n 3, 1) := by decide +kernel
theorem dL_law_1198 : decode cL_law 1198 = .ok (.iconst 0, 1) := by decide +kernel
theorem dL_law_1199 : decode cL_law 1199 = .ok (.laload, 1) := by decide +kernel
theorem dL_law_1200 : decode cL_law 1200 = .ok (.lload 7, 2) := by decide +kernel
theorem dL_law_1202 : decode cL_law 1202 = .ok (.lcmp, 1) := by decide +kernel
theorem dL_law_1203 : decode cL_law 1203 = .ok (.ifCond .eq 5, 3) := by decide +kernel
theorem dL_law_1206 : decode cL_law 1206 = .ok (.iconst 0, 1) := by decide +kernel
theorem dL_law_1207 : decode cL_law 1207 = .ok (.ireturn, 1) := by decide +kernel
theorem dL_law_1208 : decode cL_law 1208 = .ok (.goto 740, 3) := by decide +kernel
theorem dL_law_1211 : decode cL_law 1211 = .ok (.aload_n 1, 1) := by decide +kernel
theorem dL_law_1212 : decode cL_law 1212 = .ok (.aload_n 0, 1) := by decide +kernel
theorem dL_law_1213 : decode cL_law 1213 = .ok (.iload 5, 2) := by decide +kernel
theorem dL_law_1215 : decode cL_law 1215 = .ok (.iconst 1, 1) := by decide +kernel
theorem dL_law_1216 : decode cL_law 1216 = .ok (.iadd, 1) := by decide +kernel
theorem dL_law_1217 : decode cL_law 1217 = .ok (.iaload, 1) := by decide +kernel
theorem dL_law_1218 : decode cL_law 1218 = .ok (.aload_n 0, 1) := by decide +kernel
theorem dL_law_1219 : decode cL_law 1219 = .ok (.iload 5, 2) := by decide +kernel
theorem dL_law_1221 : decode cL_law 1221 = .ok (.iconst 2, 1) := by decide +kernel
theorem dL_law_1222 : decode cL_law 1222 = .ok (.iadd, 1) := by decide +kernel
theorem dL_law_1223 : decode cL_law 1223 = .ok (.iaload, 1) := by decide +kernel
theorem dL_law_1224 : decode cL_law 1224 = .ok (.aload_n 0, 1) := by decide +kernel
theorem dL_law_1225 : decode cL_law 1225 = .ok (.iload 5, 2) := by decide +kernel
theorem dL_law_1227 : decode cL_law 1227 = .ok (.iconst 3, 1) := by decide +kernel
theorem dL_law_1228 : decode cL_law 1228 = .ok (.iadd, 1) := by decide +kernel
theorem dL_law_1229 : decode cL_law 1229 = .ok (.iaload, 1) := by decide +kernel
theorem dL_law_1230 : decode cL_law 1230 = .ok (.aload_n 0, 1) := by decide +kernel
theorem dL_law_1231 : decode cL_law 1231 = .ok (.iload 5, 2) := by decide +kernel
theorem dL_law_1233 : decode cL_law 1233 = .ok (.iconst 4, 1) := by decide +kernel
theorem dL_law_1234 : decode cL_law 1234 = .ok (.iadd, 1) := by decide +kernel
theorem dL_law_1235 : decode cL_law 1235 = .ok (.iaload, 1) := by decide +kernel
theorem dL_law_1236 : decode cL_law 1236 = .ok (.aload_n 0, 1) := by decide +kernel
theorem dL_law_1237 : decode cL_law 1237 = .ok (.iload 5, 2) := by decide +kernel
theorem dL_law_1239 : decode cL_law 1239 = .ok (.iconst 5, 1) := by decide +kernel
theorem dL_law_1240 : decode cL_law 1240 = .ok (.iadd, 1) := by decide +kernel
theorem dL_law_1241 : decode cL_law 1241 = .ok (.iaload, 1) := by decide +kernel
theorem dL_law_1242 : decode cL_law 1242 = .ok (.invokevirtual 169, 3) := by decide +kernel
theorem dL_law_1245 : decode cL_law 1245 = .ok (.aload_n 2, 1) := by decide +kernel
theorem dL_law_1246 : decode cL_law 1246 = .ok (.aload_n 0, 1) := by decide +kernel
theorem dL_law_1247 : decode cL_law 1247 = .ok (.iload 5, 2) := by decide +kernel
theorem dL_law_1249 : decode cL_law 1249 = .ok (.iconst 1, 1) := by decide +kernel
theorem dL_law_1250 : decode cL_law 1250 = .ok (.iadd, 1) := by decide +kernel
theorem dL_law_1251 : decode cL_law 1251 = .ok (.iaload, 1) := by decide +kernel
theorem dL_law_1252 : decode cL_law 1252 = .ok (.aload_n 0, 1) := by decide +kernel
theorem dL_law_1253 : decode cL_law 1253 = .ok (.iload 5, 2) := by decide +kernel
theorem dL_law_1255 : decode cL_law 1255 = .ok (.iconst 2, 1) := by decide +kernel
theorem dL_law_1256 : decode cL_law 1256 = .ok (.iadd, 1) := by decide +kernel
theorem dL_law_1257 : decode cL_law 1257 = .ok (.iaload, 1) := by decide +kernel
theorem dL_law_1258 : decode cL_law 1258 = .ok (.aload_n 0, 1) := by decide +kernel
theorem dL_law_1259 : decode cL_law 1259 = .ok (.iload 5, 2) := by decide +kernel
theorem dL_law_1261 : decode cL_law 1261 = .ok (.iconst 3, 1) := by decide +kernel
theorem dL_law_1262 : decode cL_law 1262 = .ok (.iadd, 1) := by decide +kernel
theorem dL_law_1263 : decode cL_law 1263 = .ok (.iaload, 1) := by decide +kernel
theorem dL_law_1264 : decode cL_law 1264 = .ok (.aload_n 0, 1) := by decide +kernel
theorem dL_law_1265 : decode cL_law 1265 = .ok (.iload 5, 2) := by decide +kernel
theorem dL_law_1267 : decode cL_law 1267 = .ok (.iconst 4, 1) := by decide +kernel
theorem dL_law_1268 : decode cL_law 1268 = .ok (.iadd, 1) := by decide +kernel
theorem dL_law_1269 : decode cL_law 1269 = .ok (.iaload, 1) := by decide +kernel
theorem dL_law_1270 : decode cL_law 1270 = .ok (.aload_n 0, 1) := by decide +kernel
theorem dL_law_1271 : decode cL_law 1271 = .ok (.iload 5, 2) := by decide +kernel
theorem dL_law_1273 : decode cL_law 1273 = .ok (.iconst 5, 1) := by decide +kernel
theorem dL_law_1274 : decode cL_law 1274 = .ok (.iadd, 1) := by decide +kernel
theorem dL_law_1275 : decode cL_law 1275 = .ok (.iaload, 1) := by decide +kernel
theorem dL_law_1276 : decode cL_law 1276 = .ok (.invokevirtual 173, 3) := by decide +kernel
theorem dL_law_1279 : decode cL_law 1279 = .ok (.if_icmp .eq 669, 3) := by decide +kernel
theorem dL_law_1282 : decode cL_law 1282 = .ok (.iconst 0, 1) := by decide +kernel
theorem dL_law_1283 : decode cL_law 1283 = .ok (.ireturn, 1) := by decide +kernel
theorem dL_law_1284 : decode cL_law 1284 = .ok (.aload_n 1, 1) := by decide +kernel
theorem dL_law_1285 : decode cL_law 1285 = .ok (.aload 4, 2) := by decide +kernel
theorem dL_law_1287 : decode cL_law 1287 = .ok (.invokestatic 174, 3) := by decide +kernel
theorem dL_law_1290 : decode cL_law 1290 = .ok (.istore 6, 2) := by decide +kernel
theorem dL_law_1292 : decode cL_law 1292 = .ok (.aload_n 2, 1) := by decide +kernel
theorem dL_law_1293 : decode cL_law 1293 = .ok (.invokevirtual 177, 3) := by decide +kernel
theorem dL_law_1296 : decode cL_law 1296 = .ok (.dstore 7, 2) := by decide +kernel
theorem dL_law_1298 : decode cL_law 1298 = .ok (.aload_n 2, 1) := by decide +kernel
theorem dL_law_1299 : decode cL_law 1299 = .ok (.invokevirtual 114, 3) := by decide +kernel
theorem dL_law_1302 : decode cL_law 1302 = .ok (.iload 6, 2) := by decide +kernel
theorem dL_law_1304 : decode cL_law 1304 = .ok (.if_icmp .eq 5, 3) := by decide +kernel
theorem dL_law_1307 : decode cL_law 1307 = .ok (.iconst 0, 1) := by decide +kernel
theorem dL_law_1308 : decode cL_law 1308 = .ok (.ireturn, 1) := by decide +kernel
theorem dL_law_1309 : decode cL_law 1309 = .ok (.iload 6, 2) := by decide +kernel
theorem dL_law_1311 : decode cL_law 1311 = .ok (.ifCond .ne 35, 3) := by decide +kernel
theorem dL_law_1314 : decode cL_law 1314 = .ok (.aload 4, 2) := by decide +kernel
theorem dL_law_1316 : decode cL_law 1316 = .ok (.iconst 0, 1) := by decide +kernel
theorem dL_law_1317 : decode cL_law 1317 = .ok (.daload, 1) := by decide +kernel
theorem dL_law_1318 : decode cL_law 1318 = .ok (.dload 7, 2) := by decide +kernel
theorem dL_law_1320 : decode cL_law 1320 = .ok (.dcmp .l, 1) := by decide +kernel
theorem dL_law_1321 : decode cL_law 1321 = .ok (.ifCond .eq 25, 3) := by decide +kernel
theorem dL_law_1324 : decode cL_law 1324 = .ok (.aload 4, 2) := by decide +kernel
theorem dL_law_1326 : decode cL_law 1326 = .ok (.iconst 0, 1) := by decide +kernel
theorem dL_law_1327 : decode cL_law 1327 = .ok (.daload, 1) := by decide +kernel
theorem dL_law_1328 : decode cL_law 1328 = .ok (.aload 4, 2) := by decide +kernel
theorem dL_law_1330 : decode cL_law 1330 = .ok (.iconst 0, 1) := by decide +kernel
theorem dL_law_1331 : decode cL_law 1331 = .ok (.daload, 1) := by decide +kernel
theorem dL_law_1332 : decode cL_law 1332 = .ok (.dcmp .l, 1) := by decide +kernel
theorem dL_law_1333 : decode cL_law 1333 = .ok (.ifCond .eq 11, 3) := by decide +kernel
theorem dL_law_1336 : decode cL_law 1336 = .ok (.dload 7, 2) := by decide +kernel
theorem dL_law_1338 : decode cL_law 1338 = .ok (.dload 7, 2) := by decide +kernel
theorem dL_law_1340 : decode cL_law 1340 = .ok (.dcmp .l, 1) := by decide +kernel
theorem dL_law_1341 : decode cL_law 1341 = .ok (.ifCond .ne 5, 3) := by decide +kernel
theorem dL_law_1344 : decode cL_law 1344 = .ok (.iconst 0, 1) := by decide +kernel
theorem dL_law_1345 : decode cL_law 1345 = .ok (.ireturn, 1) := by decide +kernel
theorem dL_law_1346 : decode cL_law 1346 = .ok (.goto 602, 3) := by decide +kernel
theorem dL_law_1349 : decode cL_law 1349 = .ok (.aload_n 1, 1) := by decide +kernel
theorem dL_law_1350 : decode cL_law 1350 = .ok (.aload_n 3, 1) := by decide +kernel
theorem dL_law_1351 : decode cL_law 1351 = .ok (.invokestatic 178, 3) := by decide +kernel
theorem dL_law_1354 : decode cL_law 1354 = .ok (.istore 6, 2) := by decide +kernel
theorem dL_law_1356 : decode cL_law 1356 = .ok (.aload_n 2, 1) := by decide +kernel
theorem dL_law_1357 : decode cL_law 1357 = .ok (.invokevirtual 181, 3) := by decide +kernel
theorem dL_law_1360 : decode cL_law 1360 = .ok (.lstore 7, 2) := by decide +kernel
theorem dL_law_1362 : decode cL_law 1362 = .ok (.aload_n 2, 1) := by decide +kernel
theorem dL_law_1363 : decode cL_law 1363 = .ok (.invokevirtual 114, 3) := by decide +kernel
theorem dL_law_1366 : decode cL_law 1366 = .ok (.iload 6, 2) := by decide +kernel
theorem dL_law_1368 : decode cL_law 1368 = .ok (.if_icmp .eq 5, 3) := by decide +kernel
theorem dL_law_1371 : decode cL_law 1371 = .ok (.iconst 0, 1) := by decide +kernel
theorem dL_law_1372 : decode cL_law 1372 = .ok (.ireturn, 1) := by decide +kernel
theorem dL_law_1373 : decode cL_law 1373 = .ok (.iload 6, 2) := by decide +kernel
theorem dL_law_1375 : decode cL_law 1375 = .ok (.ifCond .ne 14, 3) := by decide +kernel
theorem dL_law_1378 : decode cL_law 1378 = .ok (.aload_n 3, 1) := by decide +kernel
theorem dL_law_1379 : decode cL_law 1379 = .ok (.iconst 0, 1) := by decide +kernel
theorem dL_law_1380 : decode cL_law 1380 = .ok (.laload, 1) := by decide +kernel
theorem dL_law_1381 : decode cL_law 1381 = .ok (.lload 7, 2) := by decide +kernel
theorem dL_law_1383 : decode cL_law 1383 = .ok (.lcmp, 1) := by decide +kernel
theorem dL_law_1384 : decode cL_law 1384 = .ok (.ifCond .eq 5, 3) := by decide +kernel
theorem dL_law_1387 : decode cL_law 1387 = .ok (.iconst 0, 1) := by decide +kernel
theorem dL_law_1388 : decode cL_law 1388 = .ok (.ireturn, 1) := by decide +kernel
theorem dL_law_1389 : decode cL_law 1389 = .ok (.goto 559, 3) := by decide +kernel
theorem dL_law_1392 : decode cL_law 1392 = .ok (.aload_n 1, 1) := by decide +kernel
theorem dL_law_1393 : decode cL_law 1393 = .ok (.aload_n 3, 1) := by decide +kernel
theorem dL_law_1394 : decode cL_law 1394 = .ok (.invokestatic 182, 3) := by decide +kernel
theorem dL_law_1397 : decode cL_law 1397 = .ok (.istore 6, 2) := by decide +kernel
theorem dL_law_1399 : decode cL_law 1399 = .ok (.aload_n 2, 1) := by decide +kernel
theorem dL_law_1400 : decode cL_law 1400 = .ok (.invokevirtual 184, 3) := by decide +kernel
theorem dL_law_1403 : decode cL_law 1403 = .ok (.lstore 7, 2) := by decide +kernel
theorem dL_law_1405 : decode cL_law 1405 = .ok (.aload_n 2, 1) := by decide +kernel
theorem dL_law_1406 : decode cL_law 1406 = .ok (.invokevirtual 114, 3) := by decide +kernel
theorem dL_law_1409 : decode cL_law 1409 = .ok (.iload 6, 2) := by decide +kernel
theorem dL_law_1411 : decode cL_law 1411 = .ok (.if_icmp .eq 5, 3) := by decide +kernel
theorem dL_law_1414 : decode cL_law 1414 = .ok (.iconst 0, 1) := by decide +kernel
theorem dL_law_1415 : decode cL_law 1415 = .ok (.ireturn, 1) := by decide +kernel
theorem dL_law_1416 : decode cL_law 1416 = .ok (.iload 6, 2) := by decide +kernel
theorem dL_law_1418 : decode cL_law 1418 = .ok (.ifCond .ne 14, 3) := by decide +kernel
theorem dL_law_1421 : decode cL_law 1421 = .ok (.aload_n 3, 1) := by decide +kernel
theorem dL_law_1422 : decode cL_law 1422 = .ok (.iconst 0, 1) := by decide +kernel
theorem dL_law_1423 : decode cL_law 1423 = .ok (.laload, 1) := by decide +kernel
theorem dL_law_1424 : decode cL_law 1424 = .ok (.lload 7, 2) := by decide +kernel
theorem dL_law_1426 : decode cL_law 1426 = .ok (.lcmp, 1) := by decide +kernel
theorem dL_law_1427 : decode cL_law 1427 = .ok (.ifCond .eq 5, 3) := by decide +kernel
theorem dL_law_1430 : decode cL_law 1430 = .ok (.iconst 0, 1) := by decide +kernel
theorem dL_law_1431 : decode cL_law 1431 = .ok (.ireturn, 1) := by decide +kernel
theorem dL_law_1432 : decode cL_law 1432 = .ok (.goto 516, 3) := by decide +kernel
theorem dL_law_1435 : decode cL_law 1435 = .ok (.aload_n 1, 1) := by decide +kernel
theorem dL_law_1436 : decode cL_law 1436 = .ok (.invokevirtual 185, 3) := by decide +kernel
theorem dL_law_1439 : decode cL_law 1439 = .ok (.aload_n 2, 1) := by decide +kernel
theorem dL_law_1440 : decode cL_law 1440 = .ok (.invokevirtual 188, 3) := by decide +kernel
theorem dL_law_1443 : decode cL_law 1443 = .ok (.if_icmp .eq 505, 3) := by decide +kernel
theorem dL_law_1446 : decode cL_law 1446 = .ok (.iconst 0, 1) := by decide +kernel
theorem dL_law_1447 : decode cL_law 1447 = .ok (.ireturn, 1) := by decide +kernel
theorem dL_law_1448 : decode cL_law 1448 = .ok (.aload_n 1, 1) := by decide +kernel
theorem dL_law_1449 : decode cL_law 1449 = .ok (.invokevirtual 189, 3) := by decide +kernel
theorem dL_law_1452 : decode cL_law 1452 = .ok (.aload_n 2, 1) := by decide +kernel
theorem dL_law_1453 : decode cL_law 1453 = .ok (.invokevirtual 192, 3) := by decide +kernel
theorem dL_law_1456 : decode cL_law 1456 = .ok (.if_icmp .eq 492, 3) := by decide +kernel
theorem dL_law_1459 : decode cL_law 1459 = .ok (.iconst 0, 1) := by decide +kernel
theorem dL_law_1460 : decode cL_law 1460 = .ok (.ireturn, 1) := by decide +kernel
theorem dL_law_1461 : decode cL_law 1461 = .ok (.aload_n 1, 1) := by decide +kernel
theorem dL_law_1462 : decode cL_law 1462 = .ok (.aload_n 0, 1) := by decide +kernel
theorem dL_law_1463 : decode cL_law 1463 = .ok (.iload 5, 2) := by decide +kernel
theorem dL_law_1465 : decode cL_law 1465 = .ok (.iconst 1, 1) := by decide +kernel
theorem dL_law_1466 : decode cL_law 1466 = .ok (.iadd, 1) := by decide +kernel
theorem dL_law_1467 : decode cL_law 1467 = .ok (.iaload, 1) := by decide +kernel
theorem dL_law_1468 : decode cL_law 1468 = .ok (.aload_n 0, 1) := by decide +kernel
theorem dL_law_1469 : decode cL_law 1469 = .ok (.iload 5, 2) := by decide +kernel
theorem dL_law_1471 : decode cL_law 1471 = .ok (.iconst 2, 1) := by decide +kernel
theorem dL_law_1472 : decode cL_law 1472 = .ok (.iadd, 1) := by decide +kernel
theorem dL_law_1473 : decode cL_law 1473 = .ok (.iaload, 1) := by decide +kernel
theorem dL_law_1474 : decode cL_law 1474 = .ok (.aload_n 0, 1) := by decide +kernel
theorem dL_law_1475 : decode cL_law 1475 = .ok (.iload 5, 2) := by decide +kernel
theorem dL_law_1477 : decode cL_law 1477 = .ok (.iconst 3, 1) := by decide +kernel
theorem dL_law_1478 : decode cL_law 1478 = .ok (.iadd, 1) := by decide +kernel
theorem dL_law_1479 : decode cL_law 1479 = .ok (.iaload, 1) := by decide +kernel
theorem dL_law_1480 : decode cL_law 1480 = .ok (.aload_n 3, 1) := by decide +kernel
theorem dL_law_1481 : decode cL_law 1481 = .ok (.invokestatic 193, 3) := by decide +kernel
theorem dL_law_1484 : decode cL_law 1484 = .ok (.istore 6, 2) := by decide +kernel
theorem dL_law_1486 : decode cL_law 1486 = .ok (.aload_n 2, 1) := by decide +kernel
theorem dL_law_1487 : decode cL_law 1487 = .ok (.aload_n 0, 1) := by decide +kernel
theorem dL_law_1488 : decode cL_law 1488 = .ok (.iload 5, 2) := by decide +kernel
theorem dL_law_1490 : decode cL_law 1490 = .ok (.iconst 1, 1) := by decide +kernel
theorem dL_law_1491 : decode cL_law 1491 = .ok (.iadd, 1) := by decide +kernel
theorem dL_law_1492 : decode cL_law 1492 = .ok (.iaload, 1) := by decide +kernel
theorem dL_law_1493 : decode cL_law 1493 = .ok (.aload_n 0, 1) := by decide +kernel
theorem dL_law_1494 : decode cL_law 1494 = .ok (.iload 5, 2) := by decide +kernel
theorem dL_law_1496 : decode cL_law 1496 = .ok (.iconst 2, 1) := by decide +kernel
theorem dL_law_1497 : decode cL_law 1497 = .ok (.iadd, 1) := by decide +kernel
theorem dL_law_1498 : decode cL_law 1498 = .ok (.iaload, 1) := by decide +kernel
theorem dL_law_1499 : decode cL_law 1499 = .ok (.aload_n 0, 1) := by decide +kernel
theorem dL_law_1500 : decode cL_law 1500 = .ok (.iload 5, 2) := by decide +kernel
theorem dL_law_1502 : decode cL_law 1502 = .ok (.iconst 3, 1) := by decide +kernel
theorem dL_law_1503 : decode cL_law 1503 = .ok (.iadd, 1) := by decide +kernel
theorem dL_law_1504 : decode cL_law 1504 = .ok (.iaload, 1) := by decide +kernel
theorem dL_law_1505 : decode cL_law 1505 = .ok (.invokevirtual 195, 3) := by decide +kernel
theorem dL_law_1508 : decode cL_law 1508 = .ok (.istore 7, 2) := by decide +kernel
theorem dL_law_1510 : decode cL_law 1510 = .ok (.aload_n 2, 1) := by decide +kernel
theorem dL_law_1511 : decode cL_law 1511 = .ok (.invokevirtual 114, 3) := by decide +kernel
theorem dL_law_1514 : decode cL_law 1514 = .ok (.iload 6, 2) := by decide +kernel
theorem dL_law_1516 : decode cL_law 1516 = .ok (.if_icmp .eq 5, 3) := by decide +kernel
theorem dL_law_1519 : decode cL_law 1519 = .ok (.iconst 0, 1) := by decide +kernel
theorem dL_law_1520 : decode cL_law 1520 = .ok (.ireturn, 1) := by decide +kernel
theorem dL_law_1521 : decode cL_law 1521 = .ok (.iload 6, 2) := by decide +kernel
theorem dL_law_1523 : decode cL_law 1523 = .ok (.ifCond .ne 22, 3) := by decide +kernel
theorem dL_law_1526 : decode cL_law 1526 = .ok (.aload_n 3, 1) := by decide +kernel
theorem dL_law_1527 : decode cL_law 1527 = .ok (.iconst 0, 1) := by decide +kernel
theorem dL_law_1528 : decode cL_law 1528 = .ok (.laload, 1) := by decide +kernel
theorem dL_law_1529 : decode cL_law 1529 = .ok (.iload 7, 2) := by decide +kernel
theorem dL_law_1531 : decode cL_law 1531 = .ok (.ifCond .eq 7, 3) := by decide +kernel
theorem dL_law_1534 : decode cL_law 1534 = .ok (.lconst 1, 1) := by decide +kernel
theorem dL_law_1535 : decode cL_law 1535 = .ok (.goto 4, 3) := by decide +kernel
theorem dL_law_1538 : decode cL_law 1538 = .ok (.lconst 0, 1) := by decide +kernel
theorem dL_law_1539 : decode cL_law 1539 = .ok (.lcmp, 1) := by decide +kernel
theorem dL_law_1540 : decode cL_law 1540 = .ok (.ifCond .eq 5, 3) := by decide +kernel
theorem dL_law_1543 : decode cL_law 1543 = .ok (.iconst 0, 1) := by decide +kernel
theorem dL_law_1544 : decode cL_law 1544 = .ok (.ireturn, 1) := by decide +kernel
theorem dL_law_1545 : decode cL_law 1545 = .ok (.goto 403, 3) := by decide +kernel
theorem dL_law_1548 : decode cL_law 1548 = .ok (.aload_n 1, 1) := by decide +kernel
theorem dL_law_1549 : decode cL_law 1549 = .ok (.aload_n 0, 1) := by decide +kernel
theorem dL_law_1550 : decode cL_law 1550 = .ok (.iload 5, 2) := by decide +kernel
theorem dL_law_1552 : decode cL_law 1552 = .ok (.iconst 1, 1) := by decide +kernel
theorem dL_law_1553 : decode cL_law 1553 = .ok (.iadd, 1) := by decide +kernel
theorem dL_law_1554 : decode cL_law 1554 = .ok (.iaload, 1) := by decide +kernel
theorem dL_law_1555 : decode cL_law 1555 = .ok (.aload_n 3, 1) := by decide +kernel
theorem dL_law_1556 : decode cL_law 1556 = .ok (.invokestatic 196, 3) := by decide +kernel
theorem dL_law_1559 : decode cL_law 1559 = .ok (.istore 6, 2) := by decide +kernel
theorem dL_law_1561 : decode cL_law 1561 = .ok (.aload_n 2, 1) := by decide +kernel
theorem dL_law_1562 : decode cL_law 1562 = .ok (.aload_n 0, 1) := by decide +kernel
theorem dL_law_1563 : decode cL_law 1563 = .ok (.iload 5, 2) := by decide +kernel
theorem dL_law_1565 : decode cL_law 1565 = .ok (.iconst 1, 1) := by decide +kernel
theorem dL_law_1566 : decode cL_law 1566 = .ok (.iadd, 1) := by decide +kernel
theorem dL_law_1567 : decode cL_law 1567 = .ok (.iaload, 1) := by decide +kernel
theorem dL_law_1568 : decode cL_law 1568 = .ok (.invokevirtual 198, 3) := by decide +kernel
theorem dL_law_1571 : decode cL_law 1571 = .ok (.istore 7, 2) := by decide +kernel
theorem dL_law_1573 : decode cL_law 1573 = .ok (.aload_n 2, 1) := by decide +kernel
theorem dL_law_1574 : decode cL_law 1574 = .ok (.invokevirtual 114, 3) := by decide +kernel
theorem dL_law_1577 : decode cL_law 1577 = .ok (.iload 6, 2) := by decide +kernel
theorem dL_law_1579 : decode cL_law 1579 = .ok (.if_icmp .eq 5, 3) := by decide +kernel
theorem dL_law_1582 : decode cL_law 1582 = .ok (.iconst 0, 1) := by decide +kernel
theorem dL_law_1583 : decode cL_law 1583 = .ok (.ireturn, 1) := by decide +kernel
theorem dL_law_1584 : decode cL_law 1584 = .ok (.iload 6, 2) := by decide +kernel
theorem dL_law_1586 : decode cL_law 1586 = .ok (.ifCond .ne 15, 3) := by decide +kernel
theorem dL_law_1589 : decode cL_law 1589 = .ok (.aload_n 3, 1) := by decide +kernel
theorem dL_law_1590 : decode cL_law 1590 = .ok (.iconst 0, 1) := by decide +kernel
theorem dL_law_1591 : decode cL_law 1591 = .ok (.laload, 1) := by decide +kernel
theorem dL_law_1592 : decode cL_law 1592 = .ok (.iload 7, 2) := by decide +kernel
theorem dL_law_1594 : decode cL_law 1594 = .ok (.i2l, 1) := by decide +kernel
theorem dL_law_1595 : decode cL_law 1595 = .ok (.lcmp, 1) := by decide +kernel
theorem dL_law_1596 : decode cL_law 1596 = .ok (.ifCond .eq 5, 3) := by decide +kernel
theorem dL_law_1599 : decode cL_law 1599 = .ok (.iconst 0, 1) := by decide +kernel
theorem dL_law_1600 : decode cL_law 1600 = .ok (.ireturn, 1) := by decide +kernel
theorem dL_law_1601 : decode cL_law 1601 = .ok (.goto 347, 3) := by decide +kernel
theorem dL_law_1604 : decode cL_law 1604 = .ok (.aload_n 1, 1) := by decide +kernel
theorem dL_law_1605 : decode cL_law 1605 = .ok (.aload_n 0, 1) := by decide +kernel
theorem dL_law_1606 : decode cL_law 1606 = .ok (.iload 5, 2) := by decide +kernel
theorem dL_law_1608 : decode cL_law 1608 = .ok (.iconst 1, 1) := by decide +kernel
theorem dL_law_1609 : decode cL_law 1609 = .ok (.iadd, 1) := by decide +kernel
theorem dL_law_1610 : decode cL_law 1610 = .ok (.iaload, 1) := by decide +kernel
theorem dL_law_1611 : decode cL_law 1611 = .ok (.aload_n 3, 1) := by decide +kernel
theorem dL_law_1612 : decode cL_law 1612 = .ok (.invokestatic 199, 3) := by decide +kernel
theorem dL_law_1615 : decode cL_law 1615 = .ok (.istore 6, 2) := by decide +kernel
theorem dL_law_1617 : decode cL_law 1617 = .ok (.aload_n 2, 1) := by decide +kernel
theorem dL_law_1618 : decode cL_law 1618 = .ok (.aload_n 0, 1) := by decide +kernel
theorem dL_law_1619 : decode cL_law 1619 = .ok (.iload 5, 2) := by decide +kernel
theorem dL_law_1621 : decode cL_law 1621 = .ok (.iconst 1, 1) := by decide +kernel
theorem dL_law_1622 : decode cL_law 1622 = .ok (.iadd, 1) := by decide +kernel
theorem dL_law_1623 : decode cL_law 1623 = .ok (.iaload, 1) := by decide +kernel
theorem dL_law_1624 : decode cL_law 1624 = .ok (.invokevirtual 201, 3) := by decide +kernel
theorem dL_law_1627 : decode cL_law 1627 = .ok (.istore 7, 2) := by decide +kernel
theorem dL_law_1629 : decode cL_law 1629 = .ok (.aload_n 2, 1) := by decide +kernel
theorem dL_law_1630 : decode cL_law 1630 = .ok (.invokevirtual 114, 3) := by decide +kernel
theorem dL_law_1633 : decode cL_law 1633 = .ok (.iload 6, 2) := by decide +kernel
theorem dL_law_1635 : decode cL_law 1635 = .ok (.if_icmp .eq 5, 3) := by decide +kernel
theorem dL_law_1638 : decode cL_law 1638 = .ok (.iconst 0, 1) := by decide +kernel
theorem dL_law_1639 : decode cL_law 1639 = .ok (.ireturn, 1) := by decide +kernel
theorem dL_law_1640 : decode cL_law 1640 = .ok (.iload 6, 2) := by decide +kernel
theorem dL_law_1642 : decode cL_law 1642 = .ok (.ifCond .ne 15, 3) := by decide +kernel
theorem dL_law_1645 : decode cL_law 1645 = .ok (.aload_n 3, 1) := by decide +kernel
theorem dL_law_1646 : decode cL_law 1646 = .ok (.iconst 0, 1) := by decide +kernel
theorem dL_law_1647 : decode cL_law 1647 = .ok (.laload, 1) := by decide +kernel
theorem dL_law_1648 : decode cL_law 1648 = .ok (.iload 7, 2) := by decide +kernel
theorem dL_law_1650 : decode cL_law 1650 = .ok (.i2l, 1) := by decide +kernel
theorem dL_law_1651 : decode cL_law 1651 = .ok (.lcmp, 1) := by decide +kernel
theorem dL_law_1652 : decode cL_law 1652 = .ok (.ifCond .eq 5, 3) := by decide +kernel
theorem dL_law_1655 : decode cL_law 1655 = .ok (.iconst 0, 1) := by decide +kernel
theorem dL_law_1656 : decode cL_law 1656 = .ok (.ireturn, 1) := by decide +kernel
theorem dL_law_1657 : decode cL_law 1657 = .ok (.goto 291, 3) := by decide +kernel
theorem dL_law_1660 : decode cL_law 1660 = .ok (.aload_n 1, 1) := by decide +kernel
theorem dL_law_1661 : decode cL_law 1661 = .ok (.invokevirtual 202, 3) := by decide +kernel
theorem dL_law_1664 : decode cL_law 1664 = .ok (.aload_n 2, 1) := by decide +kernel
theorem dL_law_1665 : decode cL_law 1665 = .ok (.invokevirtual 205, 3) := by decide +kernel
theorem dL_law_1668 : decode cL_law 1668 = .ok (.if_icmp .eq 280, 3) := by decide +kernel
theorem dL_law_1671 : decode cL_law 1671 = .ok (.iconst 0, 1) := by decide +kernel
theorem dL_law_1672 : decode cL_law 1672 = .ok (.ireturn, 1) := by decide +kernel
theorem dL_law_1673 : decode cL_law 1673 = .ok (.aload_n 1, 1) := by decide +kernel
theorem dL_law_1674 : decode cL_law 1674 = .ok (.aload_n 0, 1) := by decide +kernel
theorem dL_law_1675 : decode cL_law 1675 = .ok (.iload 5, 2) := by decide +kernel
theorem dL_law_1677 : decode cL_law 1677 = .ok (.iconst 1, 1) := by decide +kernel
theorem dL_law_1678 : decode cL_law 1678 = .ok (.iadd, 1) := by decide +kernel
theorem dL_law_1679 : decode cL_law 1679 = .ok (.iaload, 1) := by decide +kernel
theorem dL_law_1680 : decode cL_law 1680 = .ok (.aload_n 3, 1) := by decide +kernel
theorem dL_law_1681 : decode cL_law 1681 = .ok (.invokestatic 206, 3) := by decide +kernel
theorem dL_law_1684 : decode cL_law 1684 = .ok (.istore 6, 2) := by decide +kernel
theorem dL_law_1686 : decode cL_law 1686 = .ok (.aload_n 2, 1) := by decide +kernel
theorem dL_law_1687 : decode cL_law 1687 = .ok (.aload_n 0, 1) := by decide +kernel
theorem dL_law_1688 : decode cL_law 1688 = .ok (.iload 5, 2) := by decide +kernel
theorem dL_law_1690 : decode cL_law 1690 = .ok (.iconst 1, 1) := by decide +kernel
theorem dL_law_1691 : decode cL_law 1691 = .ok (.iadd, 1) := by decide +kernel
theorem dL_law_1692 : decode cL_law 1692 = .ok (.iaload, 1) := by decide +kernel
theorem dL_law_1693 : decode cL_law 1693 = .ok (.invokevirtual 208, 3) := by decide +kernel
theorem dL_law_1696 : decode cL_law 1696 = .ok (.istore 7, 2) := by decide +kernel
theorem dL_law_1698 : decode cL_law 1698 = .ok (.aload_n 2, 1) := by decide +kernel
theorem dL_law_1699 : decode cL_law 1699 = .ok (.invokevirtual 114, 3) := by decide +kernel
theorem dL_law_1702 : decode cL_law 1702 = .ok (.iload 6, 2) := by decide +kernel
theorem dL_law_1704 : decode cL_law 1704 = .ok (.if_icmp .eq 5, 3) := by decide +kernel
theorem dL_law_1707 : decode cL_law 1707 = .ok (.iconst 0, 1) := by decide +kernel
theorem dL_law_1708 : decode cL_law 1708 = .ok (.ireturn, 1) := by decide +kernel
theorem dL_law_1709 : decode cL_law 1709 = .ok (.iload 6, 2) := by decide +kernel
theorem dL_law_1711 : decode cL_law 1711 = .ok (.ifCond .ne 15, 3) := by decide +kernel
theorem dL_law_1714 : decode cL_law 1714 = .ok (.aload_n 3, 1) := by decide +kernel
theorem dL_law_1715 : decode cL_law 1715 = .ok (.iconst 0, 1) := by decide +kernel
theorem dL_law_1716 : decode cL_law 1716 = .ok (.laload, 1) := by decide +kernel
theorem dL_law_1717 : decode cL_law 1717 = .ok (.iload 7, 2) := by decide +kernel
theorem dL_law_1719 : decode cL_law 1719 = .ok (.i2l, 1) := by decide +kernel
theorem dL_law_1720 : decode cL_law 1720 = .ok (.lcmp, 1) := by decide +kernel
theorem dL_law_1721 : decode cL_law 1721 = .ok (.ifCond .eq 5, 3) := by decide +kernel
theorem dL_law_1724 : decode cL_law 1724 = .ok (.iconst 0, 1) := by decide +kernel
theorem dL_law_1725 : decode cL_law 1725 = .ok (.ireturn, 1) := by decide +kernel
theorem dL_law_1726 : decode cL_law 1726 = .ok (.goto 222, 3) := by decide +kernel
theorem dL_law_1729 : decode cL_law 1729 = .ok (.aload_n 1, 1) := by decide +kernel
theorem dL_law_1730 : decode cL_law 1730 = .ok (.aload_n 3, 1) := by decide +kernel
theorem dL_law_1731 : decode cL_law 1731 = .ok (.invokestatic 209, 3) := by decide +kernel
theorem dL_law_1734 : decode cL_law 1734 = .ok (.istore 6, 2) := by decide +kernel
theorem dL_law_1736 : decode cL_law 1736 = .ok (.aload_n 2, 1) := by decide +kernel
theorem dL_law_1737 : decode cL_law 1737 = .ok (.invokevirtual 211, 3) := by decide +kernel
theorem dL_law_1740 : decode cL_law 1740 = .ok (.istore 7, 2) := by decide +kernel
theorem dL_law_1742 : decode cL_law 1742 = .ok (.aload_n 2, 1) := by decide +kernel
theorem dL_law_1743 : decode cL_law 1743 = .ok (.invokevirtual 114, 3) := by decide +kernel
theorem dL_law_1746 : decode cL_law 1746 = .ok (.iload 6, 2) := by decide +kernel
theorem dL_law_1748 : decode cL_law 1748 = .ok (.if_icmp .eq 5, 3) := by decide +kernel
theorem dL_law_1751 : decode cL_law 1751 = .ok (.iconst 0, 1) := by decide +kernel
theorem dL_law_1752 : decode cL_law 1752 = .ok (.ireturn, 1) := by decide +kernel
theorem dL_law_1753 : decode cL_law 1753 = .ok (.iload 6, 2) := by decide +kernel
theorem dL_law_1755 : decode cL_law 1755 = .ok (.ifCond .ne 15, 3) := by decide +kernel
theorem dL_law_1758 : decode cL_law 1758 = .ok (.aload_n 3, 1) := by decide +kernel
theorem dL_law_1759 : decode cL_law 1759 = .ok (.iconst 0, 1) := by decide +kernel
theorem dL_law_1760 : decode cL_law 1760 = .ok (.laload, 1) := by decide +kernel
theorem dL_law_1761 : decode cL_law 1761 = .ok (.iload 7, 2) := by decide +kernel
theorem dL_law_1763 : decode cL_law 1763 = .ok (.i2l, 1) := by decide +kernel
theorem dL_law_1764 : decode cL_law 1764 = .ok (.lcmp, 1) := by decide +kernel
theorem dL_law_1765 : decode cL_law 1765 = .ok (.ifCond .eq 5, 3) := by decide +kernel
theorem dL_law_1768 : decode cL_law 1768 = .ok (.iconst 0, 1) := by decide +kernel
theorem dL_law_1769 : decode cL_law 1769 = .ok (.ireturn, 1) := by decide +kernel
theorem dL_law_1770 : decode cL_law 1770 = .ok (.goto 178, 3) := by decide +kernel
theorem dL_law_1773 : decode cL_law 1773 = .ok (.aload_n 1, 1) := by decide +kernel
theorem dL_law_1774 : decode cL_law 1774 = .ok (.aload_n 3, 1) := by decide +kernel
theorem dL_law_1775 : decode cL_law 1775 = .ok (.invokestatic 212, 3) := by decide +kernel
theorem dL_law_1778 : decode cL_law 1778 = .ok (.istore 6, 2) := by decide +kernel
theorem dL_law_1780 : decode cL_law 1780 = .ok (.aload_n 2, 1) := by decide +kernel
theorem dL_law_1781 : decode cL_law 1781 = .ok (.invokevirtual 214, 3) := by decide +kernel
theorem dL_law_1784 : decode cL_law 1784 = .ok (.istore 7, 2) := by decide +kernel
theorem dL_law_1786 : decode cL_law 1786 = .ok (.aload_n 2, 1) := by decide +kernel
theorem dL_law_1787 : decode cL_law 1787 = .ok (.invokevirtual 114, 3) := by decide +kernel
theorem dL_law_1790 : decode cL_law 1790 = .ok (.iload 6, 2) := by decide +kernel
theorem dL_law_1792 : decode cL_law 1792 = .ok (.if_icmp .eq 5, 3) := by decide +kernel
theorem dL_law_1795 : decode cL_law 1795 = .ok (.iconst 0, 1) := by decide +kernel
theorem dL_law_1796 : decode cL_law 1796 = .ok (.ireturn, 1) := by decide +kernel
theorem dL_law_1797 : decode cL_law 1797 = .ok (.iload 6, 2) := by decide +kernel
theorem dL_law_1799 : decode cL_law 1799 = .ok (.ifCond .ne 22, 3) := by decide +kernel
theorem dL_law_1802 : decode cL_law 1802 = .ok (.aload_n 3, 1) := by decide +kernel
theorem dL_law_1803 : decode cL_law 1803 = .ok (.iconst 0, 1) := by decide +kernel
theorem dL_law_1804 : decode cL_law 1804 = .ok (.laload, 1) := by decide +kernel
theorem dL_law_1805 : decode cL_law 1805 = .ok (.iload 7, 2) := by decide +kernel
theorem dL_law_1807 : decode cL_law 1807 = .ok (.ifCond .eq 7, 3) := by decide +kernel
theorem dL_law_1810 : decode cL_law 1810 = .ok (.lconst 1, 1) := by decide +kernel
theorem dL_law_1811 : decode cL_law 1811 = .ok (.goto 4, 3) := by decide +kernel
theorem dL_law_1814 : decode cL_law 1814 = .ok (.lconst 0, 1) := by decide +kernel
theorem dL_law_1815 : decode cL_law 1815 = .ok (.lcmp, 1) := by decide +kernel
theorem dL_law_1816 : decode cL_law 1816 = .ok (.ifCond .eq 5, 3) := by decide +kernel
theorem dL_law_1819 : decode cL_law 1819 = .ok (.iconst 0, 1) := by decide +kernel
theorem dL_law_1820 : decode cL_law 1820 = .ok (.ireturn, 1) := by decide +kernel
theorem dL_law_1821 : decode cL_law 1821 = .ok (.goto 127, 3) := by decide +kernel
theorem dL_law_1824 : decode cL_law 1824 = .ok (.aload_n 1, 1) := by decide +kernel
theorem dL_law_1825 : decode cL_law 1825 = .ok (.aload_n 0, 1) := by decide +kernel
theorem dL_law_1826 : decode cL_law 1826 = .ok (.iload 5, 2) := by decide +kernel
theorem dL_law_1828 : decode cL_law 1828 = .ok (.iconst 1, 1) := by decide +kernel
theorem dL_law_1829 : decode cL_law 1829 = .ok (.iadd, 1) := by decide +kernel
theorem dL_law_1830 : decode cL_law 1830 = .ok (.iaload, 1) := by decide +kernel
theorem dL_law_1831 : decode cL_law 1831 = .ok (.aload_n 3, 1) := by decide +kernel
theorem dL_law_1832 : decode cL_law 1832 = .ok (.invokestatic 215, 3) := by decide +kernel
theorem dL_law_1835 : decode cL_law 1835 = .ok (.istore 6, 2) := by decide +kernel
theorem dL_law_1837 : decode cL_law 1837 = .ok (.aload_n 2, 1) := by decide +kernel
theorem dL_law_1838 : decode cL_law 1838 = .ok (.aload_n 0, 1) := by decide +kernel
theorem dL_law_1839 : decode cL_law 1839 = .ok (.iload 5, 2) := by decide +kernel
theorem dL_law_1841 : decode cL_law 1841 = .ok (.iconst 1, 1) := by decide +kernel
theorem dL_law_1842 : decode cL_law 1842 = .ok (.iadd, 1) := by decide +kernel
theorem dL_law_1843 : decode cL_law 1843 = .ok (.iaload, 1) := by decide +kernel
theorem dL_law_1844 : decode cL_law 1844 = .ok (.invokevirtual 217, 3) := by decide +kernel
theorem dL_law_1847 : decode cL_law 1847 = .ok (.lstore 7, 2) := by decide +kernel
theorem dL_law_1849 : decode cL_law 1849 = .ok (.aload_n 2, 1) := by decide +kernel
theorem dL_law_1850 : decode cL_law 1850 = .ok (.invokevirtual 114, 3) := by decide +kernel
theorem dL_law_1853 : decode cL_law 1853 = .ok (.iload 6, 2) := by decide +kernel
theorem dL_law_1855 : decode cL_law 1855 = .ok (.if_icmp .eq 5, 3) := by decide +kernel
theorem dL_law_1858 : decode cL_law 1858 = .ok (.iconst 0, 1) := by decide +kernel
theorem dL_law_1859 : decode cL_law 1859 = .ok (.ireturn, 1) := by decide +kernel
theorem dL_law_1860 : decode cL_law 1860 = .ok (.iload 6, 2) := by decide +kernel
theorem dL_law_1862 : decode cL_law 1862 = .ok (.ifCond .ne 14, 3) := by decide +kernel
theorem dL_law_1865 : decode cL_law 1865 = .ok (.aload_n 3, 1) := by decide +kernel
theorem dL_law_1866 : decode cL_law 1866 = .ok (.iconst 0, 1) := by decide +kernel
theorem dL_law_1867 : decode cL_law 1867 = .ok (.laload, 1) := by decide +kernel
theorem dL_law_1868 : decode cL_law 1868 = .ok (.lload 7, 2) := by decide +kernel
theorem dL_law_1870 : decode cL_law 1870 = .ok (.lcmp, 1) := by decide +kernel
theorem dL_law_1871 : decode cL_law 1871 = .ok (.ifCond .eq 5, 3) := by decide +kernel
theorem dL_law_1874 : decode cL_law 1874 = .ok (.iconst 0, 1) := by decide +kernel
theorem dL_law_1875 : decode cL_law 1875 = .ok (.ireturn, 1) := by decide +kernel
theorem dL_law_1876 : decode cL_law 1876 = .ok (.goto 72, 3) := by decide +kernel
theorem dL_law_1879 : decode cL_law 1879 = .ok (.aload_n 1, 1) := by decide +kernel
theorem dL_law_1880 : decode cL_law 1880 = .ok (.aload_n 0, 1) := by decide +kernel
theorem dL_law_1881 : decode cL_law 1881 = .ok (.iload 5, 2) := by decide +kernel
theorem dL_law_1883 : decode cL_law 1883 = .ok (.iconst 1, 1) := by decide +kernel
theorem dL_law_1884 : decode cL_law 1884 = .ok (.iadd, 1) := by decide +kernel
theorem dL_law_1885 : decode cL_law 1885 = .ok (.iaload, 1) := by decide +kernel
theorem dL_law_1886 : decode cL_law 1886 = .ok (.aload_n 3, 1) := by decide +kernel
theorem dL_law_1887 : decode cL_law 1887 = .ok (.invokestatic 218, 3) := by decide +kernel
theorem dL_law_1890 : decode cL_law 1890 = .ok (.istore 6, 2) := by decide +kernel
theorem dL_law_1892 : decode cL_law 1892 = .ok (.aload_n 2, 1) := by decide +kernel
theorem dL_law_1893 : decode cL_law 1893 = .ok (.aload_n 0, 1) := by decide +kernel
theorem dL_law_1894 : decode cL_law 1894 = .ok (.iload 5, 2) := by decide +kernel
theorem dL_law_1896 : decode cL_law 1896 = .ok (.iconst 1, 1) := by decide +kernel
theorem dL_law_1897 : decode cL_law 1897 = .ok (.iadd, 1) := by decide +kernel
theorem dL_law_1898 : decode cL_law 1898 = .ok (.iaload, 1) := by decide +kernel
theorem dL_law_1899 : decode cL_law 1899 = .ok (.invokevirtual 220, 3) := by decide +kernel
theorem dL_law_1902 : decode cL_law 1902 = .ok (.lstore 7, 2) := by decide +kernel
theorem dL_law_1904 : decode cL_law 1904 = .ok (.aload_n 2, 1) := by decide +kernel
theorem dL_law_1905 : decode cL_law 1905 = .ok (.invokevirtual 114, 3) := by decide +kernel
theorem dL_law_1908 : decode cL_law 1908 = .ok (.iload 6, 2) := by decide +kernel
theorem dL_law_1910 : decode cL_law 1910 = .ok (.if_icmp .eq 5, 3) := by decide +kernel
theorem dL_law_1913 : decode cL_law 1913 = .ok (.iconst 0, 1) := by decide +kernel
theorem dL_law_1914 : decode cL_law 1914 = .ok (.ireturn, 1) := by decide +kernel
theorem dL_law_1915 : decode cL_law 1915 = .ok (.iload 6, 2) := by decide +kernel
theorem dL_law_1917 : decode cL_law 1917 = .ok (.ifCond .ne 14, 3) := by decide +kernel
theorem dL_law_1920 : decode cL_law 1920 = .ok (.aload_n 3, 1) := by decide +kernel
theorem dL_law_1921 : decode cL_law 1921 = .ok (.iconst 0, 1) := by decide +kernel
theorem dL_law_1922 : decode cL_law 1922 = .ok (.laload, 1) := by decide +kernel
theorem dL_law_1923 : decode cL_law 1923 = .ok (.lload 7, 2) := by decide +kernel
theorem dL_law_1925 : decode cL_law 1925 = .ok (.lcmp, 1) := by decide +kernel
theorem dL_law_1926 : decode cL_law 1926 = .ok (.ifCond .eq 5, 3) := by decide +kernel
theorem dL_law_1929 : decode cL_law 1929 = .ok (.iconst 0, 1) := by decide +kernel
theorem dL_law_1930 : decode cL_law 1930 = .ok (.ireturn, 1) := by decide +kernel
theorem dL_law_1931 : decode cL_law 1931 = .ok (.goto 17, 3) := by decide +kernel
theorem dL_law_1934 : decode cL_law 1934 = .ok (.aload_n 1, 1) := by decide +kernel
theorem dL_law_1935 : decode cL_law 1935 = .ok (.invokevirtual 221, 3) := by decide +kernel
theorem dL_law_1938 : decode cL_law 1938 = .ok (.aload_n 2, 1) := by decide +kernel
theorem dL_law_1939 : decode cL_law 1939 = .ok (.invokevirtual 224, 3) := by decide +kernel
theorem dL_law_1942 : decode cL_law 1942 = .ok (.lcmp, 1) := by decide +kernel
theorem dL_law_1943 : decode cL_law 1943 = .ok (.ifCond .eq 5, 3) := by decide +kernel
theorem dL_law_1946 : decode cL_law 1946 = .ok (.iconst 0, 1) := by decide +kernel
theorem dL_law_1947 : decode cL_law 1947 = .ok (.ireturn, 1) := by decide +kernel
theorem dL_law_1948 : decode cL_law 1948 = .ok (.iinc 5 6, 3) := by decide +kernel
theorem dL_law_1951 : decode cL_law 1951 = .ok (.goto (-1923), 3) := by decide +kernel
theorem dL_law_1954 : decode cL_law 1954 = .ok (.iconst 1, 1) := by decide +kernel
theorem dL_law_1955 : decode cL_law 1955 = .ok (.ireturn, 1) := by decide +kernel
abbrev vwCl : List vw_C := [(RJ0, TJ0, 2), (RJx00060, TJx00060, 6), (RX0, TX0, 13), (RX1, TX1, 13)]
