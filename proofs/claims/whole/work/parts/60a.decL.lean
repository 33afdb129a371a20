set_option maxRecDepth 20000 in
theorem ggL_setSize_X0_setSize : GoodIn wsL_setSize wsX0_setSize := goodIn_ca (goodIn_ca (goodIn_r _ [6, 7, 8, 9, 10, 11, 5, 12, 13, 14, 15, 16, 17, 18, 19, 20, 21, 22, 23, 24, 25, 26, 27, 28, 29, 30, 31, 32, 33, 34] (by decide +kernel) (by decide +kernel)) (goodIn_sub (fun _ h => List.mem_cons_of_mem _ (List.mem_append_right _ h)) (by decide +kernel))) (goodIn_sub (fun _ h => List.mem_cons_of_mem _ (List.mem_append_left _ (List.mem_append_right _ h))) (by decide +kernel))
set_option maxRecDepth 20000 in
theorem gL_setSize_X0_setSize : GoodIn wsL_setSize (wsV RL 7 RX0 yX0_setSize wsX0_setSize) := goodIn_app (goodIn_of _ (by decide +kernel)) ggL_setSize_X0_setSize
theorem dL_setSize_0 : decode cL_setSize 0 = .ok (.aload_n 2, 1) := by decide +kernel
theorem dL_setSize_1 : decode cL_setSize 1 = .ok (.iconst 0, 1) := by decide +kernel
theorem dL_setSize_2 : decode cL_setSize 2 = .ok (.aload_n 0, 1) := by decide +kernel
theorem dL_setSize_3 : decode cL_setSize 3 = .ok (.iload_n 1, 1) := by decide +kernel
theorem dL_setSize_4 : decode cL_setSize 4 = .ok (.invokevirtual 7, 3) := by decide +kernel
theorem dL_setSize_7 : decode cL_setSize 7 = .ok (.i2l, 1) := by decide +kernel
theorem dL_setSize_8 : decode cL_setSize 8 = .ok (.lastore, 1) := by decide +kernel
theorem dL_setSize_9 : decode cL_setSize 9 = .ok (.goto 6, 3) := by decide +kernel
theorem dL_setSize_12 : decode cL_setSize 12 = .ok (.astore_n 3, 1) := by decide +kernel
theorem dL_setSize_13 : decode cL_setSize 13 = .ok (.iconst 1, 1) := by decide +kernel
theorem dL_setSize_14 : decode cL_setSize 14 = .ok (.ireturn, 1) := by decide +kernel
theorem dL_setSize_15 : decode cL_setSize 15 = .ok (.iconst 0, 1) := by decide +kernel
theorem dL_setSize_16 : decode cL_setSize 16 = .ok (.ireturn, 1) := by decide +kernel
set_option maxRecDepth 20000 in
theorem ggL_setCoefficient_X0_setCoefficient : GoodIn wsL_setCoefficient wsX0_setCoefficient := goodIn_ca (goodIn_ca (goodIn_ca (goodIn_r _ [7, 8, 9, 10, 11, 12, 13, 14, 15, 6, 16, 17, 18, 19, 20, 21, 22, 23, 24, 25, 26, 27, 28, 29, 30, 31, 32, 33] (by decide +kernel) (by decide +kernel)) (goodIn_sub (fun _ h => List.mem_cons_of_mem _ (List.mem_append_left _ (List.mem_append_right _ h))) (by decide +kernel))) (goodIn_sub (fun _ h => List.mem_cons_of_mem _ (List.mem_append_right _ h)) (by decide +kernel))) (goodIn_sub (fun _ h => List.mem_cons_of_mem _ (List.mem_append_left _ (List.mem_append_left _ (List.mem_append_right _ h)))) (by decide +kernel))
set_option maxRecDepth 20000 in
theorem gL_setCoefficient_X0_setCoefficient : GoodIn wsL_setCoefficient (wsV RL 15 RX0 yX0_setCoefficient wsX0_setCoefficient) := goodIn_app (goodIn_of _ (by decide +kernel)) ggL_setCoefficient_X0_setCoefficient
theorem dL_setCoefficient_0 : decode cL_setCoefficient 0 = .ok (.aload 4, 2) := by decide +kernel
theorem dL_setCoefficient_2 : decode cL_setCoefficient 2 = .ok (.iconst 0, 1) := by decide +kernel
theorem dL_setCoefficient_3 : decode cL_setCoefficient 3 = .ok (.aload_n 0, 1) := by decide +kernel
theorem dL_setCoefficient_4 : decode cL_setCoefficient 4 = .ok (.iload_n 1, 1) := by decide +kernel
theorem dL_setCoefficient_5 : decode cL_setCoefficient 5 = .ok (.iload_n 2, 1) := by decide +kernel
theorem dL_setCoefficient_6 : decode cL_setCoefficient 6 = .ok (.iload_n 3, 1) := by decide +kernel
theorem dL_setCoefficient_7 : decode cL_setCoefficient 7 = .ok (.invokevirtual 15, 3) := by decide +kernel
theorem dL_setCoefficient_10 : decode cL_setCoefficient 10 = .ok (.i2l, 1) := by decide +kernel
theorem dL_setCoefficient_11 : decode cL_setCoefficient 11 = .ok (.lastore, 1) := by decide +kernel
theorem dL_setCoefficient_12 : decode cL_setCoefficient 12 = .ok (.goto 11, 3) := by decide +kernel
theorem dL_setCoefficient_15 : decode cL_setCoefficient 15 = .ok (.astore 5, 2) := by decide +kernel
theorem dL_setCoefficient_17 : decode cL_setCoefficient 17 = .ok (.iconst 1, 1) := by decide +kernel
theorem dL_setCoefficient_18 : decode cL_setCoefficient 18 = .ok (.ireturn, 1) := by decide +kernel
theorem dL_setCoefficient_19 : decode cL_setCoefficient 19 = .ok (.astore 5, 2) := by decide +kernel
theorem dL_setCoefficient_21 : decode cL_setCoefficient 21 = .ok (.iconst 2, 1) := by decide +kernel
theorem dL_setCoefficient_22 : decode cL_setCoefficient 22 = .ok (.ireturn, 1) := by decide +kernel
theorem dL_setCoefficient_23 : decode cL_setCoefficient 23 = .ok (.iconst 0, 1) := by decide +kernel
theorem dL_setCoefficient_24 : decode cL_setCoefficient 24 = .ok (.ireturn, 1) := by decide +kernel
set_option maxRecDepth 20000 in
theorem ggL_coefficient_X0_coefficient : GoodIn wsL_coefficient wsX0_coefficient := goodIn_ca (goodIn_ca (goodIn_r _ [6, 7, 8, 9, 10, 11, 12, 5, 13, 14, 15, 16, 17, 18, 19, 20, 21, 22, 23, 24, 25, 26, 27] (by decide +kernel) (by decide +kernel)) (goodIn_sub (fun _ h => List.mem_cons_of_mem _ (List.mem_append_right _ h)) (by decide +kernel))) (goodIn_sub (fun _ h => List.mem_cons_of_mem _ (List.mem_append_left _ (List.mem_append_right _ h))) (by decide +kernel))
set_option maxRecDepth 20000 in
theorem gL_coefficient_X0_coefficient : GoodIn wsL_coefficient (wsV RL 21 RX0 yX0_coefficient wsX0_coefficient) := goodIn_app (goodIn_of _ (by decide +kernel)) ggL_coefficient_X0_coefficient
theorem dL_coefficient_0 : decode cL_coefficient 0 = .ok (.aload_n 3, 1) := by decide +kernel
theorem dL_coefficient_1 : decode cL_coefficient 1 = .ok (.iconst 0, 1) := by decide +kernel
theorem dL_coefficient_2 : decode cL_coefficient 2 = .ok (.aload_n 0, 1) := by decide +kernel
theorem dL_coefficient_3 : decode cL_coefficient 3 = .ok (.iload_n 1, 1) := by decide +kernel
theorem dL_coefficient_4 : decode cL_coefficient 4 = .ok (.iload_n 2, 1) := by decide +kernel
theorem dL_coefficient_5 : decode cL_coefficient 5 = .ok (.invokevirtual 21, 3) := by decide +kernel
theorem dL_coefficient_8 : decode cL_coefficient 8 = .ok (.i2l, 1) := by decide +kernel
theorem dL_coefficient_9 : decode cL_coefficient 9 = .ok (.lastore, 1) := by decide +kernel
theorem dL_coefficient_10 : decode cL_coefficient 10 = .ok (.goto 7, 3) := by decide +kernel
theorem dL_coefficient_13 : decode cL_coefficient 13 = .ok (.astore 4, 2) := by decide +kernel
theorem dL_coefficient_15 : decode cL_coefficient 15 = .ok (.iconst 1, 1) := by decide +kernel
theorem dL_coefficient_16 : decode cL_coefficient 16 = .ok (.ireturn, 1) := by decide +kernel
theorem dL_coefficient_17 : decode cL_coefficient 17 = .ok (.iconst 0, 1) := by decide +kernel
theorem dL_coefficient_18 : decode cL_coefficient 18 = .ok (.ireturn, 1) := by decide +kernel
set_option maxRecDepth 20000 in
theorem ggL_setRight_X0_setRight : GoodIn wsL_setRight wsX0_setRight := goodIn_ca (goodIn_ca (goodIn_ca (goodIn_r _ [7, 8, 9, 10, 11, 12, 13, 14, 15, 16, 6, 17, 18, 19, 20, 21, 22, 23, 24, 25, 26, 27, 28, 29, 30, 31, 32, 33, 34, 35, 36, 37] (by decide +kernel) (by decide +kernel)) (goodIn_sub (fun _ h => List.mem_cons_of_mem _ (List.mem_append_left _ (List.mem_append_right _ h))) (by decide +kernel))) (goodIn_sub (fun _ h => List.mem_cons_of_mem _ (List.mem_append_right _ h)) (by decide +kernel))) (goodIn_sub (fun _ h => List.mem_cons_of_mem _ (List.mem_append_left _ (List.mem_append_left _ (List.mem_append_right _ h)))) (by decide +kernel))
set_option maxRecDepth 20000 in
theorem gL_setRight_X0_setRight : GoodIn wsL_setRight (wsV RL 25 RX0 yX0_setRight wsX0_setRight) := goodIn_app (goodIn_of _ (by decide +kernel)) ggL_setRight_X0_setRight
theorem dL_setRight_0 : decode cL_setRight 0 = .ok (.aload 4, 2) := by decide +kernel
theorem dL_setRight_2 : decode cL_setRight 2 = .ok (.iconst 0, 1) := by decide +kernel
theorem dL_setRight_3 : decode cL_setRight 3 = .ok (.aload_n 0, 1) := by decide +kernel
theorem dL_setRight_4 : decode cL_setRight 4 = .ok (.iload_n 1, 1) := by decide +kernel
theorem dL_setRight_5 : decode cL_setRight 5 = .ok (.iload_n 2, 1) := by decide +kernel
theorem dL_setRight_6 : decode cL_setRight 6 = .ok (.iload_n 3, 1) := by decide +kernel
theorem dL_setRight_7 : decode cL_setRight 7 = .ok (.invokevirtual 25, 3) := by decide +kernel
theorem dL_setRight_10 : decode cL_setRight 10 = .ok (.ifCond .eq 7, 3) := by decide +kernel
theorem dL_setRight_13 : decode cL_setRight 13 = .ok (.lconst 1, 1) := by decide +kernel
theorem dL_setRight_14 : decode cL_setRight 14 = .ok (.goto 4, 3) := by decide +kernel
theorem dL_setRight_17 : decode cL_setRight 17 = .ok (.lconst 0, 1) := by decide +kernel
theorem dL_setRight_18 : decode cL_setRight 18 = .ok (.lastore, 1) := by decide +kernel
theorem dL_setRight_19 : decode cL_setRight 19 = .ok (.goto 11, 3) := by decide +kernel
theorem dL_setRight_22 : decode cL_setRight 22 = .ok (.astore 5, 2) := by decide +kernel
theorem dL_setRight_24 : decode cL_setRight 24 = .ok (.iconst 1, 1) := by decide +kernel
theorem dL_setRight_25 : decode cL_setRight 25 = .ok (.ireturn, 1) := by decide +kernel
theorem dL_setRight_26 : decode cL_setRight 26 = .ok (.astore 5, 2) := by decide +kernel
theorem dL_setRight_28 : decode cL_setRight 28 = .ok (.iconst 2, 1) := by decide +kernel
theorem dL_setRight_29 : decode cL_setRight 29 = .ok (.ireturn, 1) := by decide +kernel
theorem dL_setRight_30 : decode cL_setRight 30 = .ok (.iconst 0, 1) := by decide +kernel
theorem dL_setRight_31 : decode cL_setRight 31 = .ok (.ireturn, 1) := by decide +kernel
set_option maxRecDepth 20000 in
theorem ggL_rightLow_X0_rightLow : GoodIn wsL_rightLow wsX0_rightLow := goodIn_ca (goodIn_ca (goodIn_r _ [6, 7, 8, 9, 10, 11, 12, 5, 13, 14, 15, 16, 17, 18, 19, 20, 21, 22, 23, 24, 25, 26, 27] (by decide +kernel) (by decide +kernel)) (goodIn_sub (fun _ h => List.mem_cons_of_mem _ (List.mem_append_right _ h)) (by decide +kernel))) (goodIn_sub (fun _ h => List.mem_cons_of_mem _ (List.mem_append_left _ (List.mem_append_right _ h))) (by decide +kernel))
set_option maxRecDepth 20000 in
theorem gL_rightLow_X0_rightLow : GoodIn wsL_rightLow (wsV RL 29 RX0 yX0_rightLow wsX0_rightLow) := goodIn_app (goodIn_of _ (by decide +kernel)) ggL_rightLow_X0_rightLow
theorem dL_rightLow_0 : decode cL_rightLow 0 = .ok (.aload_n 2, 1) := by decide +kernel
theorem dL_rightLow_1 : decode cL_rightLow 1 = .ok (.iconst 0, 1) := by decide +kernel
theorem dL_rightLow_2 : decode cL_rightLow 2 = .ok (.aload_n 0, 1) := by decide +kernel
theorem dL_rightLow_3 : decode cL_rightLow 3 = .ok (.iload_n 1, 1) := by decide +kernel
theorem dL_rightLow_4 : decode cL_rightLow 4 = .ok (.invokevirtual 29, 3) := by decide +kernel
theorem dL_rightLow_7 : decode cL_rightLow 7 = .ok (.i2l, 1) := by decide +kernel
theorem dL_rightLow_8 : decode cL_rightLow 8 = .ok (.lastore, 1) := by decide +kernel
theorem dL_rightLow_9 : decode cL_rightLow 9 = .ok (.goto 6, 3) := by decide +kernel
theorem dL_rightLow_12 : decode cL_rightLow 12 = .ok (.astore_n 3, 1) := by decide +kernel
theorem dL_rightLow_13 : decode cL_rightLow 13 = .ok (.iconst 1, 1) := by decide +kernel
theorem dL_rightLow_14 : decode cL_rightLow 14 = .ok (.ireturn, 1) := by decide +kernel
theorem dL_rightLow_15 : decode cL_rightLow 15 = .ok (.iconst 0, 1) := by decide +kernel
theorem dL_rightLow_16 : decode cL_rightLow 16 = .ok (.ireturn, 1) := by decide +kernel
set_option maxRecDepth 20000 in
theorem ggL_rightHigh_X0_rightHigh : GoodIn wsL_rightHigh wsX0_rightHigh := goodIn_ca (goodIn_ca (goodIn_r _ [6, 7, 8, 9, 10, 11, 12, 5, 13, 14, 15, 16, 17, 18, 19, 20, 21, 22, 23, 24, 25, 26, 27] (by decide +kernel) (by decide +kernel)) (goodIn_sub (fun _ h => List.mem_cons_of_mem _ (List.mem_append_right _ h)) (by decide +kernel))) (goodIn_sub (fun _ h => List.mem_cons_of_mem _ (List.mem_append_left _ (List.mem_append_right _ h))) (by decide +kernel))
set_option maxRecDepth 20000 in
theorem gL_rightHigh_X0_rightHigh : GoodIn wsL_rightHigh (wsV RL 32 RX0 yX0_rightHigh wsX0_rightHigh) := goodIn_app (goodIn_of _ (by decide +kernel)) ggL_rightHigh_X0_rightHigh
theorem dL_rightHigh_0 : decode cL_rightHigh 0 = .ok (.aload_n 2, 1) := by decide +kernel
theorem dL_rightHigh_1 : decode cL_rightHigh 1 = .ok (.iconst 0, 1) := by decide +kernel
theorem dL_rightHigh_2 : decode cL_rightHigh 2 = .ok (.aload_n 0, 1) := by decide +kernel
theorem dL_rightHigh_3 : decode cL_rightHigh 3 = .ok (.iload_n 1, 1) := by decide +kernel
theorem dL_rightHigh_4 : decode cL_rightHigh 4 = .ok (.invokevirtual 32, 3) := by decide +kernel
theorem dL_rightHigh_7 : decode cL_rightHigh 7 = .ok (.i2l, 1) := by decide +kernel
theorem dL_rightHigh_8 : decode cL_rightHigh 8 = .ok (.lastore, 1) := by decide +kernel
theorem dL_rightHigh_9 : decode cL_rightHigh 9 = .ok (.goto 6, 3) := by decide +kernel
theorem dL_rightHigh_12 : decode cL_rightHigh 12 = .ok (.astore_n 3, 1) := by decide +kernel
theorem dL_rightHigh_13 : decode cL_rightHigh 13 = .ok (.iconst 1, 1) := by decide +kernel
theorem dL_rightHigh_14 : decode cL_rightHigh 14 = .ok (.ireturn, 1) := by decide +kernel
theorem dL_rightHigh_15 : decode cL_rightHigh 15 = .ok (.iconst 0, 1) := by decide +kernel
theorem dL_rightHigh_16 : decode cL_rightHigh 16 = .ok (.ireturn, 1) := by decide +kernel
set_option maxRecDepth 20000 in
theorem ggL_setSpread_X0_setSpread : GoodIn wsL_setSpread wsX0_setSpread := goodIn_ca (goodIn_ca (goodIn_ca (goodIn_r _ [7, 8, 9, 10, 11, 12, 13, 14, 15, 6, 16, 17, 18, 19, 20, 21, 22, 23, 24, 25, 26, 27, 28, 29, 30] (by decide +kernel) (by decide +kernel)) (goodIn_sub (fun _ h => List.mem_cons_of_mem _ (List.mem_append_left _ (List.mem_append_right _ h))) (by decide +kernel))) (goodIn_sub (fun _ h => List.mem_cons_of_mem _ (List.mem_append_right _ h)) (by decide +kernel))) (goodIn_sub (fun _ h => List.mem_cons_of_mem _ (List.mem_append_left _ (List.mem_append_left _ (List.mem_append_right _ h)))) (by decide +kernel))
set_option maxRecDepth 20000 in
theorem gL_setSpread_X0_setSpread : GoodIn wsL_setSpread (wsV RL 35 RX0 yX0_setSpread wsX0_setSpread) := goodIn_app (goodIn_of _ (by decide +kernel)) ggL_setSpread_X0_setSpread
theorem dL_setSpread_0 : decode cL_setSpread 0 = .ok (.aload 4, 2) := by decide +kernel
theorem dL_setSpread_2 : decode cL_setSpread 2 = .ok (.iconst 0, 1) := by decide +kernel
theorem dL_setSpread_3 : decode cL_setSpread 3 = .ok (.aload_n 0, 1) := by decide +kernel
theorem dL_setSpread_4 : decode cL_setSpread 4 = .ok (.iload_n 1, 1) := by decide +kernel
theorem dL_setSpread_5 : decode cL_setSpread 5 = .ok (.iload_n 2, 1) := by decide +kernel
theorem dL_setSpread_6 : decode cL_setSpread 6 = .ok (.iload_n 3, 1) := by decide +kernel
theorem dL_setSpread_7 : decode cL_setSpread 7 = .ok (.invokevirtual 35, 3) := by decide +kernel
theorem dL_setSpread_10 : decode cL_setSpread 10 = .ok (.i2l, 1) := by decide +kernel
theorem dL_setSpread_11 : decode cL_setSpread 11 = .ok (.lastore, 1) := by decide +kernel
theorem dL_setSpread_12 : decode cL_setSpread 12 = .ok (.goto 11, 3) := by decide +kernel
theorem dL_setSpread_15 : decode cL_setSpread 15 = .ok (.astore 5, 2) := by decide +kernel
theorem dL_setSpread_17 : decode cL_setSpread 17 = .ok (.iconst 1, 1) := by decide +kernel
theorem dL_setSpread_18 : decode cL_setSpread 18 = .ok (.ireturn, 1) := by decide +kernel
theorem dL_setSpread_19 : decode cL_setSpread 19 = .ok (.astore 5, 2) := by decide +kernel
theorem dL_setSpread_21 : decode cL_setSpread 21 = .ok (.iconst 2, 1) := by decide +kernel
theorem dL_setSpread_22 : decode cL_setSpread 22 = .ok (.ireturn, 1) := by decide +kernel
theorem dL_setSpread_23 : decode cL_setSpread 23 = .ok (.iconst 0, 1) := by decide +kernel
theorem dL_setSpread_24 : decode cL_setSpread 24 = .ok (.ireturn, 1) := by decide +kernel
set_option maxRecDepth 20000 in
theorem ggL_swapRows_X0_swapRows : GoodIn wsL_swapRows wsX0_swapRows := goodIn_ca (goodIn_ca (goodIn_r _ [6, 7, 8, 9, 10, 11, 12, 13, 14, 15, 16, 5, 17, 18, 19, 20, 21, 22, 23, 24, 25, 26, 27, 28, 29, 30, 31, 32, 33] (by decide +kernel) (by decide +kernel)) (goodIn_sub (fun _ h => List.mem_cons_of_mem _ (List.mem_append_right _ h)) (by decide +kernel))) (goodIn_sub (fun _ h => List.mem_cons_of_mem _ (List.mem_append_left _ (List.mem_append_right _ h))) (by decide +kernel))
set_option maxRecDepth 20000 in
theorem gL_swapRows_X0_swapRows : GoodIn wsL_swapRows (wsV RL 38 RX0 yX0_swapRows wsX0_swapRows) := goodIn_app (goodIn_of _ (by decide +kernel)) ggL_swapRows_X0_swapRows
theorem dL_swapRows_0 : decode cL_swapRows 0 = .ok (.aload_n 3, 1) := by decide +kernel
theorem dL_swapRows_1 : decode cL_swapRows 1 = .ok (.iconst 0, 1) := by decide +kernel
theorem dL_swapRows_2 : decode cL_swapRows 2 = .ok (.aload_n 0, 1) := by decide +kernel
theorem dL_swapRows_3 : decode cL_swapRows 3 = .ok (.iload_n 1, 1) := by decide +kernel
theorem dL_swapRows_4 : decode cL_swapRows 4 = .ok (.iload_n 2, 1) := by decide +kernel
theorem dL_swapRows_5 : decode cL_swapRows 5 = .ok (.invokevirtual 38, 3) := by decide +kernel
theorem dL_swapRows_8 : decode cL_swapRows 8 = .ok (.ifCond .eq 7, 3) := by decide +kernel
theorem dL_swapRows_11 : decode cL_swapRows 11 = .ok (.lconst 1, 1) := by decide +kernel
theorem dL_swapRows_12 : decode cL_swapRows 12 = .ok (.goto 4, 3) := by decide +kernel
theorem dL_swapRows_15 : decode cL_swapRows 15 = .ok (.lconst 0, 1) := by decide +kernel
theorem dL_swapRows_16 : decode cL_swapRows 16 = .ok (.lastore, 1) := by decide +kernel
theorem dL_swapRows_17 : decode cL_swapRows 17 = .ok (.goto 7, 3) := by decide +kernel
theorem dL_swapRows_20 : decode cL_swapRows 20 = .ok (.astore 4, 2) := by decide +kernel
theorem dL_swapRows_22 : decode cL_swapRows 22 = .ok (.iconst 1, 1) := by decide +kernel
theorem dL_swapRows_23 : decode cL_swapRows 23 = .ok (.ireturn, 1) := by decide +kernel
theorem dL_swapRows_24 : decode cL_swapRows 24 = .ok (.iconst 0, 1) := by decide +kernel
theorem dL_swapRows_25 : decode cL_swapRows 25 = .ok (.ireturn, 1) := by decide +kernel
set_option maxRecDepth 20000 in
theorem ggL_addRow_X0_addRow : GoodIn wsL_addRow wsX0_addRow := goodIn_ca (goodIn_ca (goodIn_ca (goodIn_ca (goodIn_r _ [8, 9, 10, 11, 12, 13, 14, 15, 16, 17, 18, 19, 7, 20, 21, 22, 23, 24, 25, 26, 27, 28, 29, 30, 31, 32, 33, 34, 35, 36, 37, 38, 39, 40, 41, 42, 43, 44, 45, 46, 47, 48, 49, 50, 51, 52, 53, 54, 55] (by decide +kernel) (by decide +kernel)) (goodIn_sub (fun _ h => List.mem_cons_of_mem _ (List.mem_append_left _ (List.mem_append_left _ (List.mem_append_right _ h)))) (by decide +kernel))) (goodIn_sub (fun _ h => List.mem_cons_of_mem _ (List.mem_append_left _ (List.mem_append_right _ h))) (by decide +kernel))) (goodIn_sub (fun _ h => List.mem_cons_of_mem _ (List.mem_append_left _ (List.mem_append_left _ (List.mem_append_left _ (List.mem_append_right _ h))))) (by decide +kernel))) (goodIn_sub (fun _ h => List.mem_cons_of_mem _ (List.mem_append_right _ h)) (by decide +kernel))
set_option maxRecDepth 20000 in
theorem gL_addRow_X0_addRow : GoodIn wsL_addRow (wsV RL 42 RX0 yX0_addRow wsX0_addRow) := goodIn_app (goodIn_of _ (by decide +kernel)) ggL_addRow_X0_addRow
theorem dL_addRow_0 : decode cL_addRow 0 = .ok (.aload 4, 2) := by decide +kernel
theorem dL_addRow_2 : decode cL_addRow 2 = .ok (.iconst 0, 1) := by decide +kernel
theorem dL_addRow_3 : decode cL_addRow 3 = .ok (.aload_n 0, 1) := by decide +kernel
theorem dL_addRow_4 : decode cL_addRow 4 = .ok (.iload_n 1, 1) := by decide +kernel
theorem dL_addRow_5 : decode cL_addRow 5 = .ok (.iload_n 2, 1) := by decide +kernel
theorem dL_addRow_6 : decode cL_addRow 6 = .ok (.iload_n 3, 1) := by decide +kernel
theorem dL_addRow_7 : decode cL_addRow 7 = .ok (.invokevirtual 42, 3) := by decide +kernel
theorem dL_addRow_10 : decode cL_addRow 10 = .ok (.i2l, 1) := by decide +kernel
theorem dL_addRow_11 : decode cL_addRow 11 = .ok (.lastore, 1) := by decide +kernel
theorem dL_addRow_12 : decode cL_addRow 12 = .ok (.goto 15, 3) := by decide +kernel
theorem dL_addRow_15 : decode cL_addRow 15 = .ok (.astore 5, 2) := by decide +kernel
theorem dL_addRow_17 : decode cL_addRow 17 = .ok (.iconst 1, 1) := by decide +kernel
theorem dL_addRow_18 : decode cL_addRow 18 = .ok (.ireturn, 1) := by decide +kernel
theorem dL_addRow_19 : decode cL_addRow 19 = .ok (.astore 5, 2) := by decide +kernel
theorem dL_addRow_21 : decode cL_addRow 21 = .ok (.iconst 2, 1) := by decide +kernel
theorem dL_addRow_22 : decode cL_addRow 22 = .ok (.ireturn, 1) := by decide +kernel
theorem dL_addRow_23 : decode cL_addRow 23 = .ok (.astore 5, 2) := by decide +kernel
theorem dL_addRow_25 : decode cL_addRow 25 = .ok (.iconst 3, 1) := by decide +kernel
theorem dL_addRow_26 : decode cL_addRow 26 = .ok (.ireturn, 1) := by decide +kernel
theorem dL_addRow_27 : decode cL_addRow 27 = .ok (.iconst 0, 1) := by decide +kernel
theorem dL_addRow_28 : decode cL_addRow 28 = .ok (.ireturn, 1) := by decide +kernel
set_option maxRecDepth 20000 in
theorem ggL_lowNumerator_X0_lowNumerator : GoodIn wsL_lowNumerator wsX0_lowNumerator := goodIn_ca (goodIn_ca (goodIn_ca (goodIn_ca (goodIn_r _ [7, 8, 9, 10, 11, 12, 13, 14, 15, 6, 16, 17, 18, 19, 20, 21, 22, 23, 24, 25, 26, 27, 28, 29, 30, 31, 32, 33, 34, 35, 36, 37, 38, 39, 40, 41, 42, 43, 44, 45, 46, 47, 48, 49, 50, 51, 52, 53, 54, 55, 56, 57, 58, 59, 60, 61, 62, 63, 64, 65, 66, 67, 68, 69, 70, 71, 72, 73, 74, 75, 76, 77] (by decide +kernel) (by decide +kernel)) (goodIn_sub (fun _ h => List.mem_cons_of_mem _ (List.mem_append_left _ (List.mem_append_left _ (List.mem_append_right _ h)))) (by decide +kernel))) (goodIn_sub (fun _ h => List.mem_cons_of_mem _ (List.mem_append_left _ (List.mem_append_right _ h))) (by decide +kernel))) (goodIn_sub (fun _ h => List.mem_cons_of_mem _ (List.mem_append_left _ (List.mem_append_left _ (List.mem_append_left _ (List.mem_append_right _ h))))) (by decide +kernel))) (goodIn_sub (fun _ h => List.mem_cons_of_mem _ (List.mem_append_right _ h)) (by decide +kernel))
set_option maxRecDepth 20000 in
theorem gL_lowNumerator_X0_lowNumerator : GoodIn wsL_lowNumerator (wsV RL 47 RX0 yX0_lowNumerator wsX0_lowNumerator) := goodIn_app (goodIn_of _ (by decide +kernel)) ggL_lowNumerator_X0_lowNumerator
theorem dL_lowNumerator_0 : decode cL_lowNumerator 0 = .ok (.aload_n 2, 1) := by decide +kernel
theorem dL_lowNumerator_1 : decode cL_lowNumerator 1 = .ok (.iconst 0, 1) := by decide +kernel
theorem dL_lowNumerator_2 : decode cL_lowNumerator 2 = .ok (.aload_n 0, 1) := by decide +kernel
theorem dL_lowNumerator_3 : decode cL_lowNumerator 3 = .ok (.iload_n 1, 1) := by decide +kernel
theorem dL_lowNumerator_4 : decode cL_lowNumerator 4 = .ok (.invokevirtual 47, 3) := by decide +kernel
theorem dL_lowNumerator_7 : decode cL_lowNumerator 7 = .ok (.lastore, 1) := by decide +kernel
theorem dL_lowNumerator_8 : decode cL_lowNumerator 8 = .ok (.goto 9, 3) := by decide +kernel
theorem dL_lowNumerator_11 : decode cL_lowNumerator 11 = .ok (.astore_n 3, 1) := by decide +kernel
theorem dL_lowNumerator_12 : decode cL_lowNumerator 12 = .ok (.iconst 1, 1) := by decide +kernel
theorem dL_lowNumerator_13 : decode cL_lowNumerator 13 = .ok (.ireturn, 1) := by decide +kernel
theorem dL_lowNumerator_14 : decode cL_lowNumerator 14 = .ok (.astore_n 3, 1) := by decide +kernel
theorem dL_lowNumerator_15 : decode cL_lowNumerator 15 = .ok (.iconst 2, 1) := by decide +kernel
theorem dL_lowNumerator_16 : decode cL_lowNumerator 16 = .ok (.ireturn, 1) := by decide +kernel
theorem dL_lowNumerator_17 : decode cL_lowNumerator 17 = .ok (.iconst 0, 1) := by decide +kernel
theorem dL_lowNumerator_18 : decode cL_lowNumerator 18 = .ok (.ireturn, 1) := by decide +kernel
set_option maxRecDepth 20000 in
theorem ggL_lowDenominator_X0_lowDenominator : GoodIn wsL_lowDenominator wsX0_lowDenominator := goodIn_ca (goodIn_ca (goodIn_ca (goodIn_ca (goodIn_r _ [7, 8, 9, 10, 11, 12, 13, 14, 15, 6, 16, 17, 18, 19, 20, 21, 22, 23, 24, 25, 26, 27, 28, 29, 30, 31, 32, 33, 34, 35, 36, 37, 38, 39, 40, 41, 42, 43, 44, 45, 46, 47, 48, 49, 50, 51, 52, 53, 54, 55, 56, 57, 58, 59, 60, 61, 62, 63, 64, 65, 66, 67, 68, 69, 70, 71, 72, 73, 74, 75, 76, 77] (by decide +kernel) (by decide +kernel)) (goodIn_sub (fun _ h => List.mem_cons_of_mem _ (List.mem_append_left _ (List.mem_append_left _ (List.mem_append_right _ h)))) (by decide +kernel))) (goodIn_sub (fun _ h => List.mem_cons_of_mem _ (List.mem_append_left _ (List.mem_append_right _ h))) (by decide +kernel))) (goodIn_sub (fun _ h => List.mem_cons_of_mem _ (List.mem_append_left _ (List.mem_append_left _ (List.mem_append_left _ (List.mem_append_right _ h))))) (by decide +kernel))) (goodIn_sub (fun _ h => List.mem_cons_of_mem _ (List.mem_append_right _ h)) (by decide +kernel))
set_option maxRecDepth 20000 in
theorem gL_lowDenominator_X0_lowDenominator : GoodIn wsL_lowDenominator (wsV RL 51 RX0 yX0_lowDenominator wsX0_lowDenominator) := goodIn_app (goodIn_of _ (by decide +kernel)) ggL_lowDenominator_X0_lowDenominator
theorem dL_lowDenominator_0 : decode cL_lowDenominator 0 = .ok (.aload_n 2, 1) := by decide +kernel
theorem dL_lowDenominator_1 : decode cL_lowDenominator 1 = .ok (.iconst 0, 1) := by decide +kernel
theorem dL_lowDenominator_2 : decode cL_lowDenominator 2 = .ok (.aload_n 0, 1) := by decide +kernel
theorem dL_lowDenominator_3 : decode cL_lowDenominator 3 = .ok (.iload_n 1, 1) := by decide +kernel
theorem dL_lowDenominator_4 : decode cL_lowDenominator 4 = .ok (.invokevirtual 51, 3) := by decide +kernel
theorem dL_lowDenominator_7 : decode cL_lowDenominator 7 = .ok (.lastore, 1) := by decide +kernel
theorem dL_lowDenominator_8 : decode cL_lowDenominator 8 = .ok (.goto 9, 3) := by decide +kernel
theorem dL_lowDenominator_11 : decode cL_lowDenominator 11 = .ok (.astore_n 3, 1) := by decide +kernel
theorem dL_lowDenominator_12 : decode cL_lowDenominator 12 = .ok (.iconst 1, 1) := by decide +kernel
theorem dL_lowDenominator_13 : decode cL_lowDenominator 13 = .ok (.ireturn, 1) := by decide +kernel
theorem dL_lowDenominator_14 : decode cL_lowDenominator 14 = .ok (.astore_n 3, 1) := by decide +kernel
theorem dL_lowDenominator_15 : decode cL_lowDenominator 15 = .ok (.iconst 2, 1) := by decide +kernel
theorem dL_lowDenominator_16 : decode cL_lowDenominator 16 = .ok (.ireturn, 1) := by decide +kernel
theorem dL_lowDenominator_17 : decode cL_lowDenominator 17 = .ok (.iconst 0, 1) := by decide +kernel
theorem dL_lowDenominator_18 : decode cL_lowDenominator 18 = .ok (.ireturn, 1) := by decide +kernel
set_option maxRecDepth 20000 in
theorem ggL_highNumerator_X0_highNumerator : GoodIn wsL_highNumerator wsX0_highNumerator := goodIn_ca (goodIn_ca (goodIn_ca (goodIn_ca (goodIn_r _ [7, 8, 9, 10, 11, 12, 13, 14, 15, 6, 16, 17, 18, 19, 20, 21, 22, 23, 24, 25, 26, 27, 28, 29, 30, 31, 32, 33, 34, 35, 36, 37, 38, 39, 40, 41, 42, 43, 44, 45, 46, 47, 48, 49, 50, 51, 52, 53, 54, 55, 56, 57, 58, 59, 60, 61, 62, 63, 64, 65, 66, 67, 68, 69, 70, 71, 72, 73, 74, 75, 76, 77] (by decide +kernel) (by decide +kernel)) (goodIn_sub (fun _ h => List.mem_cons_of_mem _ (List.mem_append_left _ (List.mem_append_left _ (List.mem_append_right _ h)))) (by decide +kernel))) (goodIn_sub (fun _ h => List.mem_cons_of_mem _ (List.mem_append_left _ (List.mem_append_right _ h))) (by decide +kernel))) (goodIn_sub (fun _ h => List.mem_cons_of_mem _ (List.mem_append_left _ (List.mem_append_left _ (List.mem_append_left _ (List.mem_append_right _ h))))) (by decide +kernel))) (goodIn_sub (fun _ h => List.mem_cons_of_mem _ (List.mem_append_right _ h)) (by decide +kernel))
set_option maxRecDepth 20000 in
theorem gL_highNumerator_X0_highNumerator : GoodIn wsL_highNumerator (wsV RL 54 RX0 yX0_highNumerator wsX0_highNumerator) := goodIn_app (goodIn_of _ (by decide +kernel)) ggL_highNumerator_X0_highNumerator
theorem dL_highNumerator_0 : decode cL_highNumerator 0 = .ok (.aload_n 2, 1) := by decide +kernel
theorem dL_highNumerator_1 : decode cL_highNumerator 1 = .ok (.iconst 0, 1) := by decide +kernel
theorem dL_highNumerator_2 : decode cL_highNumerator 2 = .ok (.aload_n 0, 1) := by decide +kernel
theorem dL_highNumerator_3 : decode cL_highNumerator 3 = .ok (.iload_n 1, 1) := by decide +kernel
theorem dL_highNumerator_4 : decode cL_highNumerator 4 = .ok (.invokevirtual 54, 3) := by decide +kernel
theorem dL_highNumerator_7 : decode cL_highNumerator 7 = .ok (.lastore, 1) := by decide +kernel
theorem dL_highNumerator_8 : decode cL_highNumerator 8 = .ok (.goto 9, 3) := by decide +kernel
theorem dL_highNumerator_11 : decode cL_highNumerator 11 = .ok (.astore_n 3, 1) := by decide +kernel
theorem dL_highNumerator_12 : decode cL_highNumerator 12 = .ok (.iconst 1, 1) := by decide +kernel
theorem dL_highNumerator_13 : decode cL_highNumerator 13 = .ok (.ireturn, 1) := by decide +kernel
theorem dL_highNumerator_14 : decode cL_highNumerator 14 = .ok (.astore_n 3, 1) := by decide +kernel
theorem dL_highNumerator_15 : decode cL_highNumerator 15 = .ok (.iconst 2, 1) := by decide +kernel
theorem dL_highNumerator_16 : decode cL_highNumerator 16 = .ok (.ireturn, 1) := by decide +kernel
theorem dL_highNumerator_17 : decode cL_highNumerator 17 = .ok (.iconst 0, 1) := by decide +kernel
theorem dL_highNumerator_18 : decode cL_highNumerator 18 = .ok (.ireturn, 1) := by decide +kernel
set_option maxRecDepth 20000 in
theorem ggL_highDenominator_X0_highDenominator : GoodIn wsL_highDenominator wsX0_highDenominator := goodIn_ca (goodIn_ca (goodIn_ca (goodIn_ca (goodIn_r _ [7, 8, 9, 10, 11, 12, 13, 14, 15, 6, 16, 17, 18, 19, 20, 21, 22, 23, 24, 25, 26, 27, 28, 29, 30, 31, 32, 33, 34, 35, 36, 37, 38, 39, 40, 41, 42, 43, 44, 45, 46, 47, 48, 49, 50, 51, 52, 53, 54, 55, 56, 57, 58, 59, 60, 61, 62, 63, 64, 65, 66, 67, 68, 69, 70, 71, 72, 73, 74, 75, 76, 77] (by decide +kernel) (by decide +kernel)) (goodIn_sub (fun _ h => List.mem_cons_of_mem _ (List.mem_append_left _ (List.mem_append_left _ (List.mem_append_right _ h)))) (by decide +kernel))) (goodIn_sub (fun _ h => List.mem_cons_of_mem _ (List.mem_append_left _ (List.mem_append_right _ h))) (by decide +kernel))) (goodIn_sub (fun _ h => List.mem_cons_of_mem _ (List.mem_append_left _ (List.mem_append_left _ (List.mem_append_left _ (List.mem_append_right _ h))))) (by decide +kernel))) (goodIn_sub (fun _ h => List.mem_cons_of_mem _ (List.mem_append_right _ h)) (by decide +kernel))
set_option maxRecDepth 20000 in
theorem gL_highDenominator_X0_highDenominator : GoodIn wsL_highDenominator (wsV RL 57 RX0 yX0_highDenominator wsX0_highDenominator) := goodIn_app (goodIn_of _ (by decide +kernel)) ggL_highDenominator_X0_highDenominator
theorem dL_highDenominator_0 : decode cL_highDenominator 0 = .ok (.aload_n 2, 1) := by decide +kernel
theorem dL_highDenominator_1 : decode cL_highDenominator 1 = .ok (.iconst 0, 1) := by decide +kernel
theorem dL_highDenominator_2 : decode cL_highDenominator 2 = .ok (.aload_n 0, 1) := by decide +kernel
theorem dL_highDenominator_3 : decode cL_highDenominator 3 = .ok (.iload_n 1, 1) := by decide +kernel
theorem dL_highDenominator_4 : decode cL_highDenominator 4 = .ok (.invokevirtual 57, 3) := by decide +kernel
theorem dL_highDenominator_7 : decode cL_highDenominator 7 = .ok (.lastore, 1) := by decide +kernel
theorem dL_highDenominator_8 : decode cL_highDenominator 8 = .ok (.goto 9, 3) := by decide +kernel
theorem dL_highDenominator_11 : decode cL_highDenominator 11 = .ok (.astore_n 3, 1) := by decide +kernel
theorem dL_highDenominator_12 : decode cL_highDenominator 12 = .ok (.iconst 1, 1) := by decide +kernel
theorem dL_highDenominator_13 : decode cL_highDenominator 13 = .ok (.ireturn, 1) := by decide +kernel
theorem dL_highDenominator_14 : decode cL_highDenominator 14 = .ok (.astore_n 3, 1) := by decide +kernel
theorem dL_highDenominator_15 : decode cL_highDenominator 15 = .ok (.iconst 2, 1) := by decide +kernel
theorem dL_highDenominator_16 : decode cL_highDenominator 16 = .ok (.ireturn, 1) := by decide +kernel
theorem dL_highDenominator_17 : decode cL_highDenominator 17 = .ok (.iconst 0, 1) := by decide +kernel
theorem dL_highDenominator_18 : decode cL_highDenominator 18 = .ok (.ireturn, 1) := by decide +kernel
set_option maxRecDepth 20000 in
theorem ggL_inverseNumerator_X0_inverseNumerator : GoodIn wsL_inverseNumerator wsX0_inverseNumerator := goodIn_ca (goodIn_ca (goodIn_ca (goodIn_ca (goodIn_r _ [7, 8, 9, 10, 11, 12, 13, 14, 15, 16, 6, 17, 18, 19, 20, 21, 22, 23, 24, 25, 26, 27, 28, 29, 30, 31, 32, 33, 34, 35, 36, 37, 38, 39, 40, 41, 42, 43, 44, 45, 46, 47, 48, 49, 50, 51, 52, 53, 54, 55, 56, 57, 58, 59, 60, 61, 62, 63, 64, 65, 66, 67, 68, 69, 70, 71] (by decide +kernel) (by decide +kernel)) (goodIn_sub (fun _ h => List.mem_cons_of_mem _ (List.mem_append_left _ (List.mem_append_left _ (List.mem_append_right _ h)))) (by decide +kernel))) (goodIn_sub (fun _ h => List.mem_cons_of_mem _ (List.mem_append_left _ (List.mem_append_right _ h))) (by decide +kernel))) (goodIn_sub (fun _ h => List.mem_cons_of_mem _ (List.mem_append_left _ (List.mem_append_left _ (List.mem_append_left _ (List.mem_append_right _ h))))) (by decide +kernel))) (goodIn_sub (fun _ h => List.mem_cons_of_mem _ (List.mem_append_right _ h)) (by decide +kernel))
set_option maxRecDepth 20000 in
theorem gL_inverseNumerator_X0_inverseNumerator : GoodIn wsL_inverseNumerator (wsV RL 60 RX0 yX0_inverseNumerator wsX0_inverseNumerator) := goodIn_app (goodIn_of _ (by decide +kernel)) ggL_inverseNumerator_X0_inverseNumerator
theorem dL_inverseNumerator_0 : decode cL_inverseNumerator 0 = .ok (.aload_n 3, 1) := by decide +kernel
theorem dL_inverseNumerator_1 : decode cL_inverseNumerator 1 = .ok (.iconst 0, 1) := by decide +kernel
theorem dL_inverseNumerator_2 : decode cL_inverseNumerator 2 = .ok (.aload_n 0, 1) := by decide +kernel
theorem dL_inverseNumerator_3 : decode cL_inverseNumerator 3 = .ok (.iload_n 1, 1) := by decide +kernel
theorem dL_inverseNumerator_4 : decode cL_inverseNumerator 4 = .ok (.iload_n 2, 1) := by decide +kernel
theorem dL_inverseNumerator_5 : decode cL_inverseNumerator 5 = .ok (.invokevirtual 60, 3) := by decide +kernel
theorem dL_inverseNumerator_8 : decode cL_inverseNumerator 8 = .ok (.lastore, 1) := by decide +kernel
theorem dL_inverseNumerator_9 : decode cL_inverseNumerator 9 = .ok (.goto 11, 3) := by decide +kernel
theorem dL_inverseNumerator_12 : decode cL_inverseNumerator 12 = .ok (.astore 4, 2) := by decide +kernel
theorem dL_inverseNumerator_14 : decode cL_inverseNumerator 14 = .ok (.iconst 1, 1) := by decide +kernel
theorem dL_inverseNumerator_15 : decode cL_inverseNumerator 15 = .ok (.ireturn, 1) := by decide +kernel
theorem dL_inverseNumerator_16 : decode cL_inverseNumerator 16 = .ok (.astore 4, 2) := by decide +kernel
theorem dL_inverseNumerator_18 : decode cL_inverseNumerator 18 = .ok (.iconst 2, 1) := by decide +kernel
theorem dL_inverseNumerator_19 : decode cL_inverseNumerator 19 = .ok (.ireturn, 1) := by decide +kernel
theorem dL_inverseNumerator_20 : decode cL_inverseNumerator 20 = .ok (.iconst 0, 1) := by decide +kernel
theorem dL_inverseNumerator_21 : decode cL_inverseNumerator 21 = .ok (.ireturn, 1) := by decide +kernel
set_option maxRecDepth 20000 in
theorem ggL_inverseDenominator_X0_inverseDenominator : GoodIn wsL_inverseDenominator wsX0_inverseDenominator := goodIn_ca (goodIn_ca (goodIn_ca (goodIn_ca (goodIn_r _ [7, 8, 9, 10, 11, 12, 13, 14, 15, 16, 6, 17, 18, 19, 20, 21, 22, 23, 24, 25, 26, 27, 28, 29, 30, 31, 32, 33, 34, 35, 36, 37, 38, 39, 40, 41, 42, 43, 44, 45, 46, 47, 48, 49, 50, 51, 52, 53, 54, 55, 56, 57, 58, 59, 60, 61, 62, 63, 64, 65, 66, 67, 68, 69, 70, 71] (by decide +kernel) (by decide +kernel)) (goodIn_sub (fun _ h => List.mem_cons_of_mem _ (List.mem_append_left _ (List.mem_append_left _ (List.mem_append_right _ h)))) (by decide +kernel))) (goodIn_sub (fun _ h => List.mem_cons_of_mem _ (List.mem_append_left _ (List.mem_append_right _ h))) (by decide +kernel))) (goodIn_sub (fun _ h => List.mem_cons_of_mem _ (List.mem_append_left _ (List.mem_append_left _ (List.mem_append_left _ (List.mem_append_right _ h))))) (by decide +kernel))) (goodIn_sub (fun _ h => List.mem_cons_of_mem _ (List.mem_append_right _ h)) (by decide +kernel))
set_option maxRecDepth 20000 in
theorem gL_inverseDenominator_X0_inverseDenominator : GoodIn wsL_inverseDenominator (wsV RL 64 RX0 yX0_inverseDenominator wsX0_inverseDenominator) := goodIn_app (goodIn_of _ (by decide +kernel)) ggL_inverseDenominator_X0_inverseDenominator
theorem dL_inverseDenominator_0 : decode cL_inverseDenominator 0 = .ok (.aload_n 3, 1) := by decide +kernel
theorem dL_inverseDenominator_1 : decode cL_inverseDenominator 1 = .ok (.iconst 0, 1) := by decide +kernel
theorem dL_inverseDenominator_2 : decode cL_inverseDenominator 2 = .ok (.aload_n 0, 1) := by decide +kernel
theorem dL_inverseDenominator_3 : decode cL_inverseDenominator 3 = .ok (.iload_n 1, 1) := by decide +kernel
theorem dL_inverseDenominator_4 : decode cL_inverseDenominator 4 = .ok (.iload_n 2, 1) := by decide +kernel
theorem dL_inverseDenominator_5 : decode cL_inverseDenominator 5 = .ok (.invokevirtual 64, 3) := by decide +kernel
theorem dL_inverseDenominator_8 : decode cL_inverseDenominator 8 = .ok (.lastore, 1) := by decide +kernel
theorem dL_inverseDenominator_9 : decode cL_inverseDenominator 9 = .ok (.goto 11, 3) := by decide +kernel
theorem dL_inverseDenominator_12 : decode cL_inverseDenominator 12 = .ok (.astore 4, 2) := by decide +kernel
theorem dL_inverseDenominator_14 : decode cL_inverseDenominator 14 = .ok (.iconst 1, 1) := by decide +kernel
theorem dL_inverseDenominator_15 : decode cL_inverseDenominator 15 = .ok (.ireturn, 1) := by decide +kernel
theorem dL_inverseDenominator_16 : decode cL_inverseDenominator 16 = .ok (.astore 4, 2) := by decide +kernel
theorem dL_inverseDenominator_18 : decode cL_inverseDenominator 18 = .ok (.iconst 2, 1) := by decide +kernel
theorem dL_inverseDenominator_19 : decode cL_inverseDenominator 19 = .ok (.ireturn, 1) := by decide +kernel
theorem dL_inverseDenominator_20 : decode cL_inverseDenominator 20 = .ok (.iconst 0, 1) := by decide +kernel
theorem dL_inverseDenominator_21 : decode cL_inverseDenominator 21 = .ok (.ireturn, 1) := by decide +kernel
set_option maxRecDepth 20000 in
theorem ggL_condition_X0_condition : GoodIn wsL_condition wsX0_condition := goodIn_ca (goodIn_ca (goodIn_r _ [6, 7, 8, 9, 10, 11, 12, 13, 14, 15, 16, 17, 18, 19, 20, 21, 22, 23, 24, 25, 5, 26, 27, 28, 29, 30, 31, 32, 33, 34, 35, 36, 37, 38, 39, 40, 41, 42, 43, 44, 45, 46, 47, 48, 49, 50, 51, 52, 53, 54, 55, 56, 57, 58, 59, 60, 61, 62, 63, 64] (by decide +kernel) (by decide +kernel)) (goodIn_sub (fun _ h => List.mem_cons_of_mem _ (List.mem_append_right _ h)) (by decide +kernel))) (goodIn_sub (fun _ h => List.mem_cons_of_mem _ (List.mem_append_left _ (List.mem_append_right _ h))) (by decide +kernel))
set_option maxRecDepth 20000 in
theorem gL_condition_X0_condition : GoodIn wsL_condition (wsV RL 67 RX0 yX0_condition wsX0_condition) := goodIn_app (goodIn_of _ (by decide +kernel)) ggL_condition_X0_condition
theorem dL_condition_0 : decode cL_condition 0 = .ok (.aload_n 1, 1) := by decide +kernel
theorem dL_condition_1 : decode cL_condition 1 = .ok (.iconst 0, 1) := by decide +kernel
theorem dL_condition_2 : decode cL_condition 2 = .ok (.aload_n 0, 1) := by decide +kernel
theorem dL_condition_3 : decode cL_condition 3 = .ok (.invokevirtual 67, 3) := by decide +kernel
theorem dL_condition_6 : decode cL_condition 6 = .ok (.dastore, 1) := by decide +kernel
theorem dL_condition_7 : decode cL_condition 7 = .ok (.goto 6, 3) := by decide +kernel
theorem dL_condition_10 : decode cL_condition 10 = .ok (.astore_n 2, 1) := by decide +kernel
theorem dL_condition_11 : decode cL_condition 11 = .ok (.iconst 1, 1) := by decide +kernel
theorem dL_condition_12 : decode cL_condition 12 = .ok (.ireturn, 1) := by decide +kernel
theorem dL_condition_13 : decode cL_condition 13 = .ok (.iconst 0, 1) := by decide +kernel
theorem dL_condition_14 : decode cL_condition 14 = .ok (.ireturn, 1) := by decide +kernel
set_option maxRecDepth 20000 in
theorem ggL_variationNumerator_X0_variationNumerator : GoodIn wsL_variationNumerator wsX0_variationNumerator := goodIn_ca (goodIn_ca (goodIn_ca (goodIn_r _ [6, 7, 8, 9, 10, 11, 12, 13, 5, 14, 15, 16, 17, 18, 19, 20, 21, 22, 23, 24, 25, 26, 27, 28, 29, 30, 31, 32, 33, 34, 35, 36, 37, 38, 39, 40, 41, 42, 43, 44, 45, 46, 47, 48, 49, 50, 51, 52, 53, 54, 55, 56, 57, 58, 59, 60, 61, 62, 63, 64, 65, 66, 67, 68, 69, 70, 71, 72, 73] (by decide +kernel) (by decide +kernel)) (goodIn_sub (fun _ h => List.mem_cons_of_mem _ (List.mem_append_left _ (List.mem_append_right _ h))) (by decide +kernel))) (goodIn_sub (fun _ h => List.mem_cons_of_mem _ (List.mem_append_left _ (List.mem_append_left _ (List.mem_append_right _ h)))) (by decide +kernel))) (goodIn_sub (fun _ h => List.mem_cons_of_mem _ (List.mem_append_right _ h)) (by decide +kernel))
set_option maxRecDepth 20000 in
theorem gL_variationNumerator_X0_variationNumerator : GoodIn wsL_variationNumerator (wsV RL 71 RX0 yX0_variationNumerator wsX0_variationNumerator) := goodIn_app (goodIn_of _ (by decide +kernel)) ggL_variationNumerator_X0_variationNumerator
theorem dL_variationNumerator_0 : decode cL_variationNumerator 0 = .ok (.aload_n 1, 1) := by decide +kernel
theorem dL_variationNumerator_1 : decode cL_variationNumerator 1 = .ok (.iconst 0, 1) := by decide +kernel
theorem dL_variationNumerator_2 : decode cL_variationNumerator 2 = .ok (.aload_n 0, 1) := by decide +kernel
theorem dL_variationNumerator_3 : decode cL_variationNumerator 3 = .ok (.invokevirtual 71, 3) := by decide +kernel
theorem dL_variationNumerator_6 : decode cL_variationNumerator 6 = .ok (.lastore, 1) := by decide +kernel
theorem dL_variationNumerator_7 : decode cL_variationNumerator 7 = .ok (.goto 6, 3) := by decide +kernel
theorem dL_variationNumerator_10 : decode cL_variationNumerator 10 = .ok (.astore_n 2, 1) := by decide +kernel
theorem dL_variationNumerator_11 : decode cL_variationNumerator 11 = .ok (.iconst 1, 1) := by decide +kernel
theorem dL_variationNumerator_12 : decode cL_variationNumerator 12 = .ok (.ireturn, 1) := by decide +kernel
theorem dL_variationNumerator_13 : decode cL_variationNumerator 13 = .ok (.iconst 0, 1) := by decide +kernel
theorem dL_variationNumerator_14 : decode cL_variationNumerator 14 = .ok (.ireturn, 1) := by decide +kernel
set_option maxRecDepth 20000 in
theorem ggL_variationDenominator_X0_variationDenominator : GoodIn wsL_variationDenominator wsX0_variationDenominator := goodIn_ca (goodIn_ca (goodIn_ca (goodIn_r _ [6, 7, 8, 9, 10, 11, 12, 13, 5, 14, 15, 16, 17, 18, 19, 20, 21, 22, 23, 24, 25, 26, 27, 28, 29, 30, 31, 32, 33, 34, 35, 36, 37, 38, 39, 40, 41, 42, 43, 44, 45, 46, 47, 48, 49, 50, 51, 52, 53, 54, 55, 56, 57, 58, 59, 60, 61, 62, 63, 64, 65, 66, 67, 68, 69, 70, 71, 72, 73] (by decide +kernel) (by decide +kernel)) (goodIn_sub (fun _ h => List.mem_cons_of_mem _ (List.mem_append_left _ (List.mem_append_right _ h))) (by decide +kernel))) (goodIn_sub (fun _ h => List.mem_cons_of_mem _ (List.mem_append_left _ (List.mem_append_left _ (List.mem_append_right _ h)))) (by decide +kernel))) (goodIn_sub (fun _ h => List.mem_cons_of_mem _ (List.mem_append_right _ h)) (by decide +kernel))
set_option maxRecDepth 20000 in
theorem gL_variationDenominator_X0_variationDenominator : GoodIn wsL_variationDenominator (wsV RL 75 RX0 yX0_variationDenominator wsX0_variationDenominator) := goodIn_app (goodIn_of _ (by decide +kernel)) ggL_variationDenominator_X0_variationDenominator
theorem dL_variationDenominator_0 : decode cL_variationDenominator 0 = .ok (.aload_n 1, 1) := by decide +kernel
theorem dL_variationDenominator_1 : decode cL_variationDenominator 1 = .ok (.iconst 0, 1) := by decide +kernel
theorem dL_variationDenominator_2 : decode cL_variationDenominator 2 = .ok (.aload_n 0, 1) := by decide +kernel
theorem dL_variationDenominator_3 : decode cL_variationDenominator 3 = .ok (.invokevirtual 75, 3) := by decide +kernel
theorem dL_variationDenominator_6 : decode cL_variationDenominator 6 = .ok (.lastore, 1) := by decide +kernel
theorem dL_variationDenominator_7 : decode cL_variationDenominator 7 = .ok (.goto 6, 3) := by decide +kernel
theorem dL_variationDenominator_10 : decode cL_variationDenominator 10 = .ok (.astore_n 2, 1) := by decide +kernel
theorem dL_variationDenominator_11 : decode cL_variationDenominator 11 = .ok (.iconst 1, 1) := by decide +kernel
theorem dL_variationDenominator_12 : decode cL_variationDenominator 12 = .ok (.ireturn, 1) := by decide +kernel
theorem dL_variationDenominator_13 : decode cL_variationDenominator 13 = .ok (.iconst 0, 1) := by decide +kernel
theorem dL_variationDenominator_14 : decode cL_variationDenominator 14 = .ok (.ireturn, 1) := by decide +kernel
set_option maxRecDepth 20000 in
theorem ggL_setBox_X0_setBox : GoodIn wsL_setBox wsX0_setBox := goodIn_ca (goodIn_ca (goodIn_ca (goodIn_r _ [7, 8, 9, 10, 11, 12, 13, 14, 15, 16, 17, 6, 18, 19, 20, 21, 22, 23, 24, 25, 26, 27, 28, 29, 30, 31, 32, 33, 34, 35, 36, 37, 38] (by decide +kernel) (by decide +kernel)) (goodIn_sub (fun _ h => List.mem_cons_of_mem _ (List.mem_append_left _ (List.mem_append_right _ h))) (by decide +kernel))) (goodIn_sub (fun _ h => List.mem_cons_of_mem _ (List.mem_append_right _ h)) (by decide +kernel))) (goodIn_sub (fun _ h => List.mem_cons_of_mem _ (List.mem_append_left _ (List.mem_append_left _ (List.mem_append_right _ h)))) (by decide +kernel))
set_option maxRecDepth 20000 in
theorem gL_setBox_X0_setBox : GoodIn wsL_setBox (wsV RL 78 RX0 yX0_setBox wsX0_setBox) := goodIn_app (goodIn_of _ (by decide +kernel)) ggL_setBox_X0_setBox
theorem dL_setBox_0 : decode cL_setBox 0 = .ok (.aload 4, 2) := by decide +kernel
theorem dL_setBox_2 : decode cL_setBox 2 = .ok (.iconst 0, 1) := by decide +kernel
theorem dL_setBox_3 : decode cL_setBox 3 = .ok (.aload_n 0, 1) := by decide +kernel
theorem dL_setBox_4 : decode cL_setBox 4 = .ok (.iload_n 1, 1) := by decide +kernel
theorem dL_setBox_5 : decode cL_setBox 5 = .ok (.iload_n 2, 1) := by decide +kernel
theorem dL_setBox_6 : decode cL_setBox 6 = .ok (.iload_n 3, 1) := by decide +kernel
theorem dL_setBox_7 : decode cL_setBox 7 = .ok (.invokevirtual 78, 3) := by decide +kernel
theorem dL_setBox_10 : decode cL_setBox 10 = .ok (.ifCond .eq 7, 3) := by decide +kernel
theorem dL_setBox_13 : decode cL_setBox 13 = .ok (.lconst 1, 1) := by decide +kernel
theorem dL_setBox_14 : decode cL_setBox 14 = .ok (.goto 4, 3) := by decide +kernel
theorem dL_setBox_17 : decode cL_setBox 17 = .ok (.lconst 0, 1) := by decide +kernel
theorem dL_setBox_18 : decode cL_setBox 18 = .ok (.lastore, 1) := by decide +kernel
theorem dL_setBox_19 : decode cL_setBox 19 = .ok (.goto 11, 3) := by decide +kernel
theorem dL_setBox_22 : decode cL_setBox 22 = .ok (.astore 5, 2) := by decide +kernel
theorem dL_setBox_24 : decode cL_setBox 24 = .ok (.iconst 1, 1) := by decide +kernel
theorem dL_setBox_25 : decode cL_setBox 25 = .ok (.ireturn, 1) := by decide +kernel
theorem dL_setBox_26 : decode cL_setBox 26 = .ok (.astore 5, 2) := by decide +kernel
theorem dL_setBox_28 : decode cL_setBox 28 = .ok (.iconst 2, 1) := by decide +kernel
theorem dL_setBox_29 : decode cL_setBox 29 = .ok (.ireturn, 1) := by decide +kernel
theorem dL_setBox_30 : decode cL_setBox 30 = .ok (.iconst 0, 1) := by decide +kernel
theorem dL_setBox_31 : decode cL_setBox 31 = .ok (.ireturn, 1) := by decide +kernel
set_option maxRecDepth 20000 in
theorem ggL_boxLow_X0_boxLow : GoodIn wsL_boxLow wsX0_boxLow := goodIn_ca (goodIn_ca (goodIn_r _ [6, 7, 8, 9, 10, 11, 12, 5, 13, 14, 15, 16, 17, 18, 19, 20, 21, 22, 23, 24, 25, 26, 27] (by decide +kernel) (by decide +kernel)) (goodIn_sub (fun _ h => List.mem_cons_of_mem _ (List.mem_append_right _ h)) (by decide +kernel))) (goodIn_sub (fun _ h => List.mem_cons_of_mem _ (List.mem_append_left _ (List.mem_append_right _ h))) (by decide +kernel))
set_option maxRecDepth 20000 in
theorem gL_boxLow_X0_boxLow : GoodIn wsL_boxLow (wsV RL 81 RX0 yX0_boxLow wsX0_boxLow) := goodIn_app (goodIn_of _ (by decide +kernel)) ggL_boxLow_X0_boxLow
theorem dL_boxLow_0 : decode cL_boxLow 0 = .ok (.aload_n 2, 1) := by decide +kernel
theorem dL_boxLow_1 : decode cL_boxLow 1 = .ok (.iconst 0, 1) := by decide +kernel
theorem dL_boxLow_2 : decode cL_boxLow 2 = .ok (.aload_n 0, 1) := by decide +kernel
theorem dL_boxLow_3 : decode cL_boxLow 3 = .ok (.iload_n 1, 1) := by decide +kernel
theorem dL_boxLow_4 : decode cL_boxLow 4 = .ok (.invokevirtual 81, 3) := by decide +kernel
theorem dL_boxLow_7 : decode cL_boxLow 7 = .ok (.i2l, 1) := by decide +kernel
theorem dL_boxLow_8 : decode cL_boxLow 8 = .ok (.lastore, 1) := by decide +kernel
theorem dL_boxLow_9 : decode cL_boxLow 9 = .ok (.goto 6, 3) := by decide +kernel
theorem dL_boxLow_12 : decode cL_boxLow 12 = .ok (.astore_n 3, 1) := by decide +kernel
theorem dL_boxLow_13 : decode cL_boxLow 13 = .ok (.iconst 1, 1) := by decide +kernel
theorem dL_boxLow_14 : decode cL_boxLow 14 = .ok (.ireturn, 1) := by decide +kernel
theorem dL_boxLow_15 : decode cL_boxLow 15 = .ok (.iconst 0, 1) := by decide +kernel
theorem dL_boxLow_16 : decode cL_boxLow 16 = .ok (.ireturn, 1) := by decide +kernel
set_option maxRecDepth 20000 in
theorem ggL_boxHigh_X0_boxHigh : GoodIn wsL_boxHigh wsX0_boxHigh := goodIn_ca (goodIn_ca (goodIn_r _ [6, 7, 8, 9, 10, 11, 12, 5, 13, 14, 15, 16, 17, 18, 19, 20, 21, 22, 23, 24, 25, 26, 27] (by decide +kernel) (by decide +kernel)) (goodIn_sub (fun _ h => List.mem_cons_of_mem _ (List.mem_append_right _ h)) (by decide +kernel))) (goodIn_sub (fun _ h => List.mem_cons_of_mem _ (List.mem_append_left _ (List.mem_append_right _ h))) (by decide +kernel))
set_option maxRecDepth 20000 in
theorem gL_boxHigh_X0_boxHigh : GoodIn wsL_boxHigh (wsV RL 84 RX0 yX0_boxHigh wsX0_boxHigh) := goodIn_app (goodIn_of _ (by decide +kernel)) ggL_boxHigh_X0_boxHigh
theorem dL_boxHigh_0 : decode cL_boxHigh 0 = .ok (.aload_n 2, 1) := by decide +kernel
theorem dL_boxHigh_1 : decode cL_boxHigh 1 = .ok (.iconst 0, 1) := by decide +kernel
theorem dL_boxHigh_2 : decode cL_boxHigh 2 = .ok (.aload_n 0, 1) := by decide +kernel
theorem dL_boxHigh_3 : decode cL_boxHigh 3 = .ok (.iload_n 1, 1) := by decide +kernel
theorem dL_boxHigh_4 : decode cL_boxHigh 4 = .ok (.invokevirtual 84, 3) := by decide +kernel
theorem dL_boxHigh_7 : decode cL_boxHigh 7 = .ok (.i2l, 1) := by decide +kernel
theorem dL_boxHigh_8 : decode cL_boxHigh 8 = .ok (.lastore, 1) := by decide +kernel
theorem dL_boxHigh_9 : decode cL_boxHigh 9 = .ok (.goto 6, 3) := by decide +kernel
theorem dL_boxHigh_12 : decode cL_boxHigh 12 = .ok (.astore_n 3, 1) := by decide +kernel
theorem dL_boxHigh_13 : decode cL_boxHigh 13 = .ok (.iconst 1, 1) := by decide +kernel
theorem dL_boxHigh_14 : decode cL_boxHigh 14 = .ok (.ireturn, 1) := by decide +kernel
theorem dL_boxHigh_15 : decode cL_boxHigh 15 = .ok (.iconst 0, 1) := by decide +kernel
theorem dL_boxHigh_16 : decode cL_boxHigh 16 = .ok (.ireturn, 1) := by decide +kernel
set_option maxRecDepth 20000 in
theorem ggL_contract_X0_contract : GoodIn wsL_contract wsX0_contract := goodIn_ca (goodIn_ca (goodIn_r _ [6, 7, 8, 9, 10, 11, 5, 12, 13, 14, 15, 16, 17, 18, 19, 20, 21, 22, 23, 24, 25, 26, 27, 28, 29, 30, 31, 32, 33, 34, 35, 36, 37, 38, 39, 40, 41, 42, 43, 44, 45, 46, 47, 48, 49, 50, 51, 52, 53, 54, 55, 56, 57, 58, 59, 60, 61, 62, 63, 64, 65, 66, 67, 68, 69, 70, 71] (by decide +kernel) (by decide +kernel)) (goodIn_sub (fun _ h => List.mem_cons_of_mem _ (List.mem_append_right _ h)) (by decide +kernel))) (goodIn_sub (fun _ h => List.mem_cons_of_mem _ (List.mem_append_left _ (List.mem_append_right _ h))) (by decide +kernel))
set_option maxRecDepth 20000 in
theorem gL_contract_X0_contract : GoodIn wsL_contract (wsV RL 87 RX0 yX0_contract wsX0_contract) := goodIn_app (goodIn_of _ (by decide +kernel)) ggL_contract_X0_contract
theorem dL_contract_0 : decode cL_contract 0 = .ok (.aload_n 2, 1) := by decide +kernel
theorem dL_contract_1 : decode cL_contract 1 = .ok (.iconst 0, 1) := by decide +kernel
theorem dL_contract_2 : decode cL_contract 2 = .ok (.aload_n 0, 1) := by decide +kernel
theorem dL_contract_3 : decode cL_contract 3 = .ok (.iload_n 1, 1) := by decide +kernel
theorem dL_contract_4 : decode cL_contract 4 = .ok (.invokevirtual 87, 3) := by decide +kernel
theorem dL_contract_7 : decode cL_contract 7 = .ok (.i2l, 1) := by decide +kernel
theorem dL_contract_8 : decode cL_contract 8 = .ok (.lastore, 1) := by decide +kernel
theorem dL_contract_9 : decode cL_contract 9 = .ok (.goto 6, 3) := by decide +kernel
theorem dL_contract_12 : decode cL_contract 12 = .ok (.astore_n 3, 1) := by decide +kernel
theorem dL_contract_13 : decode cL_contract 13 = .ok (.iconst 1, 1) := by decide +kernel
theorem dL_contract_14 : decode cL_contract 14 = .ok (.ireturn, 1) := by decide +kernel
theorem dL_contract_15 : decode cL_contract 15 = .ok (.iconst 0, 1) := by decide +kernel
theorem dL_contract_16 : decode cL_contract 16 = .ok (.ireturn, 1) := by decide +kernel
set_option maxRecDepth 20000 in
theorem ggL_sharpen_X0_sharpen : GoodIn wsL_sharpen wsX0_sharpen := goodIn_ca (goodIn_ca (goodIn_r _ [6, 7, 8, 9, 10, 11, 12, 5, 13, 14, 15, 16, 17, 18, 19, 20, 21, 22, 23, 24, 25, 26, 27, 28, 29, 30, 31, 32, 33, 34, 35, 36, 37, 38, 39, 40, 41, 42, 43, 44, 45, 46, 47, 48, 49, 50, 51, 52, 53, 54, 55, 56, 57, 58, 59, 60, 61, 62, 63, 64, 65, 66, 67, 68, 69, 70, 71, 72, 73, 74, 75, 76, 77, 78, 79, 80, 81, 82, 83, 84, 85, 86, 87, 88, 89, 90, 91, 92, 93, 94, 95, 96, 97, 98, 99, 100, 101, 102, 103, 104, 105, 106, 107, 108, 109, 110, 111, 112, 113] (by decide +kernel) (by decide +kernel)) (goodIn_sub (fun _ h => List.mem_cons_of_mem _ (List.mem_append_right _ h)) (by decide +kernel))) (goodIn_sub (fun _ h => List.mem_cons_of_mem _ (List.mem_append_left _ (List.mem_append_right _ h))) (by decide +kernel))
set_option maxRecDepth 20000 in
theorem gL_sharpen_X0_sharpen : GoodIn wsL_sharpen (wsV RL 90 RX0 yX0_sharpen wsX0_sharpen) := goodIn_app (goodIn_of _ (by decide +kernel)) ggL_sharpen_X0_sharpen
theorem dL_sharpen_0 : decode cL_sharpen 0 = .ok (.aload_n 1, 1) := by decide +kernel
theorem dL_sharpen_1 : decode cL_sharpen 1 = .ok (.iconst 0, 1) := by decide +kernel
theorem dL_sharpen_2 : decode cL_sharpen 2 = .ok (.aload_n 0, 1) := by decide +kernel
theorem dL_sharpen_3 : decode cL_sharpen 3 = .ok (.invokevirtual 90, 3) := by decide +kernel
theorem dL_sharpen_6 : decode cL_sharpen 6 = .ok (.i2l, 1) := by decide +kernel
theorem dL_sharpen_7 : decode cL_sharpen 7 = .ok (.lastore, 1) := by decide +kernel
theorem dL_sharpen_8 : decode cL_sharpen 8 = .ok (.goto 6, 3) := by decide +kernel
theorem dL_sharpen_11 : decode cL_sharpen 11 = .ok (.astore_n 2, 1) := by decide +kernel
theorem dL_sharpen_12 : decode cL_sharpen 12 = .ok (.iconst 1, 1) := by decide +kernel
theorem dL_sharpen_13 : decode cL_sharpen 13 = .ok (.ireturn, 1) := by decide +kernel
theorem dL_sharpen_14 : decode cL_sharpen 14 = .ok (.iconst 0, 1) := by decide +kernel
theorem dL_sharpen_15 : decode cL_sharpen 15 = .ok (.ireturn, 1) := by decide +kernel
set_option maxRecDepth 20000 in
theorem ggL_isCertified_X0_isCertified : GoodIn wsL_isCertified wsX0_isCertified := goodIn_ca (goodIn_ca (goodIn_r _ [6, 7, 8, 9, 10, 11, 12, 13, 14, 5, 15, 16, 17, 18, 19, 20, 21, 22, 23, 24, 25, 26, 27, 28, 29, 30, 31, 32, 33, 34, 35, 36, 37, 38, 39, 40, 41, 42, 43, 44, 45, 46, 47, 48, 49, 50, 51, 52, 53, 54, 55, 56, 57, 58, 59, 60, 61, 62, 63, 64, 65, 66, 67, 68, 69, 70, 71, 72, 73, 74, 75, 76, 77, 78, 79, 80, 81, 82, 83, 84, 85, 86, 87, 88, 89] (by decide +kernel) (by decide +kernel)) (goodIn_sub (fun _ h => List.mem_cons_of_mem _ (List.mem_append_right _ h)) (by decide +kernel))) (goodIn_sub (fun _ h => List.mem_cons_of_mem _ (List.mem_append_left _ (List.mem_append_right _ h))) (by decide +kernel))
set_option maxRecDepth 20000 in
theorem gL_isCertified_X0_isCertified : GoodIn wsL_isCertified (wsV RL 94 RX0 yX0_isCertified wsX0_isCertified) := goodIn_app (goodIn_of _ (by decide +kernel)) ggL_isCertified_X0_isCertified
theorem dL_isCertified_0 : decode cL_isCertified 0 = .ok (.aload_n 1, 1) := by decide +kernel
theorem dL_isCertified_1 : decode cL_isCertified 1 = .ok (.iconst 0, 1) := by decide +kernel
theorem dL_isCertified_2 : decode cL_isCertified 2 = .ok (.aload_n 0, 1) := by decide +kernel
theorem dL_isCertified_3 : decode cL_isCertified 3 = .ok (.invokevirtual 94, 3) := by decide +kernel
theorem dL_isCertified_6 : decode cL_isCertified 6 = .ok (.ifCond .eq 7, 3) := by decide +kernel
theorem dL_isCertified_9 : decode cL_isCertified 9 = .ok (.lconst 1, 1) := by decide +kernel
theorem dL_isCertified_10 : decode cL_isCertified 10 = .ok (.goto 4, 3) := by decide +kernel
theorem dL_isCertified_13 : decode cL_isCertified 13 = .ok (.lconst 0, 1) := by decide +kernel
theorem dL_isCertified_14 : decode cL_isCertified 14 = .ok (.lastore, 1) := by decide +kernel
theorem dL_isCertified_15 : decode cL_isCertified 15 = .ok (.goto 6, 3) := by decide +kernel
theorem dL_isCertified_18 : decode cL_isCertified 18 = .ok (.astore_n 2, 1) := by decide +kernel
theorem dL_isCertified_19 : decode cL_isCertified 19 = .ok (.iconst 1, 1) := by decide +kernel
theorem dL_isCertified_20 : decode cL_isCertified 20 = .ok (.ireturn, 1) := by decide +kernel
theorem dL_isCertified_21 : decode cL_isCertified 21 = .ok (.iconst 0, 1) := by decide +kernel
theorem dL_isCertified_22 : decode cL_isCertified 22 = .ok (.ireturn, 1) := by decide +kernel
set_option maxRecDepth 20000 in
theorem ggL_residualLow_X0_residualLow : GoodIn wsL_residualLow wsX0_residualLow := goodIn_ca (goodIn_ca (goodIn_r _ [6, 7, 8, 9, 10, 11, 12, 13, 5, 14, 15, 16, 17, 18, 19, 20, 21, 22, 23, 24, 25, 26, 27, 28, 29, 30, 31, 32, 33, 34, 35] (by decide +kernel) (by decide +kernel)) (goodIn_sub (fun _ h => List.mem_cons_of_mem _ (List.mem_append_right _ h)) (by decide +kernel))) (goodIn_sub (fun _ h => List.mem_cons_of_mem _ (List.mem_append_left _ (List.mem_append_right _ h))) (by decide +kernel))
set_option maxRecDepth 20000 in
theorem gL_residualLow_X0_residualLow : GoodIn wsL_residualLow (wsV RL 98 RX0 yX0_residualLow wsX0_residualLow) := goodIn_app (goodIn_of _ (by decide +kernel)) ggL_residualLow_X0_residualLow
theorem dL_residualLow_0 : decode cL_residualLow 0 = .ok (.aload_n 2, 1) := by decide +kernel
theorem dL_residualLow_1 : decode cL_residualLow 1 = .ok (.iconst 0, 1) := by decide +kernel
theorem dL_residualLow_2 : decode cL_residualLow 2 = .ok (.aload_n 0, 1) := by decide +kernel
theorem dL_residualLow_3 : decode cL_residualLow 3 = .ok (.iload_n 1, 1) := by decide +kernel
theorem dL_residualLow_4 : decode cL_residualLow 4 = .ok (.invokevirtual 98, 3) := by decide +kernel
theorem dL_residualLow_7 : decode cL_residualLow 7 = .ok (.lastore, 1) := by decide +kernel
theorem dL_residualLow_8 : decode cL_residualLow 8 = .ok (.goto 6, 3) := by decide +kernel
theorem dL_residualLow_11 : decode cL_residualLow 11 = .ok (.astore_n 3, 1) := by decide +kernel
theorem dL_residualLow_12 : decode cL_residualLow 12 = .ok (.iconst 1, 1) := by decide +kernel
theorem dL_residualLow_13 : decode cL_residualLow 13 = .ok (.ireturn, 1) := by decide +kernel
theorem dL_residualLow_14 : decode cL_residualLow 14 = .ok (.iconst 0, 1) := by decide +kernel
theorem dL_residualLow_15 : decode cL_residualLow 15 = .ok (.ireturn, 1) := by decide +kernel
set_option maxRecDepth 20000 in
theorem ggL_residualHigh_X0_residualHigh : GoodIn wsL_residualHigh wsX0_residualHigh := goodIn_ca (goodIn_ca (goodIn_r _ [6, 7, 8, 9, 10, 11, 12, 13, 5, 14, 15, 16, 17, 18, 19, 20, 21, 22, 23, 24, 25, 26, 27, 28, 29, 30, 31, 32, 33, 34, 35] (by decide +kernel) (by decide +kernel)) (goodIn_sub (fun _ h => List.mem_cons_of_mem _ (List.mem_append_right _ h)) (by decide +kernel))) (goodIn_sub (fun _ h => List.mem_cons_of_mem _ (List.mem_append_left _ (List.mem_append_right _ h))) (by decide +kernel))
set_option maxRecDepth 20000 in
theorem gL_residualHigh_X0_residualHigh : GoodIn wsL_residualHigh (wsV RL 101 RX0 yX0_residualHigh wsX0_residualHigh) := goodIn_app (goodIn_of _ (by decide +kernel)) ggL_residualHigh_X0_residualHigh
theorem dL_residualHigh_0 : decode cL_residualHigh 0 = .ok (.aload_n 2, 1) := by decide +kernel
theorem dL_residualHigh_1 : decode cL_residualHigh 1 = .ok (.iconst 0, 1) := by decide +kernel
theorem dL_residualHigh_2 : decode cL_residualHigh 2 = .ok (.aload_n 0, 1) := by decide +kernel
theorem dL_residualHigh_3 : decode cL_residualHigh 3 = .ok (.iload_n 1, 1) := by decide +kernel
theorem dL_residualHigh_4 : decode cL_residualHigh 4 = .ok (.invokevirtual 101, 3) := by decide +kernel
theorem dL_residualHigh_7 : decode cL_residualHigh 7 = .ok (.lastore, 1) := by decide +kernel
theorem dL_residualHigh_8 : decode cL_residualHigh 8 = .ok (.goto 6, 3) := by decide +kernel
theorem dL_residualHigh_11 : decode cL_residualHigh 11 = .ok (.astore_n 3, 1) := by decide +kernel
theorem dL_residualHigh_12 : decode cL_residualHigh 12 = .ok (.iconst 1, 1) := by decide +kernel
theorem dL_residualHigh_13 : decode cL_residualHigh 13 = .ok (.ireturn, 1) := by decide +kernel
theorem dL_residualHigh_14 : decode cL_residualHigh 14 = .ok (.iconst 0, 1) := by decide +kernel
theorem dL_residualHigh_15 : decode cL_residualHigh 15 = .ok (.ireturn, 1) := by decide +kernel
