set_option maxRecDepth 20000 in
theorem ggL_law_X0_init : GoodIn wsL_law wsX0_init := goodIn_ca (goodIn_r _ [10, 11, 12, 13, 14, 15, 16, 17, 18, 19, 20, 21, 22, 23, 6, 24, 25, 26, 27, 28, 29, 30, 2, 31, 32, 33, 34, 643, 644, 645, 646, 647, 648, 649, 650, 651, 652, 653, 654, 655] (by decide +kernel) (by decide +kernel)) (goodIn_sub (fun _ h => List.mem_append_left _ (List.mem_append_left _ (List.mem_append_left _ (List.mem_append_left _ (List.mem_append_right _ h))))) (by decide +kernel))
set_option maxRecDepth 20000 in
theorem gL_law_X0_init : GoodIn wsL_law (wsX0_init) := ggL_law_X0_init
set_option maxRecDepth 20000 in
theorem ggL_law_X1_init : GoodIn wsL_law wsX1_init := goodIn_ca (goodIn_r _ [37, 38, 12, 13, 39, 15, 40, 41, 42, 43, 44, 45, 46, 47, 6, 48, 49, 50, 51, 5, 52, 53, 54, 55, 56, 57, 656, 657, 658, 659, 660, 661, 662, 663, 664, 665, 666, 667, 668] (by decide +kernel) (by decide +kernel)) (goodIn_sub (fun _ h => List.mem_append_left _ (List.mem_append_left _ (List.mem_append_left _ (List.mem_append_left _ (List.mem_append_right _ h))))) (by decide +kernel))
set_option maxRecDepth 20000 in
theorem gL_law_X1_init : GoodIn wsL_law (wsX1_init) := ggL_law_X1_init
set_option maxRecDepth 20000 in
theorem ggL_law_L_setSize : GoodIn wsL_law wsL_setSize := goodIn_ca (goodIn_ca (goodIn_r _ [61, 62, 63, 64, 65, 2, 66, 67, 68, 28, 29, 30, 31, 32, 16, 17, 18, 19, 20, 33, 21, 34, 643, 644, 645, 646, 647, 648, 649, 650, 651, 652, 653, 654, 655] (by decide +kernel) (by decide +kernel)) (goodIn_sub (fun _ h => List.mem_append_left _ (List.mem_append_left _ (List.mem_append_left _ (List.mem_append_left _ (List.mem_append_right _ h))))) (by decide +kernel))) (goodIn_sub (fun _ h => List.mem_append_left _ (List.mem_append_left _ (List.mem_append_left _ (List.mem_append_right _ h)))) (by decide +kernel))
set_option maxRecDepth 20000 in
theorem gL_law_L_setSize : GoodIn wsL_law (va_wsS RL 108 yL_setSize wsL_setSize) := goodIn_app (goodIn_of _ (by decide +kernel)) ggL_law_L_setSize
set_option maxRecDepth 20000 in
theorem ggL_law_X1_setSize : GoodIn wsL_law wsX1_setSize := goodIn_ca (goodIn_r _ [72, 73, 39, 74, 75, 76, 5, 77, 49, 50, 51, 52, 40, 41, 42, 43, 44, 53, 45, 54, 55, 56, 57, 656, 657, 658, 659, 660, 661, 662, 663, 664, 665, 666, 667, 668] (by decide +kernel) (by decide +kernel)) (goodIn_sub (fun _ h => List.mem_append_left _ (List.mem_append_left _ (List.mem_append_left _ (List.mem_append_left _ (List.mem_append_right _ h))))) (by decide +kernel))
set_option maxRecDepth 20000 in
theorem gL_law_X1_setSize : GoodIn wsL_law (wsV RL 113 RX1 yX1_setSize wsX1_setSize) := goodIn_app (goodIn_of _ (by decide +kernel)) ggL_law_X1_setSize
set_option maxRecDepth 20000 in
theorem ggL_law_X1_thrown : GoodIn wsL_law wsX1_thrown := goodIn_r _ [81, 73, 656, 657, 658, 659, 660, 661, 662, 663, 664, 665, 666, 667, 668] (by decide +kernel) (by decide +kernel)
set_option maxRecDepth 20000 in
theorem gL_law_X1_thrown : GoodIn wsL_law (wsV RL 114 RX1 yX1_thrown wsX1_thrown) := goodIn_app (goodIn_of _ (by decide +kernel)) ggL_law_X1_thrown
set_option maxRecDepth 20000 in
theorem ggL_law_X0_size : GoodIn wsL_law wsX0_size := goodIn_r _ [85, 32, 643, 644, 645, 646, 647, 648, 649, 650, 651, 652, 653, 654, 655] (by decide +kernel) (by decide +kernel)
set_option maxRecDepth 20000 in
theorem gL_law_X0_size : GoodIn wsL_law (wsV RL 117 RX0 yX0_size wsX0_size) := goodIn_app (goodIn_of _ (by decide +kernel)) ggL_law_X0_size
set_option maxRecDepth 20000 in
theorem ggL_law_X1_size : GoodIn wsL_law wsX1_size := goodIn_r _ [89, 73, 39, 656, 657, 658, 659, 660, 661, 662, 663, 664, 665, 666, 667, 668] (by decide +kernel) (by decide +kernel)
set_option maxRecDepth 20000 in
theorem gL_law_X1_size : GoodIn wsL_law (wsV RL 120 RX1 yX1_size wsX1_size) := goodIn_app (goodIn_of _ (by decide +kernel)) ggL_law_X1_size
set_option maxRecDepth 20000 in
theorem ggL_law_L_setCoefficient : GoodIn wsL_law wsL_setCoefficient := goodIn_ca (goodIn_ca (goodIn_ca (goodIn_r _ [92, 93, 62, 94, 95, 96, 2, 97, 98, 99, 67, 68, 16, 100, 101, 102, 103, 32, 104, 105, 106, 643, 644, 645, 646, 647, 648, 649, 650, 651, 652, 653, 654, 655] (by decide +kernel) (by decide +kernel)) (goodIn_sub (fun _ h => List.mem_append_left _ (List.mem_append_left _ (List.mem_append_left _ (List.mem_append_left _ (List.mem_append_right _ h))))) (by decide +kernel))) (goodIn_sub (fun _ h => List.mem_append_left _ (List.mem_append_left _ (List.mem_append_right _ h))) (by decide +kernel))) (goodIn_sub (fun _ h => List.mem_append_left _ (List.mem_append_left _ (List.mem_append_left _ (List.mem_append_right _ h)))) (by decide +kernel))
set_option maxRecDepth 20000 in
theorem gL_law_L_setCoefficient : GoodIn wsL_law (va_wsS RL 121 yL_setCoefficient wsL_setCoefficient) := goodIn_app (goodIn_of _ (by decide +kernel)) ggL_law_L_setCoefficient
set_option maxRecDepth 20000 in
theorem ggL_law_X1_setCoefficient : GoodIn wsL_law wsX1_setCoefficient := goodIn_ca (goodIn_r _ [110, 73, 40, 111, 112, 113, 5, 114, 39, 74, 75, 76, 77, 55, 56, 57, 656, 657, 658, 659, 660, 661, 662, 663, 664, 665, 666, 667, 668] (by decide +kernel) (by decide +kernel)) (goodIn_sub (fun _ h => List.mem_append_left _ (List.mem_append_left _ (List.mem_append_left _ (List.mem_append_left _ (List.mem_append_right _ h))))) (by decide +kernel))
set_option maxRecDepth 20000 in
theorem gL_law_X1_setCoefficient : GoodIn wsL_law (wsV RL 124 RX1 yX1_setCoefficient wsX1_setCoefficient) := goodIn_app (goodIn_of _ (by decide +kernel)) ggL_law_X1_setCoefficient
set_option maxRecDepth 20000 in
theorem ggL_law_L_coefficient : GoodIn wsL_law wsL_coefficient := goodIn_ca (goodIn_ca (goodIn_r _ [117, 93, 118, 119, 120, 2, 121, 98, 99, 16, 100, 101, 102, 103, 32, 643, 644, 645, 646, 647, 648, 649, 650, 651, 652, 653, 654, 655] (by decide +kernel) (by decide +kernel)) (goodIn_sub (fun _ h => List.mem_append_left _ (List.mem_append_left _ (List.mem_append_left _ (List.mem_append_left _ (List.mem_append_right _ h))))) (by decide +kernel))) (goodIn_sub (fun _ h => List.mem_append_left _ (List.mem_append_left _ (List.mem_append_right _ h))) (by decide +kernel))
set_option maxRecDepth 20000 in
theorem gL_law_L_coefficient : GoodIn wsL_law (va_wsS RL 125 yL_coefficient wsL_coefficient) := goodIn_app (goodIn_of _ (by decide +kernel)) ggL_law_L_coefficient
set_option maxRecDepth 20000 in
theorem ggL_law_X1_coefficient : GoodIn wsL_law wsX1_coefficient := goodIn_ca (goodIn_r _ [125, 73, 40, 111, 112, 113, 5, 114, 39, 55, 56, 57, 74, 75, 76, 77, 656, 657, 658, 659, 660, 661, 662, 663, 664, 665, 666, 667, 668] (by decide +kernel) (by decide +kernel)) (goodIn_sub (fun _ h => List.mem_append_left _ (List.mem_append_left _ (List.mem_append_left _ (List.mem_append_left _ (List.mem_append_right _ h))))) (by decide +kernel))
set_option maxRecDepth 20000 in
theorem gL_law_X1_coefficient : GoodIn wsL_law (wsV RL 128 RX1 yX1_coefficient wsX1_coefficient) := goodIn_app (goodIn_of _ (by decide +kernel)) ggL_law_X1_coefficient
set_option maxRecDepth 20000 in
theorem ggL_law_L_setRight : GoodIn wsL_law wsL_setRight := goodIn_ca (goodIn_ca (goodIn_ca (goodIn_r _ [128, 93, 62, 129, 130, 131, 2, 132, 98, 99, 67, 68, 18, 19, 100, 101, 102, 103, 32, 133, 134, 135, 104, 105, 106, 643, 644, 645, 646, 647, 648, 649, 650, 651, 652, 653, 654, 655] (by decide +kernel) (by decide +kernel)) (goodIn_sub (fun _ h => List.mem_append_left _ (List.mem_append_left _ (List.mem_append_left _ (List.mem_append_left _ (List.mem_append_right _ h))))) (by decide +kernel))) (goodIn_sub (fun _ h => List.mem_append_left _ (List.mem_append_left _ (List.mem_append_right _ h))) (by decide +kernel))) (goodIn_sub (fun _ h => List.mem_append_left _ (List.mem_append_left _ (List.mem_append_left _ (List.mem_append_right _ h)))) (by decide +kernel))
set_option maxRecDepth 20000 in
theorem gL_law_L_setRight : GoodIn wsL_law (va_wsS RL 129 yL_setRight wsL_setRight) := goodIn_app (goodIn_of _ (by decide +kernel)) ggL_law_L_setRight
