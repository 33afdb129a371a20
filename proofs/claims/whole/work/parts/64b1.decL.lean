set_option maxRecDepth 20000 in
theorem ggL_law_X1_setRight : GoodIn wsL_law wsX1_setRight := goodIn_ca (goodIn_r _ [139, 73, 42, 43, 111, 112, 113, 5, 114, 39, 74, 75, 76, 77, 656, 657, 658, 659, 660, 661, 662, 663, 664, 665, 666, 667, 668] (by decide +kernel) (by decide +kernel)) (goodIn_sub (fun _ h => List.mem_append_left _ (List.mem_append_left _ (List.mem_append_left _ (List.mem_append_left _ (List.mem_append_right _ h))))) (by decide +kernel))
set_option maxRecDepth 20000 in
theorem gL_law_X1_setRight : GoodIn wsL_law (wsV RL 131 RX1 yX1_setRight wsX1_setRight) := goodIn_app (goodIn_of _ (by decide +kernel)) ggL_law_X1_setRight
set_option maxRecDepth 20000 in
theorem ggL_law_L_rightLow : GoodIn wsL_law wsL_rightLow := goodIn_ca (goodIn_ca (goodIn_r _ [142, 93, 143, 144, 145, 2, 146, 98, 99, 18, 100, 101, 102, 103, 32, 643, 644, 645, 646, 647, 648, 649, 650, 651, 652, 653, 654, 655] (by decide +kernel) (by decide +kernel)) (goodIn_sub (fun _ h => List.mem_append_left _ (List.mem_append_left _ (List.mem_append_left _ (List.mem_append_left _ (List.mem_append_right _ h))))) (by decide +kernel))) (goodIn_sub (fun _ h => List.mem_append_left _ (List.mem_append_left _ (List.mem_append_right _ h))) (by decide +kernel))
set_option maxRecDepth 20000 in
theorem gL_law_L_rightLow : GoodIn wsL_law (va_wsS RL 132 yL_rightLow wsL_rightLow) := goodIn_app (goodIn_of _ (by decide +kernel)) ggL_law_L_rightLow
set_option maxRecDepth 20000 in
theorem ggL_law_X1_rightLow : GoodIn wsL_law wsX1_rightLow := goodIn_ca (goodIn_r _ [150, 73, 42, 111, 112, 113, 5, 114, 39, 74, 75, 76, 77, 656, 657, 658, 659, 660, 661, 662, 663, 664, 665, 666, 667, 668] (by decide +kernel) (by decide +kernel)) (goodIn_sub (fun _ h => List.mem_append_left _ (List.mem_append_left _ (List.mem_append_left _ (List.mem_append_left _ (List.mem_append_right _ h))))) (by decide +kernel))
set_option maxRecDepth 20000 in
theorem gL_law_X1_rightLow : GoodIn wsL_law (wsV RL 134 RX1 yX1_rightLow wsX1_rightLow) := goodIn_app (goodIn_of _ (by decide +kernel)) ggL_law_X1_rightLow
set_option maxRecDepth 20000 in
theorem ggL_law_L_rightHigh : GoodIn wsL_law wsL_rightHigh := goodIn_ca (goodIn_ca (goodIn_r _ [153, 93, 154, 155, 156, 2, 157, 98, 99, 19, 100, 101, 102, 103, 32, 643, 644, 645, 646, 647, 648, 649, 650, 651, 652, 653, 654, 655] (by decide +kernel) (by decide +kernel)) (goodIn_sub (fun _ h => List.mem_append_left _ (List.mem_append_left _ (List.mem_append_left _ (List.mem_append_left _ (List.mem_append_right _ h))))) (by decide +kernel))) (goodIn_sub (fun _ h => List.mem_append_left _ (List.mem_append_left _ (List.mem_append_right _ h))) (by decide +kernel))
set_option maxRecDepth 20000 in
theorem gL_law_L_rightHigh : GoodIn wsL_law (va_wsS RL 135 yL_rightHigh wsL_rightHigh) := goodIn_app (goodIn_of _ (by decide +kernel)) ggL_law_L_rightHigh
set_option maxRecDepth 20000 in
theorem ggL_law_X1_rightHigh : GoodIn wsL_law wsX1_rightHigh := goodIn_ca (goodIn_r _ [161, 73, 43, 111, 112, 113, 5, 114, 39, 74, 75, 76, 77, 656, 657, 658, 659, 660, 661, 662, 663, 664, 665, 666, 667, 668] (by decide +kernel) (by decide +kernel)) (goodIn_sub (fun _ h => List.mem_append_left _ (List.mem_append_left _ (List.mem_append_left _ (List.mem_append_left _ (List.mem_append_right _ h))))) (by decide +kernel))
set_option maxRecDepth 20000 in
theorem gL_law_X1_rightHigh : GoodIn wsL_law (wsV RL 137 RX1 yX1_rightHigh wsX1_rightHigh) := goodIn_app (goodIn_of _ (by decide +kernel)) ggL_law_X1_rightHigh
set_option maxRecDepth 20000 in
theorem ggL_law_L_setSpread : GoodIn wsL_law wsL_setSpread := goodIn_ca (goodIn_ca (goodIn_ca (goodIn_r _ [164, 93, 62, 165, 166, 167, 2, 168, 98, 99, 67, 68, 17, 100, 101, 102, 103, 32, 643, 644, 645, 646, 647, 648, 649, 650, 651, 652, 653, 654, 655] (by decide +kernel) (by decide +kernel)) (goodIn_sub (fun _ h => List.mem_append_left _ (List.mem_append_left _ (List.mem_append_left _ (List.mem_append_left _ (List.mem_append_right _ h))))) (by decide +kernel))) (goodIn_sub (fun _ h => List.mem_append_left _ (List.mem_append_left _ (List.mem_append_right _ h))) (by decide +kernel))) (goodIn_sub (fun _ h => List.mem_append_left _ (List.mem_append_left _ (List.mem_append_left _ (List.mem_append_right _ h)))) (by decide +kernel))
set_option maxRecDepth 20000 in
theorem gL_law_L_setSpread : GoodIn wsL_law (va_wsS RL 138 yL_setSpread wsL_setSpread) := goodIn_app (goodIn_of _ (by decide +kernel)) ggL_law_L_setSpread
set_option maxRecDepth 20000 in
theorem ggL_law_X1_setSpread : GoodIn wsL_law wsX1_setSpread := goodIn_ca (goodIn_r _ [172, 73, 41, 111, 112, 113, 5, 114, 39, 74, 75, 76, 77, 55, 56, 57, 656, 657, 658, 659, 660, 661, 662, 663, 664, 665, 666, 667, 668] (by decide +kernel) (by decide +kernel)) (goodIn_sub (fun _ h => List.mem_append_left _ (List.mem_append_left _ (List.mem_append_left _ (List.mem_append_left _ (List.mem_append_right _ h))))) (by decide +kernel))
set_option maxRecDepth 20000 in
theorem gL_law_X1_setSpread : GoodIn wsL_law (wsV RL 140 RX1 yX1_setSpread wsX1_setSpread) := goodIn_app (goodIn_of _ (by decide +kernel)) ggL_law_X1_setSpread
set_option maxRecDepth 20000 in
theorem ggL_law_L_swapRows : GoodIn wsL_law wsL_swapRows := goodIn_ca (goodIn_ca (goodIn_r _ [175, 93, 176, 177, 178, 2, 179, 98, 99, 32, 16, 17, 18, 19, 100, 101, 102, 103, 180, 181, 182, 643, 644, 645, 646, 647, 648, 649, 650, 651, 652, 653, 654, 655] (by decide +kernel) (by decide +kernel)) (goodIn_sub (fun _ h => List.mem_append_left _ (List.mem_append_left _ (List.mem_append_left _ (List.mem_append_left _ (List.mem_append_right _ h))))) (by decide +kernel))) (goodIn_sub (fun _ h => List.mem_append_left _ (List.mem_append_left _ (List.mem_append_right _ h))) (by decide +kernel))
set_option maxRecDepth 20000 in
theorem gL_law_L_swapRows : GoodIn wsL_law (va_wsS RL 141 yL_swapRows wsL_swapRows) := goodIn_app (goodIn_of _ (by decide +kernel)) ggL_law_L_swapRows
set_option maxRecDepth 20000 in
theorem ggL_law_X1_swapRows : GoodIn wsL_law wsX1_swapRows := goodIn_ca (goodIn_r _ [186, 73, 39, 40, 41, 42, 43, 111, 112, 113, 5, 114, 74, 75, 76, 77, 55, 56, 57, 187, 188, 189, 656, 657, 658, 659, 660, 661, 662, 663, 664, 665, 666, 667, 668] (by decide +kernel) (by decide +kernel)) (goodIn_sub (fun _ h => List.mem_append_left _ (List.mem_append_left _ (List.mem_append_left _ (List.mem_append_left _ (List.mem_append_right _ h))))) (by decide +kernel))
set_option maxRecDepth 20000 in
theorem gL_law_X1_swapRows : GoodIn wsL_law (wsV RL 143 RX1 yX1_swapRows wsX1_swapRows) := goodIn_app (goodIn_of _ (by decide +kernel)) ggL_law_X1_swapRows
set_option maxRecDepth 20000 in
theorem ggL_law_L_addRow : GoodIn wsL_law wsL_addRow := goodIn_ca (goodIn_ca (goodIn_ca (goodIn_ca (goodIn_r _ [192, 93, 62, 193, 194, 195, 196, 2, 197, 98, 99, 67, 68, 198, 199, 18, 19, 100, 101, 102, 103, 32, 104, 105, 106, 200, 201, 202, 203, 204, 205, 133, 134, 135, 206, 207, 208, 209, 16, 210, 211, 212, 213, 643, 644, 645, 646, 647, 648, 649, 650, 651, 652, 653, 654, 655] (by decide +kernel) (by decide +kernel)) (goodIn_sub (fun _ h => List.mem_append_left _ (List.mem_append_left _ (List.mem_append_left _ (List.mem_append_left _ (List.mem_append_right _ h))))) (by decide +kernel))) (goodIn_sub (fun _ h => List.mem_append_left _ (List.mem_append_left _ (List.mem_append_right _ h))) (by decide +kernel))) (goodIn_sub (fun _ h => List.mem_append_left _ (List.mem_append_left _ (List.mem_append_left _ (List.mem_append_right _ h)))) (by decide +kernel))) (goodIn_sub (fun _ h => List.mem_append_left _ (List.mem_append_right _ h)) (by decide +kernel))
set_option maxRecDepth 20000 in
theorem gL_law_L_addRow : GoodIn wsL_law (va_wsS RL 144 yL_addRow wsL_addRow) := goodIn_app (goodIn_of _ (by decide +kernel)) ggL_law_L_addRow
set_option maxRecDepth 20000 in
theorem ggL_law_X1_addRow : GoodIn wsL_law wsX1_addRow := goodIn_ca (goodIn_r _ [217, 73, 42, 43, 218, 219, 220, 221, 222, 223, 224, 39, 40, 225, 226, 227, 111, 112, 113, 5, 114, 74, 75, 76, 77, 55, 56, 57, 656, 657, 658, 659, 660, 661, 662, 663, 664, 665, 666, 667, 668] (by decide +kernel) (by decide +kernel)) (goodIn_sub (fun _ h => List.mem_append_left _ (List.mem_append_left _ (List.mem_append_left _ (List.mem_append_left _ (List.mem_append_right _ h))))) (by decide +kernel))
set_option maxRecDepth 20000 in
theorem gL_law_X1_addRow : GoodIn wsL_law (wsV RL 146 RX1 yX1_addRow wsX1_addRow) := goodIn_app (goodIn_of _ (by decide +kernel)) ggL_law_X1_addRow
set_option maxRecDepth 20000 in
theorem ggL_law_X0_determinant : GoodIn wsL_law wsX0_determinant := goodIn_ca (goodIn_r _ [231, 32, 24, 232, 233, 234, 2, 235, 236, 237, 238, 239, 240, 241, 242, 243, 244, 245, 246, 247, 248, 249, 250, 16, 643, 644, 645, 646, 647, 648, 649, 650, 651, 652, 653, 654, 655] (by decide +kernel) (by decide +kernel)) (goodIn_sub (fun _ h => List.mem_append_left _ (List.mem_append_left _ (List.mem_append_left _ (List.mem_append_left _ (List.mem_append_right _ h))))) (by decide +kernel))
set_option maxRecDepth 20000 in
theorem gL_law_X0_determinant : GoodIn wsL_law (wsV RL 147 RX0 yX0_determinant wsX0_determinant) := goodIn_app (goodIn_of _ (by decide +kernel)) ggL_law_X0_determinant
