set_option maxRecDepth 20000 in
theorem ggL_law_X0_init : GoodIn wsL_law wsX0_init := goodIn_r _ [11, 12, 13, 14, 15, 3, 16, 17, 18, 19, 20, 21, 22, 23, 24, 25, 26, 27, 28, 29, 30, 31, 2, 32, 33, 34, 35, 254, 255, 256, 257, 258, 259, 260, 261, 262, 263, 264, 265, 266] (by decide +kernel) (by decide +kernel)
set_option maxRecDepth 20000 in
theorem gL_law_X0_init : GoodIn wsL_law (wsX0_init) := ggL_law_X0_init
set_option maxRecDepth 20000 in
theorem ggL_law_L_build : GoodIn wsL_law wsL_build := goodIn_ca (goodIn_ca (goodIn_r _ [39, 40, 41, 42, 2, 43, 44, 45, 29, 30, 31, 32, 33, 16, 17, 18, 19, 20, 34, 21, 35, 46, 47, 38, 48, 49, 50, 51, 52, 53, 54, 55, 56, 57, 58, 59, 60, 61, 62, 63, 64, 65, 66, 67, 68, 69, 70, 71, 72, 73, 74, 75, 76, 77, 254, 255, 256, 257, 258, 259, 260, 261, 262, 263, 264, 265, 266] (by decide +kernel) (by decide +kernel)) (goodIn_sub (fun _ h => List.mem_append_left _ (List.mem_append_left _ (List.mem_append_right _ h))) (by decide +kernel))) (goodIn_sub (fun _ h => List.mem_append_left _ (List.mem_append_right _ h)) (by decide +kernel))
set_option maxRecDepth 20000 in
theorem gL_law_L_build : GoodIn wsL_law (va_wsS RL 38 yL_build wsL_build) := goodIn_app (goodIn_of _ (by decide +kernel)) ggL_law_L_build
set_option maxRecDepth 20000 in
theorem ggL_law_L_cell : GoodIn wsL_law wsL_cell := goodIn_r _ [48, 49] (by decide +kernel) (by decide +kernel)
set_option maxRecDepth 20000 in
theorem gL_law_L_cell : GoodIn wsL_law (va_wsS RL 15 yL_cell wsL_cell) := goodIn_app (goodIn_of _ (by decide +kernel)) ggL_law_L_cell
set_option maxRecDepth 20000 in
theorem ggL_law_L_below : GoodIn wsL_law wsL_below := goodIn_r _ [52, 53] (by decide +kernel) (by decide +kernel)
set_option maxRecDepth 20000 in
theorem gL_law_L_below : GoodIn wsL_law (va_wsS RL 21 yL_below wsL_below) := goodIn_app (goodIn_of _ (by decide +kernel)) ggL_law_L_below
set_option maxRecDepth 20000 in
theorem ggL_law_X0_setBox : GoodIn wsL_law wsX0_setBox := goodIn_ca (goodIn_ca (goodIn_r _ [81, 58, 59, 44, 45, 35, 20, 21, 60, 61, 62, 2, 63, 33, 71, 72, 73, 64, 65, 66, 254, 255, 256, 257, 258, 259, 260, 261, 262, 263, 264, 265, 266] (by decide +kernel) (by decide +kernel)) (goodIn_sub (fun _ h => List.mem_append_left _ (List.mem_append_right _ h)) (by decide +kernel))) (goodIn_sub (fun _ h => List.mem_append_left _ (List.mem_append_left _ (List.mem_append_right _ h))) (by decide +kernel))
set_option maxRecDepth 20000 in
theorem gL_law_X0_setBox : GoodIn wsL_law (wsV RL 43 RX0 yX0_setBox wsX0_setBox) := goodIn_app (goodIn_of _ (by decide +kernel)) ggL_law_X0_setBox
set_option maxRecDepth 20000 in
theorem ggL_law_X0_sweep : GoodIn wsL_law wsX0_sweep := goodIn_r _ [85, 33, 16, 86, 87, 88, 2, 89, 20, 22, 90, 91, 92, 93, 21, 23, 94, 95, 96, 97, 98, 18, 19, 99, 100, 101, 102, 103, 104, 105, 106, 107, 108, 109, 110, 111, 112, 113, 114, 7, 115, 116, 117, 118, 119, 120, 121, 122, 254, 255, 256, 257, 258, 259, 260, 261, 262, 263, 264, 265, 266] (by decide +kernel) (by decide +kernel)
set_option maxRecDepth 20000 in
theorem gL_law_X0_sweep : GoodIn wsL_law (wsV RL 46 RX0 yX0_sweep wsX0_sweep) := goodIn_app (goodIn_of _ (by decide +kernel)) ggL_law_X0_sweep
set_option maxRecDepth 20000 in
theorem ggL_law_X0_determinant : GoodIn wsL_law wsX0_determinant := goodIn_r _ [126, 33, 25, 127, 128, 129, 2, 130, 131, 132, 133, 134, 135, 136, 137, 138, 139, 140, 141, 142, 143, 144, 145, 16, 254, 255, 256, 257, 258, 259, 260, 261, 262, 263, 264, 265, 266] (by decide +kernel) (by decide +kernel)
set_option maxRecDepth 20000 in
theorem gL_law_X0_determinant : GoodIn wsL_law (wsV RL 49 RX0 yX0_determinant wsX0_determinant) := goodIn_app (goodIn_of _ (by decide +kernel)) ggL_law_X0_determinant
set_option maxRecDepth 20000 in
theorem ggL_law_X0_sharpen : GoodIn wsL_law wsX0_sharpen := goodIn_ca (goodIn_r _ [149, 150, 151, 33, 152, 153, 154, 2, 155, 156, 157, 7, 158, 159, 160, 28, 25, 161, 124, 125, 126, 127, 128, 129, 130, 131, 132, 133, 134, 135, 136, 137, 138, 139, 140, 141, 142, 143, 144, 145, 16, 86, 87, 88, 89, 20, 22, 90, 91, 92, 93, 21, 23, 162, 163, 164, 165, 98, 166, 167, 168, 169, 19, 18, 99, 100, 101, 102, 103, 104, 105, 170, 171, 172, 173, 174, 175, 176, 177, 106, 107, 108, 109, 110, 111, 112, 113, 114, 115, 116, 117, 118, 119, 120, 121, 122, 254, 255, 256, 257, 258, 259, 260, 261, 262, 263, 264, 265, 266] (by decide +kernel) (by decide +kernel)) (goodIn_sub (fun _ h => List.mem_append_right _ h) (by decide +kernel))
set_option maxRecDepth 20000 in
theorem gL_law_X0_sharpen : GoodIn wsL_law (wsV RL 53 RX0 yX0_sharpen wsX0_sharpen) := goodIn_app (goodIn_of _ (by decide +kernel)) ggL_law_X0_sharpen
set_option maxRecDepth 20000 in
theorem ggL_law_X0_contract : GoodIn wsL_law wsX0_contract := goodIn_ca (goodIn_r _ [181, 44, 45, 182, 83, 84, 2, 85, 33, 16, 86, 87, 88, 89, 20, 22, 90, 91, 92, 93, 21, 23, 94, 95, 96, 97, 98, 18, 19, 99, 100, 101, 102, 103, 104, 105, 106, 107, 108, 109, 110, 111, 112, 113, 114, 7, 115, 116, 117, 118, 119, 120, 121, 122, 254, 255, 256, 257, 258, 259, 260, 261, 262, 263, 264, 265, 266] (by decide +kernel) (by decide +kernel)) (goodIn_sub (fun _ h => List.mem_append_left _ (List.mem_append_left _ (List.mem_append_right _ h))) (by decide +kernel))
set_option maxRecDepth 20000 in
theorem gL_law_X0_contract : GoodIn wsL_law (wsV RL 56 RX0 yX0_contract wsX0_contract) := goodIn_app (goodIn_of _ (by decide +kernel)) ggL_law_X0_contract
set_option maxRecDepth 20000 in
theorem ggL_law_X0_swapRows : GoodIn wsL_law wsX0_swapRows := goodIn_ca (goodIn_r _ [186, 58, 59, 33, 16, 17, 18, 19, 60, 61, 62, 2, 63, 187, 188, 189, 254, 255, 256, 257, 258, 259, 260, 261, 262, 263, 264, 265, 266] (by decide +kernel) (by decide +kernel)) (goodIn_sub (fun _ h => List.mem_append_left _ (List.mem_append_right _ h)) (by decide +kernel))
set_option maxRecDepth 20000 in
theorem gL_law_X0_swapRows : GoodIn wsL_law (wsV RL 59 RX0 yX0_swapRows wsX0_swapRows) := goodIn_app (goodIn_of _ (by decide +kernel)) ggL_law_X0_swapRows
set_option maxRecDepth 20000 in
theorem ggL_law_X0_rightLow : GoodIn wsL_law wsX0_rightLow := goodIn_ca (goodIn_r _ [193, 58, 59, 18, 60, 61, 62, 2, 63, 33, 254, 255, 256, 257, 258, 259, 260, 261, 262, 263, 264, 265, 266] (by decide +kernel) (by decide +kernel)) (goodIn_sub (fun _ h => List.mem_append_left _ (List.mem_append_right _ h)) (by decide +kernel))
set_option maxRecDepth 20000 in
theorem gL_law_X0_rightLow : GoodIn wsL_law (wsV RL 63 RX0 yX0_rightLow wsX0_rightLow) := goodIn_app (goodIn_of _ (by decide +kernel)) ggL_law_X0_rightLow
set_option maxRecDepth 20000 in
theorem ggL_law_X0_rightHigh : GoodIn wsL_law wsX0_rightHigh := goodIn_ca (goodIn_r _ [197, 58, 59, 19, 60, 61, 62, 2, 63, 33, 254, 255, 256, 257, 258, 259, 260, 261, 262, 263, 264, 265, 266] (by decide +kernel) (by decide +kernel)) (goodIn_sub (fun _ h => List.mem_append_left _ (List.mem_append_right _ h)) (by decide +kernel))
set_option maxRecDepth 20000 in
theorem gL_law_X0_rightHigh : GoodIn wsL_law (wsV RL 71 RX0 yX0_rightHigh wsX0_rightHigh) := goodIn_app (goodIn_of _ (by decide +kernel)) ggL_law_X0_rightHigh
set_option maxRecDepth 20000 in
theorem ggL_law_X0_coefficient : GoodIn wsL_law wsX0_coefficient := goodIn_ca (goodIn_r _ [201, 58, 59, 16, 60, 61, 62, 2, 63, 33, 254, 255, 256, 257, 258, 259, 260, 261, 262, 263, 264, 265, 266] (by decide +kernel) (by decide +kernel)) (goodIn_sub (fun _ h => List.mem_append_left _ (List.mem_append_right _ h)) (by decide +kernel))
set_option maxRecDepth 20000 in
theorem gL_law_X0_coefficient : GoodIn wsL_law (wsV RL 74 RX0 yX0_coefficient wsX0_coefficient) := goodIn_app (goodIn_of _ (by decide +kernel)) ggL_law_X0_coefficient
set_option maxRecDepth 20000 in
theorem ggL_law_X0_addRow : GoodIn wsL_law wsX0_addRow := goodIn_ca (goodIn_ca (goodIn_ca (goodIn_r _ [205, 58, 59, 44, 45, 150, 151, 18, 19, 60, 61, 62, 2, 63, 33, 64, 65, 66, 206, 207, 208, 209, 210, 211, 71, 72, 73, 212, 213, 214, 215, 16, 216, 217, 218, 219, 254, 255, 256, 257, 258, 259, 260, 261, 262, 263, 264, 265, 266] (by decide +kernel) (by decide +kernel)) (goodIn_sub (fun _ h => List.mem_append_left _ (List.mem_append_right _ h)) (by decide +kernel))) (goodIn_sub (fun _ h => List.mem_append_left _ (List.mem_append_left _ (List.mem_append_right _ h))) (by decide +kernel))) (goodIn_sub (fun _ h => List.mem_append_right _ h) (by decide +kernel))
set_option maxRecDepth 20000 in
theorem gL_law_X0_addRow : GoodIn wsL_law (wsV RL 77 RX0 yX0_addRow wsX0_addRow) := goodIn_app (goodIn_of _ (by decide +kernel)) ggL_law_X0_addRow
set_option maxRecDepth 20000 in
theorem ggL_law_X0_isSolution : GoodIn wsL_law wsX0_isSolution := goodIn_r _ [223, 26, 33, 16, 18, 19, 254, 255, 256, 257, 258, 259, 260, 261, 262, 263, 264, 265, 266] (by decide +kernel) (by decide +kernel)
set_option maxRecDepth 20000 in
theorem gL_law_X0_isSolution : GoodIn wsL_law (wsV RL 80 RX0 yX0_isSolution wsX0_isSolution) := goodIn_app (goodIn_of _ (by decide +kernel)) ggL_law_X0_isSolution
set_option maxRecDepth 20000 in
theorem ggL_law_X0_boxLow : GoodIn wsL_law wsX0_boxLow := goodIn_ca (goodIn_r _ [227, 58, 59, 20, 60, 61, 62, 2, 63, 33, 254, 255, 256, 257, 258, 259, 260, 261, 262, 263, 264, 265, 266] (by decide +kernel) (by decide +kernel)) (goodIn_sub (fun _ h => List.mem_append_left _ (List.mem_append_right _ h)) (by decide +kernel))
set_option maxRecDepth 20000 in
theorem gL_law_X0_boxLow : GoodIn wsL_law (wsV RL 84 RX0 yX0_boxLow wsX0_boxLow) := goodIn_app (goodIn_of _ (by decide +kernel)) ggL_law_X0_boxLow
set_option maxRecDepth 20000 in
theorem ggL_law_X0_boxHigh : GoodIn wsL_law wsX0_boxHigh := goodIn_ca (goodIn_r _ [231, 58, 59, 21, 60, 61, 62, 2, 63, 33, 254, 255, 256, 257, 258, 259, 260, 261, 262, 263, 264, 265, 266] (by decide +kernel) (by decide +kernel)) (goodIn_sub (fun _ h => List.mem_append_left _ (List.mem_append_right _ h)) (by decide +kernel))
set_option maxRecDepth 20000 in
theorem gL_law_X0_boxHigh : GoodIn wsL_law (wsV RL 87 RX0 yX0_boxHigh wsX0_boxHigh) := goodIn_app (goodIn_of _ (by decide +kernel)) ggL_law_X0_boxHigh
set_option maxRecDepth 20000 in
theorem ggL_law_X0_lowNumerator : GoodIn wsL_law wsX0_lowNumerator := goodIn_ca (goodIn_ca (goodIn_r _ [235, 58, 59, 150, 151, 159, 60, 61, 62, 2, 63, 33, 152, 153, 154, 155, 156, 157, 7, 158, 160, 28, 25, 161, 124, 125, 126, 127, 128, 129, 130, 131, 132, 133, 134, 135, 136, 137, 138, 139, 140, 141, 142, 143, 144, 145, 16, 166, 167, 168, 169, 19, 18, 236, 237, 238, 239, 240, 241, 254, 255, 256, 257, 258, 259, 260, 261, 262, 263, 264, 265, 266] (by decide +kernel) (by decide +kernel)) (goodIn_sub (fun _ h => List.mem_append_left _ (List.mem_append_right _ h)) (by decide +kernel))) (goodIn_sub (fun _ h => List.mem_append_right _ h) (by decide +kernel))
set_option maxRecDepth 20000 in
theorem gL_law_X0_lowNumerator : GoodIn wsL_law (wsV RL 90 RX0 yX0_lowNumerator wsX0_lowNumerator) := goodIn_app (goodIn_of _ (by decide +kernel)) ggL_law_X0_lowNumerator
set_option maxRecDepth 20000 in
theorem ggL_law_X0_lowDenominator : GoodIn wsL_law wsX0_lowDenominator := goodIn_ca (goodIn_ca (goodIn_r _ [245, 58, 59, 150, 151, 159, 60, 61, 62, 2, 63, 33, 152, 153, 154, 155, 156, 157, 7, 158, 160, 28, 25, 161, 124, 125, 126, 127, 128, 129, 130, 131, 132, 133, 134, 135, 136, 137, 138, 139, 140, 141, 142, 143, 144, 145, 16, 166, 167, 168, 169, 19, 18, 236, 237, 238, 239, 240, 241, 254, 255, 256, 257, 258, 259, 260, 261, 262, 263, 264, 265, 266] (by decide +kernel) (by decide +kernel)) (goodIn_sub (fun _ h => List.mem_append_left _ (List.mem_append_right _ h)) (by decide +kernel))) (goodIn_sub (fun _ h => List.mem_append_right _ h) (by decide +kernel))
set_option maxRecDepth 20000 in
theorem gL_law_X0_lowDenominator : GoodIn wsL_law (wsV RL 94 RX0 yX0_lowDenominator wsX0_lowDenominator) := goodIn_app (goodIn_of _ (by decide +kernel)) ggL_law_X0_lowDenominator
set_option maxRecDepth 20000 in
theorem ggL_law_X0_highNumerator : GoodIn wsL_law wsX0_highNumerator := goodIn_ca (goodIn_ca (goodIn_r _ [249, 58, 59, 150, 151, 159, 60, 61, 62, 2, 63, 33, 152, 153, 154, 155, 156, 157, 7, 158, 160, 28, 25, 161, 124, 125, 126, 127, 128, 129, 130, 131, 132, 133, 134, 135, 136, 137, 138, 139, 140, 141, 142, 143, 144, 145, 16, 174, 175, 176, 177, 18, 19, 236, 237, 238, 239, 240, 241, 254, 255, 256, 257, 258, 259, 260, 261, 262, 263, 264, 265, 266] (by decide +kernel) (by decide +kernel)) (goodIn_sub (fun _ h => List.mem_append_left _ (List.mem_append_right _ h)) (by decide +kernel))) (goodIn_sub (fun _ h => List.mem_append_right _ h) (by decide +kernel))
set_option maxRecDepth 20000 in
theorem gL_law_X0_highNumerator : GoodIn wsL_law (wsV RL 97 RX0 yX0_highNumerator wsX0_highNumerator) := goodIn_app (goodIn_of _ (by decide +kernel)) ggL_law_X0_highNumerator
set_option maxRecDepth 20000 in
theorem ggL_law_X0_highDenominator : GoodIn wsL_law wsX0_highDenominator := goodIn_ca (goodIn_ca (goodIn_r _ [253, 58, 59, 150, 151, 159, 60, 61, 62, 2, 63, 33, 152, 153, 154, 155, 156, 157, 7, 158, 160, 28, 25, 161, 124, 125, 126, 127, 128, 129, 130, 131, 132, 133, 134, 135, 136, 137, 138, 139, 140, 141, 142, 143, 144, 145, 16, 174, 175, 176, 177, 18, 19, 236, 237, 238, 239, 240, 241, 254, 255, 256, 257, 258, 259, 260, 261, 262, 263, 264, 265, 266] (by decide +kernel) (by decide +kernel)) (goodIn_sub (fun _ h => List.mem_append_left _ (List.mem_append_right _ h)) (by decide +kernel))) (goodIn_sub (fun _ h => List.mem_append_right _ h) (by decide +kernel))
set_option maxRecDepth 20000 in
theorem gL_law_X0_highDenominator : GoodIn wsL_law (wsV RL 100 RX0 yX0_highDenominator wsX0_highDenominator) := goodIn_app (goodIn_of _ (by decide +kernel)) ggL_law_X0_highDenominator
