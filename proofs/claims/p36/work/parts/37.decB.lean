theorem dL_below_0 : decode cL_below 0 = .ok (.iload_n 0, 1) := by decide +kernel
theorem dL_below_1 : decode cL_below 1 = .ok (.ldc 7, 2) := by decide +kernel
theorem dL_below_3 : decode cL_below 3 = .ok (.iand, 1) := by decide +kernel
theorem dL_below_4 : decode cL_below 4 = .ok (.iload_n 1, 1) := by decide +kernel
theorem dL_below_5 : decode cL_below 5 = .ok (.irem, 1) := by decide +kernel
theorem dL_below_6 : decode cL_below 6 = .ok (.ireturn, 1) := by decide +kernel
theorem dL_cell_0 : decode cL_cell 0 = .ok (.iload_n 1, 1) := by decide +kernel
theorem dL_cell_1 : decode cL_cell 1 = .ok (.aload_n 0, 1) := by decide +kernel
theorem dL_cell_2 : decode cL_cell 2 = .ok (.arraylength, 1) := by decide +kernel
theorem dL_cell_3 : decode cL_cell 3 = .ok (.if_icmp .ge 9, 3) := by decide +kernel
theorem dL_cell_6 : decode cL_cell 6 = .ok (.aload_n 0, 1) := by decide +kernel
theorem dL_cell_7 : decode cL_cell 7 = .ok (.iload_n 1, 1) := by decide +kernel
theorem dL_cell_8 : decode cL_cell 8 = .ok (.iaload, 1) := by decide +kernel
theorem dL_cell_9 : decode cL_cell 9 = .ok (.goto 9, 3) := by decide +kernel
theorem dL_cell_12 : decode cL_cell 12 = .ok (.ldc 8, 2) := by decide +kernel
theorem dL_cell_14 : decode cL_cell 14 = .ok (.iload_n 1, 1) := by decide +kernel
theorem dL_cell_15 : decode cL_cell 15 = .ok (.iconst 3, 1) := by decide +kernel
theorem dL_cell_16 : decode cL_cell 16 = .ok (.iadd, 1) := by decide +kernel
theorem dL_cell_17 : decode cL_cell 17 = .ok (.imul, 1) := by decide +kernel
theorem dL_cell_18 : decode cL_cell 18 = .ok (.ireturn, 1) := by decide +kernel
set_option maxRecDepth 20000 in
theorem ggL_build_X0_setSize : GoodIn wsL_build wsX0_setSize := goodIn_ca (goodIn_r _ [5, 6, 7, 8, 9, 10, 4, 11, 12, 13, 14, 15, 16, 17, 18, 19, 20, 54, 55, 56, 57, 58, 59, 60, 61, 62, 63, 64, 65, 66] (by decide +kernel) (by decide +kernel)) (goodIn_sub (fun _ h => List.mem_cons_of_mem _ (List.mem_append_left _ (List.mem_append_right _ h))) (by decide +kernel))
set_option maxRecDepth 20000 in
theorem gL_build_X0_setSize : GoodIn wsL_build (wsV RL 9 RX0 yX0_setSize wsX0_setSize) := goodIn_app (goodIn_of _ (by decide +kernel)) ggL_build_X0_setSize
set_option maxRecDepth 20000 in
theorem ggL_build_L_cell : GoodIn wsL_build wsL_cell := goodIn_r _ [24, 25] (by decide +kernel) (by decide +kernel)
set_option maxRecDepth 20000 in
theorem gL_build_L_cell : GoodIn wsL_build (va_wsS RL 15 yL_cell wsL_cell) := goodIn_app (goodIn_of _ (by decide +kernel)) ggL_build_L_cell
set_option maxRecDepth 20000 in
theorem ggL_build_L_below : GoodIn wsL_build wsL_below := goodIn_r _ [28, 29] (by decide +kernel) (by decide +kernel)
set_option maxRecDepth 20000 in
theorem gL_build_L_below : GoodIn wsL_build (va_wsS RL 21 yL_below wsL_below) := goodIn_app (goodIn_of _ (by decide +kernel)) ggL_build_L_below
set_option maxRecDepth 20000 in
theorem ggL_build_X0_setCoefficient : GoodIn wsL_build wsX0_setCoefficient := goodIn_ca (goodIn_ca (goodIn_r _ [33, 34, 35, 6, 7, 13, 36, 37, 38, 4, 39, 12, 40, 41, 42, 54, 55, 56, 57, 58, 59, 60, 61, 62, 63, 64, 65, 66] (by decide +kernel) (by decide +kernel)) (goodIn_sub (fun _ h => List.mem_cons_of_mem _ (List.mem_append_right _ h)) (by decide +kernel))) (goodIn_sub (fun _ h => List.mem_cons_of_mem _ (List.mem_append_left _ (List.mem_append_right _ h))) (by decide +kernel))
set_option maxRecDepth 20000 in
theorem gL_build_X0_setCoefficient : GoodIn wsL_build (wsV RL 25 RX0 yX0_setCoefficient wsX0_setCoefficient) := goodIn_app (goodIn_of _ (by decide +kernel)) ggL_build_X0_setCoefficient
set_option maxRecDepth 20000 in
theorem ggL_build_X0_setRight : GoodIn wsL_build wsX0_setRight := goodIn_ca (goodIn_ca (goodIn_r _ [46, 34, 35, 6, 7, 15, 16, 36, 37, 38, 4, 39, 12, 47, 48, 49, 40, 41, 42, 54, 55, 56, 57, 58, 59, 60, 61, 62, 63, 64, 65, 66] (by decide +kernel) (by decide +kernel)) (goodIn_sub (fun _ h => List.mem_cons_of_mem _ (List.mem_append_right _ h)) (by decide +kernel))) (goodIn_sub (fun _ h => List.mem_cons_of_mem _ (List.mem_append_left _ (List.mem_append_right _ h))) (by decide +kernel))
set_option maxRecDepth 20000 in
theorem gL_build_X0_setRight : GoodIn wsL_build (wsV RL 29 RX0 yX0_setRight wsX0_setRight) := goodIn_app (goodIn_of _ (by decide +kernel)) ggL_build_X0_setRight
set_option maxRecDepth 20000 in
theorem ggL_build_X0_size : GoodIn wsL_build wsX0_size := goodIn_r _ [53, 12, 54, 55, 56, 57, 58, 59, 60, 61, 62, 63, 64, 65, 66] (by decide +kernel) (by decide +kernel)
set_option maxRecDepth 20000 in
theorem gL_build_X0_size : GoodIn wsL_build (wsV RL 33 RX0 yX0_size wsX0_size) := goodIn_app (goodIn_of _ (by decide +kernel)) ggL_build_X0_size
theorem dL_build_0 : decode cL_build 0 = .ok (.aload_n 0, 1) := by decide +kernel
theorem dL_build_1 : decode cL_build 1 = .ok (.iload_n 3, 1) := by decide +kernel
theorem dL_build_2 : decode cL_build 2 = .ok (.invokevirtual 9, 3) := by decide +kernel
theorem dL_build_5 : decode cL_build 5 = .ok (.iload_n 3, 1) := by decide +kernel
theorem dL_build_6 : decode cL_build 6 = .ok (.if_icmp .eq 5, 3) := by decide +kernel
theorem dL_build_9 : decode cL_build 9 = .ok (.iconst 0, 1) := by decide +kernel
theorem dL_build_10 : decode cL_build 10 = .ok (.ireturn, 1) := by decide +kernel
theorem dL_build_11 : decode cL_build 11 = .ok (.iconst 0, 1) := by decide +kernel
theorem dL_build_12 : decode cL_build 12 = .ok (.istore 8, 2) := by decide +kernel
theorem dL_build_14 : decode cL_build 14 = .ok (.iload 8, 2) := by decide +kernel
theorem dL_build_16 : decode cL_build 16 = .ok (.iload_n 3, 1) := by decide +kernel
theorem dL_build_17 : decode cL_build 17 = .ok (.if_icmp .ge 33, 3) := by decide +kernel
theorem dL_build_20 : decode cL_build 20 = .ok (.aload 5, 2) := by decide +kernel
theorem dL_build_22 : decode cL_build 22 = .ok (.iload 8, 2) := by decide +kernel
theorem dL_build_24 : decode cL_build 24 = .ok (.aload_n 1, 1) := by decide +kernel
theorem dL_build_25 : decode cL_build 25 = .ok (.iload_n 2, 1) := by decide +kernel
theorem dL_build_26 : decode cL_build 26 = .ok (.bipush 9, 2) := by decide +kernel
theorem dL_build_28 : decode cL_build 28 = .ok (.iadd, 1) := by decide +kernel
theorem dL_build_29 : decode cL_build 29 = .ok (.iload 8, 2) := by decide +kernel
theorem dL_build_31 : decode cL_build 31 = .ok (.iadd, 1) := by decide +kernel
theorem dL_build_32 : decode cL_build 32 = .ok (.invokestatic 15, 3) := by decide +kernel
theorem dL_build_35 : decode cL_build 35 = .ok (.bipush 21, 2) := by decide +kernel
theorem dL_build_37 : decode cL_build 37 = .ok (.invokestatic 21, 3) := by decide +kernel
theorem dL_build_40 : decode cL_build 40 = .ok (.bipush 10, 2) := by decide +kernel
theorem dL_build_42 : decode cL_build 42 = .ok (.isub, 1) := by decide +kernel
theorem dL_build_43 : decode cL_build 43 = .ok (.iastore, 1) := by decide +kernel
theorem dL_build_44 : decode cL_build 44 = .ok (.iinc 8 1, 3) := by decide +kernel
theorem dL_build_47 : decode cL_build 47 = .ok (.goto (-33), 3) := by decide +kernel
theorem dL_build_50 : decode cL_build 50 = .ok (.iconst 0, 1) := by decide +kernel
theorem dL_build_51 : decode cL_build 51 = .ok (.istore 8, 2) := by decide +kernel
theorem dL_build_53 : decode cL_build 53 = .ok (.iload 8, 2) := by decide +kernel
theorem dL_build_55 : decode cL_build 55 = .ok (.iload_n 3, 1) := by decide +kernel
theorem dL_build_56 : decode cL_build 56 = .ok (.if_icmp .ge 194, 3) := by decide +kernel
theorem dL_build_59 : decode cL_build 59 = .ok (.iconst 0, 1) := by decide +kernel
theorem dL_build_60 : decode cL_build 60 = .ok (.istore 9, 2) := by decide +kernel
theorem dL_build_62 : decode cL_build 62 = .ok (.iconst 0, 1) := by decide +kernel
theorem dL_build_63 : decode cL_build 63 = .ok (.istore 10, 2) := by decide +kernel
theorem dL_build_65 : decode cL_build 65 = .ok (.iload 10, 2) := by decide +kernel
theorem dL_build_67 : decode cL_build 67 = .ok (.iload_n 3, 1) := by decide +kernel
theorem dL_build_68 : decode cL_build 68 = .ok (.if_icmp .ge 84, 3) := by decide +kernel
theorem dL_build_71 : decode cL_build 71 = .ok (.aload 4, 2) := by decide +kernel
theorem dL_build_73 : decode cL_build 73 = .ok (.iload_n 3, 1) := by decide +kernel
theorem dL_build_74 : decode cL_build 74 = .ok (.iload 8, 2) := by decide +kernel
theorem dL_build_76 : decode cL_build 76 = .ok (.imul, 1) := by decide +kernel
theorem dL_build_77 : decode cL_build 77 = .ok (.iload 10, 2) := by decide +kernel
theorem dL_build_79 : decode cL_build 79 = .ok (.iadd, 1) := by decide +kernel
theorem dL_build_80 : decode cL_build 80 = .ok (.aload_n 1, 1) := by decide +kernel
theorem dL_build_81 : decode cL_build 81 = .ok (.iload_n 2, 1) := by decide +kernel
theorem dL_build_82 : decode cL_build 82 = .ok (.iload_n 3, 1) := by decide +kernel
theorem dL_build_83 : decode cL_build 83 = .ok (.iload 8, 2) := by decide +kernel
theorem dL_build_85 : decode cL_build 85 = .ok (.imul, 1) := by decide +kernel
theorem dL_build_86 : decode cL_build 86 = .ok (.iadd, 1) := by decide +kernel
theorem dL_build_87 : decode cL_build 87 = .ok (.iload 10, 2) := by decide +kernel
theorem dL_build_89 : decode cL_build 89 = .ok (.iadd, 1) := by decide +kernel
theorem dL_build_90 : decode cL_build 90 = .ok (.invokestatic 15, 3) := by decide +kernel
theorem dL_build_93 : decode cL_build 93 = .ok (.bipush 19, 2) := by decide +kernel
theorem dL_build_95 : decode cL_build 95 = .ok (.invokestatic 21, 3) := by decide +kernel
theorem dL_build_98 : decode cL_build 98 = .ok (.bipush 9, 2) := by decide +kernel
theorem dL_build_100 : decode cL_build 100 = .ok (.isub, 1) := by decide +kernel
theorem dL_build_101 : decode cL_build 101 = .ok (.iastore, 1) := by decide +kernel
theorem dL_build_102 : decode cL_build 102 = .ok (.aload_n 0, 1) := by decide +kernel
theorem dL_build_103 : decode cL_build 103 = .ok (.iload 8, 2) := by decide +kernel
theorem dL_build_105 : decode cL_build 105 = .ok (.iload 10, 2) := by decide +kernel
theorem dL_build_107 : decode cL_build 107 = .ok (.aload 4, 2) := by decide +kernel
theorem dL_build_109 : decode cL_build 109 = .ok (.iload_n 3, 1) := by decide +kernel
theorem dL_build_110 : decode cL_build 110 = .ok (.iload 8, 2) := by decide +kernel
theorem dL_build_112 : decode cL_build 112 = .ok (.imul, 1) := by decide +kernel
theorem dL_build_113 : decode cL_build 113 = .ok (.iload 10, 2) := by decide +kernel
theorem dL_build_115 : decode cL_build 115 = .ok (.iadd, 1) := by decide +kernel
theorem dL_build_116 : decode cL_build 116 = .ok (.iaload, 1) := by decide +kernel
theorem dL_build_117 : decode cL_build 117 = .ok (.invokevirtual 25, 3) := by decide +kernel
theorem dL_build_120 : decode cL_build 120 = .ok (.ifCond .eq 5, 3) := by decide +kernel
theorem dL_build_123 : decode cL_build 123 = .ok (.iconst 0, 1) := by decide +kernel
theorem dL_build_124 : decode cL_build 124 = .ok (.ireturn, 1) := by decide +kernel
theorem dL_build_125 : decode cL_build 125 = .ok (.iload 9, 2) := by decide +kernel
theorem dL_build_127 : decode cL_build 127 = .ok (.aload 4, 2) := by decide +kernel
theorem dL_build_129 : decode cL_build 129 = .ok (.iload_n 3, 1) := by decide +kernel
theorem dL_build_130 : decode cL_build 130 = .ok (.iload 8, 2) := by decide +kernel
theorem dL_build_132 : decode cL_build 132 = .ok (.imul, 1) := by decide +kernel
theorem dL_build_133 : decode cL_build 133 = .ok (.iload 10, 2) := by decide +kernel
theorem dL_build_135 : decode cL_build 135 = .ok (.iadd, 1) := by decide +kernel
theorem dL_build_136 : decode cL_build 136 = .ok (.iaload, 1) := by decide +kernel
theorem dL_build_137 : decode cL_build 137 = .ok (.aload 5, 2) := by decide +kernel
theorem dL_build_139 : decode cL_build 139 = .ok (.iload 10, 2) := by decide +kernel
theorem dL_build_141 : decode cL_build 141 = .ok (.iaload, 1) := by decide +kernel
theorem dL_build_142 : decode cL_build 142 = .ok (.imul, 1) := by decide +kernel
theorem dL_build_143 : decode cL_build 143 = .ok (.iadd, 1) := by decide +kernel
theorem dL_build_144 : decode cL_build 144 = .ok (.istore 9, 2) := by decide +kernel
theorem dL_build_146 : decode cL_build 146 = .ok (.iinc 10 1, 3) := by decide +kernel
theorem dL_build_149 : decode cL_build 149 = .ok (.goto (-84), 3) := by decide +kernel
theorem dL_build_152 : decode cL_build 152 = .ok (.aload 6, 2) := by decide +kernel
theorem dL_build_154 : decode cL_build 154 = .ok (.iload 8, 2) := by decide +kernel
theorem dL_build_156 : decode cL_build 156 = .ok (.iload 9, 2) := by decide +kernel
theorem dL_build_158 : decode cL_build 158 = .ok (.aload_n 1, 1) := by decide +kernel
theorem dL_build_159 : decode cL_build 159 = .ok (.iload_n 2, 1) := by decide +kernel
theorem dL_build_160 : decode cL_build 160 = .ok (.bipush 12, 2) := by decide +kernel
theorem dL_build_162 : decode cL_build 162 = .ok (.iadd, 1) := by decide +kernel
theorem dL_build_163 : decode cL_build 163 = .ok (.iload 8, 2) := by decide +kernel
theorem dL_build_165 : decode cL_build 165 = .ok (.iadd, 1) := by decide +kernel
theorem dL_build_166 : decode cL_build 166 = .ok (.invokestatic 15, 3) := by decide +kernel
theorem dL_build_169 : decode cL_build 169 = .ok (.bipush 6, 2) := by decide +kernel
theorem dL_build_171 : decode cL_build 171 = .ok (.invokestatic 21, 3) := by decide +kernel
theorem dL_build_174 : decode cL_build 174 = .ok (.isub, 1) := by decide +kernel
theorem dL_build_175 : decode cL_build 175 = .ok (.iastore, 1) := by decide +kernel
theorem dL_build_176 : decode cL_build 176 = .ok (.aload 7, 2) := by decide +kernel
theorem dL_build_178 : decode cL_build 178 = .ok (.iload 8, 2) := by decide +kernel
theorem dL_build_180 : decode cL_build 180 = .ok (.iload 9, 2) := by decide +kernel
theorem dL_build_182 : decode cL_build 182 = .ok (.aload_n 1, 1) := by decide +kernel
theorem dL_build_183 : decode cL_build 183 = .ok (.iload_n 2, 1) := by decide +kernel
theorem dL_build_184 : decode cL_build 184 = .ok (.bipush 12, 2) := by decide +kernel
theorem dL_build_186 : decode cL_build 186 = .ok (.iadd, 1) := by decide +kernel
theorem dL_build_187 : decode cL_build 187 = .ok (.iload 8, 2) := by decide +kernel
theorem dL_build_189 : decode cL_build 189 = .ok (.iadd, 1) := by decide +kernel
theorem dL_build_190 : decode cL_build 190 = .ok (.invokestatic 15, 3) := by decide +kernel
theorem dL_build_193 : decode cL_build 193 = .ok (.iconst 4, 1) := by decide +kernel
theorem dL_build_194 : decode cL_build 194 = .ok (.ishr, 1) := by decide +kernel
theorem dL_build_195 : decode cL_build 195 = .ok (.bipush 6, 2) := by decide +kernel
theorem dL_build_197 : decode cL_build 197 = .ok (.invokestatic 21, 3) := by decide +kernel
theorem dL_build_200 : decode cL_build 200 = .ok (.iadd, 1) := by decide +kernel
theorem dL_build_201 : decode cL_build 201 = .ok (.iastore, 1) := by decide +kernel
theorem dL_build_202 : decode cL_build 202 = .ok (.aload_n 0, 1) := by decide +kernel
theorem dL_build_203 : decode cL_build 203 = .ok (.iload 8, 2) := by decide +kernel
theorem dL_build_205 : decode cL_build 205 = .ok (.aload 6, 2) := by decide +kernel
theorem dL_build_207 : decode cL_build 207 = .ok (.iload 8, 2) := by decide +kernel
theorem dL_build_209 : decode cL_build 209 = .ok (.iaload, 1) := by decide +kernel
theorem dL_build_210 : decode cL_build 210 = .ok (.aload 7, 2) := by decide +kernel
theorem dL_build_212 : decode cL_build 212 = .ok (.iload 8, 2) := by decide +kernel
theorem dL_build_214 : decode cL_build 214 = .ok (.iaload, 1) := by decide +kernel
theorem dL_build_215 : decode cL_build 215 = .ok (.invokevirtual 29, 3) := by decide +kernel
theorem dL_build_218 : decode cL_build 218 = .ok (.aload 6, 2) := by decide +kernel
theorem dL_build_220 : decode cL_build 220 = .ok (.iload 8, 2) := by decide +kernel
theorem dL_build_222 : decode cL_build 222 = .ok (.iaload, 1) := by decide +kernel
theorem dL_build_223 : decode cL_build 223 = .ok (.ifCond .ne 11, 3) := by decide +kernel
theorem dL_build_226 : decode cL_build 226 = .ok (.aload 7, 2) := by decide +kernel
theorem dL_build_228 : decode cL_build 228 = .ok (.iload 8, 2) := by decide +kernel
theorem dL_build_230 : decode cL_build 230 = .ok (.iaload, 1) := by decide +kernel
theorem dL_build_231 : decode cL_build 231 = .ok (.ifCond .eq 7, 3) := by decide +kernel
theorem dL_build_234 : decode cL_build 234 = .ok (.iconst 1, 1) := by decide +kernel
theorem dL_build_235 : decode cL_build 235 = .ok (.goto 4, 3) := by decide +kernel
theorem dL_build_238 : decode cL_build 238 = .ok (.iconst 0, 1) := by decide +kernel
theorem dL_build_239 : decode cL_build 239 = .ok (.if_icmp .eq 5, 3) := by decide +kernel
theorem dL_build_242 : decode cL_build 242 = .ok (.iconst 0, 1) := by decide +kernel
theorem dL_build_243 : decode cL_build 243 = .ok (.ireturn, 1) := by decide +kernel
theorem dL_build_244 : decode cL_build 244 = .ok (.iinc 8 1, 3) := by decide +kernel
theorem dL_build_247 : decode cL_build 247 = .ok (.goto (-194), 3) := by decide +kernel
theorem dL_build_250 : decode cL_build 250 = .ok (.aload_n 0, 1) := by decide +kernel
theorem dL_build_251 : decode cL_build 251 = .ok (.invokevirtual 33, 3) := by decide +kernel
theorem dL_build_254 : decode cL_build 254 = .ok (.iload_n 3, 1) := by decide +kernel
theorem dL_build_255 : decode cL_build 255 = .ok (.if_icmp .ne 7, 3) := by decide +kernel
theorem dL_build_258 : decode cL_build 258 = .ok (.iconst 1, 1) := by decide +kernel
theorem dL_build_259 : decode cL_build 259 = .ok (.goto 4, 3) := by decide +kernel
theorem dL_build_262 : decode cL_build 262 = .ok (.iconst 0, 1) := by decide +kernel
theorem dL_build_263 : decode cL_build 263 = .ok (.ireturn, 1) := by decide +kernel
