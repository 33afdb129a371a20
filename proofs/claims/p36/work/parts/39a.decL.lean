theorem dL_law_0 : decode cL_law 0 = .ok (.new 10, 3) := by decide +kernel
theorem dL_law_3 : decode cL_law 3 = .ok (.dup, 1) := by decide +kernel
theorem dL_law_4 : decode cL_law 4 = .ok (.invokespecial 37, 3) := by decide +kernel
theorem dL_law_7 : decode cL_law 7 = .ok (.astore_n 1, 1) := by decide +kernel
theorem dL_law_8 : decode cL_law 8 = .ok (.bipush 9, 2) := by decide +kernel
theorem dL_law_10 : decode cL_law 10 = .ok (.newarray .int, 2) := by decide +kernel
theorem dL_law_12 : decode cL_law 12 = .ok (.astore_n 2, 1) := by decide +kernel
theorem dL_law_13 : decode cL_law 13 = .ok (.iconst 3, 1) := by decide +kernel
theorem dL_law_14 : decode cL_law 14 = .ok (.newarray .int, 2) := by decide +kernel
theorem dL_law_16 : decode cL_law 16 = .ok (.astore_n 3, 1) := by decide +kernel
theorem dL_law_17 : decode cL_law 17 = .ok (.iconst 3, 1) := by decide +kernel
theorem dL_law_18 : decode cL_law 18 = .ok (.newarray .int, 2) := by decide +kernel
theorem dL_law_20 : decode cL_law 20 = .ok (.astore 4, 2) := by decide +kernel
theorem dL_law_22 : decode cL_law 22 = .ok (.iconst 3, 1) := by decide +kernel
theorem dL_law_23 : decode cL_law 23 = .ok (.newarray .int, 2) := by decide +kernel
theorem dL_law_25 : decode cL_law 25 = .ok (.astore 5, 2) := by decide +kernel
theorem dL_law_27 : decode cL_law 27 = .ok (.aload_n 1, 1) := by decide +kernel
theorem dL_law_28 : decode cL_law 28 = .ok (.aload_n 0, 1) := by decide +kernel
theorem dL_law_29 : decode cL_law 29 = .ok (.iconst 0, 1) := by decide +kernel
theorem dL_law_30 : decode cL_law 30 = .ok (.iconst 3, 1) := by decide +kernel
theorem dL_law_31 : decode cL_law 31 = .ok (.aload_n 2, 1) := by decide +kernel
theorem dL_law_32 : decode cL_law 32 = .ok (.aload_n 3, 1) := by decide +kernel
theorem dL_law_33 : decode cL_law 33 = .ok (.aload 4, 2) := by decide +kernel
theorem dL_law_35 : decode cL_law 35 = .ok (.aload 5, 2) := by decide +kernel
theorem dL_law_37 : decode cL_law 37 = .ok (.invokestatic 38, 3) := by decide +kernel
theorem dL_law_40 : decode cL_law 40 = .ok (.ifCond .ne 5, 3) := by decide +kernel
theorem dL_law_43 : decode cL_law 43 = .ok (.iconst 0, 1) := by decide +kernel
theorem dL_law_44 : decode cL_law 44 = .ok (.ireturn, 1) := by decide +kernel
theorem dL_law_45 : decode cL_law 45 = .ok (.iconst 0, 1) := by decide +kernel
theorem dL_law_46 : decode cL_law 46 = .ok (.istore 6, 2) := by decide +kernel
theorem dL_law_48 : decode cL_law 48 = .ok (.iload 6, 2) := by decide +kernel
theorem dL_law_50 : decode cL_law 50 = .ok (.iconst 3, 1) := by decide +kernel
theorem dL_law_51 : decode cL_law 51 = .ok (.if_icmp .ge 69, 3) := by decide +kernel
theorem dL_law_54 : decode cL_law 54 = .ok (.aload_n 1, 1) := by decide +kernel
theorem dL_law_55 : decode cL_law 55 = .ok (.iload 6, 2) := by decide +kernel
theorem dL_law_57 : decode cL_law 57 = .ok (.sipush 1024, 3) := by decide +kernel
theorem dL_law_60 : decode cL_law 60 = .ok (.aload_n 3, 1) := by decide +kernel
theorem dL_law_61 : decode cL_law 61 = .ok (.iload 6, 2) := by decide +kernel
theorem dL_law_63 : decode cL_law 63 = .ok (.iaload, 1) := by decide +kernel
theorem dL_law_64 : decode cL_law 64 = .ok (.imul, 1) := by decide +kernel
theorem dL_law_65 : decode cL_law 65 = .ok (.aload_n 0, 1) := by decide +kernel
theorem dL_law_66 : decode cL_law 66 = .ok (.bipush 16, 2) := by decide +kernel
theorem dL_law_68 : decode cL_law 68 = .ok (.iload 6, 2) := by decide +kernel
theorem dL_law_70 : decode cL_law 70 = .ok (.iadd, 1) := by decide +kernel
theorem dL_law_71 : decode cL_law 71 = .ok (.invokestatic 15, 3) := by decide +kernel
theorem dL_law_74 : decode cL_law 74 = .ok (.ldc 42, 2) := by decide +kernel
theorem dL_law_76 : decode cL_law 76 = .ok (.invokestatic 21, 3) := by decide +kernel
theorem dL_law_79 : decode cL_law 79 = .ok (.isub, 1) := by decide +kernel
theorem dL_law_80 : decode cL_law 80 = .ok (.sipush 1024, 3) := by decide +kernel
theorem dL_law_83 : decode cL_law 83 = .ok (.aload_n 3, 1) := by decide +kernel
theorem dL_law_84 : decode cL_law 84 = .ok (.iload 6, 2) := by decide +kernel
theorem dL_law_86 : decode cL_law 86 = .ok (.iaload, 1) := by decide +kernel
theorem dL_law_87 : decode cL_law 87 = .ok (.imul, 1) := by decide +kernel
theorem dL_law_88 : decode cL_law 88 = .ok (.aload_n 0, 1) := by decide +kernel
theorem dL_law_89 : decode cL_law 89 = .ok (.bipush 16, 2) := by decide +kernel
theorem dL_law_91 : decode cL_law 91 = .ok (.iload 6, 2) := by decide +kernel
theorem dL_law_93 : decode cL_law 93 = .ok (.iadd, 1) := by decide +kernel
theorem dL_law_94 : decode cL_law 94 = .ok (.invokestatic 15, 3) := by decide +kernel
theorem dL_law_97 : decode cL_law 97 = .ok (.bipush 8, 2) := by decide +kernel
theorem dL_law_99 : decode cL_law 99 = .ok (.ishr, 1) := by decide +kernel
theorem dL_law_100 : decode cL_law 100 = .ok (.ldc 42, 2) := by decide +kernel
theorem dL_law_102 : decode cL_law 102 = .ok (.invokestatic 21, 3) := by decide +kernel
theorem dL_law_105 : decode cL_law 105 = .ok (.iadd, 1) := by decide +kernel
theorem dL_law_106 : decode cL_law 106 = .ok (.invokevirtual 43, 3) := by decide +kernel
theorem dL_law_109 : decode cL_law 109 = .ok (.ifCond .ne 5, 3) := by decide +kernel
theorem dL_law_112 : decode cL_law 112 = .ok (.iconst 0, 1) := by decide +kernel
theorem dL_law_113 : decode cL_law 113 = .ok (.ireturn, 1) := by decide +kernel
theorem dL_law_114 : decode cL_law 114 = .ok (.iinc 6 1, 3) := by decide +kernel
theorem dL_law_117 : decode cL_law 117 = .ok (.goto (-69), 3) := by decide +kernel
theorem dL_law_120 : decode cL_law 120 = .ok (.iconst 0, 1) := by decide +kernel
theorem dL_law_121 : decode cL_law 121 = .ok (.istore 6, 2) := by decide +kernel
theorem dL_law_123 : decode cL_law 123 = .ok (.iload 6, 2) := by decide +kernel
theorem dL_law_125 : decode cL_law 125 = .ok (.bipush 10, 2) := by decide +kernel
theorem dL_law_127 : decode cL_law 127 = .ok (.if_icmp .ge 462, 3) := by decide +kernel
theorem dL_law_130 : decode cL_law 130 = .ok (.aload_n 0, 1) := by decide +kernel
theorem dL_law_131 : decode cL_law 131 = .ok (.bipush 19, 2) := by decide +kernel
theorem dL_law_133 : decode cL_law 133 = .ok (.iload 6, 2) := by decide +kernel
theorem dL_law_135 : decode cL_law 135 = .ok (.iadd, 1) := by decide +kernel
theorem dL_law_136 : decode cL_law 136 = .ok (.invokestatic 15, 3) := by decide +kernel
theorem dL_law_139 : decode cL_law 139 = .ok (.istore 7, 2) := by decide +kernel
theorem dL_law_141 : decode cL_law 141 = .ok (.iload 7, 2) := by decide +kernel
theorem dL_law_143 : decode cL_law 143 = .ok (.iconst 3, 1) := by decide +kernel
theorem dL_law_144 : decode cL_law 144 = .ok (.ishr, 1) := by decide +kernel
theorem dL_law_145 : decode cL_law 145 = .ok (.iconst 3, 1) := by decide +kernel
theorem dL_law_146 : decode cL_law 146 = .ok (.invokestatic 21, 3) := by decide +kernel
theorem dL_law_149 : decode cL_law 149 = .ok (.istore 8, 2) := by decide +kernel
theorem dL_law_151 : decode cL_law 151 = .ok (.iload 8, 2) := by decide +kernel
theorem dL_law_153 : decode cL_law 153 = .ok (.iconst 1, 1) := by decide +kernel
theorem dL_law_154 : decode cL_law 154 = .ok (.iadd, 1) := by decide +kernel
theorem dL_law_155 : decode cL_law 155 = .ok (.iload 7, 2) := by decide +kernel
theorem dL_law_157 : decode cL_law 157 = .ok (.bipush 6, 2) := by decide +kernel
theorem dL_law_159 : decode cL_law 159 = .ok (.ishr, 1) := by decide +kernel
theorem dL_law_160 : decode cL_law 160 = .ok (.iconst 2, 1) := by decide +kernel
theorem dL_law_161 : decode cL_law 161 = .ok (.invokestatic 21, 3) := by decide +kernel
theorem dL_law_164 : decode cL_law 164 = .ok (.iadd, 1) := by decide +kernel
theorem dL_law_165 : decode cL_law 165 = .ok (.iconst 3, 1) := by decide +kernel
theorem dL_law_166 : decode cL_law 166 = .ok (.irem, 1) := by decide +kernel
theorem dL_law_167 : decode cL_law 167 = .ok (.istore 9, 2) := by decide +kernel
theorem dL_law_169 : decode cL_law 169 = .ok (.iload 7, 2) := by decide +kernel
theorem dL_law_171 : decode cL_law 171 = .ok (.bipush 7, 2) := by decide +kernel
theorem dL_law_173 : decode cL_law 173 = .ok (.iand, 1) := by decide +kernel
theorem dL_law_174 : decode cL_law 174 = .ok (.istore 10, 2) := by decide +kernel
theorem dL_law_176 : decode cL_law 176 = .ok (.iload 10, 2) := by decide +kernel
theorem dL_law_178 : decode cL_law 178 = .ok (.iconst 3, 1) := by decide +kernel
theorem dL_law_179 : decode cL_law 179 = .ok (.if_icmp .ge 12, 3) := by decide +kernel
theorem dL_law_182 : decode cL_law 182 = .ok (.aload_n 1, 1) := by decide +kernel
theorem dL_law_183 : decode cL_law 183 = .ok (.invokevirtual 46, 3) := by decide +kernel
theorem dL_law_186 : decode cL_law 186 = .ok (.ifCond .ge 259, 3) := by decide +kernel
theorem dL_law_189 : decode cL_law 189 = .ok (.iconst 0, 1) := by decide +kernel
theorem dL_law_190 : decode cL_law 190 = .ok (.ireturn, 1) := by decide +kernel
