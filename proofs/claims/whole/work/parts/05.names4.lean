theorem dX6_isAlphabet_1 : decode cX6_isAlphabet 1 = .ok (.i2l, 1) := by decide +kernel
theorem dX6_isAlphabet_2 : decode cX6_isAlphabet 2 = .ok (.lconst 0, 1) := by decide +kernel
theorem dX6_isAlphabet_3 : decode cX6_isAlphabet 3 = .ok (.ldc2_w 57, 3) := by decide +kernel
theorem dX6_isAlphabet_6 : decode cX6_isAlphabet 6 = .ok (.invokestatic 59, 3) := by decide +kernel
theorem dX6_isAlphabet_9 : decode cX6_isAlphabet 9 = .ok (.ireturn, 1) := by decide +kernel
set_option maxRecDepth 20000 in
theorem ggX6_alphabet_X6_isAlphabet : GoodIn wsX6_alphabet wsX6_isAlphabet := goodIn_r _ [10, 11, 12, 13, 9, 14] (by decide +kernel) (by decide +kernel)
set_option maxRecDepth 20000 in
theorem gX6_alphabet_X6_isAlphabet : GoodIn wsX6_alphabet (va_wsS RX6 63 yX6_isAlphabet wsX6_isAlphabet) := goodIn_app (goodIn_of _ (by decide +kernel)) ggX6_alphabet_X6_isAlphabet
set_option maxRecDepth 20000 in
theorem ggX6_alphabet_X6_in : GoodIn wsX6_alphabet wsX6_in := goodIn_r _ [14] (by decide +kernel) (by decide +kernel)
set_option maxRecDepth 20000 in
theorem gX6_alphabet_X6_in : GoodIn wsX6_alphabet (va_wsS RX6 59 yX6_in wsX6_in) := goodIn_app (goodIn_of _ (by decide +kernel)) ggX6_alphabet_X6_in
theorem dX6_alphabet_0 : decode cX6_alphabet 0 = .ok (.iload_n 1, 1) := by decide +kernel
theorem dX6_alphabet_1 : decode cX6_alphabet 1 = .ok (.invokestatic 63, 3) := by decide +kernel
theorem dX6_alphabet_4 : decode cX6_alphabet 4 = .ok (.ifCond .ne 6, 3) := by decide +kernel
theorem dX6_alphabet_7 : decode cX6_alphabet 7 = .ok (.bipush (-101), 2) := by decide +kernel
theorem dX6_alphabet_9 : decode cX6_alphabet 9 = .ok (.ireturn, 1) := by decide +kernel
theorem dX6_alphabet_10 : decode cX6_alphabet 10 = .ok (.iload_n 2, 1) := by decide +kernel
theorem dX6_alphabet_11 : decode cX6_alphabet 11 = .ok (.i2l, 1) := by decide +kernel
theorem dX6_alphabet_12 : decode cX6_alphabet 12 = .ok (.ldc2_w 67, 3) := by decide +kernel
theorem dX6_alphabet_15 : decode cX6_alphabet 15 = .ok (.ldc2_w 69, 3) := by decide +kernel
theorem dX6_alphabet_18 : decode cX6_alphabet 18 = .ok (.invokestatic 59, 3) := by decide +kernel
theorem dX6_alphabet_21 : decode cX6_alphabet 21 = .ok (.ifCond .ne 6, 3) := by decide +kernel
theorem dX6_alphabet_24 : decode cX6_alphabet 24 = .ok (.bipush (-102), 2) := by decide +kernel
theorem dX6_alphabet_26 : decode cX6_alphabet 26 = .ok (.ireturn, 1) := by decide +kernel
theorem dX6_alphabet_27 : decode cX6_alphabet 27 = .ok (.iconst 1, 1) := by decide +kernel
theorem dX6_alphabet_28 : decode cX6_alphabet 28 = .ok (.istore 7, 2) := by decide +kernel
theorem dX6_alphabet_30 : decode cX6_alphabet 30 = .ok (.iconst 0, 1) := by decide +kernel
theorem dX6_alphabet_31 : decode cX6_alphabet 31 = .ok (.istore 8, 2) := by decide +kernel
theorem dX6_alphabet_33 : decode cX6_alphabet 33 = .ok (.iload 8, 2) := by decide +kernel
theorem dX6_alphabet_35 : decode cX6_alphabet 35 = .ok (.iload_n 2, 1) := by decide +kernel
theorem dX6_alphabet_36 : decode cX6_alphabet 36 = .ok (.if_icmp .ge 113, 3) := by decide +kernel
theorem dX6_alphabet_39 : decode cX6_alphabet 39 = .ok (.iload 8, 2) := by decide +kernel
theorem dX6_alphabet_41 : decode cX6_alphabet 41 = .ok (.ifCond .ne 7, 3) := by decide +kernel
theorem dX6_alphabet_44 : decode cX6_alphabet 44 = .ok (.iload_n 3, 1) := by decide +kernel
theorem dX6_alphabet_45 : decode cX6_alphabet 45 = .ok (.goto 27, 3) := by decide +kernel
theorem dX6_alphabet_48 : decode cX6_alphabet 48 = .ok (.iload 8, 2) := by decide +kernel
theorem dX6_alphabet_50 : decode cX6_alphabet 50 = .ok (.iconst 1, 1) := by decide +kernel
theorem dX6_alphabet_51 : decode cX6_alphabet 51 = .ok (.if_icmp .ne 8, 3) := by decide +kernel
theorem dX6_alphabet_54 : decode cX6_alphabet 54 = .ok (.iload 4, 2) := by decide +kernel
theorem dX6_alphabet_56 : decode cX6_alphabet 56 = .ok (.goto 16, 3) := by decide +kernel
theorem dX6_alphabet_59 : decode cX6_alphabet 59 = .ok (.iload 8, 2) := by decide +kernel
theorem dX6_alphabet_61 : decode cX6_alphabet 61 = .ok (.iconst 2, 1) := by decide +kernel
theorem dX6_alphabet_62 : decode cX6_alphabet 62 = .ok (.if_icmp .ne 8, 3) := by decide +kernel
theorem dX6_alphabet_65 : decode cX6_alphabet 65 = .ok (.iload 5, 2) := by decide +kernel
theorem dX6_alphabet_67 : decode cX6_alphabet 67 = .ok (.goto 5, 3) := by decide +kernel
theorem dX6_alphabet_70 : decode cX6_alphabet 70 = .ok (.iload 6, 2) := by decide +kernel
theorem dX6_alphabet_72 : decode cX6_alphabet 72 = .ok (.istore 9, 2) := by decide +kernel
theorem dX6_alphabet_74 : decode cX6_alphabet 74 = .ok (.iload 8, 2) := by decide +kernel
theorem dX6_alphabet_76 : decode cX6_alphabet 76 = .ok (.iload_n 2, 1) := by decide +kernel
theorem dX6_alphabet_77 : decode cX6_alphabet 77 = .ok (.iconst 1, 1) := by decide +kernel
theorem dX6_alphabet_78 : decode cX6_alphabet 78 = .ok (.isub, 1) := by decide +kernel
theorem dX6_alphabet_79 : decode cX6_alphabet 79 = .ok (.if_icmp .ne 7, 3) := by decide +kernel
theorem dX6_alphabet_82 : decode cX6_alphabet 82 = .ok (.iload_n 3, 1) := by decide +kernel
theorem dX6_alphabet_83 : decode cX6_alphabet 83 = .ok (.goto 26, 3) := by decide +kernel
theorem dX6_alphabet_86 : decode cX6_alphabet 86 = .ok (.iload 8, 2) := by decide +kernel
theorem dX6_alphabet_88 : decode cX6_alphabet 88 = .ok (.ifCond .ne 8, 3) := by decide +kernel
theorem dX6_alphabet_91 : decode cX6_alphabet 91 = .ok (.iload 4, 2) := by decide +kernel
theorem dX6_alphabet_93 : decode cX6_alphabet 93 = .ok (.goto 16, 3) := by decide +kernel
theorem dX6_alphabet_96 : decode cX6_alphabet 96 = .ok (.iload 8, 2) := by decide +kernel
theorem dX6_alphabet_98 : decode cX6_alphabet 98 = .ok (.iconst 1, 1) := by decide +kernel
theorem dX6_alphabet_99 : decode cX6_alphabet 99 = .ok (.if_icmp .ne 8, 3) := by decide +kernel
theorem dX6_alphabet_102 : decode cX6_alphabet 102 = .ok (.iload 5, 2) := by decide +kernel
theorem dX6_alphabet_104 : decode cX6_alphabet 104 = .ok (.goto 5, 3) := by decide +kernel
theorem dX6_alphabet_107 : decode cX6_alphabet 107 = .ok (.iload 6, 2) := by decide +kernel
theorem dX6_alphabet_109 : decode cX6_alphabet 109 = .ok (.istore 10, 2) := by decide +kernel
theorem dX6_alphabet_111 : decode cX6_alphabet 111 = .ok (.iload 7, 2) := by decide +kernel
theorem dX6_alphabet_113 : decode cX6_alphabet 113 = .ok (.ifCond .eq 27, 3) := by decide +kernel
theorem dX6_alphabet_116 : decode cX6_alphabet 116 = .ok (.iload 9, 2) := by decide +kernel
theorem dX6_alphabet_118 : decode cX6_alphabet 118 = .ok (.i2l, 1) := by decide +kernel
theorem dX6_alphabet_119 : decode cX6_alphabet 119 = .ok (.lconst 1, 1) := by decide +kernel
theorem dX6_alphabet_120 : decode cX6_alphabet 120 = .ok (.ldc2_w 71, 3) := by decide +kernel
theorem dX6_alphabet_123 : decode cX6_alphabet 123 = .ok (.invokestatic 59, 3) := by decide +kernel
theorem dX6_alphabet_126 : decode cX6_alphabet 126 = .ok (.ifCond .eq 14, 3) := by decide +kernel
theorem dX6_alphabet_129 : decode cX6_alphabet 129 = .ok (.iload 9, 2) := by decide +kernel
theorem dX6_alphabet_131 : decode cX6_alphabet 131 = .ok (.iload 10, 2) := by decide +kernel
theorem dX6_alphabet_133 : decode cX6_alphabet 133 = .ok (.if_icmp .eq 7, 3) := by decide +kernel
theorem dX6_alphabet_136 : decode cX6_alphabet 136 = .ok (.iconst 1, 1) := by decide +kernel
theorem dX6_alphabet_137 : decode cX6_alphabet 137 = .ok (.goto 4, 3) := by decide +kernel
theorem dX6_alphabet_140 : decode cX6_alphabet 140 = .ok (.iconst 0, 1) := by decide +kernel
theorem dX6_alphabet_141 : decode cX6_alphabet 141 = .ok (.istore 7, 2) := by decide +kernel
theorem dX6_alphabet_143 : decode cX6_alphabet 143 = .ok (.iinc 8 1, 3) := by decide +kernel
theorem dX6_alphabet_146 : decode cX6_alphabet 146 = .ok (.goto (-113), 3) := by decide +kernel
theorem dX6_alphabet_149 : decode cX6_alphabet 149 = .ok (.iload 7, 2) := by decide +kernel
theorem dX6_alphabet_151 : decode cX6_alphabet 151 = .ok (.ifCond .ne 6, 3) := by decide +kernel
theorem dX6_alphabet_154 : decode cX6_alphabet 154 = .ok (.bipush (-102), 2) := by decide +kernel
theorem dX6_alphabet_156 : decode cX6_alphabet 156 = .ok (.ireturn, 1) := by decide +kernel
theorem dX6_alphabet_157 : decode cX6_alphabet 157 = .ok (.aload_n 0, 1) := by decide +kernel
theorem dX6_alphabet_158 : decode cX6_alphabet 158 = .ok (.getfield 7, 3) := by decide +kernel
theorem dX6_alphabet_161 : decode cX6_alphabet 161 = .ok (.iconst 4, 1) := by decide +kernel
theorem dX6_alphabet_162 : decode cX6_alphabet 162 = .ok (.iload_n 1, 1) := by decide +kernel
theorem dX6_alphabet_163 : decode cX6_alphabet 163 = .ok (.imul, 1) := by decide +kernel
theorem dX6_alphabet_164 : decode cX6_alphabet 164 = .ok (.iload_n 3, 1) := by decide +kernel
theorem dX6_alphabet_165 : decode cX6_alphabet 165 = .ok (.iastore, 1) := by decide +kernel
theorem dX6_alphabet_166 : decode cX6_alphabet 166 = .ok (.aload_n 0, 1) := by decide +kernel
theorem dX6_alphabet_167 : decode cX6_alphabet 167 = .ok (.getfield 7, 3) := by decide +kernel
theorem dX6_alphabet_170 : decode cX6_alphabet 170 = .ok (.iconst 4, 1) := by decide +kernel
theorem dX6_alphabet_171 : decode cX6_alphabet 171 = .ok (.iload_n 1, 1) := by decide +kernel
theorem dX6_alphabet_172 : decode cX6_alphabet 172 = .ok (.imul, 1) := by decide +kernel
theorem dX6_alphabet_173 : decode cX6_alphabet 173 = .ok (.iconst 1, 1) := by decide +kernel
theorem dX6_alphabet_174 : decode cX6_alphabet 174 = .ok (.iadd, 1) := by decide +kernel
theorem dX6_alphabet_175 : decode cX6_alphabet 175 = .ok (.iload 4, 2) := by decide +kernel
theorem dX6_alphabet_177 : decode cX6_alphabet 177 = .ok (.iastore, 1) := by decide +kernel
theorem dX6_alphabet_178 : decode cX6_alphabet 178 = .ok (.aload_n 0, 1) := by decide +kernel
theorem dX6_alphabet_179 : decode cX6_alphabet 179 = .ok (.getfield 7, 3) := by decide +kernel
theorem dX6_alphabet_182 : decode cX6_alphabet 182 = .ok (.iconst 4, 1) := by decide +kernel
theorem dX6_alphabet_183 : decode cX6_alphabet 183 = .ok (.iload_n 1, 1) := by decide +kernel
theorem dX6_alphabet_184 : decode cX6_alphabet 184 = .ok (.imul, 1) := by decide +kernel
theorem dX6_alphabet_185 : decode cX6_alphabet 185 = .ok (.iconst 2, 1) := by decide +kernel
theorem dX6_alphabet_186 : decode cX6_alphabet 186 = .ok (.iadd, 1) := by decide +kernel
theorem dX6_alphabet_187 : decode cX6_alphabet 187 = .ok (.iload 5, 2) := by decide +kernel
theorem dX6_alphabet_189 : decode cX6_alphabet 189 = .ok (.iastore, 1) := by decide +kernel
theorem dX6_alphabet_190 : decode cX6_alphabet 190 = .ok (.aload_n 0, 1) := by decide +kernel
theorem dX6_alphabet_191 : decode cX6_alphabet 191 = .ok (.getfield 7, 3) := by decide +kernel
theorem dX6_alphabet_194 : decode cX6_alphabet 194 = .ok (.iconst 4, 1) := by decide +kernel
theorem dX6_alphabet_195 : decode cX6_alphabet 195 = .ok (.iload_n 1, 1) := by decide +kernel
theorem dX6_alphabet_196 : decode cX6_alphabet 196 = .ok (.imul, 1) := by decide +kernel
theorem dX6_alphabet_197 : decode cX6_alphabet 197 = .ok (.iconst 3, 1) := by decide +kernel
theorem dX6_alphabet_198 : decode cX6_alphabet 198 = .ok (.iadd, 1) := by decide +kernel
theorem dX6_alphabet_199 : decode cX6_alphabet 199 = .ok (.iload 6, 2) := by decide +kernel
theorem dX6_alphabet_201 : decode cX6_alphabet 201 = .ok (.iastore, 1) := by decide +kernel
theorem dX6_alphabet_202 : decode cX6_alphabet 202 = .ok (.aload_n 0, 1) := by decide +kernel
theorem dX6_alphabet_203 : decode cX6_alphabet 203 = .ok (.getfield 13, 3) := by decide +kernel
theorem dX6_alphabet_206 : decode cX6_alphabet 206 = .ok (.iload_n 1, 1) := by decide +kernel
theorem dX6_alphabet_207 : decode cX6_alphabet 207 = .ok (.iload_n 2, 1) := by decide +kernel
theorem dX6_alphabet_208 : decode cX6_alphabet 208 = .ok (.iastore, 1) := by decide +kernel
theorem dX6_alphabet_209 : decode cX6_alphabet 209 = .ok (.aload_n 0, 1) := by decide +kernel
theorem dX6_alphabet_210 : decode cX6_alphabet 210 = .ok (.iconst 1, 1) := by decide +kernel
theorem dX6_alphabet_211 : decode cX6_alphabet 211 = .ok (.putfield 53, 3) := by decide +kernel
theorem dX6_alphabet_214 : decode cX6_alphabet 214 = .ok (.iload_n 2, 1) := by decide +kernel
theorem dX6_alphabet_215 : decode cX6_alphabet 215 = .ok (.ireturn, 1) := by decide +kernel
set_option maxRecDepth 20000 in
theorem ggX6_ring_X6_in : GoodIn wsX6_ring wsX6_in := goodIn_r _ [8] (by decide +kernel) (by decide +kernel)
set_option maxRecDepth 20000 in
theorem gX6_ring_X6_in : GoodIn wsX6_ring (va_wsS RX6 59 yX6_in wsX6_in) := goodIn_app (goodIn_of _ (by decide +kernel)) ggX6_ring_X6_in
set_option maxRecDepth 20000 in
theorem ggX6_ring_X6_isAlphabet : GoodIn wsX6_ring wsX6_isAlphabet := goodIn_r _ [11, 1, 5, 6, 7, 8] (by decide +kernel) (by decide +kernel)
set_option maxRecDepth 20000 in
theorem gX6_ring_X6_isAlphabet : GoodIn wsX6_ring (va_wsS RX6 63 yX6_isAlphabet wsX6_isAlphabet) := goodIn_app (goodIn_of _ (by decide +kernel)) ggX6_ring_X6_isAlphabet
theorem dX6_ring_0 : decode cX6_ring 0 = .ok (.iload_n 1, 1) := by decide +kernel
theorem dX6_ring_1 : decode cX6_ring 1 = .ok (.i2l, 1) := by decide +kernel
theorem dX6_ring_2 : decode cX6_ring 2 = .ok (.lconst 1, 1) := by decide +kernel
theorem dX6_ring_3 : decode cX6_ring 3 = .ok (.ldc2_w 57, 3) := by decide +kernel
theorem dX6_ring_6 : decode cX6_ring 6 = .ok (.invokestatic 59, 3) := by decide +kernel
theorem dX6_ring_9 : decode cX6_ring 9 = .ok (.ifCond .ne 6, 3) := by decide +kernel
theorem dX6_ring_12 : decode cX6_ring 12 = .ok (.bipush (-102), 2) := by decide +kernel
theorem dX6_ring_14 : decode cX6_ring 14 = .ok (.ireturn, 1) := by decide +kernel
theorem dX6_ring_15 : decode cX6_ring 15 = .ok (.iload_n 2, 1) := by decide +kernel
theorem dX6_ring_16 : decode cX6_ring 16 = .ok (.invokestatic 63, 3) := by decide +kernel
theorem dX6_ring_19 : decode cX6_ring 19 = .ok (.ifCond .eq 28, 3) := by decide +kernel
theorem dX6_ring_22 : decode cX6_ring 22 = .ok (.iload_n 1, 1) := by decide +kernel
theorem dX6_ring_23 : decode cX6_ring 23 = .ok (.iconst 1, 1) := by decide +kernel
theorem dX6_ring_24 : decode cX6_ring 24 = .ok (.if_icmp .le 10, 3) := by decide +kernel
theorem dX6_ring_27 : decode cX6_ring 27 = .ok (.iload_n 3, 1) := by decide +kernel
theorem dX6_ring_28 : decode cX6_ring 28 = .ok (.invokestatic 63, 3) := by decide +kernel
theorem dX6_ring_31 : decode cX6_ring 31 = .ok (.ifCond .eq 16, 3) := by decide +kernel
theorem dX6_ring_34 : decode cX6_ring 34 = .ok (.iload_n 1, 1) := by decide +kernel
theorem dX6_ring_35 : decode cX6_ring 35 = .ok (.iconst 2, 1) := by decide +kernel
theorem dX6_ring_36 : decode cX6_ring 36 = .ok (.if_icmp .le 14, 3) := by decide +kernel
theorem dX6_ring_39 : decode cX6_ring 39 = .ok (.iload 4, 2) := by decide +kernel
theorem dX6_ring_41 : decode cX6_ring 41 = .ok (.invokestatic 63, 3) := by decide +kernel
theorem dX6_ring_44 : decode cX6_ring 44 = .ok (.ifCond .ne 6, 3) := by decide +kernel
theorem dX6_ring_47 : decode cX6_ring 47 = .ok (.bipush (-101), 2) := by decide +kernel
theorem dX6_ring_49 : decode cX6_ring 49 = .ok (.ireturn, 1) := by decide +kernel
theorem dX6_ring_50 : decode cX6_ring 50 = .ok (.aload_n 0, 1) := by decide +kernel
theorem dX6_ring_51 : decode cX6_ring 51 = .ok (.iload_n 1, 1) := by decide +kernel
theorem dX6_ring_52 : decode cX6_ring 52 = .ok (.putfield 49, 3) := by decide +kernel
theorem dX6_ring_55 : decode cX6_ring 55 = .ok (.aload_n 0, 1) := by decide +kernel
theorem dX6_ring_56 : decode cX6_ring 56 = .ok (.getfield 16, 3) := by decide +kernel
theorem dX6_ring_59 : decode cX6_ring 59 = .ok (.iconst 0, 1) := by decide +kernel
theorem dX6_ring_60 : decode cX6_ring 60 = .ok (.iload_n 2, 1) := by decide +kernel
theorem dX6_ring_61 : decode cX6_ring 61 = .ok (.iastore, 1) := by decide +kernel
theorem dX6_ring_62 : decode cX6_ring 62 = .ok (.aload_n 0, 1) := by decide +kernel
theorem dX6_ring_63 : decode cX6_ring 63 = .ok (.getfield 16, 3) := by decide +kernel
theorem dX6_ring_66 : decode cX6_ring 66 = .ok (.iconst 1, 1) := by decide +kernel
theorem dX6_ring_67 : decode cX6_ring 67 = .ok (.iload_n 3, 1) := by decide +kernel
theorem dX6_ring_68 : decode cX6_ring 68 = .ok (.iastore, 1) := by decide +kernel
theorem dX6_ring_69 : decode cX6_ring 69 = .ok (.aload_n 0, 1) := by decide +kernel
theorem dX6_ring_70 : decode cX6_ring 70 = .ok (.getfield 16, 3) := by decide +kernel
theorem dX6_ring_73 : decode cX6_ring 73 = .ok (.iconst 2, 1) := by decide +kernel
theorem dX6_ring_74 : decode cX6_ring 74 = .ok (.iload 4, 2) := by decide +kernel
theorem dX6_ring_76 : decode cX6_ring 76 = .ok (.iastore, 1) := by decide +kernel
theorem dX6_ring_77 : decode cX6_ring 77 = .ok (.aload_n 0, 1) := by decide +kernel
theorem dX6_ring_78 : decode cX6_ring 78 = .ok (.iconst 1, 1) := by decide +kernel
theorem dX6_ring_79 : decode cX6_ring 79 = .ok (.putfield 53, 3) := by decide +kernel
theorem dX6_ring_82 : decode cX6_ring 82 = .ok (.iload_n 1, 1) := by decide +kernel
theorem dX6_ring_83 : decode cX6_ring 83 = .ok (.ireturn, 1) := by decide +kernel
theorem dX6_number_0 : decode cX6_number 0 = .ok (.iload_n 1, 1) := by decide +kernel
theorem dX6_number_1 : decode cX6_number 1 = .ok (.ifCond .ne 12, 3) := by decide +kernel
theorem dX6_number_4 : decode cX6_number 4 = .ok (.aload_n 0, 1) := by decide +kernel
theorem dX6_number_5 : decode cX6_number 5 = .ok (.getfield 20, 3) := by decide +kernel
theorem dX6_number_8 : decode cX6_number 8 = .ok (.iload_n 2, 1) := by decide +kernel
theorem dX6_number_9 : decode cX6_number 9 = .ok (.baload, 1) := by decide +kernel
theorem dX6_number_10 : decode cX6_number 10 = .ok (.goto 23, 3) := by decide +kernel
theorem dX6_number_13 : decode cX6_number 13 = .ok (.iload_n 1, 1) := by decide +kernel
theorem dX6_number_14 : decode cX6_number 14 = .ok (.iconst 1, 1) := by decide +kernel
theorem dX6_number_15 : decode cX6_number 15 = .ok (.if_icmp .ne 12, 3) := by decide +kernel
theorem dX6_number_18 : decode cX6_number 18 = .ok (.aload_n 0, 1) := by decide +kernel
theorem dX6_number_19 : decode cX6_number 19 = .ok (.getfield 24, 3) := by decide +kernel
theorem dX6_number_22 : decode cX6_number 22 = .ok (.iload_n 2, 1) := by decide +kernel
theorem dX6_number_23 : decode cX6_number 23 = .ok (.baload, 1) := by decide +kernel
theorem dX6_number_24 : decode cX6_number 24 = .ok (.goto 9, 3) := by decide +kernel
theorem dX6_number_27 : decode cX6_number 27 = .ok (.aload_n 0, 1) := by decide +kernel
theorem dX6_number_28 : decode cX6_number 28 = .ok (.getfield 27, 3) := by decide +kernel
theorem dX6_number_31 : decode cX6_number 31 = .ok (.iload_n 2, 1) := by decide +kernel
theorem dX6_number_32 : decode cX6_number 32 = .ok (.baload, 1) := by decide +kernel
theorem dX6_number_33 : decode cX6_number 33 = .ok (.ireturn, 1) := by decide +kernel
theorem dX6_put_0 : decode cX6_put 0 = .ok (.iload_n 1, 1) := by decide +kernel
theorem dX6_put_1 : decode cX6_put 1 = .ok (.ifCond .ne 14, 3) := by decide +kernel
theorem dX6_put_4 : decode cX6_put 4 = .ok (.aload_n 0, 1) := by decide +kernel
theorem dX6_put_5 : decode cX6_put 5 = .ok (.getfield 20, 3) := by decide +kernel
theorem dX6_put_8 : decode cX6_put 8 = .ok (.iload_n 2, 1) := by decide +kernel
theorem dX6_put_9 : decode cX6_put 9 = .ok (.iload_n 3, 1) := by decide +kernel
theorem dX6_put_10 : decode cX6_put 10 = .ok (.i2b, 1) := by decide +kernel
theorem dX6_put_11 : decode cX6_put 11 = .ok (.bastore, 1) := by decide +kernel
theorem dX6_put_12 : decode cX6_put 12 = .ok (.goto 27, 3) := by decide +kernel
theorem dX6_put_15 : decode cX6_put 15 = .ok (.iload_n 1, 1) := by decide +kernel
theorem dX6_put_16 : decode cX6_put 16 = .ok (.iconst 1, 1) := by decide +kernel
theorem dX6_put_17 : decode cX6_put 17 = .ok (.if_icmp .ne 14, 3) := by decide +kernel
theorem dX6_put_20 : decode cX6_put 20 = .ok (.aload_n 0, 1) := by decide +kernel
theorem dX6_put_21 : decode cX6_put 21 = .ok (.getfield 24, 3) := by decide +kernel
theorem dX6_put_24 : decode cX6_put 24 = .ok (.iload_n 2, 1) := by decide +kernel
theorem dX6_put_25 : decode cX6_put 25 = .ok (.iload_n 3, 1) := by decide +kernel
theorem dX6_put_26 : decode cX6_put 26 = .ok (.i2b, 1) := by decide +kernel
theorem dX6_put_27 : decode cX6_put 27 = .ok (.bastore, 1) := by decide +kernel
theorem dX6_put_28 : decode cX6_put 28 = .ok (.goto 11, 3) := by decide +kernel
theorem dX6_put_31 : decode cX6_put 31 = .ok (.aload_n 0, 1) := by decide +kernel
theorem dX6_put_32 : decode cX6_put 32 = .ok (.getfield 27, 3) := by decide +kernel
theorem dX6_put_35 : decode cX6_put 35 = .ok (.iload_n 2, 1) := by decide +kernel
theorem dX6_put_36 : decode cX6_put 36 = .ok (.iload_n 3, 1) := by decide +kernel
theorem dX6_put_37 : decode cX6_put 37 = .ok (.i2b, 1) := by decide +kernel
theorem dX6_put_38 : decode cX6_put 38 = .ok (.bastore, 1) := by decide +kernel
theorem dX6_put_39 : decode cX6_put 39 = .ok (.return_, 1) := by decide +kernel
theorem dX6_letterOf_0 : decode cX6_letterOf 0 = .ok (.aload_n 0, 1) := by decide +kernel
theorem dX6_letterOf_1 : decode cX6_letterOf 1 = .ok (.getfield 16, 3) := by decide +kernel
theorem dX6_letterOf_4 : decode cX6_letterOf 4 = .ok (.iload_n 1, 1) := by decide +kernel
theorem dX6_letterOf_5 : decode cX6_letterOf 5 = .ok (.iaload, 1) := by decide +kernel
theorem dX6_letterOf_6 : decode cX6_letterOf 6 = .ok (.istore_n 3, 1) := by decide +kernel
theorem dX6_letterOf_7 : decode cX6_letterOf 7 = .ok (.aload_n 0, 1) := by decide +kernel
theorem dX6_letterOf_8 : decode cX6_letterOf 8 = .ok (.getfield 7, 3) := by decide +kernel
theorem dX6_letterOf_11 : decode cX6_letterOf 11 = .ok (.iconst 4, 1) := by decide +kernel
theorem dX6_letterOf_12 : decode cX6_letterOf 12 = .ok (.iload_n 3, 1) := by decide +kernel
theorem dX6_letterOf_13 : decode cX6_letterOf 13 = .ok (.imul, 1) := by decide +kernel
theorem dX6_letterOf_14 : decode cX6_letterOf 14 = .ok (.iload_n 2, 1) := by decide +kernel
theorem dX6_letterOf_15 : decode cX6_letterOf 15 = .ok (.aload_n 0, 1) := by decide +kernel
theorem dX6_letterOf_16 : decode cX6_letterOf 16 = .ok (.getfield 13, 3) := by decide +kernel
theorem dX6_letterOf_19 : decode cX6_letterOf 19 = .ok (.iload_n 3, 1) := by decide +kernel
theorem dX6_letterOf_20 : decode cX6_letterOf 20 = .ok (.iaload, 1) := by decide +kernel
theorem dX6_letterOf_21 : decode cX6_letterOf 21 = .ok (.irem, 1) := by decide +kernel
theorem dX6_letterOf_22 : decode cX6_letterOf 22 = .ok (.iadd, 1) := by decide +kernel
theorem dX6_letterOf_23 : decode cX6_letterOf 23 = .ok (.iaload, 1) := by decide +kernel
theorem dX6_letterOf_24 : decode cX6_letterOf 24 = .ok (.ireturn, 1) := by decide +kernel
set_option maxRecDepth 20000 in
theorem ggX6_make_X6_number : GoodIn wsX6_make wsX6_number := goodIn_r _ [10, 11, 12, 13, 25, 26, 27, 28, 29, 30, 31, 32, 33, 34, 35, 36, 37, 38, 39, 40, 41, 42, 43, 44] (by decide +kernel) (by decide +kernel)
set_option maxRecDepth 20000 in
theorem gX6_make_X6_number : GoodIn wsX6_make (wsV RX6 76 RX6 yX6_number wsX6_number) := goodIn_app (goodIn_of _ (by decide +kernel)) ggX6_make_X6_number
set_option maxRecDepth 20000 in
theorem ggX6_make_X6_letterOf : GoodIn wsX6_make wsX6_letterOf := goodIn_r _ [17, 18, 19, 20, 25, 26, 27, 28, 29, 30, 31, 32, 33, 34, 35, 36, 37, 38, 39, 40, 41, 42, 43, 44] (by decide +kernel) (by decide +kernel)
set_option maxRecDepth 20000 in
theorem gX6_make_X6_letterOf : GoodIn wsX6_make (wsV RX6 80 RX6 yX6_letterOf wsX6_letterOf) := goodIn_app (goodIn_of _ (by decide +kernel)) ggX6_make_X6_letterOf
set_option maxRecDepth 20000 in
theorem ggX6_make_X6_put : GoodIn wsX6_make wsX6_put := goodIn_r _ [24, 11, 12, 13, 25, 26, 27, 28, 29, 30, 31, 32, 33, 34, 35, 36, 37, 38, 39, 40, 41, 42, 43, 44] (by decide +kernel) (by decide +kernel)
set_option maxRecDepth 20000 in
theorem gX6_make_X6_put : GoodIn wsX6_make (wsV RX6 84 RX6 yX6_put wsX6_put) := goodIn_app (goodIn_of _ (by decide +kernel)) ggX6_make_X6_put
theorem dX6_make_0 : decode cX6_make 0 = .ok (.aload_n 0, 1) := by decide +kernel
theorem dX6_make_1 : decode cX6_make 1 = .ok (.getfield 53, 3) := by decide +kernel
theorem dX6_make_4 : decode cX6_make 4 = .ok (.ifCond .eq 33, 3) := by decide +kernel
theorem dX6_make_7 : decode cX6_make 7 = .ok (.aload_n 0, 1) := by decide +kernel
theorem dX6_make_8 : decode cX6_make 8 = .ok (.iconst 0, 1) := by decide +kernel
theorem dX6_make_9 : decode cX6_make 9 = .ok (.putfield 53, 3) := by decide +kernel
theorem dX6_make_12 : decode cX6_make 12 = .ok (.aload_n 0, 1) := by decide +kernel
theorem dX6_make_13 : decode cX6_make 13 = .ok (.iconst 0, 1) := by decide +kernel
theorem dX6_make_14 : decode cX6_make 14 = .ok (.putfield 73, 3) := by decide +kernel
theorem dX6_make_17 : decode cX6_make 17 = .ok (.iconst 0, 1) := by decide +kernel
theorem dX6_make_18 : decode cX6_make 18 = .ok (.istore_n 3, 1) := by decide +kernel
theorem dX6_make_19 : decode cX6_make 19 = .ok (.iload_n 3, 1) := by decide +kernel
theorem dX6_make_20 : decode cX6_make 20 = .ok (.iconst 3, 1) := by decide +kernel
theorem dX6_make_21 : decode cX6_make 21 = .ok (.if_icmp .ge 16, 3) := by decide +kernel
theorem dX6_make_24 : decode cX6_make 24 = .ok (.aload_n 0, 1) := by decide +kernel
theorem dX6_make_25 : decode cX6_make 25 = .ok (.getfield 30, 3) := by decide +kernel
theorem dX6_make_28 : decode cX6_make 28 = .ok (.iload_n 3, 1) := by decide +kernel
theorem dX6_make_29 : decode cX6_make 29 = .ok (.iconst 0, 1) := by decide +kernel
theorem dX6_make_30 : decode cX6_make 30 = .ok (.iastore, 1) := by decide +kernel
theorem dX6_make_31 : decode cX6_make 31 = .ok (.iinc 3 1, 3) := by decide +kernel
theorem dX6_make_34 : decode cX6_make 34 = .ok (.goto (-15), 3) := by decide +kernel
theorem dX6_make_37 : decode cX6_make 37 = .ok (.aload_n 0, 1) := by decide +kernel
theorem dX6_make_38 : decode cX6_make 38 = .ok (.getfield 30, 3) := by decide +kernel
theorem dX6_make_41 : decode cX6_make 41 = .ok (.iload_n 1, 1) := by decide +kernel
theorem dX6_make_42 : decode cX6_make 42 = .ok (.iaload, 1) := by decide +kernel
theorem dX6_make_43 : decode cX6_make 43 = .ok (.iload_n 2, 1) := by decide +kernel
theorem dX6_make_44 : decode cX6_make 44 = .ok (.if_icmp .gt 139, 3) := by decide +kernel
theorem dX6_make_47 : decode cX6_make 47 = .ok (.aload_n 0, 1) := by decide +kernel
theorem dX6_make_48 : decode cX6_make 48 = .ok (.getfield 73, 3) := by decide +kernel
theorem dX6_make_51 : decode cX6_make 51 = .ok (.istore_n 3, 1) := by decide +kernel
theorem dX6_make_52 : decode cX6_make 52 = .ok (.iconst 0, 1) := by decide +kernel
theorem dX6_make_53 : decode cX6_make 53 = .ok (.istore 4, 2) := by decide +kernel
theorem dX6_make_55 : decode cX6_make 55 = .ok (.iload 4, 2) := by decide +kernel
theorem dX6_make_57 : decode cX6_make 57 = .ok (.aload_n 0, 1) := by decide +kernel
theorem dX6_make_58 : decode cX6_make 58 = .ok (.getfield 49, 3) := by decide +kernel
theorem dX6_make_61 : decode cX6_make 61 = .ok (.if_icmp .ge 109, 3) := by decide +kernel
theorem dX6_make_64 : decode cX6_make 64 = .ok (.iload 4, 2) := by decide +kernel
theorem dX6_make_66 : decode cX6_make 66 = .ok (.iconst 1, 1) := by decide +kernel
theorem dX6_make_67 : decode cX6_make 67 = .ok (.iadd, 1) := by decide +kernel
theorem dX6_make_68 : decode cX6_make 68 = .ok (.aload_n 0, 1) := by decide +kernel
theorem dX6_make_69 : decode cX6_make 69 = .ok (.getfield 49, 3) := by decide +kernel
theorem dX6_make_72 : decode cX6_make 72 = .ok (.irem, 1) := by decide +kernel
theorem dX6_make_73 : decode cX6_make 73 = .ok (.istore 5, 2) := by decide +kernel
theorem dX6_make_75 : decode cX6_make 75 = .ok (.aload_n 0, 1) := by decide +kernel
theorem dX6_make_76 : decode cX6_make 76 = .ok (.getfield 30, 3) := by decide +kernel
theorem dX6_make_79 : decode cX6_make 79 = .ok (.iload 5, 2) := by decide +kernel
theorem dX6_make_81 : decode cX6_make 81 = .ok (.iaload, 1) := by decide +kernel
theorem dX6_make_82 : decode cX6_make 82 = .ok (.iload_n 3, 1) := by decide +kernel
theorem dX6_make_83 : decode cX6_make 83 = .ok (.if_icmp .le 13, 3) := by decide +kernel
theorem dX6_make_86 : decode cX6_make 86 = .ok (.aload_n 0, 1) := by decide +kernel
theorem dX6_make_87 : decode cX6_make 87 = .ok (.iload 5, 2) := by decide +kernel
theorem dX6_make_89 : decode cX6_make 89 = .ok (.iload_n 3, 1) := by decide +kernel
theorem dX6_make_90 : decode cX6_make 90 = .ok (.invokevirtual 76, 3) := by decide +kernel
theorem dX6_make_93 : decode cX6_make 93 = .ok (.goto 10, 3) := by decide +kernel
theorem dX6_make_96 : decode cX6_make 96 = .ok (.aload_n 0, 1) := by decide +kernel
theorem dX6_make_97 : decode cX6_make 97 = .ok (.iload 5, 2) := by decide +kernel
theorem dX6_make_99 : decode cX6_make 99 = .ok (.iload_n 3, 1) := by decide +kernel
theorem dX6_make_100 : decode cX6_make 100 = .ok (.invokevirtual 80, 3) := by decide +kernel
theorem dX6_make_103 : decode cX6_make 103 = .ok (.istore 6, 2) := by decide +kernel
theorem dX6_make_105 : decode cX6_make 105 = .ok (.iconst 0, 1) := by decide +kernel
theorem dX6_make_106 : decode cX6_make 106 = .ok (.istore 7, 2) := by decide +kernel
theorem dX6_make_108 : decode cX6_make 108 = .ok (.iload 7, 2) := by decide +kernel
theorem dX6_make_110 : decode cX6_make 110 = .ok (.iload 6, 2) := by decide +kernel
theorem dX6_make_112 : decode cX6_make 112 = .ok (.if_icmp .ge 52, 3) := by decide +kernel
theorem dX6_make_115 : decode cX6_make 115 = .ok (.aload_n 0, 1) := by decide +kernel
theorem dX6_make_116 : decode cX6_make 116 = .ok (.getfield 30, 3) := by decide +kernel
theorem dX6_make_119 : decode cX6_make 119 = .ok (.iload 4, 2) := by decide +kernel
theorem dX6_make_121 : decode cX6_make 121 = .ok (.iaload, 1) := by decide +kernel
theorem dX6_make_122 : decode cX6_make 122 = .ok (.ldc 83, 2) := by decide +kernel
theorem dX6_make_124 : decode cX6_make 124 = .ok (.if_icmp .gt 40, 3) := by decide +kernel
theorem dX6_make_127 : decode cX6_make 127 = .ok (.aload_n 0, 1) := by decide +kernel
theorem dX6_make_128 : decode cX6_make 128 = .ok (.iload 4, 2) := by decide +kernel
theorem dX6_make_130 : decode cX6_make 130 = .ok (.aload_n 0, 1) := by decide +kernel
theorem dX6_make_131 : decode cX6_make 131 = .ok (.getfield 30, 3) := by decide +kernel
theorem dX6_make_134 : decode cX6_make 134 = .ok (.iload 4, 2) := by decide +kernel
theorem dX6_make_136 : decode cX6_make 136 = .ok (.iaload, 1) := by decide +kernel
theorem dX6_make_137 : decode cX6_make 137 = .ok (.aload_n 0, 1) := by decide +kernel
theorem dX6_make_138 : decode cX6_make 138 = .ok (.iload 4, 2) := by decide +kernel
theorem dX6_make_140 : decode cX6_make 140 = .ok (.iload_n 3, 1) := by decide +kernel
theorem dX6_make_141 : decode cX6_make 141 = .ok (.invokevirtual 80, 3) := by decide +kernel
theorem dX6_make_144 : decode cX6_make 144 = .ok (.invokevirtual 84, 3) := by decide +kernel
theorem dX6_make_147 : decode cX6_make 147 = .ok (.aload_n 0, 1) := by decide +kernel
theorem dX6_make_148 : decode cX6_make 148 = .ok (.getfield 30, 3) := by decide +kernel
theorem dX6_make_151 : decode cX6_make 151 = .ok (.iload 4, 2) := by decide +kernel
theorem dX6_make_153 : decode cX6_make 153 = .ok (.dup2, 1) := by decide +kernel
theorem dX6_make_154 : decode cX6_make 154 = .ok (.iaload, 1) := by decide +kernel
theorem dX6_make_155 : decode cX6_make 155 = .ok (.iconst 1, 1) := by decide +kernel
theorem dX6_make_156 : decode cX6_make 156 = .ok (.iadd, 1) := by decide +kernel
theorem dX6_make_157 : decode cX6_make 157 = .ok (.iastore, 1) := by decide +kernel
theorem dX6_make_158 : decode cX6_make 158 = .ok (.iinc 7 1, 3) := by decide +kernel
theorem dX6_make_161 : decode cX6_make 161 = .ok (.goto (-53), 3) := by decide +kernel
theorem dX6_make_164 : decode cX6_make 164 = .ok (.iinc 4 1, 3) := by decide +kernel
theorem dX6_make_167 : decode cX6_make 167 = .ok (.goto (-112), 3) := by decide +kernel
theorem dX6_make_170 : decode cX6_make 170 = .ok (.aload_n 0, 1) := by decide +kernel
theorem dX6_make_171 : decode cX6_make 171 = .ok (.dup, 1) := by decide +kernel
theorem dX6_make_172 : decode cX6_make 172 = .ok (.getfield 73, 3) := by decide +kernel
theorem dX6_make_175 : decode cX6_make 175 = .ok (.iconst 1, 1) := by decide +kernel
theorem dX6_make_176 : decode cX6_make 176 = .ok (.iadd, 1) := by decide +kernel
theorem dX6_make_177 : decode cX6_make 177 = .ok (.putfield 73, 3) := by decide +kernel
theorem dX6_make_180 : decode cX6_make 180 = .ok (.goto (-143), 3) := by decide +kernel
theorem dX6_make_183 : decode cX6_make 183 = .ok (.return_, 1) := by decide +kernel
set_option maxRecDepth 20000 in
theorem ggX6_isRow_X6_in : GoodIn wsX6_isRow wsX6_in := goodIn_r _ [5] (by decide +kernel) (by decide +kernel)
set_option maxRecDepth 20000 in
theorem gX6_isRow_X6_in : GoodIn wsX6_isRow (va_wsS RX6 59 yX6_in wsX6_in) := goodIn_app (goodIn_of _ (by decide +kernel)) ggX6_isRow_X6_in
theorem dX6_isRow_0 : decode cX6_isRow 0 = .ok (.iload_n 1, 1) := by decide +kernel
theorem dX6_isRow_1 : decode cX6_isRow 1 = .ok (.i2l, 1) := by decide +kernel
theorem dX6_isRow_2 : decode cX6_isRow 2 = .ok (.lconst 0, 1) := by decide +kernel
theorem dX6_isRow_3 : decode cX6_isRow 3 = .ok (.aload_n 0, 1) := by decide +kernel
theorem dX6_isRow_4 : decode cX6_isRow 4 = .ok (.getfield 49, 3) := by decide +kernel
theorem dX6_isRow_7 : decode cX6_isRow 7 = .ok (.iconst 1, 1) := by decide +kernel
theorem dX6_isRow_8 : decode cX6_isRow 8 = .ok (.isub, 1) := by decide +kernel
theorem dX6_isRow_9 : decode cX6_isRow 9 = .ok (.i2l, 1) := by decide +kernel
theorem dX6_isRow_10 : decode cX6_isRow 10 = .ok (.invokestatic 59, 3) := by decide +kernel
theorem dX6_isRow_13 : decode cX6_isRow 13 = .ok (.ireturn, 1) := by decide +kernel
set_option maxRecDepth 20000 in
theorem ggX6_isPlace_X6_in : GoodIn wsX6_isPlace wsX6_in := goodIn_r _ [5] (by decide +kernel) (by decide +kernel)
set_option maxRecDepth 20000 in
theorem gX6_isPlace_X6_in : GoodIn wsX6_isPlace (va_wsS RX6 59 yX6_in wsX6_in) := goodIn_app (goodIn_of _ (by decide +kernel)) ggX6_isPlace_X6_in
theorem dX6_isPlace_0 : decode cX6_isPlace 0 = .ok (.iload_n 0, 1) := by decide +kernel
theorem dX6_isPlace_1 : decode cX6_isPlace 1 = .ok (.i2l, 1) := by decide +kernel
theorem dX6_isPlace_2 : decode cX6_isPlace 2 = .ok (.lconst 0, 1) := by decide +kernel
theorem dX6_isPlace_3 : decode cX6_isPlace 3 = .ok (.ldc2_w 88, 3) := by decide +kernel
theorem dX6_isPlace_6 : decode cX6_isPlace 6 = .ok (.invokestatic 59, 3) := by decide +kernel
theorem dX6_isPlace_9 : decode cX6_isPlace 9 = .ok (.ireturn, 1) := by decide +kernel
set_option maxRecDepth 20000 in
theorem ggX6_at_X6_isRow : GoodIn wsX6_at wsX6_isRow := goodIn_r _ [5, 6, 7, 8, 4, 9, 40, 41, 42, 43, 44, 45, 46, 47, 48, 49, 50, 51, 52, 53, 54, 55, 56, 57, 58, 59] (by decide +kernel) (by decide +kernel)
set_option maxRecDepth 20000 in
theorem gX6_at_X6_isRow : GoodIn wsX6_at (wsV RX6 90 RX6 yX6_isRow wsX6_isRow) := goodIn_app (goodIn_of _ (by decide +kernel)) ggX6_at_X6_isRow
set_option maxRecDepth 20000 in
theorem ggX6_at_X6_isPlace : GoodIn wsX6_at wsX6_isPlace := goodIn_r _ [12, 13, 7, 8, 4, 9] (by decide +kernel) (by decide +kernel)
set_option maxRecDepth 20000 in
theorem gX6_at_X6_isPlace : GoodIn wsX6_at (va_wsS RX6 93 yX6_isPlace wsX6_isPlace) := goodIn_app (goodIn_of _ (by decide +kernel)) ggX6_at_X6_isPlace
set_option maxRecDepth 20000 in
theorem ggX6_at_X6_make : GoodIn wsX6_at wsX6_make := goodIn_r _ [17, 18, 19, 20, 6, 21, 22, 23, 24, 4, 25, 26, 27, 28, 29, 30, 31, 32, 33, 34, 35, 36, 37, 38, 39, 40, 41, 42, 43, 44, 45, 46, 47, 48, 49, 50, 51, 52, 53, 54, 55, 56, 57, 58, 59] (by decide +kernel) (by decide +kernel)
set_option maxRecDepth 20000 in
theorem gX6_at_X6_make : GoodIn wsX6_at (wsV RX6 96 RX6 yX6_make wsX6_make) := goodIn_app (goodIn_of _ (by decide +kernel)) ggX6_at_X6_make
set_option maxRecDepth 20000 in
theorem ggX6_at_X6_number : GoodIn wsX6_at wsX6_number := goodIn_r _ [25, 26, 27, 28, 40, 41, 42, 43, 44, 45, 46, 47, 48, 49, 50, 51, 52, 53, 54, 55, 56, 57, 58, 59] (by decide +kernel) (by decide +kernel)
set_option maxRecDepth 20000 in
theorem gX6_at_X6_number : GoodIn wsX6_at (wsV RX6 76 RX6 yX6_number wsX6_number) := goodIn_app (goodIn_of _ (by decide +kernel)) ggX6_at_X6_number
theorem dX6_at_0 : decode cX6_at 0 = .ok (.aload_n 0, 1) := by decide +kernel
theorem dX6_at_1 : decode cX6_at 1 = .ok (.iload_n 1, 1) := by decide +kernel
theorem dX6_at_2 : decode cX6_at 2 = .ok (.invokevirtual 90, 3) := by decide +kernel
theorem dX6_at_5 : decode cX6_at 5 = .ok (.ifCond .ne 6, 3) := by decide +kernel
theorem dX6_at_8 : decode cX6_at 8 = .ok (.bipush (-101), 2) := by decide +kernel
theorem dX6_at_10 : decode cX6_at 10 = .ok (.ireturn, 1) := by decide +kernel
theorem dX6_at_11 : decode cX6_at 11 = .ok (.iload_n 2, 1) := by decide +kernel
theorem dX6_at_12 : decode cX6_at 12 = .ok (.invokestatic 93, 3) := by decide +kernel
theorem dX6_at_15 : decode cX6_at 15 = .ok (.ifCond .ne 6, 3) := by decide +kernel
theorem dX6_at_18 : decode cX6_at 18 = .ok (.bipush (-102), 2) := by decide +kernel
theorem dX6_at_20 : decode cX6_at 20 = .ok (.ireturn, 1) := by decide +kernel
theorem dX6_at_21 : decode cX6_at 21 = .ok (.aload_n 0, 1) := by decide +kernel
theorem dX6_at_22 : decode cX6_at 22 = .ok (.iload_n 1, 1) := by decide +kernel
theorem dX6_at_23 : decode cX6_at 23 = .ok (.iload_n 2, 1) := by decide +kernel
theorem dX6_at_24 : decode cX6_at 24 = .ok (.invokevirtual 96, 3) := by decide +kernel
theorem dX6_at_27 : decode cX6_at 27 = .ok (.aload_n 0, 1) := by decide +kernel
theorem dX6_at_28 : decode cX6_at 28 = .ok (.iload_n 1, 1) := by decide +kernel
theorem dX6_at_29 : decode cX6_at 29 = .ok (.iload_n 2, 1) := by decide +kernel
theorem dX6_at_30 : decode cX6_at 30 = .ok (.invokevirtual 76, 3) := by decide +kernel
theorem dX6_at_33 : decode cX6_at 33 = .ok (.ireturn, 1) := by decide +kernel
set_option maxRecDepth 20000 in
theorem ggX6_count_X6_isRow : GoodIn wsX6_count wsX6_isRow := goodIn_r _ [5, 6, 7, 8, 4, 9, 40, 41, 42, 43, 44, 45, 46, 47, 48, 49, 50, 51, 52, 53, 54, 55, 56, 57, 58, 59] (by decide +kernel) (by decide +kernel)
set_option maxRecDepth 20000 in
theorem gX6_count_X6_isRow : GoodIn wsX6_count (wsV RX6 90 RX6 yX6_isRow wsX6_isRow) := goodIn_app (goodIn_of _ (by decide +kernel)) ggX6_count_X6_isRow
set_option maxRecDepth 20000 in
theorem ggX6_count_X6_isPlace : GoodIn wsX6_count wsX6_isPlace := goodIn_r _ [12, 13, 7, 8, 4, 9] (by decide +kernel) (by decide +kernel)
set_option maxRecDepth 20000 in
theorem gX6_count_X6_isPlace : GoodIn wsX6_count (va_wsS RX6 93 yX6_isPlace wsX6_isPlace) := goodIn_app (goodIn_of _ (by decide +kernel)) ggX6_count_X6_isPlace
set_option maxRecDepth 20000 in
theorem ggX6_count_X6_make : GoodIn wsX6_count wsX6_make := goodIn_r _ [17, 18, 19, 20, 6, 21, 22, 23, 24, 4, 25, 26, 27, 28, 29, 30, 31, 32, 33, 34, 35, 36, 37, 38, 39, 40, 41, 42, 43, 44, 45, 46, 47, 48, 49, 50, 51, 52, 53, 54, 55, 56, 57, 58, 59] (by decide +kernel) (by decide +kernel)
set_option maxRecDepth 20000 in
theorem gX6_count_X6_make : GoodIn wsX6_count (wsV RX6 96 RX6 yX6_make wsX6_make) := goodIn_app (goodIn_of _ (by decide +kernel)) ggX6_count_X6_make
set_option maxRecDepth 20000 in
theorem ggX6_count_X6_number : GoodIn wsX6_count wsX6_number := goodIn_r _ [25, 26, 27, 28, 40, 41, 42, 43, 44, 45, 46, 47, 48, 49, 50, 51, 52, 53, 54, 55, 56, 57, 58, 59] (by decide +kernel) (by decide +kernel)
set_option maxRecDepth 20000 in
theorem gX6_count_X6_number : GoodIn wsX6_count (wsV RX6 76 RX6 yX6_number wsX6_number) := goodIn_app (goodIn_of _ (by decide +kernel)) ggX6_count_X6_number
theorem dX6_count_0 : decode cX6_count 0 = .ok (.aload_n 0, 1) := by decide +kernel
theorem dX6_count_1 : decode cX6_count 1 = .ok (.iload_n 1, 1) := by decide +kernel
theorem dX6_count_2 : decode cX6_count 2 = .ok (.invokevirtual 90, 3) := by decide +kernel
theorem dX6_count_5 : decode cX6_count 5 = .ok (.ifCond .ne 6, 3) := by decide +kernel
theorem dX6_count_8 : decode cX6_count 8 = .ok (.bipush (-101), 2) := by decide +kernel
theorem dX6_count_10 : decode cX6_count 10 = .ok (.ireturn, 1) := by decide +kernel
theorem dX6_count_11 : decode cX6_count 11 = .ok (.iload_n 3, 1) := by decide +kernel
theorem dX6_count_12 : decode cX6_count 12 = .ok (.invokestatic 93, 3) := by decide +kernel
theorem dX6_count_15 : decode cX6_count 15 = .ok (.ifCond .ne 6, 3) := by decide +kernel
theorem dX6_count_18 : decode cX6_count 18 = .ok (.bipush (-102), 2) := by decide +kernel
theorem dX6_count_20 : decode cX6_count 20 = .ok (.ireturn, 1) := by decide +kernel
theorem dX6_count_21 : decode cX6_count 21 = .ok (.aload_n 0, 1) := by decide +kernel
theorem dX6_count_22 : decode cX6_count 22 = .ok (.iload_n 1, 1) := by decide +kernel
theorem dX6_count_23 : decode cX6_count 23 = .ok (.iload_n 3, 1) := by decide +kernel
theorem dX6_count_24 : decode cX6_count 24 = .ok (.iconst 1, 1) := by decide +kernel
theorem dX6_count_25 : decode cX6_count 25 = .ok (.isub, 1) := by decide +kernel
theorem dX6_count_26 : decode cX6_count 26 = .ok (.invokevirtual 96, 3) := by decide +kernel
theorem dX6_count_29 : decode cX6_count 29 = .ok (.iconst 0, 1) := by decide +kernel
theorem dX6_count_30 : decode cX6_count 30 = .ok (.istore 4, 2) := by decide +kernel
theorem dX6_count_32 : decode cX6_count 32 = .ok (.iconst 0, 1) := by decide +kernel
theorem dX6_count_33 : decode cX6_count 33 = .ok (.istore 5, 2) := by decide +kernel
theorem dX6_count_35 : decode cX6_count 35 = .ok (.iload 5, 2) := by decide +kernel
theorem dX6_count_37 : decode cX6_count 37 = .ok (.iload_n 3, 1) := by decide +kernel
theorem dX6_count_38 : decode cX6_count 38 = .ok (.if_icmp .ge 30, 3) := by decide +kernel
theorem dX6_count_41 : decode cX6_count 41 = .ok (.iload 4, 2) := by decide +kernel
theorem dX6_count_43 : decode cX6_count 43 = .ok (.aload_n 0, 1) := by decide +kernel
theorem dX6_count_44 : decode cX6_count 44 = .ok (.iload_n 1, 1) := by decide +kernel
theorem dX6_count_45 : decode cX6_count 45 = .ok (.iload 5, 2) := by decide +kernel
theorem dX6_count_47 : decode cX6_count 47 = .ok (.invokevirtual 76, 3) := by decide +kernel
theorem dX6_count_50 : decode cX6_count 50 = .ok (.iload_n 2, 1) := by decide +kernel
theorem dX6_count_51 : decode cX6_count 51 = .ok (.if_icmp .ne 7, 3) := by decide +kernel
theorem dX6_count_54 : decode cX6_count 54 = .ok (.iconst 1, 1) := by decide +kernel
theorem dX6_count_55 : decode cX6_count 55 = .ok (.goto 4, 3) := by decide +kernel
theorem dX6_count_58 : decode cX6_count 58 = .ok (.iconst 0, 1) := by decide +kernel
theorem dX6_count_59 : decode cX6_count 59 = .ok (.iadd, 1) := by decide +kernel
theorem dX6_count_60 : decode cX6_count 60 = .ok (.istore 4, 2) := by decide +kernel
theorem dX6_count_62 : decode cX6_count 62 = .ok (.iinc 5 1, 3) := by decide +kernel
theorem dX6_count_65 : decode cX6_count 65 = .ok (.goto (-30), 3) := by decide +kernel
theorem dX6_count_68 : decode cX6_count 68 = .ok (.iload 4, 2) := by decide +kernel
theorem dX6_count_70 : decode cX6_count 70 = .ok (.ireturn, 1) := by decide +kernel
set_option maxRecDepth 20000 in
theorem ggX6_sum_X6_isRow : GoodIn wsX6_sum wsX6_isRow := goodIn_r _ [5, 6, 7, 8, 4, 9, 40, 41, 42, 43, 44, 45, 46, 47, 48, 49, 50, 51, 52, 53, 54, 55, 56, 57, 58, 59] (by decide +kernel) (by decide +kernel)
set_option maxRecDepth 20000 in
theorem gX6_sum_X6_isRow : GoodIn wsX6_sum (wsV RX6 90 RX6 yX6_isRow wsX6_isRow) := goodIn_app (goodIn_of _ (by decide +kernel)) ggX6_sum_X6_isRow
set_option maxRecDepth 20000 in
theorem ggX6_sum_X6_isPlace : GoodIn wsX6_sum wsX6_isPlace := goodIn_r _ [12, 13, 7, 8, 4, 9] (by decide +kernel) (by decide +kernel)
set_option maxRecDepth 20000 in
theorem gX6_sum_X6_isPlace : GoodIn wsX6_sum (va_wsS RX6 93 yX6_isPlace wsX6_isPlace) := goodIn_app (goodIn_of _ (by decide +kernel)) ggX6_sum_X6_isPlace
set_option maxRecDepth 20000 in
theorem ggX6_sum_X6_make : GoodIn wsX6_sum wsX6_make := goodIn_r _ [17, 18, 19, 20, 6, 21, 22, 23, 24, 4, 25, 26, 27, 28, 29, 30, 31, 32, 33, 34, 35, 36, 37, 38, 39, 40, 41, 42, 43, 44, 45, 46, 47, 48, 49, 50, 51, 52, 53, 54, 55, 56, 57, 58, 59] (by decide +kernel) (by decide +kernel)
set_option maxRecDepth 20000 in
theorem gX6_sum_X6_make : GoodIn wsX6_sum (wsV RX6 96 RX6 yX6_make wsX6_make) := goodIn_app (goodIn_of _ (by decide +kernel)) ggX6_sum_X6_make
set_option maxRecDepth 20000 in
theorem ggX6_sum_X6_number : GoodIn wsX6_sum wsX6_number := goodIn_r _ [25, 26, 27, 28, 40, 41, 42, 43, 44, 45, 46, 47, 48, 49, 50, 51, 52, 53, 54, 55, 56, 57, 58, 59] (by decide +kernel) (by decide +kernel)
set_option maxRecDepth 20000 in
theorem gX6_sum_X6_number : GoodIn wsX6_sum (wsV RX6 76 RX6 yX6_number wsX6_number) := goodIn_app (goodIn_of _ (by decide +kernel)) ggX6_sum_X6_number
theorem dX6_sum_0 : decode cX6_sum 0 = .ok (.aload_n 0, 1) := by decide +kernel
theorem dX6_sum_1 : decode cX6_sum 1 = .ok (.iload_n 1, 1) := by decide +kernel
theorem dX6_sum_2 : decode cX6_sum 2 = .ok (.invokevirtual 90, 3) := by decide +kernel
theorem dX6_sum_5 : decode cX6_sum 5 = .ok (.ifCond .ne 6, 3) := by decide +kernel
theorem dX6_sum_8 : decode cX6_sum 8 = .ok (.bipush (-101), 2) := by decide +kernel
theorem dX6_sum_10 : decode cX6_sum 10 = .ok (.ireturn, 1) := by decide +kernel
theorem dX6_sum_11 : decode cX6_sum 11 = .ok (.iload_n 2, 1) := by decide +kernel
theorem dX6_sum_12 : decode cX6_sum 12 = .ok (.invokestatic 93, 3) := by decide +kernel
theorem dX6_sum_15 : decode cX6_sum 15 = .ok (.ifCond .ne 6, 3) := by decide +kernel
theorem dX6_sum_18 : decode cX6_sum 18 = .ok (.bipush (-102), 2) := by decide +kernel
theorem dX6_sum_20 : decode cX6_sum 20 = .ok (.ireturn, 1) := by decide +kernel
theorem dX6_sum_21 : decode cX6_sum 21 = .ok (.aload_n 0, 1) := by decide +kernel
theorem dX6_sum_22 : decode cX6_sum 22 = .ok (.iload_n 1, 1) := by decide +kernel
theorem dX6_sum_23 : decode cX6_sum 23 = .ok (.iload_n 2, 1) := by decide +kernel
theorem dX6_sum_24 : decode cX6_sum 24 = .ok (.iconst 1, 1) := by decide +kernel
theorem dX6_sum_25 : decode cX6_sum 25 = .ok (.isub, 1) := by decide +kernel
theorem dX6_sum_26 : decode cX6_sum 26 = .ok (.invokevirtual 96, 3) := by decide +kernel
theorem dX6_sum_29 : decode cX6_sum 29 = .ok (.iconst 0, 1) := by decide +kernel
theorem dX6_sum_30 : decode cX6_sum 30 = .ok (.istore_n 3, 1) := by decide +kernel
theorem dX6_sum_31 : decode cX6_sum 31 = .ok (.iconst 0, 1) := by decide +kernel
theorem dX6_sum_32 : decode cX6_sum 32 = .ok (.istore 4, 2) := by decide +kernel
theorem dX6_sum_34 : decode cX6_sum 34 = .ok (.iload 4, 2) := by decide +kernel
theorem dX6_sum_36 : decode cX6_sum 36 = .ok (.iload_n 2, 1) := by decide +kernel
theorem dX6_sum_37 : decode cX6_sum 37 = .ok (.if_icmp .ge 19, 3) := by decide +kernel
theorem dX6_sum_40 : decode cX6_sum 40 = .ok (.iload_n 3, 1) := by decide +kernel
theorem dX6_sum_41 : decode cX6_sum 41 = .ok (.aload_n 0, 1) := by decide +kernel
theorem dX6_sum_42 : decode cX6_sum 42 = .ok (.iload_n 1, 1) := by decide +kernel
theorem dX6_sum_43 : decode cX6_sum 43 = .ok (.iload 4, 2) := by decide +kernel
theorem dX6_sum_45 : decode cX6_sum 45 = .ok (.invokevirtual 76, 3) := by decide +kernel
theorem dX6_sum_48 : decode cX6_sum 48 = .ok (.iadd, 1) := by decide +kernel
theorem dX6_sum_49 : decode cX6_sum 49 = .ok (.istore_n 3, 1) := by decide +kernel
theorem dX6_sum_50 : decode cX6_sum 50 = .ok (.iinc 4 1, 3) := by decide +kernel
theorem dX6_sum_53 : decode cX6_sum 53 = .ok (.goto (-19), 3) := by decide +kernel
theorem dX6_sum_56 : decode cX6_sum 56 = .ok (.iload_n 3, 1) := by decide +kernel
theorem dX6_sum_57 : decode cX6_sum 57 = .ok (.ireturn, 1) := by decide +kernel
set_option maxRecDepth 20000 in
theorem ggX6_run_X6_isRow : GoodIn wsX6_run wsX6_isRow := goodIn_r _ [5, 6, 7, 8, 4, 9, 40, 41, 42, 43, 44, 45, 46, 47, 48, 49, 50, 51, 52, 53, 54, 55, 56, 57, 58, 59] (by decide +kernel) (by decide +kernel)
set_option maxRecDepth 20000 in
theorem gX6_run_X6_isRow : GoodIn wsX6_run (wsV RX6 90 RX6 yX6_isRow wsX6_isRow) := goodIn_app (goodIn_of _ (by decide +kernel)) ggX6_run_X6_isRow
set_option maxRecDepth 20000 in
theorem ggX6_run_X6_isPlace : GoodIn wsX6_run wsX6_isPlace := goodIn_r _ [12, 13, 7, 8, 4, 9] (by decide +kernel) (by decide +kernel)
set_option maxRecDepth 20000 in
theorem gX6_run_X6_isPlace : GoodIn wsX6_run (va_wsS RX6 93 yX6_isPlace wsX6_isPlace) := goodIn_app (goodIn_of _ (by decide +kernel)) ggX6_run_X6_isPlace
set_option maxRecDepth 20000 in
theorem ggX6_run_X6_make : GoodIn wsX6_run wsX6_make := goodIn_r _ [17, 18, 19, 20, 6, 21, 22, 23, 24, 4, 25, 26, 27, 28, 29, 30, 31, 32, 33, 34, 35, 36, 37, 38, 39, 40, 41, 42, 43, 44, 45, 46, 47, 48, 49, 50, 51, 52, 53, 54, 55, 56, 57, 58, 59] (by decide +kernel) (by decide +kernel)
set_option maxRecDepth 20000 in
theorem gX6_run_X6_make : GoodIn wsX6_run (wsV RX6 96 RX6 yX6_make wsX6_make) := goodIn_app (goodIn_of _ (by decide +kernel)) ggX6_run_X6_make
set_option maxRecDepth 20000 in
theorem ggX6_run_X6_number : GoodIn wsX6_run wsX6_number := goodIn_r _ [25, 26, 27, 28, 40, 41, 42, 43, 44, 45, 46, 47, 48, 49, 50, 51, 52, 53, 54, 55, 56, 57, 58, 59] (by decide +kernel) (by decide +kernel)
set_option maxRecDepth 20000 in
theorem gX6_run_X6_number : GoodIn wsX6_run (wsV RX6 76 RX6 yX6_number wsX6_number) := goodIn_app (goodIn_of _ (by decide +kernel)) ggX6_run_X6_number
theorem dX6_run_0 : decode cX6_run 0 = .ok (.aload_n 0, 1) := by decide +kernel
theorem dX6_run_1 : decode cX6_run 1 = .ok (.iload_n 1, 1) := by decide +kernel
theorem dX6_run_2 : decode cX6_run 2 = .ok (.invokevirtual 90, 3) := by decide +kernel
theorem dX6_run_5 : decode cX6_run 5 = .ok (.ifCond .ne 6, 3) := by decide +kernel
theorem dX6_run_8 : decode cX6_run 8 = .ok (.bipush (-101), 2) := by decide +kernel
theorem dX6_run_10 : decode cX6_run 10 = .ok (.ireturn, 1) := by decide +kernel
theorem dX6_run_11 : decode cX6_run 11 = .ok (.iload_n 2, 1) := by decide +kernel
theorem dX6_run_12 : decode cX6_run 12 = .ok (.invokestatic 93, 3) := by decide +kernel
theorem dX6_run_15 : decode cX6_run 15 = .ok (.ifCond .ne 6, 3) := by decide +kernel
theorem dX6_run_18 : decode cX6_run 18 = .ok (.bipush (-102), 2) := by decide +kernel
theorem dX6_run_20 : decode cX6_run 20 = .ok (.ireturn, 1) := by decide +kernel
theorem dX6_run_21 : decode cX6_run 21 = .ok (.aload_n 0, 1) := by decide +kernel
theorem dX6_run_22 : decode cX6_run 22 = .ok (.iload_n 1, 1) := by decide +kernel
theorem dX6_run_23 : decode cX6_run 23 = .ok (.iload_n 2, 1) := by decide +kernel
theorem dX6_run_24 : decode cX6_run 24 = .ok (.invokevirtual 96, 3) := by decide +kernel
theorem dX6_run_27 : decode cX6_run 27 = .ok (.iconst 0, 1) := by decide +kernel
theorem dX6_run_28 : decode cX6_run 28 = .ok (.istore_n 3, 1) := by decide +kernel
theorem dX6_run_29 : decode cX6_run 29 = .ok (.iconst 1, 1) := by decide +kernel
theorem dX6_run_30 : decode cX6_run 30 = .ok (.istore 4, 2) := by decide +kernel
theorem dX6_run_32 : decode cX6_run 32 = .ok (.iload 4, 2) := by decide +kernel
theorem dX6_run_34 : decode cX6_run 34 = .ok (.iload_n 2, 1) := by decide +kernel
theorem dX6_run_35 : decode cX6_run 35 = .ok (.if_icmp .gt 36, 3) := by decide +kernel
theorem dX6_run_38 : decode cX6_run 38 = .ok (.iload_n 3, 1) := by decide +kernel
theorem dX6_run_39 : decode cX6_run 39 = .ok (.aload_n 0, 1) := by decide +kernel
theorem dX6_run_40 : decode cX6_run 40 = .ok (.iload_n 1, 1) := by decide +kernel
theorem dX6_run_41 : decode cX6_run 41 = .ok (.iload 4, 2) := by decide +kernel
theorem dX6_run_43 : decode cX6_run 43 = .ok (.invokevirtual 76, 3) := by decide +kernel
theorem dX6_run_46 : decode cX6_run 46 = .ok (.aload_n 0, 1) := by decide +kernel
theorem dX6_run_47 : decode cX6_run 47 = .ok (.iload_n 1, 1) := by decide +kernel
theorem dX6_run_48 : decode cX6_run 48 = .ok (.iload 4, 2) := by decide +kernel
theorem dX6_run_50 : decode cX6_run 50 = .ok (.iconst 1, 1) := by decide +kernel
theorem dX6_run_51 : decode cX6_run 51 = .ok (.isub, 1) := by decide +kernel
theorem dX6_run_52 : decode cX6_run 52 = .ok (.invokevirtual 76, 3) := by decide +kernel
theorem dX6_run_55 : decode cX6_run 55 = .ok (.if_icmp .ne 7, 3) := by decide +kernel
theorem dX6_run_58 : decode cX6_run 58 = .ok (.iconst 0, 1) := by decide +kernel
theorem dX6_run_59 : decode cX6_run 59 = .ok (.goto 4, 3) := by decide +kernel
theorem dX6_run_62 : decode cX6_run 62 = .ok (.iconst 1, 1) := by decide +kernel
theorem dX6_run_63 : decode cX6_run 63 = .ok (.iadd, 1) := by decide +kernel
theorem dX6_run_64 : decode cX6_run 64 = .ok (.istore_n 3, 1) := by decide +kernel
theorem dX6_run_65 : decode cX6_run 65 = .ok (.iinc 4 1, 3) := by decide +kernel
theorem dX6_run_68 : decode cX6_run 68 = .ok (.goto (-36), 3) := by decide +kernel
theorem dX6_run_71 : decode cX6_run 71 = .ok (.iload_n 3, 1) := by decide +kernel
theorem dX6_run_72 : decode cX6_run 72 = .ok (.ireturn, 1) := by decide +kernel
set_option maxRecDepth 20000 in
theorem ggX6_begins_X6_isRow : GoodIn wsX6_begins wsX6_isRow := goodIn_r _ [6, 7, 8, 9, 5, 10, 40, 41, 42, 43, 44, 45, 46, 47, 48, 49, 50, 51, 52, 53, 54, 55, 56, 57, 58, 59] (by decide +kernel) (by decide +kernel)
set_option maxRecDepth 20000 in
theorem gX6_begins_X6_isRow : GoodIn wsX6_begins (wsV RX6 90 RX6 yX6_isRow wsX6_isRow) := goodIn_app (goodIn_of _ (by decide +kernel)) ggX6_begins_X6_isRow
set_option maxRecDepth 20000 in
theorem ggX6_begins_X6_isPlace : GoodIn wsX6_begins wsX6_isPlace := goodIn_r _ [13, 14, 8, 9, 5, 10] (by decide +kernel) (by decide +kernel)
set_option maxRecDepth 20000 in
theorem gX6_begins_X6_isPlace : GoodIn wsX6_begins (va_wsS RX6 93 yX6_isPlace wsX6_isPlace) := goodIn_app (goodIn_of _ (by decide +kernel)) ggX6_begins_X6_isPlace
set_option maxRecDepth 20000 in
theorem ggX6_begins_X6_make : GoodIn wsX6_begins wsX6_make := goodIn_r _ [18, 19, 20, 21, 7, 1, 22, 23, 24, 5, 25, 26, 27, 28, 29, 30, 31, 32, 33, 34, 35, 36, 37, 38, 39, 40, 41, 42, 43, 44, 45, 46, 47, 48, 49, 50, 51, 52, 53, 54, 55, 56, 57, 58, 59] (by decide +kernel) (by decide +kernel)
set_option maxRecDepth 20000 in
theorem gX6_begins_X6_make : GoodIn wsX6_begins (wsV RX6 96 RX6 yX6_make wsX6_make) := goodIn_app (goodIn_of _ (by decide +kernel)) ggX6_begins_X6_make
set_option maxRecDepth 20000 in
theorem ggX6_begins_X6_number : GoodIn wsX6_begins wsX6_number := goodIn_r _ [25, 26, 27, 28, 40, 41, 42, 43, 44, 45, 46, 47, 48, 49, 50, 51, 52, 53, 54, 55, 56, 57, 58, 59] (by decide +kernel) (by decide +kernel)
set_option maxRecDepth 20000 in
theorem gX6_begins_X6_number : GoodIn wsX6_begins (wsV RX6 76 RX6 yX6_number wsX6_number) := goodIn_app (goodIn_of _ (by decide +kernel)) ggX6_begins_X6_number
theorem dX6_begins_0 : decode cX6_begins 0 = .ok (.aload_n 0, 1) := by decide +kernel
theorem dX6_begins_1 : decode cX6_begins 1 = .ok (.iload_n 1, 1) := by decide +kernel
theorem dX6_begins_2 : decode cX6_begins 2 = .ok (.invokevirtual 90, 3) := by decide +kernel
theorem dX6_begins_5 : decode cX6_begins 5 = .ok (.ifCond .ne 6, 3) := by decide +kernel
theorem dX6_begins_8 : decode cX6_begins 8 = .ok (.bipush (-101), 2) := by decide +kernel
theorem dX6_begins_10 : decode cX6_begins 10 = .ok (.ireturn, 1) := by decide +kernel
theorem dX6_begins_11 : decode cX6_begins 11 = .ok (.iload_n 2, 1) := by decide +kernel
theorem dX6_begins_12 : decode cX6_begins 12 = .ok (.invokestatic 93, 3) := by decide +kernel
theorem dX6_begins_15 : decode cX6_begins 15 = .ok (.ifCond .ne 6, 3) := by decide +kernel
theorem dX6_begins_18 : decode cX6_begins 18 = .ok (.bipush (-102), 2) := by decide +kernel
theorem dX6_begins_20 : decode cX6_begins 20 = .ok (.ireturn, 1) := by decide +kernel
theorem dX6_begins_21 : decode cX6_begins 21 = .ok (.aload_n 0, 1) := by decide +kernel
theorem dX6_begins_22 : decode cX6_begins 22 = .ok (.iload_n 1, 1) := by decide +kernel
theorem dX6_begins_23 : decode cX6_begins 23 = .ok (.iconst 0, 1) := by decide +kernel
theorem dX6_begins_24 : decode cX6_begins 24 = .ok (.invokevirtual 96, 3) := by decide +kernel
theorem dX6_begins_27 : decode cX6_begins 27 = .ok (.iconst 0, 1) := by decide +kernel
theorem dX6_begins_28 : decode cX6_begins 28 = .ok (.istore_n 3, 1) := by decide +kernel
theorem dX6_begins_29 : decode cX6_begins 29 = .ok (.iconst 0, 1) := by decide +kernel
theorem dX6_begins_30 : decode cX6_begins 30 = .ok (.istore 4, 2) := by decide +kernel
theorem dX6_begins_32 : decode cX6_begins 32 = .ok (.iload_n 3, 1) := by decide +kernel
theorem dX6_begins_33 : decode cX6_begins 33 = .ok (.iload_n 2, 1) := by decide +kernel
theorem dX6_begins_34 : decode cX6_begins 34 = .ok (.if_icmp .ge 69, 3) := by decide +kernel
theorem dX6_begins_37 : decode cX6_begins 37 = .ok (.iload 4, 2) := by decide +kernel
theorem dX6_begins_39 : decode cX6_begins 39 = .ok (.ldc 83, 2) := by decide +kernel
theorem dX6_begins_41 : decode cX6_begins 41 = .ok (.if_icmp .gt 62, 3) := by decide +kernel
theorem dX6_begins_44 : decode cX6_begins 44 = .ok (.iinc 4 1, 3) := by decide +kernel
theorem dX6_begins_47 : decode cX6_begins 47 = .ok (.aload_n 0, 1) := by decide +kernel
theorem dX6_begins_48 : decode cX6_begins 48 = .ok (.iload_n 1, 1) := by decide +kernel
theorem dX6_begins_49 : decode cX6_begins 49 = .ok (.iload 4, 2) := by decide +kernel
theorem dX6_begins_51 : decode cX6_begins 51 = .ok (.ldc 83, 2) := by decide +kernel
theorem dX6_begins_53 : decode cX6_begins 53 = .ok (.if_icmp .gt 8, 3) := by decide +kernel
theorem dX6_begins_56 : decode cX6_begins 56 = .ok (.iload 4, 2) := by decide +kernel
theorem dX6_begins_58 : decode cX6_begins 58 = .ok (.goto 5, 3) := by decide +kernel
theorem dX6_begins_61 : decode cX6_begins 61 = .ok (.ldc 83, 2) := by decide +kernel
theorem dX6_begins_63 : decode cX6_begins 63 = .ok (.invokevirtual 96, 3) := by decide +kernel
theorem dX6_begins_66 : decode cX6_begins 66 = .ok (.iload_n 3, 1) := by decide +kernel
theorem dX6_begins_67 : decode cX6_begins 67 = .ok (.iload 4, 2) := by decide +kernel
theorem dX6_begins_69 : decode cX6_begins 69 = .ok (.ldc 83, 2) := by decide +kernel
theorem dX6_begins_71 : decode cX6_begins 71 = .ok (.if_icmp .gt 26, 3) := by decide +kernel
theorem dX6_begins_74 : decode cX6_begins 74 = .ok (.aload_n 0, 1) := by decide +kernel
theorem dX6_begins_75 : decode cX6_begins 75 = .ok (.iload_n 1, 1) := by decide +kernel
theorem dX6_begins_76 : decode cX6_begins 76 = .ok (.iload 4, 2) := by decide +kernel
theorem dX6_begins_78 : decode cX6_begins 78 = .ok (.invokevirtual 76, 3) := by decide +kernel
theorem dX6_begins_81 : decode cX6_begins 81 = .ok (.aload_n 0, 1) := by decide +kernel
theorem dX6_begins_82 : decode cX6_begins 82 = .ok (.iload_n 1, 1) := by decide +kernel
theorem dX6_begins_83 : decode cX6_begins 83 = .ok (.iload 4, 2) := by decide +kernel
theorem dX6_begins_85 : decode cX6_begins 85 = .ok (.iconst 1, 1) := by decide +kernel
theorem dX6_begins_86 : decode cX6_begins 86 = .ok (.isub, 1) := by decide +kernel
theorem dX6_begins_87 : decode cX6_begins 87 = .ok (.invokevirtual 76, 3) := by decide +kernel
theorem dX6_begins_90 : decode cX6_begins 90 = .ok (.if_icmp .eq 7, 3) := by decide +kernel
theorem dX6_begins_93 : decode cX6_begins 93 = .ok (.iconst 1, 1) := by decide +kernel
theorem dX6_begins_94 : decode cX6_begins 94 = .ok (.goto 4, 3) := by decide +kernel
theorem dX6_begins_97 : decode cX6_begins 97 = .ok (.iconst 0, 1) := by decide +kernel
theorem dX6_begins_98 : decode cX6_begins 98 = .ok (.iadd, 1) := by decide +kernel
theorem dX6_begins_99 : decode cX6_begins 99 = .ok (.istore_n 3, 1) := by decide +kernel
theorem dX6_begins_100 : decode cX6_begins 100 = .ok (.goto (-68), 3) := by decide +kernel
theorem dX6_begins_103 : decode cX6_begins 103 = .ok (.iload 4, 2) := by decide +kernel
theorem dX6_begins_105 : decode cX6_begins 105 = .ok (.ldc 83, 2) := by decide +kernel
theorem dX6_begins_107 : decode cX6_begins 107 = .ok (.if_icmp .gt 8, 3) := by decide +kernel
theorem dX6_begins_110 : decode cX6_begins 110 = .ok (.iload 4, 2) := by decide +kernel
theorem dX6_begins_112 : decode cX6_begins 112 = .ok (.goto 4, 3) := by decide +kernel
theorem dX6_begins_115 : decode cX6_begins 115 = .ok (.iconst (-1), 1) := by decide +kernel
theorem dX6_begins_116 : decode cX6_begins 116 = .ok (.ireturn, 1) := by decide +kernel
set_option maxRecDepth 20000 in
theorem ggX6_off_X6_isRow : GoodIn wsX6_off wsX6_isRow := goodIn_r _ [7, 8, 9, 10, 6, 11, 42, 43, 44, 45, 46, 47, 48, 49, 50, 51, 52, 53, 54, 55, 56, 57, 58, 59, 60, 61] (by decide +kernel) (by decide +kernel)
set_option maxRecDepth 20000 in
theorem gX6_off_X6_isRow : GoodIn wsX6_off (wsV RX6 90 RX6 yX6_isRow wsX6_isRow) := goodIn_app (goodIn_of _ (by decide +kernel)) ggX6_off_X6_isRow
set_option maxRecDepth 20000 in
theorem ggX6_off_X6_isPlace : GoodIn wsX6_off wsX6_isPlace := goodIn_r _ [14, 15, 9, 10, 6, 11] (by decide +kernel) (by decide +kernel)
set_option maxRecDepth 20000 in
theorem gX6_off_X6_isPlace : GoodIn wsX6_off (va_wsS RX6 93 yX6_isPlace wsX6_isPlace) := goodIn_app (goodIn_of _ (by decide +kernel)) ggX6_off_X6_isPlace
set_option maxRecDepth 20000 in
theorem ggX6_off_X6_in : GoodIn wsX6_off wsX6_in := goodIn_r _ [11] (by decide +kernel) (by decide +kernel)
set_option maxRecDepth 20000 in
theorem gX6_off_X6_in : GoodIn wsX6_off (va_wsS RX6 59 yX6_in wsX6_in) := goodIn_app (goodIn_of _ (by decide +kernel)) ggX6_off_X6_in
set_option maxRecDepth 20000 in
theorem ggX6_off_X6_make : GoodIn wsX6_off wsX6_make := goodIn_r _ [19, 20, 21, 22, 8, 23, 24, 25, 26, 6, 27, 28, 29, 30, 31, 32, 33, 34, 35, 36, 37, 38, 39, 40, 41, 42, 43, 44, 45, 46, 47, 48, 49, 50, 51, 52, 53, 54, 55, 56, 57, 58, 59, 60, 61] (by decide +kernel) (by decide +kernel)
set_option maxRecDepth 20000 in
theorem gX6_off_X6_make : GoodIn wsX6_off (wsV RX6 96 RX6 yX6_make wsX6_make) := goodIn_app (goodIn_of _ (by decide +kernel)) ggX6_off_X6_make
set_option maxRecDepth 20000 in
theorem ggX6_off_X6_number : GoodIn wsX6_off wsX6_number := goodIn_r _ [27, 28, 29, 30, 42, 43, 44, 45, 46, 47, 48, 49, 50, 51, 52, 53, 54, 55, 56, 57, 58, 59, 60, 61] (by decide +kernel) (by decide +kernel)
set_option maxRecDepth 20000 in
theorem gX6_off_X6_number : GoodIn wsX6_off (wsV RX6 76 RX6 yX6_number wsX6_number) := goodIn_app (goodIn_of _ (by decide +kernel)) ggX6_off_X6_number
theorem dX6_off_0 : decode cX6_off 0 = .ok (.aload_n 0, 1) := by decide +kernel
theorem dX6_off_1 : decode cX6_off 1 = .ok (.iload_n 1, 1) := by decide +kernel
theorem dX6_off_2 : decode cX6_off 2 = .ok (.invokevirtual 90, 3) := by decide +kernel
theorem dX6_off_5 : decode cX6_off 5 = .ok (.ifCond .ne 6, 3) := by decide +kernel
theorem dX6_off_8 : decode cX6_off 8 = .ok (.bipush (-101), 2) := by decide +kernel
theorem dX6_off_10 : decode cX6_off 10 = .ok (.ireturn, 1) := by decide +kernel
theorem dX6_off_11 : decode cX6_off 11 = .ok (.iload 4, 2) := by decide +kernel
theorem dX6_off_13 : decode cX6_off 13 = .ok (.invokestatic 93, 3) := by decide +kernel
theorem dX6_off_16 : decode cX6_off 16 = .ok (.ifCond .eq 17, 3) := by decide +kernel
theorem dX6_off_19 : decode cX6_off 19 = .ok (.iload_n 3, 1) := by decide +kernel
theorem dX6_off_20 : decode cX6_off 20 = .ok (.i2l, 1) := by decide +kernel
theorem dX6_off_21 : decode cX6_off 21 = .ok (.ldc2_w 67, 3) := by decide +kernel
theorem dX6_off_24 : decode cX6_off 24 = .ok (.ldc2_w 71, 3) := by decide +kernel
theorem dX6_off_27 : decode cX6_off 27 = .ok (.invokestatic 59, 3) := by decide +kernel
theorem dX6_off_30 : decode cX6_off 30 = .ok (.ifCond .ne 6, 3) := by decide +kernel
theorem dX6_off_33 : decode cX6_off 33 = .ok (.bipush (-102), 2) := by decide +kernel
theorem dX6_off_35 : decode cX6_off 35 = .ok (.ireturn, 1) := by decide +kernel
theorem dX6_off_36 : decode cX6_off 36 = .ok (.aload_n 0, 1) := by decide +kernel
theorem dX6_off_37 : decode cX6_off 37 = .ok (.iload_n 1, 1) := by decide +kernel
theorem dX6_off_38 : decode cX6_off 38 = .ok (.iload 4, 2) := by decide +kernel
theorem dX6_off_40 : decode cX6_off 40 = .ok (.iconst 1, 1) := by decide +kernel
theorem dX6_off_41 : decode cX6_off 41 = .ok (.isub, 1) := by decide +kernel
theorem dX6_off_42 : decode cX6_off 42 = .ok (.invokevirtual 96, 3) := by decide +kernel
theorem dX6_off_45 : decode cX6_off 45 = .ok (.iconst 0, 1) := by decide +kernel
theorem dX6_off_46 : decode cX6_off 46 = .ok (.istore 5, 2) := by decide +kernel
theorem dX6_off_48 : decode cX6_off 48 = .ok (.iconst 0, 1) := by decide +kernel
theorem dX6_off_49 : decode cX6_off 49 = .ok (.istore 6, 2) := by decide +kernel
theorem dX6_off_51 : decode cX6_off 51 = .ok (.iconst 1, 1) := by decide +kernel
theorem dX6_off_52 : decode cX6_off 52 = .ok (.istore 7, 2) := by decide +kernel
theorem dX6_off_54 : decode cX6_off 54 = .ok (.iload 7, 2) := by decide +kernel
theorem dX6_off_56 : decode cX6_off 56 = .ok (.iload 4, 2) := by decide +kernel
theorem dX6_off_58 : decode cX6_off 58 = .ok (.if_icmp .gt 72, 3) := by decide +kernel
theorem dX6_off_61 : decode cX6_off 61 = .ok (.iload 6, 2) := by decide +kernel
theorem dX6_off_63 : decode cX6_off 63 = .ok (.aload_n 0, 1) := by decide +kernel
theorem dX6_off_64 : decode cX6_off 64 = .ok (.iload_n 1, 1) := by decide +kernel
theorem dX6_off_65 : decode cX6_off 65 = .ok (.iload 7, 2) := by decide +kernel
theorem dX6_off_67 : decode cX6_off 67 = .ok (.iconst 1, 1) := by decide +kernel
theorem dX6_off_68 : decode cX6_off 68 = .ok (.isub, 1) := by decide +kernel
theorem dX6_off_69 : decode cX6_off 69 = .ok (.invokevirtual 76, 3) := by decide +kernel
theorem dX6_off_72 : decode cX6_off 72 = .ok (.iload_n 2, 1) := by decide +kernel
theorem dX6_off_73 : decode cX6_off 73 = .ok (.if_icmp .ne 7, 3) := by decide +kernel
theorem dX6_off_76 : decode cX6_off 76 = .ok (.iconst 1, 1) := by decide +kernel
theorem dX6_off_77 : decode cX6_off 77 = .ok (.goto 4, 3) := by decide +kernel
theorem dX6_off_80 : decode cX6_off 80 = .ok (.iconst 0, 1) := by decide +kernel
theorem dX6_off_81 : decode cX6_off 81 = .ok (.iadd, 1) := by decide +kernel
theorem dX6_off_82 : decode cX6_off 82 = .ok (.istore 6, 2) := by decide +kernel
theorem dX6_off_84 : decode cX6_off 84 = .ok (.iload 6, 2) := by decide +kernel
theorem dX6_off_86 : decode cX6_off 86 = .ok (.iload_n 3, 1) := by decide +kernel
theorem dX6_off_87 : decode cX6_off 87 = .ok (.imul, 1) := by decide +kernel
theorem dX6_off_88 : decode cX6_off 88 = .ok (.iload 7, 2) := by decide +kernel
theorem dX6_off_90 : decode cX6_off 90 = .ok (.isub, 1) := by decide +kernel
theorem dX6_off_91 : decode cX6_off 91 = .ok (.istore 8, 2) := by decide +kernel
theorem dX6_off_93 : decode cX6_off 93 = .ok (.iload 8, 2) := by decide +kernel
theorem dX6_off_95 : decode cX6_off 95 = .ok (.ifCond .ge 9, 3) := by decide +kernel
theorem dX6_off_98 : decode cX6_off 98 = .ok (.iload 8, 2) := by decide +kernel
theorem dX6_off_100 : decode cX6_off 100 = .ok (.ineg, 1) := by decide +kernel
theorem dX6_off_101 : decode cX6_off 101 = .ok (.goto 5, 3) := by decide +kernel
theorem dX6_off_104 : decode cX6_off 104 = .ok (.iload 8, 2) := by decide +kernel
theorem dX6_off_106 : decode cX6_off 106 = .ok (.istore 8, 2) := by decide +kernel
theorem dX6_off_108 : decode cX6_off 108 = .ok (.iload 8, 2) := by decide +kernel
theorem dX6_off_110 : decode cX6_off 110 = .ok (.iload 5, 2) := by decide +kernel
theorem dX6_off_112 : decode cX6_off 112 = .ok (.if_icmp .le 8, 3) := by decide +kernel
theorem dX6_off_115 : decode cX6_off 115 = .ok (.iload 8, 2) := by decide +kernel
theorem dX6_off_117 : decode cX6_off 117 = .ok (.goto 5, 3) := by decide +kernel
theorem dX6_off_120 : decode cX6_off 120 = .ok (.iload 5, 2) := by decide +kernel
theorem dX6_off_122 : decode cX6_off 122 = .ok (.istore 5, 2) := by decide +kernel
theorem dX6_off_124 : decode cX6_off 124 = .ok (.iinc 7 1, 3) := by decide +kernel
theorem dX6_off_127 : decode cX6_off 127 = .ok (.goto (-73), 3) := by decide +kernel
theorem dX6_off_130 : decode cX6_off 130 = .ok (.iload 5, 2) := by decide +kernel
theorem dX6_off_132 : decode cX6_off 132 = .ok (.ireturn, 1) := by decide +kernel
set_option maxRecDepth 20000 in
theorem ggX6_add_X6_in : GoodIn wsX6_add wsX6_in := goodIn_r _ [7] (by decide +kernel) (by decide +kernel)
set_option maxRecDepth 20000 in
theorem gX6_add_X6_in : GoodIn wsX6_add (va_wsS RX6 59 yX6_in wsX6_in) := goodIn_app (goodIn_of _ (by decide +kernel)) ggX6_add_X6_in
theorem dX6_add_0 : decode cX6_add 0 = .ok (.iload_n 1, 1) := by decide +kernel
theorem dX6_add_1 : decode cX6_add 1 = .ok (.i2l, 1) := by decide +kernel
theorem dX6_add_2 : decode cX6_add 2 = .ok (.lconst 1, 1) := by decide +kernel
theorem dX6_add_3 : decode cX6_add 3 = .ok (.ldc2_w 71, 3) := by decide +kernel
theorem dX6_add_6 : decode cX6_add 6 = .ok (.invokestatic 59, 3) := by decide +kernel
theorem dX6_add_9 : decode cX6_add 9 = .ok (.ifCond .ne 6, 3) := by decide +kernel
theorem dX6_add_12 : decode cX6_add 12 = .ok (.bipush (-102), 2) := by decide +kernel
theorem dX6_add_14 : decode cX6_add 14 = .ok (.ireturn, 1) := by decide +kernel
theorem dX6_add_15 : decode cX6_add 15 = .ok (.aload_n 0, 1) := by decide +kernel
theorem dX6_add_16 : decode cX6_add 16 = .ok (.getfield 100, 3) := by decide +kernel
theorem dX6_add_19 : decode cX6_add 19 = .ok (.bipush 60, 2) := by decide +kernel
theorem dX6_add_21 : decode cX6_add 21 = .ok (.if_icmp .ne 6, 3) := by decide +kernel
theorem dX6_add_24 : decode cX6_add 24 = .ok (.bipush (-104), 2) := by decide +kernel
theorem dX6_add_26 : decode cX6_add 26 = .ok (.ireturn, 1) := by decide +kernel
theorem dX6_add_27 : decode cX6_add 27 = .ok (.aload_n 0, 1) := by decide +kernel
theorem dX6_add_28 : decode cX6_add 28 = .ok (.getfield 33, 3) := by decide +kernel
theorem dX6_add_31 : decode cX6_add 31 = .ok (.aload_n 0, 1) := by decide +kernel
theorem dX6_add_32 : decode cX6_add 32 = .ok (.getfield 100, 3) := by decide +kernel
theorem dX6_add_35 : decode cX6_add 35 = .ok (.iload_n 1, 1) := by decide +kernel
theorem dX6_add_36 : decode cX6_add 36 = .ok (.iastore, 1) := by decide +kernel
theorem dX6_add_37 : decode cX6_add 37 = .ok (.aload_n 0, 1) := by decide +kernel
theorem dX6_add_38 : decode cX6_add 38 = .ok (.dup, 1) := by decide +kernel
theorem dX6_add_39 : decode cX6_add 39 = .ok (.getfield 100, 3) := by decide +kernel
theorem dX6_add_42 : decode cX6_add 42 = .ok (.iconst 1, 1) := by decide +kernel
theorem dX6_add_43 : decode cX6_add 43 = .ok (.iadd, 1) := by decide +kernel
theorem dX6_add_44 : decode cX6_add 44 = .ok (.putfield 100, 3) := by decide +kernel
theorem dX6_add_47 : decode cX6_add 47 = .ok (.aload_n 0, 1) := by decide +kernel
theorem dX6_add_48 : decode cX6_add 48 = .ok (.getfield 100, 3) := by decide +kernel
theorem dX6_add_51 : decode cX6_add 51 = .ok (.ireturn, 1) := by decide +kernel
set_option maxRecDepth 20000 in
theorem ggX6_take_X6_isRow : GoodIn wsX6_take wsX6_isRow := goodIn_r _ [9, 10, 11, 12, 8, 13, 44, 45, 46, 47, 48, 49, 50, 51, 52, 53, 54, 55, 56, 57, 58, 59, 60, 61, 62, 63] (by decide +kernel) (by decide +kernel)
set_option maxRecDepth 20000 in
theorem gX6_take_X6_isRow : GoodIn wsX6_take (wsV RX6 90 RX6 yX6_isRow wsX6_isRow) := goodIn_app (goodIn_of _ (by decide +kernel)) ggX6_take_X6_isRow
set_option maxRecDepth 20000 in
theorem ggX6_take_X6_in : GoodIn wsX6_take wsX6_in := goodIn_r _ [13] (by decide +kernel) (by decide +kernel)
set_option maxRecDepth 20000 in
theorem gX6_take_X6_in : GoodIn wsX6_take (va_wsS RX6 59 yX6_in wsX6_in) := goodIn_app (goodIn_of _ (by decide +kernel)) ggX6_take_X6_in
set_option maxRecDepth 20000 in
theorem ggX6_take_X6_isPlace : GoodIn wsX6_take wsX6_isPlace := goodIn_r _ [16, 17, 11, 12, 8, 13] (by decide +kernel) (by decide +kernel)
set_option maxRecDepth 20000 in
theorem gX6_take_X6_isPlace : GoodIn wsX6_take (va_wsS RX6 93 yX6_isPlace wsX6_isPlace) := goodIn_app (goodIn_of _ (by decide +kernel)) ggX6_take_X6_isPlace
set_option maxRecDepth 20000 in
theorem ggX6_take_X6_make : GoodIn wsX6_take wsX6_make := goodIn_r _ [21, 22, 23, 24, 10, 25, 26, 27, 28, 8, 29, 30, 31, 32, 33, 34, 35, 36, 37, 38, 39, 40, 41, 42, 43, 44, 45, 46, 47, 48, 49, 50, 51, 52, 53, 54, 55, 56, 57, 58, 59, 60, 61, 62, 63] (by decide +kernel) (by decide +kernel)
set_option maxRecDepth 20000 in
theorem gX6_take_X6_make : GoodIn wsX6_take (wsV RX6 96 RX6 yX6_make wsX6_make) := goodIn_app (goodIn_of _ (by decide +kernel)) ggX6_take_X6_make
set_option maxRecDepth 20000 in
theorem ggX6_take_X6_number : GoodIn wsX6_take wsX6_number := goodIn_r _ [29, 30, 31, 32, 44, 45, 46, 47, 48, 49, 50, 51, 52, 53, 54, 55, 56, 57, 58, 59, 60, 61, 62, 63] (by decide +kernel) (by decide +kernel)
set_option maxRecDepth 20000 in
theorem gX6_take_X6_number : GoodIn wsX6_take (wsV RX6 76 RX6 yX6_number wsX6_number) := goodIn_app (goodIn_of _ (by decide +kernel)) ggX6_take_X6_number
theorem dX6_take_0 : decode cX6_take 0 = .ok (.aload_n 0, 1) := by decide +kernel
theorem dX6_take_1 : decode cX6_take 1 = .ok (.iload_n 1, 1) := by decide +kernel
theorem dX6_take_2 : decode cX6_take 2 = .ok (.invokevirtual 90, 3) := by decide +kernel
theorem dX6_take_5 : decode cX6_take 5 = .ok (.ifCond .ne 6, 3) := by decide +kernel
theorem dX6_take_8 : decode cX6_take 8 = .ok (.bipush (-101), 2) := by decide +kernel
theorem dX6_take_10 : decode cX6_take 10 = .ok (.ireturn, 1) := by decide +kernel
theorem dX6_take_11 : decode cX6_take 11 = .ok (.iload_n 3, 1) := by decide +kernel
theorem dX6_take_12 : decode cX6_take 12 = .ok (.i2l, 1) := by decide +kernel
theorem dX6_take_13 : decode cX6_take 13 = .ok (.lconst 0, 1) := by decide +kernel
theorem dX6_take_14 : decode cX6_take 14 = .ok (.ldc2_w 103, 3) := by decide +kernel
theorem dX6_take_17 : decode cX6_take 17 = .ok (.invokestatic 59, 3) := by decide +kernel
theorem dX6_take_20 : decode cX6_take 20 = .ok (.ifCond .eq 18, 3) := by decide +kernel
theorem dX6_take_23 : decode cX6_take 23 = .ok (.iload_n 2, 1) := by decide +kernel
theorem dX6_take_24 : decode cX6_take 24 = .ok (.invokestatic 93, 3) := by decide +kernel
theorem dX6_take_27 : decode cX6_take 27 = .ok (.ifCond .eq 11, 3) := by decide +kernel
theorem dX6_take_30 : decode cX6_take 30 = .ok (.iload_n 2, 1) := by decide +kernel
theorem dX6_take_31 : decode cX6_take 31 = .ok (.iload_n 3, 1) := by decide +kernel
theorem dX6_take_32 : decode cX6_take 32 = .ok (.iadd, 1) := by decide +kernel
theorem dX6_take_33 : decode cX6_take 33 = .ok (.ldc 19, 2) := by decide +kernel
theorem dX6_take_35 : decode cX6_take 35 = .ok (.if_icmp .le 6, 3) := by decide +kernel
theorem dX6_take_38 : decode cX6_take 38 = .ok (.bipush (-102), 2) := by decide +kernel
theorem dX6_take_40 : decode cX6_take 40 = .ok (.ireturn, 1) := by decide +kernel
theorem dX6_take_41 : decode cX6_take 41 = .ok (.aload_n 0, 1) := by decide +kernel
theorem dX6_take_42 : decode cX6_take 42 = .ok (.iload_n 1, 1) := by decide +kernel
theorem dX6_take_43 : decode cX6_take 43 = .ok (.iload_n 2, 1) := by decide +kernel
theorem dX6_take_44 : decode cX6_take 44 = .ok (.iload_n 3, 1) := by decide +kernel
theorem dX6_take_45 : decode cX6_take 45 = .ok (.iadd, 1) := by decide +kernel
theorem dX6_take_46 : decode cX6_take 46 = .ok (.iconst 1, 1) := by decide +kernel
theorem dX6_take_47 : decode cX6_take 47 = .ok (.isub, 1) := by decide +kernel
theorem dX6_take_48 : decode cX6_take 48 = .ok (.invokevirtual 96, 3) := by decide +kernel
theorem dX6_take_51 : decode cX6_take 51 = .ok (.iconst 0, 1) := by decide +kernel
theorem dX6_take_52 : decode cX6_take 52 = .ok (.istore 4, 2) := by decide +kernel
theorem dX6_take_54 : decode cX6_take 54 = .ok (.iload 4, 2) := by decide +kernel
theorem dX6_take_56 : decode cX6_take 56 = .ok (.iload_n 3, 1) := by decide +kernel
theorem dX6_take_57 : decode cX6_take 57 = .ok (.if_icmp .ge 25, 3) := by decide +kernel
theorem dX6_take_60 : decode cX6_take 60 = .ok (.aload_n 0, 1) := by decide +kernel
theorem dX6_take_61 : decode cX6_take 61 = .ok (.getfield 33, 3) := by decide +kernel
theorem dX6_take_64 : decode cX6_take 64 = .ok (.iload 4, 2) := by decide +kernel
theorem dX6_take_66 : decode cX6_take 66 = .ok (.aload_n 0, 1) := by decide +kernel
theorem dX6_take_67 : decode cX6_take 67 = .ok (.iload_n 1, 1) := by decide +kernel
theorem dX6_take_68 : decode cX6_take 68 = .ok (.iload_n 2, 1) := by decide +kernel
theorem dX6_take_69 : decode cX6_take 69 = .ok (.iload 4, 2) := by decide +kernel
theorem dX6_take_71 : decode cX6_take 71 = .ok (.iadd, 1) := by decide +kernel
theorem dX6_take_72 : decode cX6_take 72 = .ok (.invokevirtual 76, 3) := by decide +kernel
theorem dX6_take_75 : decode cX6_take 75 = .ok (.iastore, 1) := by decide +kernel
theorem dX6_take_76 : decode cX6_take 76 = .ok (.iinc 4 1, 3) := by decide +kernel
theorem dX6_take_79 : decode cX6_take 79 = .ok (.goto (-25), 3) := by decide +kernel
theorem dX6_take_82 : decode cX6_take 82 = .ok (.aload_n 0, 1) := by decide +kernel
theorem dX6_take_83 : decode cX6_take 83 = .ok (.iload_n 3, 1) := by decide +kernel
theorem dX6_take_84 : decode cX6_take 84 = .ok (.putfield 100, 3) := by decide +kernel
theorem dX6_take_87 : decode cX6_take 87 = .ok (.iload_n 3, 1) := by decide +kernel
theorem dX6_take_88 : decode cX6_take 88 = .ok (.ireturn, 1) := by decide +kernel
theorem dX6_clear_0 : decode cX6_clear 0 = .ok (.aload_n 0, 1) := by decide +kernel
theorem dX6_clear_1 : decode cX6_clear 1 = .ok (.getfield 100, 3) := by decide +kernel
theorem dX6_clear_4 : decode cX6_clear 4 = .ok (.istore_n 1, 1) := by decide +kernel
theorem dX6_clear_5 : decode cX6_clear 5 = .ok (.aload_n 0, 1) := by decide +kernel
theorem dX6_clear_6 : decode cX6_clear 6 = .ok (.iconst 0, 1) := by decide +kernel
theorem dX6_clear_7 : decode cX6_clear 7 = .ok (.putfield 100, 3) := by decide +kernel
theorem dX6_clear_10 : decode cX6_clear 10 = .ok (.iload_n 1, 1) := by decide +kernel
theorem dX6_clear_11 : decode cX6_clear 11 = .ok (.ireturn, 1) := by decide +kernel
set_option maxRecDepth 20000 in
theorem ggX6_letter_X6_in : GoodIn wsX6_letter wsX6_in := goodIn_r _ [6] (by decide +kernel) (by decide +kernel)
set_option maxRecDepth 20000 in
theorem gX6_letter_X6_in : GoodIn wsX6_letter (va_wsS RX6 59 yX6_in wsX6_in) := goodIn_app (goodIn_of _ (by decide +kernel)) ggX6_letter_X6_in
theorem dX6_letter_0 : decode cX6_letter 0 = .ok (.iload_n 1, 1) := by decide +kernel
theorem dX6_letter_1 : decode cX6_letter 1 = .ok (.i2l, 1) := by decide +kernel
theorem dX6_letter_2 : decode cX6_letter 2 = .ok (.lconst 0, 1) := by decide +kernel
theorem dX6_letter_3 : decode cX6_letter 3 = .ok (.aload_n 0, 1) := by decide +kernel
theorem dX6_letter_4 : decode cX6_letter 4 = .ok (.getfield 100, 3) := by decide +kernel
theorem dX6_letter_7 : decode cX6_letter 7 = .ok (.iconst 1, 1) := by decide +kernel
theorem dX6_letter_8 : decode cX6_letter 8 = .ok (.isub, 1) := by decide +kernel
theorem dX6_letter_9 : decode cX6_letter 9 = .ok (.i2l, 1) := by decide +kernel
theorem dX6_letter_10 : decode cX6_letter 10 = .ok (.invokestatic 59, 3) := by decide +kernel
theorem dX6_letter_13 : decode cX6_letter 13 = .ok (.ifCond .eq 12, 3) := by decide +kernel
theorem dX6_letter_16 : decode cX6_letter 16 = .ok (.aload_n 0, 1) := by decide +kernel
theorem dX6_letter_17 : decode cX6_letter 17 = .ok (.getfield 33, 3) := by decide +kernel
theorem dX6_letter_20 : decode cX6_letter 20 = .ok (.iload_n 1, 1) := by decide +kernel
theorem dX6_letter_21 : decode cX6_letter 21 = .ok (.iaload, 1) := by decide +kernel
theorem dX6_letter_22 : decode cX6_letter 22 = .ok (.goto 4, 3) := by decide +kernel
theorem dX6_letter_25 : decode cX6_letter 25 = .ok (.iconst (-1), 1) := by decide +kernel
theorem dX6_letter_26 : decode cX6_letter 26 = .ok (.ireturn, 1) := by decide +kernel
theorem dX6_load_0 : decode cX6_load 0 = .ok (.aload_n 0, 1) := by decide +kernel
theorem dX6_load_1 : decode cX6_load 1 = .ok (.aload_n 0, 1) := by decide +kernel
theorem dX6_load_2 : decode cX6_load 2 = .ok (.getfield 100, 3) := by decide +kernel
theorem dX6_load_5 : decode cX6_load 5 = .ok (.putfield 105, 3) := by decide +kernel
theorem dX6_load_8 : decode cX6_load 8 = .ok (.iconst 0, 1) := by decide +kernel
theorem dX6_load_9 : decode cX6_load 9 = .ok (.istore_n 1, 1) := by decide +kernel
theorem dX6_load_10 : decode cX6_load 10 = .ok (.iload_n 1, 1) := by decide +kernel
theorem dX6_load_11 : decode cX6_load 11 = .ok (.aload_n 0, 1) := by decide +kernel
theorem dX6_load_12 : decode cX6_load 12 = .ok (.getfield 100, 3) := by decide +kernel
theorem dX6_load_15 : decode cX6_load 15 = .ok (.if_icmp .ge 21, 3) := by decide +kernel
theorem dX6_load_18 : decode cX6_load 18 = .ok (.aload_n 0, 1) := by decide +kernel
theorem dX6_load_19 : decode cX6_load 19 = .ok (.getfield 36, 3) := by decide +kernel
theorem dX6_load_22 : decode cX6_load 22 = .ok (.iload_n 1, 1) := by decide +kernel
theorem dX6_load_23 : decode cX6_load 23 = .ok (.aload_n 0, 1) := by decide +kernel
theorem dX6_load_24 : decode cX6_load 24 = .ok (.getfield 33, 3) := by decide +kernel
theorem dX6_load_27 : decode cX6_load 27 = .ok (.iload_n 1, 1) := by decide +kernel
theorem dX6_load_28 : decode cX6_load 28 = .ok (.iaload, 1) := by decide +kernel
theorem dX6_load_29 : decode cX6_load 29 = .ok (.iastore, 1) := by decide +kernel
theorem dX6_load_30 : decode cX6_load 30 = .ok (.iinc 1 1, 3) := by decide +kernel
theorem dX6_load_33 : decode cX6_load 33 = .ok (.goto (-23), 3) := by decide +kernel
theorem dX6_load_36 : decode cX6_load 36 = .ok (.return_, 1) := by decide +kernel
theorem dX6_measure_0 : decode cX6_measure 0 = .ok (.aload_n 0, 1) := by decide +kernel
theorem dX6_measure_1 : decode cX6_measure 1 = .ok (.iconst 0, 1) := by decide +kernel
theorem dX6_measure_2 : decode cX6_measure 2 = .ok (.putfield 108, 3) := by decide +kernel
theorem dX6_measure_5 : decode cX6_measure 5 = .ok (.iconst 0, 1) := by decide +kernel
theorem dX6_measure_6 : decode cX6_measure 6 = .ok (.istore_n 1, 1) := by decide +kernel
theorem dX6_measure_7 : decode cX6_measure 7 = .ok (.iconst 0, 1) := by decide +kernel
theorem dX6_measure_8 : decode cX6_measure 8 = .ok (.istore_n 2, 1) := by decide +kernel
theorem dX6_measure_9 : decode cX6_measure 9 = .ok (.iload_n 2, 1) := by decide +kernel
theorem dX6_measure_10 : decode cX6_measure 10 = .ok (.aload_n 0, 1) := by decide +kernel
theorem dX6_measure_11 : decode cX6_measure 11 = .ok (.getfield 105, 3) := by decide +kernel
theorem dX6_measure_14 : decode cX6_measure 14 = .ok (.if_icmp .ge 96, 3) := by decide +kernel
theorem dX6_measure_17 : decode cX6_measure 17 = .ok (.iload_n 2, 1) := by decide +kernel
theorem dX6_measure_18 : decode cX6_measure 18 = .ok (.ifCond .eq 20, 3) := by decide +kernel
theorem dX6_measure_21 : decode cX6_measure 21 = .ok (.aload_n 0, 1) := by decide +kernel
theorem dX6_measure_22 : decode cX6_measure 22 = .ok (.getfield 36, 3) := by decide +kernel
theorem dX6_measure_25 : decode cX6_measure 25 = .ok (.iload_n 2, 1) := by decide +kernel
theorem dX6_measure_26 : decode cX6_measure 26 = .ok (.iaload, 1) := by decide +kernel
theorem dX6_measure_27 : decode cX6_measure 27 = .ok (.aload_n 0, 1) := by decide +kernel
theorem dX6_measure_28 : decode cX6_measure 28 = .ok (.getfield 36, 3) := by decide +kernel
theorem dX6_measure_31 : decode cX6_measure 31 = .ok (.iload_n 2, 1) := by decide +kernel
theorem dX6_measure_32 : decode cX6_measure 32 = .ok (.iconst 1, 1) := by decide +kernel
theorem dX6_measure_33 : decode cX6_measure 33 = .ok (.isub, 1) := by decide +kernel
theorem dX6_measure_34 : decode cX6_measure 34 = .ok (.iaload, 1) := by decide +kernel
theorem dX6_measure_35 : decode cX6_measure 35 = .ok (.if_icmp .eq 23, 3) := by decide +kernel
theorem dX6_measure_38 : decode cX6_measure 38 = .ok (.aload_n 0, 1) := by decide +kernel
theorem dX6_measure_39 : decode cX6_measure 39 = .ok (.getfield 39, 3) := by decide +kernel
theorem dX6_measure_42 : decode cX6_measure 42 = .ok (.aload_n 0, 1) := by decide +kernel
theorem dX6_measure_43 : decode cX6_measure 43 = .ok (.getfield 108, 3) := by decide +kernel
theorem dX6_measure_46 : decode cX6_measure 46 = .ok (.iconst 0, 1) := by decide +kernel
theorem dX6_measure_47 : decode cX6_measure 47 = .ok (.iastore, 1) := by decide +kernel
theorem dX6_measure_48 : decode cX6_measure 48 = .ok (.aload_n 0, 1) := by decide +kernel
theorem dX6_measure_49 : decode cX6_measure 49 = .ok (.dup, 1) := by decide +kernel
theorem dX6_measure_50 : decode cX6_measure 50 = .ok (.getfield 108, 3) := by decide +kernel
theorem dX6_measure_53 : decode cX6_measure 53 = .ok (.iconst 1, 1) := by decide +kernel
theorem dX6_measure_54 : decode cX6_measure 54 = .ok (.iadd, 1) := by decide +kernel
theorem dX6_measure_55 : decode cX6_measure 55 = .ok (.putfield 108, 3) := by decide +kernel
theorem dX6_measure_58 : decode cX6_measure 58 = .ok (.aload_n 0, 1) := by decide +kernel
theorem dX6_measure_59 : decode cX6_measure 59 = .ok (.getfield 39, 3) := by decide +kernel
theorem dX6_measure_62 : decode cX6_measure 62 = .ok (.aload_n 0, 1) := by decide +kernel
theorem dX6_measure_63 : decode cX6_measure 63 = .ok (.getfield 108, 3) := by decide +kernel
theorem dX6_measure_66 : decode cX6_measure 66 = .ok (.iconst 1, 1) := by decide +kernel
theorem dX6_measure_67 : decode cX6_measure 67 = .ok (.isub, 1) := by decide +kernel
theorem dX6_measure_68 : decode cX6_measure 68 = .ok (.dup2, 1) := by decide +kernel
theorem dX6_measure_69 : decode cX6_measure 69 = .ok (.iaload, 1) := by decide +kernel
theorem dX6_measure_70 : decode cX6_measure 70 = .ok (.iconst 1, 1) := by decide +kernel
theorem dX6_measure_71 : decode cX6_measure 71 = .ok (.iadd, 1) := by decide +kernel
theorem dX6_measure_72 : decode cX6_measure 72 = .ok (.iastore, 1) := by decide +kernel
theorem dX6_measure_73 : decode cX6_measure 73 = .ok (.aload_n 0, 1) := by decide +kernel
theorem dX6_measure_74 : decode cX6_measure 74 = .ok (.getfield 39, 3) := by decide +kernel
theorem dX6_measure_77 : decode cX6_measure 77 = .ok (.aload_n 0, 1) := by decide +kernel
theorem dX6_measure_78 : decode cX6_measure 78 = .ok (.getfield 108, 3) := by decide +kernel
theorem dX6_measure_81 : decode cX6_measure 81 = .ok (.iconst 1, 1) := by decide +kernel
theorem dX6_measure_82 : decode cX6_measure 82 = .ok (.isub, 1) := by decide +kernel
theorem dX6_measure_83 : decode cX6_measure 83 = .ok (.iaload, 1) := by decide +kernel
theorem dX6_measure_84 : decode cX6_measure 84 = .ok (.iload_n 1, 1) := by decide +kernel
theorem dX6_measure_85 : decode cX6_measure 85 = .ok (.if_icmp .le 17, 3) := by decide +kernel
theorem dX6_measure_88 : decode cX6_measure 88 = .ok (.aload_n 0, 1) := by decide +kernel
theorem dX6_measure_89 : decode cX6_measure 89 = .ok (.getfield 39, 3) := by decide +kernel
theorem dX6_measure_92 : decode cX6_measure 92 = .ok (.aload_n 0, 1) := by decide +kernel
theorem dX6_measure_93 : decode cX6_measure 93 = .ok (.getfield 108, 3) := by decide +kernel
theorem dX6_measure_96 : decode cX6_measure 96 = .ok (.iconst 1, 1) := by decide +kernel
theorem dX6_measure_97 : decode cX6_measure 97 = .ok (.isub, 1) := by decide +kernel
theorem dX6_measure_98 : decode cX6_measure 98 = .ok (.iaload, 1) := by decide +kernel
theorem dX6_measure_99 : decode cX6_measure 99 = .ok (.goto 4, 3) := by decide +kernel
theorem dX6_measure_102 : decode cX6_measure 102 = .ok (.iload_n 1, 1) := by decide +kernel
theorem dX6_measure_103 : decode cX6_measure 103 = .ok (.istore_n 1, 1) := by decide +kernel
theorem dX6_measure_104 : decode cX6_measure 104 = .ok (.iinc 2 1, 3) := by decide +kernel
theorem dX6_measure_107 : decode cX6_measure 107 = .ok (.goto (-98), 3) := by decide +kernel
theorem dX6_measure_110 : decode cX6_measure 110 = .ok (.iload_n 1, 1) := by decide +kernel
theorem dX6_measure_111 : decode cX6_measure 111 = .ok (.ireturn, 1) := by decide +kernel
theorem dX6_cut_0 : decode cX6_cut 0 = .ok (.aload_n 0, 1) := by decide +kernel
theorem dX6_cut_1 : decode cX6_cut 1 = .ok (.getfield 108, 3) := by decide +kernel
theorem dX6_cut_4 : decode cX6_cut 4 = .ok (.ifCond .le 17, 3) := by decide +kernel
theorem dX6_cut_7 : decode cX6_cut 7 = .ok (.aload_n 0, 1) := by decide +kernel
theorem dX6_cut_8 : decode cX6_cut 8 = .ok (.getfield 39, 3) := by decide +kernel
theorem dX6_cut_11 : decode cX6_cut 11 = .ok (.iconst 0, 1) := by decide +kernel
theorem dX6_cut_12 : decode cX6_cut 12 = .ok (.iaload, 1) := by decide +kernel
theorem dX6_cut_13 : decode cX6_cut 13 = .ok (.iload_n 1, 1) := by decide +kernel
theorem dX6_cut_14 : decode cX6_cut 14 = .ok (.if_icmp .ge 7, 3) := by decide +kernel
theorem dX6_cut_17 : decode cX6_cut 17 = .ok (.iconst 1, 1) := by decide +kernel
theorem dX6_cut_18 : decode cX6_cut 18 = .ok (.goto 4, 3) := by decide +kernel
theorem dX6_cut_21 : decode cX6_cut 21 = .ok (.iconst 0, 1) := by decide +kernel
theorem dX6_cut_22 : decode cX6_cut 22 = .ok (.istore_n 2, 1) := by decide +kernel
theorem dX6_cut_23 : decode cX6_cut 23 = .ok (.aload_n 0, 1) := by decide +kernel
theorem dX6_cut_24 : decode cX6_cut 24 = .ok (.getfield 108, 3) := by decide +kernel
theorem dX6_cut_27 : decode cX6_cut 27 = .ok (.ifCond .le 27, 3) := by decide +kernel
theorem dX6_cut_30 : decode cX6_cut 30 = .ok (.aload_n 0, 1) := by decide +kernel
theorem dX6_cut_31 : decode cX6_cut 31 = .ok (.getfield 39, 3) := by decide +kernel
theorem dX6_cut_34 : decode cX6_cut 34 = .ok (.aload_n 0, 1) := by decide +kernel
theorem dX6_cut_35 : decode cX6_cut 35 = .ok (.getfield 108, 3) := by decide +kernel
theorem dX6_cut_38 : decode cX6_cut 38 = .ok (.iconst 1, 1) := by decide +kernel
theorem dX6_cut_39 : decode cX6_cut 39 = .ok (.isub, 1) := by decide +kernel
theorem dX6_cut_40 : decode cX6_cut 40 = .ok (.iaload, 1) := by decide +kernel
theorem dX6_cut_41 : decode cX6_cut 41 = .ok (.iload_n 1, 1) := by decide +kernel
theorem dX6_cut_42 : decode cX6_cut 42 = .ok (.if_icmp .ge 12, 3) := by decide +kernel
theorem dX6_cut_45 : decode cX6_cut 45 = .ok (.aload_n 0, 1) := by decide +kernel
theorem dX6_cut_46 : decode cX6_cut 46 = .ok (.getfield 108, 3) := by decide +kernel
theorem dX6_cut_49 : decode cX6_cut 49 = .ok (.iconst 1, 1) := by decide +kernel
theorem dX6_cut_50 : decode cX6_cut 50 = .ok (.isub, 1) := by decide +kernel
theorem dX6_cut_51 : decode cX6_cut 51 = .ok (.goto 7, 3) := by decide +kernel
theorem dX6_cut_54 : decode cX6_cut 54 = .ok (.aload_n 0, 1) := by decide +kernel
theorem dX6_cut_55 : decode cX6_cut 55 = .ok (.getfield 108, 3) := by decide +kernel
theorem dX6_cut_58 : decode cX6_cut 58 = .ok (.istore_n 3, 1) := by decide +kernel
theorem dX6_cut_59 : decode cX6_cut 59 = .ok (.aload_n 0, 1) := by decide +kernel
theorem dX6_cut_60 : decode cX6_cut 60 = .ok (.iconst 0, 1) := by decide +kernel
theorem dX6_cut_61 : decode cX6_cut 61 = .ok (.putfield 105, 3) := by decide +kernel
theorem dX6_cut_64 : decode cX6_cut 64 = .ok (.iload_n 2, 1) := by decide +kernel
theorem dX6_cut_65 : decode cX6_cut 65 = .ok (.istore 4, 2) := by decide +kernel
theorem dX6_cut_67 : decode cX6_cut 67 = .ok (.iload 4, 2) := by decide +kernel
theorem dX6_cut_69 : decode cX6_cut 69 = .ok (.iload_n 3, 1) := by decide +kernel
theorem dX6_cut_70 : decode cX6_cut 70 = .ok (.if_icmp .ge 35, 3) := by decide +kernel
theorem dX6_cut_73 : decode cX6_cut 73 = .ok (.aload_n 0, 1) := by decide +kernel
theorem dX6_cut_74 : decode cX6_cut 74 = .ok (.getfield 36, 3) := by decide +kernel
theorem dX6_cut_77 : decode cX6_cut 77 = .ok (.aload_n 0, 1) := by decide +kernel
theorem dX6_cut_78 : decode cX6_cut 78 = .ok (.getfield 105, 3) := by decide +kernel
theorem dX6_cut_81 : decode cX6_cut 81 = .ok (.aload_n 0, 1) := by decide +kernel
theorem dX6_cut_82 : decode cX6_cut 82 = .ok (.getfield 39, 3) := by decide +kernel
theorem dX6_cut_85 : decode cX6_cut 85 = .ok (.iload 4, 2) := by decide +kernel
theorem dX6_cut_87 : decode cX6_cut 87 = .ok (.iaload, 1) := by decide +kernel
theorem dX6_cut_88 : decode cX6_cut 88 = .ok (.iastore, 1) := by decide +kernel
theorem dX6_cut_89 : decode cX6_cut 89 = .ok (.aload_n 0, 1) := by decide +kernel
theorem dX6_cut_90 : decode cX6_cut 90 = .ok (.dup, 1) := by decide +kernel
theorem dX6_cut_91 : decode cX6_cut 91 = .ok (.getfield 105, 3) := by decide +kernel
theorem dX6_cut_94 : decode cX6_cut 94 = .ok (.iconst 1, 1) := by decide +kernel
theorem dX6_cut_95 : decode cX6_cut 95 = .ok (.iadd, 1) := by decide +kernel
theorem dX6_cut_96 : decode cX6_cut 96 = .ok (.putfield 105, 3) := by decide +kernel
theorem dX6_cut_99 : decode cX6_cut 99 = .ok (.iinc 4 1, 3) := by decide +kernel
theorem dX6_cut_102 : decode cX6_cut 102 = .ok (.goto (-35), 3) := by decide +kernel
theorem dX6_cut_105 : decode cX6_cut 105 = .ok (.return_, 1) := by decide +kernel
theorem dX6_keep_0 : decode cX6_keep 0 = .ok (.aload_n 0, 1) := by decide +kernel
theorem dX6_keep_1 : decode cX6_keep 1 = .ok (.aload_n 0, 1) := by decide +kernel
theorem dX6_keep_2 : decode cX6_keep 2 = .ok (.getfield 105, 3) := by decide +kernel
theorem dX6_keep_5 : decode cX6_keep 5 = .ok (.putfield 100, 3) := by decide +kernel
theorem dX6_keep_8 : decode cX6_keep 8 = .ok (.iconst 0, 1) := by decide +kernel
theorem dX6_keep_9 : decode cX6_keep 9 = .ok (.istore_n 1, 1) := by decide +kernel
theorem dX6_keep_10 : decode cX6_keep 10 = .ok (.iload_n 1, 1) := by decide +kernel
theorem dX6_keep_11 : decode cX6_keep 11 = .ok (.aload_n 0, 1) := by decide +kernel
theorem dX6_keep_12 : decode cX6_keep 12 = .ok (.getfield 105, 3) := by decide +kernel
theorem dX6_keep_15 : decode cX6_keep 15 = .ok (.if_icmp .ge 21, 3) := by decide +kernel
theorem dX6_keep_18 : decode cX6_keep 18 = .ok (.aload_n 0, 1) := by decide +kernel
theorem dX6_keep_19 : decode cX6_keep 19 = .ok (.getfield 33, 3) := by decide +kernel
theorem dX6_keep_22 : decode cX6_keep 22 = .ok (.iload_n 1, 1) := by decide +kernel
theorem dX6_keep_23 : decode cX6_keep 23 = .ok (.aload_n 0, 1) := by decide +kernel
theorem dX6_keep_24 : decode cX6_keep 24 = .ok (.getfield 36, 3) := by decide +kernel
theorem dX6_keep_27 : decode cX6_keep 27 = .ok (.iload_n 1, 1) := by decide +kernel
theorem dX6_keep_28 : decode cX6_keep 28 = .ok (.iaload, 1) := by decide +kernel
theorem dX6_keep_29 : decode cX6_keep 29 = .ok (.iastore, 1) := by decide +kernel
theorem dX6_keep_30 : decode cX6_keep 30 = .ok (.iinc 1 1, 3) := by decide +kernel
theorem dX6_keep_33 : decode cX6_keep 33 = .ok (.goto (-23), 3) := by decide +kernel
theorem dX6_keep_36 : decode cX6_keep 36 = .ok (.return_, 1) := by decide +kernel
set_option maxRecDepth 20000 in
theorem ggX6_runs_X6_load : GoodIn wsX6_runs wsX6_load := goodIn_r _ [6, 7, 8, 9, 10, 16, 17, 18, 19, 20, 21, 22, 23, 24, 25, 26, 27, 28, 29, 30, 31, 32, 33, 34, 35] (by decide +kernel) (by decide +kernel)
set_option maxRecDepth 20000 in
theorem gX6_runs_X6_load : GoodIn wsX6_runs (wsV RX6 111 RX6 yX6_load wsX6_load) := goodIn_app (goodIn_of _ (by decide +kernel)) ggX6_runs_X6_load
set_option maxRecDepth 20000 in
theorem ggX6_runs_X6_measure : GoodIn wsX6_runs wsX6_measure := goodIn_r _ [14, 1, 8, 9, 15, 16, 17, 18, 19, 20, 21, 22, 23, 24, 25, 26, 27, 28, 29, 30, 31, 32, 33, 34, 35] (by decide +kernel) (by decide +kernel)
set_option maxRecDepth 20000 in
theorem gX6_runs_X6_measure : GoodIn wsX6_runs (wsV RX6 114 RX6 yX6_measure wsX6_measure) := goodIn_app (goodIn_of _ (by decide +kernel)) ggX6_runs_X6_measure
theorem dX6_runs_0 : decode cX6_runs 0 = .ok (.aload_n 0, 1) := by decide +kernel
theorem dX6_runs_1 : decode cX6_runs 1 = .ok (.invokevirtual 111, 3) := by decide +kernel
theorem dX6_runs_4 : decode cX6_runs 4 = .ok (.aload_n 0, 1) := by decide +kernel
theorem dX6_runs_5 : decode cX6_runs 5 = .ok (.invokevirtual 114, 3) := by decide +kernel
theorem dX6_runs_8 : decode cX6_runs 8 = .ok (.istore_n 1, 1) := by decide +kernel
theorem dX6_runs_9 : decode cX6_runs 9 = .ok (.iload_n 1, 1) := by decide +kernel
theorem dX6_runs_10 : decode cX6_runs 10 = .ok (.ifCond .ge 7, 3) := by decide +kernel
theorem dX6_runs_13 : decode cX6_runs 13 = .ok (.iconst (-1), 1) := by decide +kernel
theorem dX6_runs_14 : decode cX6_runs 14 = .ok (.goto 7, 3) := by decide +kernel
theorem dX6_runs_17 : decode cX6_runs 17 = .ok (.aload_n 0, 1) := by decide +kernel
theorem dX6_runs_18 : decode cX6_runs 18 = .ok (.getfield 108, 3) := by decide +kernel
theorem dX6_runs_21 : decode cX6_runs 21 = .ok (.ireturn, 1) := by decide +kernel
set_option maxRecDepth 20000 in
theorem ggX6_shorten_X6_in : GoodIn wsX6_shorten wsX6_in := goodIn_r _ [6] (by decide +kernel) (by decide +kernel)
set_option maxRecDepth 20000 in
theorem gX6_shorten_X6_in : GoodIn wsX6_shorten (va_wsS RX6 59 yX6_in wsX6_in) := goodIn_app (goodIn_of _ (by decide +kernel)) ggX6_shorten_X6_in
set_option maxRecDepth 20000 in
theorem ggX6_shorten_X6_load : GoodIn wsX6_shorten wsX6_load := goodIn_r _ [10, 2, 11, 12, 13, 28, 29, 30, 31, 32, 33, 34, 35, 36, 37, 38, 39, 40, 41, 42, 43, 44, 45, 46, 47] (by decide +kernel) (by decide +kernel)
set_option maxRecDepth 20000 in
theorem gX6_shorten_X6_load : GoodIn wsX6_shorten (wsV RX6 111 RX6 yX6_load wsX6_load) := goodIn_app (goodIn_of _ (by decide +kernel)) ggX6_shorten_X6_load
set_option maxRecDepth 20000 in
theorem ggX6_shorten_X6_measure : GoodIn wsX6_shorten wsX6_measure := goodIn_r _ [17, 18, 11, 12, 19, 28, 29, 30, 31, 32, 33, 34, 35, 36, 37, 38, 39, 40, 41, 42, 43, 44, 45, 46, 47] (by decide +kernel) (by decide +kernel)
set_option maxRecDepth 20000 in
theorem gX6_shorten_X6_measure : GoodIn wsX6_shorten (wsV RX6 114 RX6 yX6_measure wsX6_measure) := goodIn_app (goodIn_of _ (by decide +kernel)) ggX6_shorten_X6_measure
set_option maxRecDepth 20000 in
theorem ggX6_shorten_X6_cut : GoodIn wsX6_shorten wsX6_cut := goodIn_r _ [23, 18, 19, 11, 12, 28, 29, 30, 31, 32, 33, 34, 35, 36, 37, 38, 39, 40, 41, 42, 43, 44, 45, 46, 47] (by decide +kernel) (by decide +kernel)
set_option maxRecDepth 20000 in
theorem gX6_shorten_X6_cut : GoodIn wsX6_shorten (wsV RX6 118 RX6 yX6_cut wsX6_cut) := goodIn_app (goodIn_of _ (by decide +kernel)) ggX6_shorten_X6_cut
set_option maxRecDepth 20000 in
theorem ggX6_shorten_X6_keep : GoodIn wsX6_shorten wsX6_keep := goodIn_r _ [27, 11, 2, 13, 12, 28, 29, 30, 31, 32, 33, 34, 35, 36, 37, 38, 39, 40, 41, 42, 43, 44, 45, 46, 47] (by decide +kernel) (by decide +kernel)
set_option maxRecDepth 20000 in
theorem gX6_shorten_X6_keep : GoodIn wsX6_shorten (wsV RX6 122 RX6 yX6_keep wsX6_keep) := goodIn_app (goodIn_of _ (by decide +kernel)) ggX6_shorten_X6_keep
theorem dX6_shorten_0 : decode cX6_shorten 0 = .ok (.iload_n 1, 1) := by decide +kernel
theorem dX6_shorten_1 : decode cX6_shorten 1 = .ok (.i2l, 1) := by decide +kernel
theorem dX6_shorten_2 : decode cX6_shorten 2 = .ok (.lconst 1, 1) := by decide +kernel
theorem dX6_shorten_3 : decode cX6_shorten 3 = .ok (.ldc2_w 71, 3) := by decide +kernel
theorem dX6_shorten_6 : decode cX6_shorten 6 = .ok (.invokestatic 59, 3) := by decide +kernel
theorem dX6_shorten_9 : decode cX6_shorten 9 = .ok (.ifCond .ne 6, 3) := by decide +kernel
theorem dX6_shorten_12 : decode cX6_shorten 12 = .ok (.bipush (-102), 2) := by decide +kernel
theorem dX6_shorten_14 : decode cX6_shorten 14 = .ok (.ireturn, 1) := by decide +kernel
theorem dX6_shorten_15 : decode cX6_shorten 15 = .ok (.aload_n 0, 1) := by decide +kernel
theorem dX6_shorten_16 : decode cX6_shorten 16 = .ok (.invokevirtual 111, 3) := by decide +kernel
theorem dX6_shorten_19 : decode cX6_shorten 19 = .ok (.aload_n 0, 1) := by decide +kernel
theorem dX6_shorten_20 : decode cX6_shorten 20 = .ok (.invokevirtual 114, 3) := by decide +kernel
theorem dX6_shorten_23 : decode cX6_shorten 23 = .ok (.bipush 6, 2) := by decide +kernel
theorem dX6_shorten_25 : decode cX6_shorten 25 = .ok (.if_icmp .le 6, 3) := by decide +kernel
theorem dX6_shorten_28 : decode cX6_shorten 28 = .ok (.bipush (-103), 2) := by decide +kernel
theorem dX6_shorten_30 : decode cX6_shorten 30 = .ok (.ireturn, 1) := by decide +kernel
theorem dX6_shorten_31 : decode cX6_shorten 31 = .ok (.aload_n 0, 1) := by decide +kernel
theorem dX6_shorten_32 : decode cX6_shorten 32 = .ok (.iload_n 1, 1) := by decide +kernel
theorem dX6_shorten_33 : decode cX6_shorten 33 = .ok (.invokevirtual 118, 3) := by decide +kernel
theorem dX6_shorten_36 : decode cX6_shorten 36 = .ok (.aload_n 0, 1) := by decide +kernel
theorem dX6_shorten_37 : decode cX6_shorten 37 = .ok (.invokevirtual 122, 3) := by decide +kernel
theorem dX6_shorten_40 : decode cX6_shorten 40 = .ok (.aload_n 0, 1) := by decide +kernel
theorem dX6_shorten_41 : decode cX6_shorten 41 = .ok (.getfield 100, 3) := by decide +kernel
theorem dX6_shorten_44 : decode cX6_shorten 44 = .ok (.ireturn, 1) := by decide +kernel
set_option maxRecDepth 20000 in
theorem ggX6_lengthen_X6_isAlphabet : GoodIn wsX6_lengthen wsX6_isAlphabet := goodIn_r _ [10, 11, 12, 13, 9, 14] (by decide +kernel) (by decide +kernel)
set_option maxRecDepth 20000 in
theorem gX6_lengthen_X6_isAlphabet : GoodIn wsX6_lengthen (va_wsS RX6 63 yX6_isAlphabet wsX6_isAlphabet) := goodIn_app (goodIn_of _ (by decide +kernel)) ggX6_lengthen_X6_isAlphabet
set_option maxRecDepth 20000 in
theorem ggX6_lengthen_X6_in : GoodIn wsX6_lengthen wsX6_in := goodIn_r _ [14] (by decide +kernel) (by decide +kernel)
set_option maxRecDepth 20000 in
theorem gX6_lengthen_X6_in : GoodIn wsX6_lengthen (va_wsS RX6 59 yX6_in wsX6_in) := goodIn_app (goodIn_of _ (by decide +kernel)) ggX6_lengthen_X6_in
set_option maxRecDepth 20000 in
theorem ggX6_lengthen_X6_keep : GoodIn wsX6_lengthen wsX6_keep := goodIn_r _ [18, 4, 2, 3, 5, 19, 20, 21, 22, 23, 24, 25, 26, 27, 28, 29, 30, 31, 32, 33, 34, 35, 36, 37, 38] (by decide +kernel) (by decide +kernel)
set_option maxRecDepth 20000 in
theorem gX6_lengthen_X6_keep : GoodIn wsX6_lengthen (wsV RX6 122 RX6 yX6_keep wsX6_keep) := goodIn_app (goodIn_of _ (by decide +kernel)) ggX6_lengthen_X6_keep
theorem dX6_lengthen_0 : decode cX6_lengthen 0 = .ok (.iload_n 1, 1) := by decide +kernel
theorem dX6_lengthen_1 : decode cX6_lengthen 1 = .ok (.invokestatic 63, 3) := by decide +kernel
theorem dX6_lengthen_4 : decode cX6_lengthen 4 = .ok (.ifCond .ne 6, 3) := by decide +kernel
theorem dX6_lengthen_7 : decode cX6_lengthen 7 = .ok (.bipush (-101), 2) := by decide +kernel
theorem dX6_lengthen_9 : decode cX6_lengthen 9 = .ok (.ireturn, 1) := by decide +kernel
theorem dX6_lengthen_10 : decode cX6_lengthen 10 = .ok (.iload_n 2, 1) := by decide +kernel
theorem dX6_lengthen_11 : decode cX6_lengthen 11 = .ok (.i2l, 1) := by decide +kernel
theorem dX6_lengthen_12 : decode cX6_lengthen 12 = .ok (.lconst 0, 1) := by decide +kernel
theorem dX6_lengthen_13 : decode cX6_lengthen 13 = .ok (.aload_n 0, 1) := by decide +kernel
theorem dX6_lengthen_14 : decode cX6_lengthen 14 = .ok (.getfield 13, 3) := by decide +kernel
theorem dX6_lengthen_17 : decode cX6_lengthen 17 = .ok (.iload_n 1, 1) := by decide +kernel
theorem dX6_lengthen_18 : decode cX6_lengthen 18 = .ok (.iaload, 1) := by decide +kernel
theorem dX6_lengthen_19 : decode cX6_lengthen 19 = .ok (.iconst 1, 1) := by decide +kernel
theorem dX6_lengthen_20 : decode cX6_lengthen 20 = .ok (.isub, 1) := by decide +kernel
theorem dX6_lengthen_21 : decode cX6_lengthen 21 = .ok (.i2l, 1) := by decide +kernel
theorem dX6_lengthen_22 : decode cX6_lengthen 22 = .ok (.invokestatic 59, 3) := by decide +kernel
theorem dX6_lengthen_25 : decode cX6_lengthen 25 = .ok (.ifCond .ne 6, 3) := by decide +kernel
theorem dX6_lengthen_28 : decode cX6_lengthen 28 = .ok (.bipush (-102), 2) := by decide +kernel
theorem dX6_lengthen_30 : decode cX6_lengthen 30 = .ok (.ireturn, 1) := by decide +kernel
theorem dX6_lengthen_31 : decode cX6_lengthen 31 = .ok (.iconst 0, 1) := by decide +kernel
theorem dX6_lengthen_32 : decode cX6_lengthen 32 = .ok (.istore_n 3, 1) := by decide +kernel
theorem dX6_lengthen_33 : decode cX6_lengthen 33 = .ok (.iconst 0, 1) := by decide +kernel
theorem dX6_lengthen_34 : decode cX6_lengthen 34 = .ok (.istore 4, 2) := by decide +kernel
theorem dX6_lengthen_36 : decode cX6_lengthen 36 = .ok (.iload 4, 2) := by decide +kernel
theorem dX6_lengthen_38 : decode cX6_lengthen 38 = .ok (.aload_n 0, 1) := by decide +kernel
theorem dX6_lengthen_39 : decode cX6_lengthen 39 = .ok (.getfield 100, 3) := by decide +kernel
theorem dX6_lengthen_42 : decode cX6_lengthen 42 = .ok (.if_icmp .ge 19, 3) := by decide +kernel
theorem dX6_lengthen_45 : decode cX6_lengthen 45 = .ok (.iload_n 3, 1) := by decide +kernel
theorem dX6_lengthen_46 : decode cX6_lengthen 46 = .ok (.aload_n 0, 1) := by decide +kernel
theorem dX6_lengthen_47 : decode cX6_lengthen 47 = .ok (.getfield 33, 3) := by decide +kernel
theorem dX6_lengthen_50 : decode cX6_lengthen 50 = .ok (.iload 4, 2) := by decide +kernel
theorem dX6_lengthen_52 : decode cX6_lengthen 52 = .ok (.iaload, 1) := by decide +kernel
theorem dX6_lengthen_53 : decode cX6_lengthen 53 = .ok (.iadd, 1) := by decide +kernel
theorem dX6_lengthen_54 : decode cX6_lengthen 54 = .ok (.istore_n 3, 1) := by decide +kernel
theorem dX6_lengthen_55 : decode cX6_lengthen 55 = .ok (.iinc 4 1, 3) := by decide +kernel
theorem dX6_lengthen_58 : decode cX6_lengthen 58 = .ok (.goto (-22), 3) := by decide +kernel
theorem dX6_lengthen_61 : decode cX6_lengthen 61 = .ok (.iload_n 3, 1) := by decide +kernel
theorem dX6_lengthen_62 : decode cX6_lengthen 62 = .ok (.bipush 60, 2) := by decide +kernel
theorem dX6_lengthen_64 : decode cX6_lengthen 64 = .ok (.if_icmp .le 6, 3) := by decide +kernel
theorem dX6_lengthen_67 : decode cX6_lengthen 67 = .ok (.bipush (-104), 2) := by decide +kernel
theorem dX6_lengthen_69 : decode cX6_lengthen 69 = .ok (.ireturn, 1) := by decide +kernel
theorem dX6_lengthen_70 : decode cX6_lengthen 70 = .ok (.aload_n 0, 1) := by decide +kernel
theorem dX6_lengthen_71 : decode cX6_lengthen 71 = .ok (.iconst 0, 1) := by decide +kernel
theorem dX6_lengthen_72 : decode cX6_lengthen 72 = .ok (.putfield 105, 3) := by decide +kernel
theorem dX6_lengthen_75 : decode cX6_lengthen 75 = .ok (.iconst 0, 1) := by decide +kernel
theorem dX6_lengthen_76 : decode cX6_lengthen 76 = .ok (.istore 4, 2) := by decide +kernel
theorem dX6_lengthen_78 : decode cX6_lengthen 78 = .ok (.iload 4, 2) := by decide +kernel
theorem dX6_lengthen_80 : decode cX6_lengthen 80 = .ok (.aload_n 0, 1) := by decide +kernel
theorem dX6_lengthen_81 : decode cX6_lengthen 81 = .ok (.getfield 100, 3) := by decide +kernel
theorem dX6_lengthen_84 : decode cX6_lengthen 84 = .ok (.if_icmp .ge 69, 3) := by decide +kernel
theorem dX6_lengthen_87 : decode cX6_lengthen 87 = .ok (.iconst 0, 1) := by decide +kernel
theorem dX6_lengthen_88 : decode cX6_lengthen 88 = .ok (.istore 5, 2) := by decide +kernel
theorem dX6_lengthen_90 : decode cX6_lengthen 90 = .ok (.iload 5, 2) := by decide +kernel
theorem dX6_lengthen_92 : decode cX6_lengthen 92 = .ok (.aload_n 0, 1) := by decide +kernel
theorem dX6_lengthen_93 : decode cX6_lengthen 93 = .ok (.getfield 33, 3) := by decide +kernel
theorem dX6_lengthen_96 : decode cX6_lengthen 96 = .ok (.iload 4, 2) := by decide +kernel
theorem dX6_lengthen_98 : decode cX6_lengthen 98 = .ok (.iaload, 1) := by decide +kernel
theorem dX6_lengthen_99 : decode cX6_lengthen 99 = .ok (.if_icmp .ge 48, 3) := by decide +kernel
theorem dX6_lengthen_102 : decode cX6_lengthen 102 = .ok (.aload_n 0, 1) := by decide +kernel
theorem dX6_lengthen_103 : decode cX6_lengthen 103 = .ok (.getfield 36, 3) := by decide +kernel
theorem dX6_lengthen_106 : decode cX6_lengthen 106 = .ok (.aload_n 0, 1) := by decide +kernel
theorem dX6_lengthen_107 : decode cX6_lengthen 107 = .ok (.getfield 105, 3) := by decide +kernel
theorem dX6_lengthen_110 : decode cX6_lengthen 110 = .ok (.aload_n 0, 1) := by decide +kernel
theorem dX6_lengthen_111 : decode cX6_lengthen 111 = .ok (.getfield 7, 3) := by decide +kernel
theorem dX6_lengthen_114 : decode cX6_lengthen 114 = .ok (.iconst 4, 1) := by decide +kernel
theorem dX6_lengthen_115 : decode cX6_lengthen 115 = .ok (.iload_n 1, 1) := by decide +kernel
theorem dX6_lengthen_116 : decode cX6_lengthen 116 = .ok (.imul, 1) := by decide +kernel
theorem dX6_lengthen_117 : decode cX6_lengthen 117 = .ok (.iload_n 2, 1) := by decide +kernel
theorem dX6_lengthen_118 : decode cX6_lengthen 118 = .ok (.iload 4, 2) := by decide +kernel
theorem dX6_lengthen_120 : decode cX6_lengthen 120 = .ok (.iadd, 1) := by decide +kernel
theorem dX6_lengthen_121 : decode cX6_lengthen 121 = .ok (.aload_n 0, 1) := by decide +kernel
theorem dX6_lengthen_122 : decode cX6_lengthen 122 = .ok (.getfield 13, 3) := by decide +kernel
theorem dX6_lengthen_125 : decode cX6_lengthen 125 = .ok (.iload_n 1, 1) := by decide +kernel
theorem dX6_lengthen_126 : decode cX6_lengthen 126 = .ok (.iaload, 1) := by decide +kernel
theorem dX6_lengthen_127 : decode cX6_lengthen 127 = .ok (.irem, 1) := by decide +kernel
theorem dX6_lengthen_128 : decode cX6_lengthen 128 = .ok (.iadd, 1) := by decide +kernel
theorem dX6_lengthen_129 : decode cX6_lengthen 129 = .ok (.iaload, 1) := by decide +kernel
theorem dX6_lengthen_130 : decode cX6_lengthen 130 = .ok (.iastore, 1) := by decide +kernel
theorem dX6_lengthen_131 : decode cX6_lengthen 131 = .ok (.aload_n 0, 1) := by decide +kernel
theorem dX6_lengthen_132 : decode cX6_lengthen 132 = .ok (.dup, 1) := by decide +kernel
theorem dX6_lengthen_133 : decode cX6_lengthen 133 = .ok (.getfield 105, 3) := by decide +kernel
theorem dX6_lengthen_136 : decode cX6_lengthen 136 = .ok (.iconst 1, 1) := by decide +kernel
theorem dX6_lengthen_137 : decode cX6_lengthen 137 = .ok (.iadd, 1) := by decide +kernel
theorem dX6_lengthen_138 : decode cX6_lengthen 138 = .ok (.putfield 105, 3) := by decide +kernel
theorem dX6_lengthen_141 : decode cX6_lengthen 141 = .ok (.iinc 5 1, 3) := by decide +kernel
theorem dX6_lengthen_144 : decode cX6_lengthen 144 = .ok (.goto (-54), 3) := by decide +kernel
theorem dX6_lengthen_147 : decode cX6_lengthen 147 = .ok (.iinc 4 1, 3) := by decide +kernel
theorem dX6_lengthen_150 : decode cX6_lengthen 150 = .ok (.goto (-72), 3) := by decide +kernel
theorem dX6_lengthen_153 : decode cX6_lengthen 153 = .ok (.aload_n 0, 1) := by decide +kernel
theorem dX6_lengthen_154 : decode cX6_lengthen 154 = .ok (.invokevirtual 122, 3) := by decide +kernel
theorem dX6_lengthen_157 : decode cX6_lengthen 157 = .ok (.aload_n 0, 1) := by decide +kernel
theorem dX6_lengthen_158 : decode cX6_lengthen 158 = .ok (.getfield 100, 3) := by decide +kernel
theorem dX6_lengthen_161 : decode cX6_lengthen 161 = .ok (.ireturn, 1) := by decide +kernel
set_option maxRecDepth 20000 in
theorem ggX6_mirror_X6_load : GoodIn wsX6_mirror wsX6_load := goodIn_r _ [8, 1, 9, 3, 2, 10, 11, 12, 13, 14, 15, 16, 17, 18, 19, 20, 21, 22, 23, 24, 25, 26, 27, 28, 29] (by decide +kernel) (by decide +kernel)
set_option maxRecDepth 20000 in
theorem gX6_mirror_X6_load : GoodIn wsX6_mirror (wsV RX6 111 RX6 yX6_load wsX6_load) := goodIn_app (goodIn_of _ (by decide +kernel)) ggX6_mirror_X6_load
theorem dX6_mirror_0 : decode cX6_mirror 0 = .ok (.aload_n 0, 1) := by decide +kernel
theorem dX6_mirror_1 : decode cX6_mirror 1 = .ok (.invokevirtual 111, 3) := by decide +kernel
theorem dX6_mirror_4 : decode cX6_mirror 4 = .ok (.iconst 0, 1) := by decide +kernel
theorem dX6_mirror_5 : decode cX6_mirror 5 = .ok (.istore_n 1, 1) := by decide +kernel
theorem dX6_mirror_6 : decode cX6_mirror 6 = .ok (.iload_n 1, 1) := by decide +kernel
theorem dX6_mirror_7 : decode cX6_mirror 7 = .ok (.aload_n 0, 1) := by decide +kernel
theorem dX6_mirror_8 : decode cX6_mirror 8 = .ok (.getfield 100, 3) := by decide +kernel
theorem dX6_mirror_11 : decode cX6_mirror 11 = .ok (.if_icmp .ge 28, 3) := by decide +kernel
theorem dX6_mirror_14 : decode cX6_mirror 14 = .ok (.aload_n 0, 1) := by decide +kernel
theorem dX6_mirror_15 : decode cX6_mirror 15 = .ok (.getfield 33, 3) := by decide +kernel
theorem dX6_mirror_18 : decode cX6_mirror 18 = .ok (.iload_n 1, 1) := by decide +kernel
theorem dX6_mirror_19 : decode cX6_mirror 19 = .ok (.aload_n 0, 1) := by decide +kernel
theorem dX6_mirror_20 : decode cX6_mirror 20 = .ok (.getfield 36, 3) := by decide +kernel
theorem dX6_mirror_23 : decode cX6_mirror 23 = .ok (.aload_n 0, 1) := by decide +kernel
theorem dX6_mirror_24 : decode cX6_mirror 24 = .ok (.getfield 100, 3) := by decide +kernel
theorem dX6_mirror_27 : decode cX6_mirror 27 = .ok (.iconst 1, 1) := by decide +kernel
theorem dX6_mirror_28 : decode cX6_mirror 28 = .ok (.isub, 1) := by decide +kernel
theorem dX6_mirror_29 : decode cX6_mirror 29 = .ok (.iload_n 1, 1) := by decide +kernel
theorem dX6_mirror_30 : decode cX6_mirror 30 = .ok (.isub, 1) := by decide +kernel
theorem dX6_mirror_31 : decode cX6_mirror 31 = .ok (.iaload, 1) := by decide +kernel
theorem dX6_mirror_32 : decode cX6_mirror 32 = .ok (.iastore, 1) := by decide +kernel
theorem dX6_mirror_33 : decode cX6_mirror 33 = .ok (.iinc 1 1, 3) := by decide +kernel
theorem dX6_mirror_36 : decode cX6_mirror 36 = .ok (.goto (-30), 3) := by decide +kernel
theorem dX6_mirror_39 : decode cX6_mirror 39 = .ok (.aload_n 0, 1) := by decide +kernel
theorem dX6_mirror_40 : decode cX6_mirror 40 = .ok (.getfield 100, 3) := by decide +kernel
theorem dX6_mirror_43 : decode cX6_mirror 43 = .ok (.ireturn, 1) := by decide +kernel
set_option maxRecDepth 20000 in
theorem ggX6_turn_X6_isAlphabet : GoodIn wsX6_turn wsX6_isAlphabet := goodIn_r _ [8, 9, 10, 11, 7, 12] (by decide +kernel) (by decide +kernel)
set_option maxRecDepth 20000 in
theorem gX6_turn_X6_isAlphabet : GoodIn wsX6_turn (va_wsS RX6 63 yX6_isAlphabet wsX6_isAlphabet) := goodIn_app (goodIn_of _ (by decide +kernel)) ggX6_turn_X6_isAlphabet
theorem dX6_turn_0 : decode cX6_turn 0 = .ok (.iload_n 1, 1) := by decide +kernel
theorem dX6_turn_1 : decode cX6_turn 1 = .ok (.invokestatic 63, 3) := by decide +kernel
theorem dX6_turn_4 : decode cX6_turn 4 = .ok (.ifCond .ne 6, 3) := by decide +kernel
theorem dX6_turn_7 : decode cX6_turn 7 = .ok (.bipush (-101), 2) := by decide +kernel
theorem dX6_turn_9 : decode cX6_turn 9 = .ok (.ireturn, 1) := by decide +kernel
theorem dX6_turn_10 : decode cX6_turn 10 = .ok (.iconst 0, 1) := by decide +kernel
theorem dX6_turn_11 : decode cX6_turn 11 = .ok (.istore_n 2, 1) := by decide +kernel
theorem dX6_turn_12 : decode cX6_turn 12 = .ok (.iconst 0, 1) := by decide +kernel
theorem dX6_turn_13 : decode cX6_turn 13 = .ok (.istore_n 3, 1) := by decide +kernel
theorem dX6_turn_14 : decode cX6_turn 14 = .ok (.iload_n 3, 1) := by decide +kernel
theorem dX6_turn_15 : decode cX6_turn 15 = .ok (.aload_n 0, 1) := by decide +kernel
theorem dX6_turn_16 : decode cX6_turn 16 = .ok (.getfield 100, 3) := by decide +kernel
theorem dX6_turn_19 : decode cX6_turn 19 = .ok (.if_icmp .ge 109, 3) := by decide +kernel
theorem dX6_turn_22 : decode cX6_turn 22 = .ok (.iconst 0, 1) := by decide +kernel
theorem dX6_turn_23 : decode cX6_turn 23 = .ok (.istore 4, 2) := by decide +kernel
theorem dX6_turn_25 : decode cX6_turn 25 = .ok (.iload 4, 2) := by decide +kernel
theorem dX6_turn_27 : decode cX6_turn 27 = .ok (.aload_n 0, 1) := by decide +kernel
theorem dX6_turn_28 : decode cX6_turn 28 = .ok (.getfield 13, 3) := by decide +kernel
theorem dX6_turn_31 : decode cX6_turn 31 = .ok (.iload_n 1, 1) := by decide +kernel
theorem dX6_turn_32 : decode cX6_turn 32 = .ok (.iaload, 1) := by decide +kernel
theorem dX6_turn_33 : decode cX6_turn 33 = .ok (.if_icmp .ge 29, 3) := by decide +kernel
theorem dX6_turn_36 : decode cX6_turn 36 = .ok (.aload_n 0, 1) := by decide +kernel
theorem dX6_turn_37 : decode cX6_turn 37 = .ok (.getfield 7, 3) := by decide +kernel
theorem dX6_turn_40 : decode cX6_turn 40 = .ok (.iconst 4, 1) := by decide +kernel
theorem dX6_turn_41 : decode cX6_turn 41 = .ok (.iload_n 1, 1) := by decide +kernel
theorem dX6_turn_42 : decode cX6_turn 42 = .ok (.imul, 1) := by decide +kernel
theorem dX6_turn_43 : decode cX6_turn 43 = .ok (.iload 4, 2) := by decide +kernel
theorem dX6_turn_45 : decode cX6_turn 45 = .ok (.iadd, 1) := by decide +kernel
theorem dX6_turn_46 : decode cX6_turn 46 = .ok (.iaload, 1) := by decide +kernel
theorem dX6_turn_47 : decode cX6_turn 47 = .ok (.aload_n 0, 1) := by decide +kernel
theorem dX6_turn_48 : decode cX6_turn 48 = .ok (.getfield 33, 3) := by decide +kernel
theorem dX6_turn_51 : decode cX6_turn 51 = .ok (.iload_n 3, 1) := by decide +kernel
theorem dX6_turn_52 : decode cX6_turn 52 = .ok (.iaload, 1) := by decide +kernel
theorem dX6_turn_53 : decode cX6_turn 53 = .ok (.if_icmp .eq 9, 3) := by decide +kernel
theorem dX6_turn_56 : decode cX6_turn 56 = .ok (.iinc 4 1, 3) := by decide +kernel
theorem dX6_turn_59 : decode cX6_turn 59 = .ok (.goto (-34), 3) := by decide +kernel
theorem dX6_turn_62 : decode cX6_turn 62 = .ok (.iload 4, 2) := by decide +kernel
theorem dX6_turn_64 : decode cX6_turn 64 = .ok (.aload_n 0, 1) := by decide +kernel
theorem dX6_turn_65 : decode cX6_turn 65 = .ok (.getfield 13, 3) := by decide +kernel
theorem dX6_turn_68 : decode cX6_turn 68 = .ok (.iload_n 1, 1) := by decide +kernel
theorem dX6_turn_69 : decode cX6_turn 69 = .ok (.iaload, 1) := by decide +kernel
theorem dX6_turn_70 : decode cX6_turn 70 = .ok (.if_icmp .ge 52, 3) := by decide +kernel
theorem dX6_turn_73 : decode cX6_turn 73 = .ok (.aload_n 0, 1) := by decide +kernel
theorem dX6_turn_74 : decode cX6_turn 74 = .ok (.getfield 7, 3) := by decide +kernel
theorem dX6_turn_77 : decode cX6_turn 77 = .ok (.iconst 4, 1) := by decide +kernel
theorem dX6_turn_78 : decode cX6_turn 78 = .ok (.iload_n 1, 1) := by decide +kernel
theorem dX6_turn_79 : decode cX6_turn 79 = .ok (.imul, 1) := by decide +kernel
theorem dX6_turn_80 : decode cX6_turn 80 = .ok (.iload 4, 2) := by decide +kernel
theorem dX6_turn_82 : decode cX6_turn 82 = .ok (.iconst 1, 1) := by decide +kernel
theorem dX6_turn_83 : decode cX6_turn 83 = .ok (.iadd, 1) := by decide +kernel
theorem dX6_turn_84 : decode cX6_turn 84 = .ok (.aload_n 0, 1) := by decide +kernel
theorem dX6_turn_85 : decode cX6_turn 85 = .ok (.getfield 13, 3) := by decide +kernel
theorem dX6_turn_88 : decode cX6_turn 88 = .ok (.iload_n 1, 1) := by decide +kernel
theorem dX6_turn_89 : decode cX6_turn 89 = .ok (.iaload, 1) := by decide +kernel
theorem dX6_turn_90 : decode cX6_turn 90 = .ok (.irem, 1) := by decide +kernel
theorem dX6_turn_91 : decode cX6_turn 91 = .ok (.iadd, 1) := by decide +kernel
theorem dX6_turn_92 : decode cX6_turn 92 = .ok (.iaload, 1) := by decide +kernel
theorem dX6_turn_93 : decode cX6_turn 93 = .ok (.istore 5, 2) := by decide +kernel
theorem dX6_turn_95 : decode cX6_turn 95 = .ok (.iload_n 2, 1) := by decide +kernel
theorem dX6_turn_96 : decode cX6_turn 96 = .ok (.iload 5, 2) := by decide +kernel
theorem dX6_turn_98 : decode cX6_turn 98 = .ok (.aload_n 0, 1) := by decide +kernel
theorem dX6_turn_99 : decode cX6_turn 99 = .ok (.getfield 33, 3) := by decide +kernel
theorem dX6_turn_102 : decode cX6_turn 102 = .ok (.iload_n 3, 1) := by decide +kernel
theorem dX6_turn_103 : decode cX6_turn 103 = .ok (.iaload, 1) := by decide +kernel
theorem dX6_turn_104 : decode cX6_turn 104 = .ok (.if_icmp .ne 7, 3) := by decide +kernel
theorem dX6_turn_107 : decode cX6_turn 107 = .ok (.iconst 0, 1) := by decide +kernel
theorem dX6_turn_108 : decode cX6_turn 108 = .ok (.goto 4, 3) := by decide +kernel
theorem dX6_turn_111 : decode cX6_turn 111 = .ok (.iconst 1, 1) := by decide +kernel
theorem dX6_turn_112 : decode cX6_turn 112 = .ok (.iadd, 1) := by decide +kernel
theorem dX6_turn_113 : decode cX6_turn 113 = .ok (.istore_n 2, 1) := by decide +kernel
theorem dX6_turn_114 : decode cX6_turn 114 = .ok (.aload_n 0, 1) := by decide +kernel
theorem dX6_turn_115 : decode cX6_turn 115 = .ok (.getfield 33, 3) := by decide +kernel
theorem dX6_turn_118 : decode cX6_turn 118 = .ok (.iload_n 3, 1) := by decide +kernel
theorem dX6_turn_119 : decode cX6_turn 119 = .ok (.iload 5, 2) := by decide +kernel
theorem dX6_turn_121 : decode cX6_turn 121 = .ok (.iastore, 1) := by decide +kernel
theorem dX6_turn_122 : decode cX6_turn 122 = .ok (.iinc 3 1, 3) := by decide +kernel
theorem dX6_turn_125 : decode cX6_turn 125 = .ok (.goto (-111), 3) := by decide +kernel
theorem dX6_turn_128 : decode cX6_turn 128 = .ok (.iload_n 2, 1) := by decide +kernel
theorem dX6_turn_129 : decode cX6_turn 129 = .ok (.ireturn, 1) := by decide +kernel
set_option maxRecDepth 20000 in
theorem ggX6_depthOf_X6_measure : GoodIn wsX6_depthOf wsX6_measure := goodIn_r _ [7, 8, 1, 2, 9, 14, 15, 16, 17, 18, 19, 20, 21, 22, 23, 24, 25, 26, 27, 28, 29, 30, 31, 32, 33] (by decide +kernel) (by decide +kernel)
set_option maxRecDepth 20000 in
theorem gX6_depthOf_X6_measure : GoodIn wsX6_depthOf (wsV RX6 114 RX6 yX6_measure wsX6_measure) := goodIn_app (goodIn_of _ (by decide +kernel)) ggX6_depthOf_X6_measure
set_option maxRecDepth 20000 in
theorem ggX6_depthOf_X6_cut : GoodIn wsX6_depthOf wsX6_cut := goodIn_r _ [13, 8, 9, 1, 2, 14, 15, 16, 17, 18, 19, 20, 21, 22, 23, 24, 25, 26, 27, 28, 29, 30, 31, 32, 33] (by decide +kernel) (by decide +kernel)
set_option maxRecDepth 20000 in
theorem gX6_depthOf_X6_cut : GoodIn wsX6_depthOf (wsV RX6 118 RX6 yX6_cut wsX6_cut) := goodIn_app (goodIn_of _ (by decide +kernel)) ggX6_depthOf_X6_cut
theorem dX6_depthOf_0 : decode cX6_depthOf 0 = .ok (.iconst 0, 1) := by decide +kernel
theorem dX6_depthOf_1 : decode cX6_depthOf 1 = .ok (.istore_n 2, 1) := by decide +kernel
theorem dX6_depthOf_2 : decode cX6_depthOf 2 = .ok (.aload_n 0, 1) := by decide +kernel
theorem dX6_depthOf_3 : decode cX6_depthOf 3 = .ok (.getfield 105, 3) := by decide +kernel
theorem dX6_depthOf_6 : decode cX6_depthOf 6 = .ok (.ifCond .le 52, 3) := by decide +kernel
theorem dX6_depthOf_9 : decode cX6_depthOf 9 = .ok (.iconst 0, 1) := by decide +kernel
theorem dX6_depthOf_10 : decode cX6_depthOf 10 = .ok (.istore_n 3, 1) := by decide +kernel
theorem dX6_depthOf_11 : decode cX6_depthOf 11 = .ok (.iload_n 3, 1) := by decide +kernel
theorem dX6_depthOf_12 : decode cX6_depthOf 12 = .ok (.aload_n 0, 1) := by decide +kernel
theorem dX6_depthOf_13 : decode cX6_depthOf 13 = .ok (.getfield 105, 3) := by decide +kernel
theorem dX6_depthOf_16 : decode cX6_depthOf 16 = .ok (.if_icmp .ge 21, 3) := by decide +kernel
theorem dX6_depthOf_19 : decode cX6_depthOf 19 = .ok (.aload_n 0, 1) := by decide +kernel
theorem dX6_depthOf_20 : decode cX6_depthOf 20 = .ok (.getfield 36, 3) := by decide +kernel
theorem dX6_depthOf_23 : decode cX6_depthOf 23 = .ok (.iload_n 3, 1) := by decide +kernel
theorem dX6_depthOf_24 : decode cX6_depthOf 24 = .ok (.iaload, 1) := by decide +kernel
theorem dX6_depthOf_25 : decode cX6_depthOf 25 = .ok (.iload_n 1, 1) := by decide +kernel
theorem dX6_depthOf_26 : decode cX6_depthOf 26 = .ok (.if_icmp .le 5, 3) := by decide +kernel
theorem dX6_depthOf_29 : decode cX6_depthOf 29 = .ok (.iconst (-1), 1) := by decide +kernel
theorem dX6_depthOf_30 : decode cX6_depthOf 30 = .ok (.ireturn, 1) := by decide +kernel
theorem dX6_depthOf_31 : decode cX6_depthOf 31 = .ok (.iinc 3 1, 3) := by decide +kernel
theorem dX6_depthOf_34 : decode cX6_depthOf 34 = .ok (.goto (-23), 3) := by decide +kernel
theorem dX6_depthOf_37 : decode cX6_depthOf 37 = .ok (.aload_n 0, 1) := by decide +kernel
theorem dX6_depthOf_38 : decode cX6_depthOf 38 = .ok (.invokevirtual 114, 3) := by decide +kernel
theorem dX6_depthOf_41 : decode cX6_depthOf 41 = .ok (.iload_n 1, 1) := by decide +kernel
theorem dX6_depthOf_42 : decode cX6_depthOf 42 = .ok (.if_icmp .le 5, 3) := by decide +kernel
theorem dX6_depthOf_45 : decode cX6_depthOf 45 = .ok (.iconst (-1), 1) := by decide +kernel
theorem dX6_depthOf_46 : decode cX6_depthOf 46 = .ok (.ireturn, 1) := by decide +kernel
theorem dX6_depthOf_47 : decode cX6_depthOf 47 = .ok (.aload_n 0, 1) := by decide +kernel
theorem dX6_depthOf_48 : decode cX6_depthOf 48 = .ok (.iload_n 1, 1) := by decide +kernel
theorem dX6_depthOf_49 : decode cX6_depthOf 49 = .ok (.invokevirtual 118, 3) := by decide +kernel
theorem dX6_depthOf_52 : decode cX6_depthOf 52 = .ok (.iinc 2 1, 3) := by decide +kernel
theorem dX6_depthOf_55 : decode cX6_depthOf 55 = .ok (.goto (-53), 3) := by decide +kernel
theorem dX6_depthOf_58 : decode cX6_depthOf 58 = .ok (.iload_n 2, 1) := by decide +kernel
theorem dX6_depthOf_59 : decode cX6_depthOf 59 = .ok (.ireturn, 1) := by decide +kernel
set_option maxRecDepth 20000 in
theorem ggX6_depth_X6_in : GoodIn wsX6_depth wsX6_in := goodIn_r _ [6] (by decide +kernel) (by decide +kernel)
set_option maxRecDepth 20000 in
theorem gX6_depth_X6_in : GoodIn wsX6_depth (va_wsS RX6 59 yX6_in wsX6_in) := goodIn_app (goodIn_of _ (by decide +kernel)) ggX6_depth_X6_in
set_option maxRecDepth 20000 in
theorem ggX6_depth_X6_load : GoodIn wsX6_depth wsX6_load := goodIn_r _ [10, 11, 12, 13, 14, 29, 30, 31, 32, 33, 34, 35, 36, 37, 38, 39, 40, 41, 42, 43, 44, 45, 46, 47, 48] (by decide +kernel) (by decide +kernel)
set_option maxRecDepth 20000 in
theorem gX6_depth_X6_load : GoodIn wsX6_depth (wsV RX6 111 RX6 yX6_load wsX6_load) := goodIn_app (goodIn_of _ (by decide +kernel)) ggX6_depth_X6_load
set_option maxRecDepth 20000 in
theorem ggX6_depth_X6_depthOf : GoodIn wsX6_depth wsX6_depthOf := goodIn_r _ [18, 12, 13, 19, 20, 21, 5, 22, 23, 24, 25, 26, 27, 28, 29, 30, 31, 32, 33, 34, 35, 36, 37, 38, 39, 40, 41, 42, 43, 44, 45, 46, 47, 48] (by decide +kernel) (by decide +kernel)
set_option maxRecDepth 20000 in
theorem gX6_depth_X6_depthOf : GoodIn wsX6_depth (wsV RX6 125 RX6 yX6_depthOf wsX6_depthOf) := goodIn_app (goodIn_of _ (by decide +kernel)) ggX6_depth_X6_depthOf
theorem dX6_depth_0 : decode cX6_depth 0 = .ok (.iload_n 1, 1) := by decide +kernel
theorem dX6_depth_1 : decode cX6_depth 1 = .ok (.i2l, 1) := by decide +kernel
theorem dX6_depth_2 : decode cX6_depth 2 = .ok (.ldc2_w 67, 3) := by decide +kernel
theorem dX6_depth_5 : decode cX6_depth 5 = .ok (.ldc2_w 71, 3) := by decide +kernel
theorem dX6_depth_8 : decode cX6_depth 8 = .ok (.invokestatic 59, 3) := by decide +kernel
theorem dX6_depth_11 : decode cX6_depth 11 = .ok (.ifCond .ne 6, 3) := by decide +kernel
theorem dX6_depth_14 : decode cX6_depth 14 = .ok (.bipush (-102), 2) := by decide +kernel
theorem dX6_depth_16 : decode cX6_depth 16 = .ok (.ireturn, 1) := by decide +kernel
theorem dX6_depth_17 : decode cX6_depth 17 = .ok (.aload_n 0, 1) := by decide +kernel
theorem dX6_depth_18 : decode cX6_depth 18 = .ok (.invokevirtual 111, 3) := by decide +kernel
theorem dX6_depth_21 : decode cX6_depth 21 = .ok (.aload_n 0, 1) := by decide +kernel
theorem dX6_depth_22 : decode cX6_depth 22 = .ok (.iload_n 1, 1) := by decide +kernel
theorem dX6_depth_23 : decode cX6_depth 23 = .ok (.invokevirtual 125, 3) := by decide +kernel
theorem dX6_depth_26 : decode cX6_depth 26 = .ok (.ireturn, 1) := by decide +kernel
set_option maxRecDepth 20000 in
theorem ggX6_many_X6_in : GoodIn wsX6_many wsX6_in := goodIn_r _ [12] (by decide +kernel) (by decide +kernel)
set_option maxRecDepth 20000 in
theorem gX6_many_X6_in : GoodIn wsX6_many (va_wsS RX6 59 yX6_in wsX6_in) := goodIn_app (goodIn_of _ (by decide +kernel)) ggX6_many_X6_in
set_option maxRecDepth 20000 in
theorem ggX6_many_X6_depthOf : GoodIn wsX6_many wsX6_depthOf := goodIn_r _ [16, 7, 8, 17, 18, 19, 11, 20, 21, 22, 23, 24, 25, 26, 27, 28, 29, 30, 31, 32, 33, 34, 35, 36, 37, 38, 39, 40, 41, 42, 43, 44, 45, 46] (by decide +kernel) (by decide +kernel)
set_option maxRecDepth 20000 in
theorem gX6_many_X6_depthOf : GoodIn wsX6_many (wsV RX6 125 RX6 yX6_depthOf wsX6_depthOf) := goodIn_app (goodIn_of _ (by decide +kernel)) ggX6_many_X6_depthOf
theorem dX6_many_0 : decode cX6_many 0 = .ok (.iload_n 2, 1) := by decide +kernel
theorem dX6_many_1 : decode cX6_many 1 = .ok (.i2l, 1) := by decide +kernel
theorem dX6_many_2 : decode cX6_many 2 = .ok (.ldc2_w 67, 3) := by decide +kernel
theorem dX6_many_5 : decode cX6_many 5 = .ok (.ldc2_w 57, 3) := by decide +kernel
theorem dX6_many_8 : decode cX6_many 8 = .ok (.invokestatic 59, 3) := by decide +kernel
theorem dX6_many_11 : decode cX6_many 11 = .ok (.ifCond .eq 26, 3) := by decide +kernel
theorem dX6_many_14 : decode cX6_many 14 = .ok (.iload_n 1, 1) := by decide +kernel
theorem dX6_many_15 : decode cX6_many 15 = .ok (.i2l, 1) := by decide +kernel
theorem dX6_many_16 : decode cX6_many 16 = .ok (.lconst 0, 1) := by decide +kernel
theorem dX6_many_17 : decode cX6_many 17 = .ok (.iload_n 2, 1) := by decide +kernel
theorem dX6_many_18 : decode cX6_many 18 = .ok (.iconst 2, 1) := by decide +kernel
theorem dX6_many_19 : decode cX6_many 19 = .ok (.if_icmp .ne 9, 3) := by decide +kernel
theorem dX6_many_22 : decode cX6_many 22 = .ok (.ldc2_w 129, 3) := by decide +kernel
theorem dX6_many_25 : decode cX6_many 25 = .ok (.goto 6, 3) := by decide +kernel
theorem dX6_many_28 : decode cX6_many 28 = .ok (.ldc2_w 131, 3) := by decide +kernel
theorem dX6_many_31 : decode cX6_many 31 = .ok (.invokestatic 59, 3) := by decide +kernel
theorem dX6_many_34 : decode cX6_many 34 = .ok (.ifCond .ne 6, 3) := by decide +kernel
theorem dX6_many_37 : decode cX6_many 37 = .ok (.bipush (-102), 2) := by decide +kernel
theorem dX6_many_39 : decode cX6_many 39 = .ok (.ireturn, 1) := by decide +kernel
theorem dX6_many_40 : decode cX6_many 40 = .ok (.aload_n 0, 1) := by decide +kernel
theorem dX6_many_41 : decode cX6_many 41 = .ok (.getfield 133, 3) := by decide +kernel
theorem dX6_many_44 : decode cX6_many 44 = .ok (.bipush 10, 2) := by decide +kernel
theorem dX6_many_46 : decode cX6_many 46 = .ok (.if_icmp .ne 6, 3) := by decide +kernel
theorem dX6_many_49 : decode cX6_many 49 = .ok (.bipush (-103), 2) := by decide +kernel
theorem dX6_many_51 : decode cX6_many 51 = .ok (.ireturn, 1) := by decide +kernel
theorem dX6_many_52 : decode cX6_many 52 = .ok (.aload_n 0, 1) := by decide +kernel
theorem dX6_many_53 : decode cX6_many 53 = .ok (.dup, 1) := by decide +kernel
theorem dX6_many_54 : decode cX6_many 54 = .ok (.getfield 133, 3) := by decide +kernel
theorem dX6_many_57 : decode cX6_many 57 = .ok (.iconst 1, 1) := by decide +kernel
theorem dX6_many_58 : decode cX6_many 58 = .ok (.iadd, 1) := by decide +kernel
theorem dX6_many_59 : decode cX6_many 59 = .ok (.putfield 133, 3) := by decide +kernel
theorem dX6_many_62 : decode cX6_many 62 = .ok (.iload_n 1, 1) := by decide +kernel
theorem dX6_many_63 : decode cX6_many 63 = .ok (.ifCond .ne 5, 3) := by decide +kernel
theorem dX6_many_66 : decode cX6_many 66 = .ok (.iconst 1, 1) := by decide +kernel
theorem dX6_many_67 : decode cX6_many 67 = .ok (.ireturn, 1) := by decide +kernel
theorem dX6_many_68 : decode cX6_many 68 = .ok (.iconst 0, 1) := by decide +kernel
theorem dX6_many_69 : decode cX6_many 69 = .ok (.istore_n 3, 1) := by decide +kernel
theorem dX6_many_70 : decode cX6_many 70 = .ok (.iconst 0, 1) := by decide +kernel
theorem dX6_many_71 : decode cX6_many 71 = .ok (.istore 4, 2) := by decide +kernel
theorem dX6_many_73 : decode cX6_many 73 = .ok (.aload_n 0, 1) := by decide +kernel
theorem dX6_many_74 : decode cX6_many 74 = .ok (.getfield 42, 3) := by decide +kernel
theorem dX6_many_77 : decode cX6_many 77 = .ok (.iconst 0, 1) := by decide +kernel
theorem dX6_many_78 : decode cX6_many 78 = .ok (.iconst 0, 1) := by decide +kernel
theorem dX6_many_79 : decode cX6_many 79 = .ok (.iastore, 1) := by decide +kernel
theorem dX6_many_80 : decode cX6_many 80 = .ok (.iload 4, 2) := by decide +kernel
theorem dX6_many_82 : decode cX6_many 82 = .ok (.ifCond .lt 106, 3) := by decide +kernel
theorem dX6_many_85 : decode cX6_many 85 = .ok (.aload_n 0, 1) := by decide +kernel
theorem dX6_many_86 : decode cX6_many 86 = .ok (.getfield 42, 3) := by decide +kernel
theorem dX6_many_89 : decode cX6_many 89 = .ok (.iload 4, 2) := by decide +kernel
theorem dX6_many_91 : decode cX6_many 91 = .ok (.dup2, 1) := by decide +kernel
theorem dX6_many_92 : decode cX6_many 92 = .ok (.iaload, 1) := by decide +kernel
theorem dX6_many_93 : decode cX6_many 93 = .ok (.iconst 1, 1) := by decide +kernel
theorem dX6_many_94 : decode cX6_many 94 = .ok (.iadd, 1) := by decide +kernel
theorem dX6_many_95 : decode cX6_many 95 = .ok (.iastore, 1) := by decide +kernel
theorem dX6_many_96 : decode cX6_many 96 = .ok (.aload_n 0, 1) := by decide +kernel
theorem dX6_many_97 : decode cX6_many 97 = .ok (.getfield 42, 3) := by decide +kernel
theorem dX6_many_100 : decode cX6_many 100 = .ok (.iload 4, 2) := by decide +kernel
theorem dX6_many_102 : decode cX6_many 102 = .ok (.iaload, 1) := by decide +kernel
theorem dX6_many_103 : decode cX6_many 103 = .ok (.iload_n 2, 1) := by decide +kernel
theorem dX6_many_104 : decode cX6_many 104 = .ok (.if_icmp .le 9, 3) := by decide +kernel
theorem dX6_many_107 : decode cX6_many 107 = .ok (.iinc 4 (-1), 3) := by decide +kernel
theorem dX6_many_110 : decode cX6_many 110 = .ok (.goto (-30), 3) := by decide +kernel
theorem dX6_many_113 : decode cX6_many 113 = .ok (.aload_n 0, 1) := by decide +kernel
theorem dX6_many_114 : decode cX6_many 114 = .ok (.iload 4, 2) := by decide +kernel
theorem dX6_many_116 : decode cX6_many 116 = .ok (.iconst 1, 1) := by decide +kernel
theorem dX6_many_117 : decode cX6_many 117 = .ok (.iadd, 1) := by decide +kernel
theorem dX6_many_118 : decode cX6_many 118 = .ok (.putfield 105, 3) := by decide +kernel
theorem dX6_many_121 : decode cX6_many 121 = .ok (.iconst 0, 1) := by decide +kernel
theorem dX6_many_122 : decode cX6_many 122 = .ok (.istore 5, 2) := by decide +kernel
theorem dX6_many_124 : decode cX6_many 124 = .ok (.iload 5, 2) := by decide +kernel
theorem dX6_many_126 : decode cX6_many 126 = .ok (.iload 4, 2) := by decide +kernel
theorem dX6_many_128 : decode cX6_many 128 = .ok (.if_icmp .gt 23, 3) := by decide +kernel
theorem dX6_many_131 : decode cX6_many 131 = .ok (.aload_n 0, 1) := by decide +kernel
theorem dX6_many_132 : decode cX6_many 132 = .ok (.getfield 36, 3) := by decide +kernel
theorem dX6_many_135 : decode cX6_many 135 = .ok (.iload 5, 2) := by decide +kernel
theorem dX6_many_137 : decode cX6_many 137 = .ok (.aload_n 0, 1) := by decide +kernel
