theorem dX11_unlikeness_47 : decode cX11_unlikeness 47 = .ok (.invokevirtual 256, 3) := by decide +kernel
theorem dX11_unlikeness_50 : decode cX11_unlikeness 50 = .ok (.ifCond .eq 7, 3) := by decide +kernel
theorem dX11_unlikeness_53 : decode cX11_unlikeness 53 = .ok (.iconst 1, 1) := by decide +kernel
theorem dX11_unlikeness_54 : decode cX11_unlikeness 54 = .ok (.goto 4, 3) := by decide +kernel
theorem dX11_unlikeness_57 : decode cX11_unlikeness 57 = .ok (.iconst 0, 1) := by decide +kernel
theorem dX11_unlikeness_58 : decode cX11_unlikeness 58 = .ok (.istore 4, 2) := by decide +kernel
theorem dX11_unlikeness_60 : decode cX11_unlikeness 60 = .ok (.aload_n 0, 1) := by decide +kernel
theorem dX11_unlikeness_61 : decode cX11_unlikeness 61 = .ok (.getfield 80, 3) := by decide +kernel
theorem dX11_unlikeness_64 : decode cX11_unlikeness 64 = .ok (.iload_n 2, 1) := by decide +kernel
theorem dX11_unlikeness_65 : decode cX11_unlikeness 65 = .ok (.iload 4, 2) := by decide +kernel
theorem dX11_unlikeness_67 : decode cX11_unlikeness 67 = .ok (.ifCond .eq 15, 3) := by decide +kernel
theorem dX11_unlikeness_70 : decode cX11_unlikeness 70 = .ok (.aload_n 0, 1) := by decide +kernel
theorem dX11_unlikeness_71 : decode cX11_unlikeness 71 = .ok (.getfield 19, 3) := by decide +kernel
theorem dX11_unlikeness_74 : decode cX11_unlikeness 74 = .ok (.getfield 260, 3) := by decide +kernel
theorem dX11_unlikeness_77 : decode cX11_unlikeness 77 = .ok (.iconst 2, 1) := by decide +kernel
theorem dX11_unlikeness_78 : decode cX11_unlikeness 78 = .ok (.iaload, 1) := by decide +kernel
theorem dX11_unlikeness_79 : decode cX11_unlikeness 79 = .ok (.goto 4, 3) := by decide +kernel
theorem dX11_unlikeness_82 : decode cX11_unlikeness 82 = .ok (.iconst (-1), 1) := by decide +kernel
theorem dX11_unlikeness_83 : decode cX11_unlikeness 83 = .ok (.iastore, 1) := by decide +kernel
theorem dX11_unlikeness_84 : decode cX11_unlikeness 84 = .ok (.iinc 2 1, 3) := by decide +kernel
theorem dX11_unlikeness_87 : decode cX11_unlikeness 87 = .ok (.goto (-85), 3) := by decide +kernel
theorem dX11_unlikeness_90 : decode cX11_unlikeness 90 = .ok (.iconst 0, 1) := by decide +kernel
theorem dX11_unlikeness_91 : decode cX11_unlikeness 91 = .ok (.istore_n 2, 1) := by decide +kernel
theorem dX11_unlikeness_92 : decode cX11_unlikeness 92 = .ok (.iconst 0, 1) := by decide +kernel
theorem dX11_unlikeness_93 : decode cX11_unlikeness 93 = .ok (.istore_n 3, 1) := by decide +kernel
theorem dX11_unlikeness_94 : decode cX11_unlikeness 94 = .ok (.iload_n 3, 1) := by decide +kernel
theorem dX11_unlikeness_95 : decode cX11_unlikeness 95 = .ok (.aload_n 0, 1) := by decide +kernel
theorem dX11_unlikeness_96 : decode cX11_unlikeness 96 = .ok (.getfield 10, 3) := by decide +kernel
theorem dX11_unlikeness_99 : decode cX11_unlikeness 99 = .ok (.getfield 155, 3) := by decide +kernel
theorem dX11_unlikeness_102 : decode cX11_unlikeness 102 = .ok (.if_icmp .ge 119, 3) := by decide +kernel
theorem dX11_unlikeness_105 : decode cX11_unlikeness 105 = .ok (.aload_n 0, 1) := by decide +kernel
theorem dX11_unlikeness_106 : decode cX11_unlikeness 106 = .ok (.getfield 10, 3) := by decide +kernel
theorem dX11_unlikeness_109 : decode cX11_unlikeness 109 = .ok (.iload_n 3, 1) := by decide +kernel
theorem dX11_unlikeness_110 : decode cX11_unlikeness 110 = .ok (.invokevirtual 319, 3) := by decide +kernel
theorem dX11_unlikeness_113 : decode cX11_unlikeness 113 = .ok (.astore 4, 2) := by decide +kernel
theorem dX11_unlikeness_115 : decode cX11_unlikeness 115 = .ok (.iconst 0, 1) := by decide +kernel
theorem dX11_unlikeness_116 : decode cX11_unlikeness 116 = .ok (.istore 5, 2) := by decide +kernel
theorem dX11_unlikeness_118 : decode cX11_unlikeness 118 = .ok (.iload 5, 2) := by decide +kernel
theorem dX11_unlikeness_120 : decode cX11_unlikeness 120 = .ok (.aload_n 0, 1) := by decide +kernel
theorem dX11_unlikeness_121 : decode cX11_unlikeness 121 = .ok (.getfield 10, 3) := by decide +kernel
theorem dX11_unlikeness_124 : decode cX11_unlikeness 124 = .ok (.getfield 119, 3) := by decide +kernel
theorem dX11_unlikeness_127 : decode cX11_unlikeness 127 = .ok (.if_icmp .ge 88, 3) := by decide +kernel
theorem dX11_unlikeness_130 : decode cX11_unlikeness 130 = .ok (.aload_n 0, 1) := by decide +kernel
theorem dX11_unlikeness_131 : decode cX11_unlikeness 131 = .ok (.getfield 10, 3) := by decide +kernel
theorem dX11_unlikeness_134 : decode cX11_unlikeness 134 = .ok (.aload 4, 2) := by decide +kernel
theorem dX11_unlikeness_136 : decode cX11_unlikeness 136 = .ok (.iload 5, 2) := by decide +kernel
theorem dX11_unlikeness_138 : decode cX11_unlikeness 138 = .ok (.invokevirtual 423, 3) := by decide +kernel
theorem dX11_unlikeness_141 : decode cX11_unlikeness 141 = .ok (.astore 6, 2) := by decide +kernel
theorem dX11_unlikeness_143 : decode cX11_unlikeness 143 = .ok (.aload 6, 2) := by decide +kernel
theorem dX11_unlikeness_145 : decode cX11_unlikeness 145 = .ok (.ifnull 64, 3) := by decide +kernel
theorem dX11_unlikeness_148 : decode cX11_unlikeness 148 = .ok (.aload 6, 2) := by decide +kernel
theorem dX11_unlikeness_150 : decode cX11_unlikeness 150 = .ok (.getfield 426, 3) := by decide +kernel
theorem dX11_unlikeness_153 : decode cX11_unlikeness 153 = .ok (.iload_n 3, 1) := by decide +kernel
theorem dX11_unlikeness_154 : decode cX11_unlikeness 154 = .ok (.iconst 1, 1) := by decide +kernel
theorem dX11_unlikeness_155 : decode cX11_unlikeness 155 = .ok (.isub, 1) := by decide +kernel
theorem dX11_unlikeness_156 : decode cX11_unlikeness 156 = .ok (.invokestatic 111, 3) := by decide +kernel
theorem dX11_unlikeness_159 : decode cX11_unlikeness 159 = .ok (.ifCond .eq 50, 3) := by decide +kernel
theorem dX11_unlikeness_162 : decode cX11_unlikeness 162 = .ok (.aload_n 0, 1) := by decide +kernel
theorem dX11_unlikeness_163 : decode cX11_unlikeness 163 = .ok (.getfield 80, 3) := by decide +kernel
theorem dX11_unlikeness_166 : decode cX11_unlikeness 166 = .ok (.iload_n 3, 1) := by decide +kernel
theorem dX11_unlikeness_167 : decode cX11_unlikeness 167 = .ok (.iaload, 1) := by decide +kernel
theorem dX11_unlikeness_168 : decode cX11_unlikeness 168 = .ok (.iconst (-1), 1) := by decide +kernel
theorem dX11_unlikeness_169 : decode cX11_unlikeness 169 = .ok (.if_icmp .eq 40, 3) := by decide +kernel
theorem dX11_unlikeness_172 : decode cX11_unlikeness 172 = .ok (.aload_n 0, 1) := by decide +kernel
theorem dX11_unlikeness_173 : decode cX11_unlikeness 173 = .ok (.getfield 80, 3) := by decide +kernel
theorem dX11_unlikeness_176 : decode cX11_unlikeness 176 = .ok (.aload 6, 2) := by decide +kernel
theorem dX11_unlikeness_178 : decode cX11_unlikeness 178 = .ok (.getfield 426, 3) := by decide +kernel
theorem dX11_unlikeness_181 : decode cX11_unlikeness 181 = .ok (.iaload, 1) := by decide +kernel
theorem dX11_unlikeness_182 : decode cX11_unlikeness 182 = .ok (.iconst (-1), 1) := by decide +kernel
theorem dX11_unlikeness_183 : decode cX11_unlikeness 183 = .ok (.if_icmp .eq 26, 3) := by decide +kernel
theorem dX11_unlikeness_186 : decode cX11_unlikeness 186 = .ok (.iload_n 2, 1) := by decide +kernel
theorem dX11_unlikeness_187 : decode cX11_unlikeness 187 = .ok (.aload_n 0, 1) := by decide +kernel
theorem dX11_unlikeness_188 : decode cX11_unlikeness 188 = .ok (.getfield 80, 3) := by decide +kernel
theorem dX11_unlikeness_191 : decode cX11_unlikeness 191 = .ok (.iload_n 3, 1) := by decide +kernel
theorem dX11_unlikeness_192 : decode cX11_unlikeness 192 = .ok (.iaload, 1) := by decide +kernel
theorem dX11_unlikeness_193 : decode cX11_unlikeness 193 = .ok (.aload_n 0, 1) := by decide +kernel
theorem dX11_unlikeness_194 : decode cX11_unlikeness 194 = .ok (.getfield 80, 3) := by decide +kernel
theorem dX11_unlikeness_197 : decode cX11_unlikeness 197 = .ok (.aload 6, 2) := by decide +kernel
theorem dX11_unlikeness_199 : decode cX11_unlikeness 199 = .ok (.getfield 426, 3) := by decide +kernel
theorem dX11_unlikeness_202 : decode cX11_unlikeness 202 = .ok (.iaload, 1) := by decide +kernel
theorem dX11_unlikeness_203 : decode cX11_unlikeness 203 = .ok (.isub, 1) := by decide +kernel
theorem dX11_unlikeness_204 : decode cX11_unlikeness 204 = .ok (.invokestatic 388, 3) := by decide +kernel
theorem dX11_unlikeness_207 : decode cX11_unlikeness 207 = .ok (.iadd, 1) := by decide +kernel
theorem dX11_unlikeness_208 : decode cX11_unlikeness 208 = .ok (.istore_n 2, 1) := by decide +kernel
theorem dX11_unlikeness_209 : decode cX11_unlikeness 209 = .ok (.iinc 5 1, 3) := by decide +kernel
theorem dX11_unlikeness_212 : decode cX11_unlikeness 212 = .ok (.goto (-94), 3) := by decide +kernel
theorem dX11_unlikeness_215 : decode cX11_unlikeness 215 = .ok (.iinc 3 1, 3) := by decide +kernel
theorem dX11_unlikeness_218 : decode cX11_unlikeness 218 = .ok (.goto (-124), 3) := by decide +kernel
theorem dX11_unlikeness_221 : decode cX11_unlikeness 221 = .ok (.iload_n 2, 1) := by decide +kernel
theorem dX11_unlikeness_222 : decode cX11_unlikeness 222 = .ok (.ireturn, 1) := by decide +kernel
theorem dX12_init_0 : decode cX12_init 0 = .ok (.aload_n 0, 1) := by decide +kernel
theorem dX12_init_1 : decode cX12_init 1 = .ok (.invokespecial 1, 3) := by decide +kernel
theorem dX12_init_4 : decode cX12_init 4 = .ok (.aload_n 0, 1) := by decide +kernel
theorem dX12_init_5 : decode cX12_init 5 = .ok (.iconst 3, 1) := by decide +kernel
theorem dX12_init_6 : decode cX12_init 6 = .ok (.newarray .int, 2) := by decide +kernel
theorem dX12_init_8 : decode cX12_init 8 = .ok (.putfield 7, 3) := by decide +kernel
theorem dX12_init_11 : decode cX12_init 11 = .ok (.aload_n 0, 1) := by decide +kernel
theorem dX12_init_12 : decode cX12_init 12 = .ok (.iconst 1, 1) := by decide +kernel
theorem dX12_init_13 : decode cX12_init 13 = .ok (.putfield 13, 3) := by decide +kernel
theorem dX12_init_16 : decode cX12_init 16 = .ok (.aload_n 0, 1) := by decide +kernel
theorem dX12_init_17 : decode cX12_init 17 = .ok (.iconst 1, 1) := by decide +kernel
theorem dX12_init_18 : decode cX12_init 18 = .ok (.putfield 17, 3) := by decide +kernel
theorem dX12_init_21 : decode cX12_init 21 = .ok (.aload_n 0, 1) := by decide +kernel
theorem dX12_init_22 : decode cX12_init 22 = .ok (.bipush 16, 2) := by decide +kernel
theorem dX12_init_24 : decode cX12_init 24 = .ok (.newarray .boolean, 2) := by decide +kernel
theorem dX12_init_26 : decode cX12_init 26 = .ok (.putfield 20, 3) := by decide +kernel
theorem dX12_init_29 : decode cX12_init 29 = .ok (.aload_n 0, 1) := by decide +kernel
theorem dX12_init_30 : decode cX12_init 30 = .ok (.bipush 12, 2) := by decide +kernel
theorem dX12_init_32 : decode cX12_init 32 = .ok (.newarray .int, 2) := by decide +kernel
theorem dX12_init_34 : decode cX12_init 34 = .ok (.putfield 24, 3) := by decide +kernel
theorem dX12_init_37 : decode cX12_init 37 = .ok (.aload_n 0, 1) := by decide +kernel
theorem dX12_init_38 : decode cX12_init 38 = .ok (.bipush 12, 2) := by decide +kernel
theorem dX12_init_40 : decode cX12_init 40 = .ok (.newarray .int, 2) := by decide +kernel
theorem dX12_init_42 : decode cX12_init 42 = .ok (.putfield 27, 3) := by decide +kernel
theorem dX12_init_45 : decode cX12_init 45 = .ok (.aload_n 0, 1) := by decide +kernel
theorem dX12_init_46 : decode cX12_init 46 = .ok (.bipush 12, 2) := by decide +kernel
theorem dX12_init_48 : decode cX12_init 48 = .ok (.newarray .int, 2) := by decide +kernel
theorem dX12_init_50 : decode cX12_init 50 = .ok (.putfield 30, 3) := by decide +kernel
theorem dX12_init_53 : decode cX12_init 53 = .ok (.aload_n 0, 1) := by decide +kernel
theorem dX12_init_54 : decode cX12_init 54 = .ok (.bipush 60, 2) := by decide +kernel
theorem dX12_init_56 : decode cX12_init 56 = .ok (.newarray .int, 2) := by decide +kernel
theorem dX12_init_58 : decode cX12_init 58 = .ok (.putfield 33, 3) := by decide +kernel
theorem dX12_init_61 : decode cX12_init 61 = .ok (.aload_n 0, 1) := by decide +kernel
theorem dX12_init_62 : decode cX12_init 62 = .ok (.bipush 60, 2) := by decide +kernel
theorem dX12_init_64 : decode cX12_init 64 = .ok (.newarray .int, 2) := by decide +kernel
theorem dX12_init_66 : decode cX12_init 66 = .ok (.putfield 36, 3) := by decide +kernel
theorem dX12_init_69 : decode cX12_init 69 = .ok (.aload_n 0, 1) := by decide +kernel
theorem dX12_init_70 : decode cX12_init 70 = .ok (.bipush 60, 2) := by decide +kernel
theorem dX12_init_72 : decode cX12_init 72 = .ok (.newarray .int, 2) := by decide +kernel
theorem dX12_init_74 : decode cX12_init 74 = .ok (.putfield 39, 3) := by decide +kernel
theorem dX12_init_77 : decode cX12_init 77 = .ok (.aload_n 0, 1) := by decide +kernel
theorem dX12_init_78 : decode cX12_init 78 = .ok (.sipush 300, 3) := by decide +kernel
theorem dX12_init_81 : decode cX12_init 81 = .ok (.newarray .int, 2) := by decide +kernel
theorem dX12_init_83 : decode cX12_init 83 = .ok (.putfield 42, 3) := by decide +kernel
theorem dX12_init_86 : decode cX12_init 86 = .ok (.aload_n 0, 1) := by decide +kernel
theorem dX12_init_87 : decode cX12_init 87 = .ok (.sipush 300, 3) := by decide +kernel
theorem dX12_init_90 : decode cX12_init 90 = .ok (.newarray .int, 2) := by decide +kernel
theorem dX12_init_92 : decode cX12_init 92 = .ok (.putfield 45, 3) := by decide +kernel
theorem dX12_init_95 : decode cX12_init 95 = .ok (.aload_n 0, 1) := by decide +kernel
theorem dX12_init_96 : decode cX12_init 96 = .ok (.sipush 300, 3) := by decide +kernel
theorem dX12_init_99 : decode cX12_init 99 = .ok (.newarray .int, 2) := by decide +kernel
theorem dX12_init_101 : decode cX12_init 101 = .ok (.putfield 48, 3) := by decide +kernel
theorem dX12_init_104 : decode cX12_init 104 = .ok (.aload_n 0, 1) := by decide +kernel
theorem dX12_init_105 : decode cX12_init 105 = .ok (.sipush 300, 3) := by decide +kernel
theorem dX12_init_108 : decode cX12_init 108 = .ok (.newarray .int, 2) := by decide +kernel
theorem dX12_init_110 : decode cX12_init 110 = .ok (.putfield 51, 3) := by decide +kernel
theorem dX12_init_113 : decode cX12_init 113 = .ok (.aload_n 0, 1) := by decide +kernel
theorem dX12_init_114 : decode cX12_init 114 = .ok (.sipush 300, 3) := by decide +kernel
theorem dX12_init_117 : decode cX12_init 117 = .ok (.newarray .int, 2) := by decide +kernel
theorem dX12_init_119 : decode cX12_init 119 = .ok (.putfield 54, 3) := by decide +kernel
theorem dX12_init_122 : decode cX12_init 122 = .ok (.aload_n 0, 1) := by decide +kernel
theorem dX12_init_123 : decode cX12_init 123 = .ok (.sipush 300, 3) := by decide +kernel
theorem dX12_init_126 : decode cX12_init 126 = .ok (.newarray .int, 2) := by decide +kernel
theorem dX12_init_128 : decode cX12_init 128 = .ok (.putfield 57, 3) := by decide +kernel
theorem dX12_init_131 : decode cX12_init 131 = .ok (.aload_n 0, 1) := by decide +kernel
theorem dX12_init_132 : decode cX12_init 132 = .ok (.sipush 300, 3) := by decide +kernel
theorem dX12_init_135 : decode cX12_init 135 = .ok (.newarray .int, 2) := by decide +kernel
theorem dX12_init_137 : decode cX12_init 137 = .ok (.putfield 60, 3) := by decide +kernel
theorem dX12_init_140 : decode cX12_init 140 = .ok (.aload_n 0, 1) := by decide +kernel
theorem dX12_init_141 : decode cX12_init 141 = .ok (.bipush 25, 2) := by decide +kernel
theorem dX12_init_143 : decode cX12_init 143 = .ok (.newarray .int, 2) := by decide +kernel
theorem dX12_init_145 : decode cX12_init 145 = .ok (.putfield 63, 3) := by decide +kernel
theorem dX12_init_148 : decode cX12_init 148 = .ok (.aload_n 0, 1) := by decide +kernel
theorem dX12_init_149 : decode cX12_init 149 = .ok (.bipush 8, 2) := by decide +kernel
theorem dX12_init_151 : decode cX12_init 151 = .ok (.newarray .int, 2) := by decide +kernel
theorem dX12_init_153 : decode cX12_init 153 = .ok (.putfield 66, 3) := by decide +kernel
theorem dX12_init_156 : decode cX12_init 156 = .ok (.aload_n 0, 1) := by decide +kernel
theorem dX12_init_157 : decode cX12_init 157 = .ok (.sipush 1000, 3) := by decide +kernel
theorem dX12_init_160 : decode cX12_init 160 = .ok (.newarray .int, 2) := by decide +kernel
theorem dX12_init_162 : decode cX12_init 162 = .ok (.putfield 69, 3) := by decide +kernel
theorem dX12_init_165 : decode cX12_init 165 = .ok (.aload_n 0, 1) := by decide +kernel
theorem dX12_init_166 : decode cX12_init 166 = .ok (.sipush 1000, 3) := by decide +kernel
theorem dX12_init_169 : decode cX12_init 169 = .ok (.newarray .int, 2) := by decide +kernel
theorem dX12_init_171 : decode cX12_init 171 = .ok (.putfield 72, 3) := by decide +kernel
theorem dX12_init_174 : decode cX12_init 174 = .ok (.aload_n 0, 1) := by decide +kernel
theorem dX12_init_175 : decode cX12_init 175 = .ok (.sipush 1000, 3) := by decide +kernel
theorem dX12_init_178 : decode cX12_init 178 = .ok (.newarray .int, 2) := by decide +kernel
theorem dX12_init_180 : decode cX12_init 180 = .ok (.putfield 75, 3) := by decide +kernel
theorem dX12_init_183 : decode cX12_init 183 = .ok (.aload_n 0, 1) := by decide +kernel
theorem dX12_init_184 : decode cX12_init 184 = .ok (.sipush 1000, 3) := by decide +kernel
theorem dX12_init_187 : decode cX12_init 187 = .ok (.newarray .int, 2) := by decide +kernel
theorem dX12_init_189 : decode cX12_init 189 = .ok (.putfield 78, 3) := by decide +kernel
theorem dX12_init_192 : decode cX12_init 192 = .ok (.aload_n 0, 1) := by decide +kernel
theorem dX12_init_193 : decode cX12_init 193 = .ok (.sipush 1000, 3) := by decide +kernel
theorem dX12_init_196 : decode cX12_init 196 = .ok (.newarray .int, 2) := by decide +kernel
theorem dX12_init_198 : decode cX12_init 198 = .ok (.putfield 81, 3) := by decide +kernel
theorem dX12_init_201 : decode cX12_init 201 = .ok (.aload_n 0, 1) := by decide +kernel
theorem dX12_init_202 : decode cX12_init 202 = .ok (.sipush 8000, 3) := by decide +kernel
theorem dX12_init_205 : decode cX12_init 205 = .ok (.newarray .int, 2) := by decide +kernel
theorem dX12_init_207 : decode cX12_init 207 = .ok (.putfield 84, 3) := by decide +kernel
theorem dX12_init_210 : decode cX12_init 210 = .ok (.aload_n 0, 1) := by decide +kernel
theorem dX12_init_211 : decode cX12_init 211 = .ok (.sipush 8000, 3) := by decide +kernel
theorem dX12_init_214 : decode cX12_init 214 = .ok (.newarray .int, 2) := by decide +kernel
theorem dX12_init_216 : decode cX12_init 216 = .ok (.putfield 87, 3) := by decide +kernel
theorem dX12_init_219 : decode cX12_init 219 = .ok (.aload_n 0, 1) := by decide +kernel
theorem dX12_init_220 : decode cX12_init 220 = .ok (.sipush 900, 3) := by decide +kernel
theorem dX12_init_223 : decode cX12_init 223 = .ok (.newarray .byte, 2) := by decide +kernel
theorem dX12_init_225 : decode cX12_init 225 = .ok (.putfield 90, 3) := by decide +kernel
theorem dX12_init_228 : decode cX12_init 228 = .ok (.aload_n 0, 1) := by decide +kernel
theorem dX12_init_229 : decode cX12_init 229 = .ok (.iconst (-1), 1) := by decide +kernel
theorem dX12_init_230 : decode cX12_init 230 = .ok (.putfield 94, 3) := by decide +kernel
theorem dX12_init_233 : decode cX12_init 233 = .ok (.aload_n 0, 1) := by decide +kernel
theorem dX12_init_234 : decode cX12_init 234 = .ok (.bipush 48, 2) := by decide +kernel
theorem dX12_init_236 : decode cX12_init 236 = .ok (.newarray .int, 2) := by decide +kernel
theorem dX12_init_238 : decode cX12_init 238 = .ok (.putfield 97, 3) := by decide +kernel
theorem dX12_init_241 : decode cX12_init 241 = .ok (.aload_n 0, 1) := by decide +kernel
theorem dX12_init_242 : decode cX12_init 242 = .ok (.iconst 4, 1) := by decide +kernel
theorem dX12_init_243 : decode cX12_init 243 = .ok (.newarray .int, 2) := by decide +kernel
theorem dX12_init_245 : decode cX12_init 245 = .ok (.putfield 100, 3) := by decide +kernel
theorem dX12_init_248 : decode cX12_init 248 = .ok (.aload_n 0, 1) := by decide +kernel
theorem dX12_init_249 : decode cX12_init 249 = .ok (.bipush 48, 2) := by decide +kernel
theorem dX12_init_251 : decode cX12_init 251 = .ok (.newarray .boolean, 2) := by decide +kernel
theorem dX12_init_253 : decode cX12_init 253 = .ok (.putfield 103, 3) := by decide +kernel
theorem dX12_init_256 : decode cX12_init 256 = .ok (.aload_n 0, 1) := by decide +kernel
theorem dX12_init_257 : decode cX12_init 257 = .ok (.bipush 13, 2) := by decide +kernel
theorem dX12_init_259 : decode cX12_init 259 = .ok (.newarray .int, 2) := by decide +kernel
theorem dX12_init_261 : decode cX12_init 261 = .ok (.putfield 106, 3) := by decide +kernel
theorem dX12_init_264 : decode cX12_init 264 = .ok (.aload_n 0, 1) := by decide +kernel
theorem dX12_init_265 : decode cX12_init 265 = .ok (.bipush 13, 2) := by decide +kernel
theorem dX12_init_267 : decode cX12_init 267 = .ok (.newarray .int, 2) := by decide +kernel
theorem dX12_init_269 : decode cX12_init 269 = .ok (.putfield 109, 3) := by decide +kernel
theorem dX12_init_272 : decode cX12_init 272 = .ok (.aload_n 0, 1) := by decide +kernel
theorem dX12_init_273 : decode cX12_init 273 = .ok (.bipush 13, 2) := by decide +kernel
theorem dX12_init_275 : decode cX12_init 275 = .ok (.newarray .int, 2) := by decide +kernel
theorem dX12_init_277 : decode cX12_init 277 = .ok (.putfield 112, 3) := by decide +kernel
theorem dX12_init_280 : decode cX12_init 280 = .ok (.aload_n 0, 1) := by decide +kernel
theorem dX12_init_281 : decode cX12_init 281 = .ok (.sipush 289, 3) := by decide +kernel
theorem dX12_init_284 : decode cX12_init 284 = .ok (.newarray .int, 2) := by decide +kernel
theorem dX12_init_286 : decode cX12_init 286 = .ok (.putfield 115, 3) := by decide +kernel
theorem dX12_init_289 : decode cX12_init 289 = .ok (.aload_n 0, 1) := by decide +kernel
theorem dX12_init_290 : decode cX12_init 290 = .ok (.bipush 50, 2) := by decide +kernel
theorem dX12_init_292 : decode cX12_init 292 = .ok (.newarray .long, 2) := by decide +kernel
theorem dX12_init_294 : decode cX12_init 294 = .ok (.putfield 118, 3) := by decide +kernel
theorem dX12_init_297 : decode cX12_init 297 = .ok (.aload_n 0, 1) := by decide +kernel
theorem dX12_init_298 : decode cX12_init 298 = .ok (.bipush 50, 2) := by decide +kernel
theorem dX12_init_300 : decode cX12_init 300 = .ok (.newarray .long, 2) := by decide +kernel
theorem dX12_init_302 : decode cX12_init 302 = .ok (.putfield 122, 3) := by decide +kernel
theorem dX12_init_305 : decode cX12_init 305 = .ok (.aload_n 0, 1) := by decide +kernel
theorem dX12_init_306 : decode cX12_init 306 = .ok (.bipush 10, 2) := by decide +kernel
theorem dX12_init_308 : decode cX12_init 308 = .ok (.newarray .int, 2) := by decide +kernel
theorem dX12_init_310 : decode cX12_init 310 = .ok (.putfield 125, 3) := by decide +kernel
theorem dX12_init_313 : decode cX12_init 313 = .ok (.aload_n 0, 1) := by decide +kernel
theorem dX12_init_314 : decode cX12_init 314 = .ok (.bipush 12, 2) := by decide +kernel
theorem dX12_init_316 : decode cX12_init 316 = .ok (.newarray .int, 2) := by decide +kernel
theorem dX12_init_318 : decode cX12_init 318 = .ok (.putfield 128, 3) := by decide +kernel
theorem dX12_init_321 : decode cX12_init 321 = .ok (.aload_n 0, 1) := by decide +kernel
theorem dX12_init_322 : decode cX12_init 322 = .ok (.bipush 12, 2) := by decide +kernel
theorem dX12_init_324 : decode cX12_init 324 = .ok (.newarray .boolean, 2) := by decide +kernel
theorem dX12_init_326 : decode cX12_init 326 = .ok (.putfield 131, 3) := by decide +kernel
theorem dX12_init_329 : decode cX12_init 329 = .ok (.aload_n 0, 1) := by decide +kernel
theorem dX12_init_330 : decode cX12_init 330 = .ok (.sipush 300, 3) := by decide +kernel
theorem dX12_init_333 : decode cX12_init 333 = .ok (.newarray .int, 2) := by decide +kernel
theorem dX12_init_335 : decode cX12_init 335 = .ok (.putfield 134, 3) := by decide +kernel
theorem dX12_init_338 : decode cX12_init 338 = .ok (.aload_n 0, 1) := by decide +kernel
theorem dX12_init_339 : decode cX12_init 339 = .ok (.iconst (-1), 1) := by decide +kernel
theorem dX12_init_340 : decode cX12_init 340 = .ok (.putfield 137, 3) := by decide +kernel
theorem dX12_init_343 : decode cX12_init 343 = .ok (.aload_n 0, 1) := by decide +kernel
theorem dX12_init_344 : decode cX12_init 344 = .ok (.sipush 3840, 3) := by decide +kernel
theorem dX12_init_347 : decode cX12_init 347 = .ok (.newarray .boolean, 2) := by decide +kernel
theorem dX12_init_349 : decode cX12_init 349 = .ok (.putfield 140, 3) := by decide +kernel
theorem dX12_init_352 : decode cX12_init 352 = .ok (.aload_n 0, 1) := by decide +kernel
theorem dX12_init_353 : decode cX12_init 353 = .ok (.iconst 4, 1) := by decide +kernel
theorem dX12_init_354 : decode cX12_init 354 = .ok (.newarray .int, 2) := by decide +kernel
theorem dX12_init_356 : decode cX12_init 356 = .ok (.putfield 143, 3) := by decide +kernel
theorem dX12_init_359 : decode cX12_init 359 = .ok (.aload_n 0, 1) := by decide +kernel
theorem dX12_init_360 : decode cX12_init 360 = .ok (.iconst 4, 1) := by decide +kernel
theorem dX12_init_361 : decode cX12_init 361 = .ok (.newarray .int, 2) := by decide +kernel
theorem dX12_init_363 : decode cX12_init 363 = .ok (.putfield 146, 3) := by decide +kernel
theorem dX12_init_366 : decode cX12_init 366 = .ok (.aload_n 0, 1) := by decide +kernel
theorem dX12_init_367 : decode cX12_init 367 = .ok (.iconst 4, 1) := by decide +kernel
theorem dX12_init_368 : decode cX12_init 368 = .ok (.newarray .int, 2) := by decide +kernel
theorem dX12_init_370 : decode cX12_init 370 = .ok (.putfield 149, 3) := by decide +kernel
theorem dX12_init_373 : decode cX12_init 373 = .ok (.aload_n 0, 1) := by decide +kernel
theorem dX12_init_374 : decode cX12_init 374 = .ok (.iconst 4, 1) := by decide +kernel
theorem dX12_init_375 : decode cX12_init 375 = .ok (.newarray .int, 2) := by decide +kernel
theorem dX12_init_377 : decode cX12_init 377 = .ok (.putfield 152, 3) := by decide +kernel
theorem dX12_init_380 : decode cX12_init 380 = .ok (.aload_n 0, 1) := by decide +kernel
theorem dX12_init_381 : decode cX12_init 381 = .ok (.bipush 64, 2) := by decide +kernel
theorem dX12_init_383 : decode cX12_init 383 = .ok (.newarray .boolean, 2) := by decide +kernel
theorem dX12_init_385 : decode cX12_init 385 = .ok (.putfield 155, 3) := by decide +kernel
theorem dX12_init_388 : decode cX12_init 388 = .ok (.return_, 1) := by decide +kernel
theorem dX12_within_0 : decode cX12_within 0 = .ok (.iload_n 0, 1) := by decide +kernel
theorem dX12_within_1 : decode cX12_within 1 = .ok (.iload_n 1, 1) := by decide +kernel
theorem dX12_within_2 : decode cX12_within 2 = .ok (.if_icmp .lt 12, 3) := by decide +kernel
theorem dX12_within_5 : decode cX12_within 5 = .ok (.iload_n 0, 1) := by decide +kernel
theorem dX12_within_6 : decode cX12_within 6 = .ok (.iload_n 2, 1) := by decide +kernel
theorem dX12_within_7 : decode cX12_within 7 = .ok (.if_icmp .gt 7, 3) := by decide +kernel
theorem dX12_within_10 : decode cX12_within 10 = .ok (.iconst 1, 1) := by decide +kernel
theorem dX12_within_11 : decode cX12_within 11 = .ok (.goto 4, 3) := by decide +kernel
theorem dX12_within_14 : decode cX12_within 14 = .ok (.iconst 0, 1) := by decide +kernel
theorem dX12_within_15 : decode cX12_within 15 = .ok (.ireturn, 1) := by decide +kernel
theorem dX12_abs_0 : decode cX12_abs 0 = .ok (.iload_n 0, 1) := by decide +kernel
theorem dX12_abs_1 : decode cX12_abs 1 = .ok (.ifCond .ge 8, 3) := by decide +kernel
theorem dX12_abs_4 : decode cX12_abs 4 = .ok (.iload_n 0, 1) := by decide +kernel
theorem dX12_abs_5 : decode cX12_abs 5 = .ok (.ineg, 1) := by decide +kernel
theorem dX12_abs_6 : decode cX12_abs 6 = .ok (.goto 4, 3) := by decide +kernel
theorem dX12_abs_9 : decode cX12_abs 9 = .ok (.iload_n 0, 1) := by decide +kernel
theorem dX12_abs_10 : decode cX12_abs 10 = .ok (.ireturn, 1) := by decide +kernel
theorem dX12_held_0 : decode cX12_held 0 = .ok (.iload_n 0, 1) := by decide +kernel
theorem dX12_held_1 : decode cX12_held 1 = .ok (.ifCond .ge 7, 3) := by decide +kernel
theorem dX12_held_4 : decode cX12_held 4 = .ok (.iconst 0, 1) := by decide +kernel
theorem dX12_held_5 : decode cX12_held 5 = .ok (.goto 15, 3) := by decide +kernel
theorem dX12_held_8 : decode cX12_held 8 = .ok (.iload_n 0, 1) := by decide +kernel
theorem dX12_held_9 : decode cX12_held 9 = .ok (.bipush 12, 2) := by decide +kernel
theorem dX12_held_11 : decode cX12_held 11 = .ok (.if_icmp .le 8, 3) := by decide +kernel
theorem dX12_held_14 : decode cX12_held 14 = .ok (.bipush 12, 2) := by decide +kernel
theorem dX12_held_16 : decode cX12_held 16 = .ok (.goto 4, 3) := by decide +kernel
theorem dX12_held_19 : decode cX12_held 19 = .ok (.iload_n 0, 1) := by decide +kernel
theorem dX12_held_20 : decode cX12_held 20 = .ok (.ireturn, 1) := by decide +kernel
theorem dX12_refuse_0 : decode cX12_refuse 0 = .ok (.aload_n 0, 1) := by decide +kernel
theorem dX12_refuse_1 : decode cX12_refuse 1 = .ok (.getfield 7, 3) := by decide +kernel
theorem dX12_refuse_4 : decode cX12_refuse 4 = .ok (.iload_n 1, 1) := by decide +kernel
theorem dX12_refuse_5 : decode cX12_refuse 5 = .ok (.dup2, 1) := by decide +kernel
theorem dX12_refuse_6 : decode cX12_refuse 6 = .ok (.iaload, 1) := by decide +kernel
theorem dX12_refuse_7 : decode cX12_refuse 7 = .ok (.iconst 1, 1) := by decide +kernel
theorem dX12_refuse_8 : decode cX12_refuse 8 = .ok (.iadd, 1) := by decide +kernel
theorem dX12_refuse_9 : decode cX12_refuse 9 = .ok (.iastore, 1) := by decide +kernel
theorem dX12_refuse_10 : decode cX12_refuse 10 = .ok (.iconst (-1), 1) := by decide +kernel
theorem dX12_refuse_11 : decode cX12_refuse 11 = .ok (.ireturn, 1) := by decide +kernel
theorem dX12_officer_0 : decode cX12_officer 0 = .ok (.aload_n 0, 1) := by decide +kernel
theorem dX12_officer_1 : decode cX12_officer 1 = .ok (.getfield 158, 3) := by decide +kernel
theorem dX12_officer_4 : decode cX12_officer 4 = .ok (.bipush 16, 2) := by decide +kernel
theorem dX12_officer_6 : decode cX12_officer 6 = .ok (.if_icmp .ne 9, 3) := by decide +kernel
theorem dX12_officer_9 : decode cX12_officer 9 = .ok (.aload_n 0, 1) := by decide +kernel
theorem dX12_officer_10 : decode cX12_officer 10 = .ok (.iconst 1, 1) := by decide +kernel
theorem dX12_officer_11 : decode cX12_officer 11 = .ok (.invokevirtual 161, 3) := by decide +kernel
theorem dX12_officer_14 : decode cX12_officer 14 = .ok (.ireturn, 1) := by decide +kernel
theorem dX12_officer_15 : decode cX12_officer 15 = .ok (.aload_n 0, 1) := by decide +kernel
theorem dX12_officer_16 : decode cX12_officer 16 = .ok (.getfield 20, 3) := by decide +kernel
theorem dX12_officer_19 : decode cX12_officer 19 = .ok (.aload_n 0, 1) := by decide +kernel
theorem dX12_officer_20 : decode cX12_officer 20 = .ok (.getfield 158, 3) := by decide +kernel
theorem dX12_officer_23 : decode cX12_officer 23 = .ok (.iconst 1, 1) := by decide +kernel
theorem dX12_officer_24 : decode cX12_officer 24 = .ok (.bastore, 1) := by decide +kernel
theorem dX12_officer_25 : decode cX12_officer 25 = .ok (.aload_n 0, 1) := by decide +kernel
theorem dX12_officer_26 : decode cX12_officer 26 = .ok (.dup, 1) := by decide +kernel
theorem dX12_officer_27 : decode cX12_officer 27 = .ok (.getfield 158, 3) := by decide +kernel
theorem dX12_officer_30 : decode cX12_officer 30 = .ok (.iconst 1, 1) := by decide +kernel
theorem dX12_officer_31 : decode cX12_officer 31 = .ok (.iadd, 1) := by decide +kernel
theorem dX12_officer_32 : decode cX12_officer 32 = .ok (.putfield 158, 3) := by decide +kernel
theorem dX12_officer_35 : decode cX12_officer 35 = .ok (.aload_n 0, 1) := by decide +kernel
theorem dX12_officer_36 : decode cX12_officer 36 = .ok (.getfield 158, 3) := by decide +kernel
theorem dX12_officer_39 : decode cX12_officer 39 = .ok (.iconst 1, 1) := by decide +kernel
theorem dX12_officer_40 : decode cX12_officer 40 = .ok (.isub, 1) := by decide +kernel
theorem dX12_officer_41 : decode cX12_officer 41 = .ok (.ireturn, 1) := by decide +kernel
theorem dX12_isOfficer_0 : decode cX12_isOfficer 0 = .ok (.iload_n 1, 1) := by decide +kernel
theorem dX12_isOfficer_1 : decode cX12_isOfficer 1 = .ok (.ifCond .lt 15, 3) := by decide +kernel
theorem dX12_isOfficer_4 : decode cX12_isOfficer 4 = .ok (.iload_n 1, 1) := by decide +kernel
theorem dX12_isOfficer_5 : decode cX12_isOfficer 5 = .ok (.aload_n 0, 1) := by decide +kernel
theorem dX12_isOfficer_6 : decode cX12_isOfficer 6 = .ok (.getfield 158, 3) := by decide +kernel
theorem dX12_isOfficer_9 : decode cX12_isOfficer 9 = .ok (.if_icmp .ge 7, 3) := by decide +kernel
theorem dX12_isOfficer_12 : decode cX12_isOfficer 12 = .ok (.iconst 1, 1) := by decide +kernel
theorem dX12_isOfficer_13 : decode cX12_isOfficer 13 = .ok (.goto 4, 3) := by decide +kernel
theorem dX12_isOfficer_16 : decode cX12_isOfficer 16 = .ok (.iconst 0, 1) := by decide +kernel
theorem dX12_isOfficer_17 : decode cX12_isOfficer 17 = .ok (.ireturn, 1) := by decide +kernel
theorem dX12_isShip_0 : decode cX12_isShip 0 = .ok (.iload_n 1, 1) := by decide +kernel
theorem dX12_isShip_1 : decode cX12_isShip 1 = .ok (.ifCond .lt 15, 3) := by decide +kernel
theorem dX12_isShip_4 : decode cX12_isShip 4 = .ok (.iload_n 1, 1) := by decide +kernel
theorem dX12_isShip_5 : decode cX12_isShip 5 = .ok (.aload_n 0, 1) := by decide +kernel
theorem dX12_isShip_6 : decode cX12_isShip 6 = .ok (.getfield 165, 3) := by decide +kernel
theorem dX12_isShip_9 : decode cX12_isShip 9 = .ok (.if_icmp .ge 7, 3) := by decide +kernel
theorem dX12_isShip_12 : decode cX12_isShip 12 = .ok (.iconst 1, 1) := by decide +kernel
theorem dX12_isShip_13 : decode cX12_isShip 13 = .ok (.goto 4, 3) := by decide +kernel
theorem dX12_isShip_16 : decode cX12_isShip 16 = .ok (.iconst 0, 1) := by decide +kernel
theorem dX12_isShip_17 : decode cX12_isShip 17 = .ok (.ireturn, 1) := by decide +kernel
theorem dX12_ship_0 : decode cX12_ship 0 = .ok (.iload_n 1, 1) := by decide +kernel
theorem dX12_ship_1 : decode cX12_ship 1 = .ok (.iconst 0, 1) := by decide +kernel
theorem dX12_ship_2 : decode cX12_ship 2 = .ok (.iconst 3, 1) := by decide +kernel
theorem dX12_ship_3 : decode cX12_ship 3 = .ok (.invokestatic 168, 3) := by decide +kernel
theorem dX12_ship_6 : decode cX12_ship 6 = .ok (.ifCond .eq 11, 3) := by decide +kernel
theorem dX12_ship_9 : decode cX12_ship 9 = .ok (.aload_n 0, 1) := by decide +kernel
theorem dX12_ship_10 : decode cX12_ship 10 = .ok (.iload_n 2, 1) := by decide +kernel
theorem dX12_ship_11 : decode cX12_ship 11 = .ok (.invokevirtual 172, 3) := by decide +kernel
theorem dX12_ship_14 : decode cX12_ship 14 = .ok (.ifCond .ne 9, 3) := by decide +kernel
theorem dX12_ship_17 : decode cX12_ship 17 = .ok (.aload_n 0, 1) := by decide +kernel
theorem dX12_ship_18 : decode cX12_ship 18 = .ok (.iconst 0, 1) := by decide +kernel
theorem dX12_ship_19 : decode cX12_ship 19 = .ok (.invokevirtual 161, 3) := by decide +kernel
theorem dX12_ship_22 : decode cX12_ship 22 = .ok (.ireturn, 1) := by decide +kernel
theorem dX12_ship_23 : decode cX12_ship 23 = .ok (.aload_n 0, 1) := by decide +kernel
theorem dX12_ship_24 : decode cX12_ship 24 = .ok (.getfield 165, 3) := by decide +kernel
theorem dX12_ship_27 : decode cX12_ship 27 = .ok (.bipush 12, 2) := by decide +kernel
theorem dX12_ship_29 : decode cX12_ship 29 = .ok (.if_icmp .ne 9, 3) := by decide +kernel
theorem dX12_ship_32 : decode cX12_ship 32 = .ok (.aload_n 0, 1) := by decide +kernel
theorem dX12_ship_33 : decode cX12_ship 33 = .ok (.iconst 1, 1) := by decide +kernel
theorem dX12_ship_34 : decode cX12_ship 34 = .ok (.invokevirtual 161, 3) := by decide +kernel
theorem dX12_ship_37 : decode cX12_ship 37 = .ok (.ireturn, 1) := by decide +kernel
theorem dX12_ship_38 : decode cX12_ship 38 = .ok (.aload_n 0, 1) := by decide +kernel
theorem dX12_ship_39 : decode cX12_ship 39 = .ok (.getfield 24, 3) := by decide +kernel
theorem dX12_ship_42 : decode cX12_ship 42 = .ok (.aload_n 0, 1) := by decide +kernel
theorem dX12_ship_43 : decode cX12_ship 43 = .ok (.getfield 165, 3) := by decide +kernel
theorem dX12_ship_46 : decode cX12_ship 46 = .ok (.iload_n 1, 1) := by decide +kernel
theorem dX12_ship_47 : decode cX12_ship 47 = .ok (.iastore, 1) := by decide +kernel
theorem dX12_ship_48 : decode cX12_ship 48 = .ok (.aload_n 0, 1) := by decide +kernel
theorem dX12_ship_49 : decode cX12_ship 49 = .ok (.getfield 27, 3) := by decide +kernel
theorem dX12_ship_52 : decode cX12_ship 52 = .ok (.aload_n 0, 1) := by decide +kernel
theorem dX12_ship_53 : decode cX12_ship 53 = .ok (.getfield 165, 3) := by decide +kernel
theorem dX12_ship_56 : decode cX12_ship 56 = .ok (.iload_n 2, 1) := by decide +kernel
theorem dX12_ship_57 : decode cX12_ship 57 = .ok (.iastore, 1) := by decide +kernel
theorem dX12_ship_58 : decode cX12_ship 58 = .ok (.aload_n 0, 1) := by decide +kernel
theorem dX12_ship_59 : decode cX12_ship 59 = .ok (.getfield 30, 3) := by decide +kernel
theorem dX12_ship_62 : decode cX12_ship 62 = .ok (.aload_n 0, 1) := by decide +kernel
theorem dX12_ship_63 : decode cX12_ship 63 = .ok (.getfield 165, 3) := by decide +kernel
theorem dX12_ship_66 : decode cX12_ship 66 = .ok (.iconst 0, 1) := by decide +kernel
theorem dX12_ship_67 : decode cX12_ship 67 = .ok (.iastore, 1) := by decide +kernel
theorem dX12_ship_68 : decode cX12_ship 68 = .ok (.aload_n 0, 1) := by decide +kernel
theorem dX12_ship_69 : decode cX12_ship 69 = .ok (.dup, 1) := by decide +kernel
theorem dX12_ship_70 : decode cX12_ship 70 = .ok (.getfield 165, 3) := by decide +kernel
theorem dX12_ship_73 : decode cX12_ship 73 = .ok (.iconst 1, 1) := by decide +kernel
theorem dX12_ship_74 : decode cX12_ship 74 = .ok (.iadd, 1) := by decide +kernel
theorem dX12_ship_75 : decode cX12_ship 75 = .ok (.putfield 165, 3) := by decide +kernel
theorem dX12_ship_78 : decode cX12_ship 78 = .ok (.aload_n 0, 1) := by decide +kernel
theorem dX12_ship_79 : decode cX12_ship 79 = .ok (.getfield 165, 3) := by decide +kernel
theorem dX12_ship_82 : decode cX12_ship 82 = .ok (.iconst 1, 1) := by decide +kernel
theorem dX12_ship_83 : decode cX12_ship 83 = .ok (.isub, 1) := by decide +kernel
theorem dX12_ship_84 : decode cX12_ship 84 = .ok (.ireturn, 1) := by decide +kernel
theorem dX12_signs_0 : decode cX12_signs 0 = .ok (.aload_n 0, 1) := by decide +kernel
theorem dX12_signs_1 : decode cX12_signs 1 = .ok (.iload_n 1, 1) := by decide +kernel
theorem dX12_signs_2 : decode cX12_signs 2 = .ok (.invokevirtual 176, 3) := by decide +kernel
theorem dX12_signs_5 : decode cX12_signs 5 = .ok (.ifCond .eq 28, 3) := by decide +kernel
theorem dX12_signs_8 : decode cX12_signs 8 = .ok (.aload_n 0, 1) := by decide +kernel
theorem dX12_signs_9 : decode cX12_signs 9 = .ok (.iload_n 2, 1) := by decide +kernel
theorem dX12_signs_10 : decode cX12_signs 10 = .ok (.invokevirtual 172, 3) := by decide +kernel
theorem dX12_signs_13 : decode cX12_signs 13 = .ok (.ifCond .eq 20, 3) := by decide +kernel
theorem dX12_signs_16 : decode cX12_signs 16 = .ok (.iload_n 3, 1) := by decide +kernel
theorem dX12_signs_17 : decode cX12_signs 17 = .ok (.sipush 999, 3) := by decide +kernel
theorem dX12_signs_20 : decode cX12_signs 20 = .ok (.if_icmp .gt 13, 3) := by decide +kernel
theorem dX12_signs_23 : decode cX12_signs 23 = .ok (.iload_n 3, 1) := by decide +kernel
theorem dX12_signs_24 : decode cX12_signs 24 = .ok (.aload_n 0, 1) := by decide +kernel
theorem dX12_signs_25 : decode cX12_signs 25 = .ok (.getfield 30, 3) := by decide +kernel
theorem dX12_signs_28 : decode cX12_signs 28 = .ok (.iload_n 1, 1) := by decide +kernel
theorem dX12_signs_29 : decode cX12_signs 29 = .ok (.iaload, 1) := by decide +kernel
theorem dX12_signs_30 : decode cX12_signs 30 = .ok (.if_icmp .gt 9, 3) := by decide +kernel
theorem dX12_signs_33 : decode cX12_signs 33 = .ok (.aload_n 0, 1) := by decide +kernel
theorem dX12_signs_34 : decode cX12_signs 34 = .ok (.iconst 0, 1) := by decide +kernel
theorem dX12_signs_35 : decode cX12_signs 35 = .ok (.invokevirtual 161, 3) := by decide +kernel
theorem dX12_signs_38 : decode cX12_signs 38 = .ok (.ireturn, 1) := by decide +kernel
theorem dX12_signs_39 : decode cX12_signs 39 = .ok (.aload_n 0, 1) := by decide +kernel
theorem dX12_signs_40 : decode cX12_signs 40 = .ok (.getfield 179, 3) := by decide +kernel
theorem dX12_signs_43 : decode cX12_signs 43 = .ok (.bipush 60, 2) := by decide +kernel
theorem dX12_signs_45 : decode cX12_signs 45 = .ok (.if_icmp .ne 9, 3) := by decide +kernel
theorem dX12_signs_48 : decode cX12_signs 48 = .ok (.aload_n 0, 1) := by decide +kernel
theorem dX12_signs_49 : decode cX12_signs 49 = .ok (.iconst 1, 1) := by decide +kernel
theorem dX12_signs_50 : decode cX12_signs 50 = .ok (.invokevirtual 161, 3) := by decide +kernel
theorem dX12_signs_53 : decode cX12_signs 53 = .ok (.ireturn, 1) := by decide +kernel
theorem dX12_signs_54 : decode cX12_signs 54 = .ok (.aload_n 0, 1) := by decide +kernel
theorem dX12_signs_55 : decode cX12_signs 55 = .ok (.getfield 33, 3) := by decide +kernel
theorem dX12_signs_58 : decode cX12_signs 58 = .ok (.aload_n 0, 1) := by decide +kernel
theorem dX12_signs_59 : decode cX12_signs 59 = .ok (.getfield 179, 3) := by decide +kernel
theorem dX12_signs_62 : decode cX12_signs 62 = .ok (.iload_n 1, 1) := by decide +kernel
theorem dX12_signs_63 : decode cX12_signs 63 = .ok (.iastore, 1) := by decide +kernel
theorem dX12_signs_64 : decode cX12_signs 64 = .ok (.aload_n 0, 1) := by decide +kernel
theorem dX12_signs_65 : decode cX12_signs 65 = .ok (.getfield 36, 3) := by decide +kernel
theorem dX12_signs_68 : decode cX12_signs 68 = .ok (.aload_n 0, 1) := by decide +kernel
theorem dX12_signs_69 : decode cX12_signs 69 = .ok (.getfield 179, 3) := by decide +kernel
theorem dX12_signs_72 : decode cX12_signs 72 = .ok (.iload_n 2, 1) := by decide +kernel
theorem dX12_signs_73 : decode cX12_signs 73 = .ok (.iastore, 1) := by decide +kernel
theorem dX12_signs_74 : decode cX12_signs 74 = .ok (.aload_n 0, 1) := by decide +kernel
theorem dX12_signs_75 : decode cX12_signs 75 = .ok (.getfield 39, 3) := by decide +kernel
theorem dX12_signs_78 : decode cX12_signs 78 = .ok (.aload_n 0, 1) := by decide +kernel
theorem dX12_signs_79 : decode cX12_signs 79 = .ok (.getfield 179, 3) := by decide +kernel
theorem dX12_signs_82 : decode cX12_signs 82 = .ok (.iload_n 3, 1) := by decide +kernel
theorem dX12_signs_83 : decode cX12_signs 83 = .ok (.iastore, 1) := by decide +kernel
theorem dX12_signs_84 : decode cX12_signs 84 = .ok (.aload_n 0, 1) := by decide +kernel
theorem dX12_signs_85 : decode cX12_signs 85 = .ok (.getfield 30, 3) := by decide +kernel
theorem dX12_signs_88 : decode cX12_signs 88 = .ok (.iload_n 1, 1) := by decide +kernel
theorem dX12_signs_89 : decode cX12_signs 89 = .ok (.iload_n 3, 1) := by decide +kernel
theorem dX12_signs_90 : decode cX12_signs 90 = .ok (.iastore, 1) := by decide +kernel
theorem dX12_signs_91 : decode cX12_signs 91 = .ok (.aload_n 0, 1) := by decide +kernel
theorem dX12_signs_92 : decode cX12_signs 92 = .ok (.dup, 1) := by decide +kernel
theorem dX12_signs_93 : decode cX12_signs 93 = .ok (.getfield 179, 3) := by decide +kernel
theorem dX12_signs_96 : decode cX12_signs 96 = .ok (.iconst 1, 1) := by decide +kernel
theorem dX12_signs_97 : decode cX12_signs 97 = .ok (.iadd, 1) := by decide +kernel
theorem dX12_signs_98 : decode cX12_signs 98 = .ok (.putfield 179, 3) := by decide +kernel
theorem dX12_signs_101 : decode cX12_signs 101 = .ok (.aload_n 0, 1) := by decide +kernel
theorem dX12_signs_102 : decode cX12_signs 102 = .ok (.getfield 179, 3) := by decide +kernel
theorem dX12_signs_105 : decode cX12_signs 105 = .ok (.ireturn, 1) := by decide +kernel
theorem dX12_officerOf_0 : decode cX12_officerOf 0 = .ok (.aload_n 0, 1) := by decide +kernel
theorem dX12_officerOf_1 : decode cX12_officerOf 1 = .ok (.getfield 27, 3) := by decide +kernel
theorem dX12_officerOf_4 : decode cX12_officerOf 4 = .ok (.iload_n 1, 1) := by decide +kernel
theorem dX12_officerOf_5 : decode cX12_officerOf 5 = .ok (.iaload, 1) := by decide +kernel
theorem dX12_officerOf_6 : decode cX12_officerOf 6 = .ok (.istore_n 3, 1) := by decide +kernel
theorem dX12_officerOf_7 : decode cX12_officerOf 7 = .ok (.iconst 0, 1) := by decide +kernel
theorem dX12_officerOf_8 : decode cX12_officerOf 8 = .ok (.istore 4, 2) := by decide +kernel
theorem dX12_officerOf_10 : decode cX12_officerOf 10 = .ok (.iload 4, 2) := by decide +kernel
theorem dX12_officerOf_12 : decode cX12_officerOf 12 = .ok (.aload_n 0, 1) := by decide +kernel
theorem dX12_officerOf_13 : decode cX12_officerOf 13 = .ok (.getfield 179, 3) := by decide +kernel
theorem dX12_officerOf_16 : decode cX12_officerOf 16 = .ok (.if_icmp .ge 39, 3) := by decide +kernel
theorem dX12_officerOf_19 : decode cX12_officerOf 19 = .ok (.aload_n 0, 1) := by decide +kernel
theorem dX12_officerOf_20 : decode cX12_officerOf 20 = .ok (.getfield 33, 3) := by decide +kernel
theorem dX12_officerOf_23 : decode cX12_officerOf 23 = .ok (.iload 4, 2) := by decide +kernel
theorem dX12_officerOf_25 : decode cX12_officerOf 25 = .ok (.iaload, 1) := by decide +kernel
theorem dX12_officerOf_26 : decode cX12_officerOf 26 = .ok (.iload_n 1, 1) := by decide +kernel
theorem dX12_officerOf_27 : decode cX12_officerOf 27 = .ok (.if_icmp .ne 22, 3) := by decide +kernel
theorem dX12_officerOf_30 : decode cX12_officerOf 30 = .ok (.aload_n 0, 1) := by decide +kernel
theorem dX12_officerOf_31 : decode cX12_officerOf 31 = .ok (.getfield 39, 3) := by decide +kernel
theorem dX12_officerOf_34 : decode cX12_officerOf 34 = .ok (.iload 4, 2) := by decide +kernel
theorem dX12_officerOf_36 : decode cX12_officerOf 36 = .ok (.iaload, 1) := by decide +kernel
theorem dX12_officerOf_37 : decode cX12_officerOf 37 = .ok (.iload_n 2, 1) := by decide +kernel
theorem dX12_officerOf_38 : decode cX12_officerOf 38 = .ok (.if_icmp .gt 11, 3) := by decide +kernel
theorem dX12_officerOf_41 : decode cX12_officerOf 41 = .ok (.aload_n 0, 1) := by decide +kernel
theorem dX12_officerOf_42 : decode cX12_officerOf 42 = .ok (.getfield 36, 3) := by decide +kernel
theorem dX12_officerOf_45 : decode cX12_officerOf 45 = .ok (.iload 4, 2) := by decide +kernel
theorem dX12_officerOf_47 : decode cX12_officerOf 47 = .ok (.iaload, 1) := by decide +kernel
theorem dX12_officerOf_48 : decode cX12_officerOf 48 = .ok (.istore_n 3, 1) := by decide +kernel
theorem dX12_officerOf_49 : decode cX12_officerOf 49 = .ok (.iinc 4 1, 3) := by decide +kernel
theorem dX12_officerOf_52 : decode cX12_officerOf 52 = .ok (.goto (-42), 3) := by decide +kernel
theorem dX12_officerOf_55 : decode cX12_officerOf 55 = .ok (.iload_n 3, 1) := by decide +kernel
theorem dX12_officerOf_56 : decode cX12_officerOf 56 = .ok (.ireturn, 1) := by decide +kernel
theorem dX12_trust_0 : decode cX12_trust 0 = .ok (.aload_n 0, 1) := by decide +kernel
theorem dX12_trust_1 : decode cX12_trust 1 = .ok (.iload_n 1, 1) := by decide +kernel
theorem dX12_trust_2 : decode cX12_trust 2 = .ok (.invokevirtual 172, 3) := by decide +kernel
theorem dX12_trust_5 : decode cX12_trust 5 = .ok (.ifCond .ne 17, 3) := by decide +kernel
theorem dX12_trust_8 : decode cX12_trust 8 = .ok (.aload_n 0, 1) := by decide +kernel
theorem dX12_trust_9 : decode cX12_trust 9 = .ok (.iconst 0, 1) := by decide +kernel
theorem dX12_trust_10 : decode cX12_trust 10 = .ok (.invokevirtual 161, 3) := by decide +kernel
theorem dX12_trust_13 : decode cX12_trust 13 = .ok (.ifCond .lt 7, 3) := by decide +kernel
theorem dX12_trust_16 : decode cX12_trust 16 = .ok (.iconst 1, 1) := by decide +kernel
theorem dX12_trust_17 : decode cX12_trust 17 = .ok (.goto 4, 3) := by decide +kernel
theorem dX12_trust_20 : decode cX12_trust 20 = .ok (.iconst 0, 1) := by decide +kernel
theorem dX12_trust_21 : decode cX12_trust 21 = .ok (.ireturn, 1) := by decide +kernel
theorem dX12_trust_22 : decode cX12_trust 22 = .ok (.aload_n 0, 1) := by decide +kernel
theorem dX12_trust_23 : decode cX12_trust 23 = .ok (.getfield 20, 3) := by decide +kernel
theorem dX12_trust_26 : decode cX12_trust 26 = .ok (.iload_n 1, 1) := by decide +kernel
theorem dX12_trust_27 : decode cX12_trust 27 = .ok (.iload_n 2, 1) := by decide +kernel
theorem dX12_trust_28 : decode cX12_trust 28 = .ok (.bastore, 1) := by decide +kernel
theorem dX12_trust_29 : decode cX12_trust 29 = .ok (.iconst 1, 1) := by decide +kernel
theorem dX12_trust_30 : decode cX12_trust 30 = .ok (.ireturn, 1) := by decide +kernel
theorem dX12_set_0 : decode cX12_set 0 = .ok (.iload_n 1, 1) := by decide +kernel
theorem dX12_set_1 : decode cX12_set 1 = .ok (.iconst 0, 1) := by decide +kernel
theorem dX12_set_2 : decode cX12_set 2 = .ok (.bipush 7, 2) := by decide +kernel
theorem dX12_set_4 : decode cX12_set 4 = .ok (.invokestatic 168, 3) := by decide +kernel
theorem dX12_set_7 : decode cX12_set 7 = .ok (.ifCond .eq 12, 3) := by decide +kernel
theorem dX12_set_10 : decode cX12_set 10 = .ok (.iload_n 2, 1) := by decide +kernel
theorem dX12_set_11 : decode cX12_set 11 = .ok (.iconst 0, 1) := by decide +kernel
theorem dX12_set_12 : decode cX12_set 12 = .ok (.iconst 5, 1) := by decide +kernel
theorem dX12_set_13 : decode cX12_set 13 = .ok (.invokestatic 168, 3) := by decide +kernel
theorem dX12_set_16 : decode cX12_set 16 = .ok (.ifCond .ne 17, 3) := by decide +kernel
theorem dX12_set_19 : decode cX12_set 19 = .ok (.aload_n 0, 1) := by decide +kernel
theorem dX12_set_20 : decode cX12_set 20 = .ok (.iconst 0, 1) := by decide +kernel
theorem dX12_set_21 : decode cX12_set 21 = .ok (.invokevirtual 161, 3) := by decide +kernel
theorem dX12_set_24 : decode cX12_set 24 = .ok (.ifCond .lt 7, 3) := by decide +kernel
theorem dX12_set_27 : decode cX12_set 27 = .ok (.iconst 1, 1) := by decide +kernel
theorem dX12_set_28 : decode cX12_set 28 = .ok (.goto 4, 3) := by decide +kernel
theorem dX12_set_31 : decode cX12_set 31 = .ok (.iconst 0, 1) := by decide +kernel
theorem dX12_set_32 : decode cX12_set 32 = .ok (.ireturn, 1) := by decide +kernel
theorem dX12_set_33 : decode cX12_set 33 = .ok (.aload_n 0, 1) := by decide +kernel
theorem dX12_set_34 : decode cX12_set 34 = .ok (.iload_n 1, 1) := by decide +kernel
theorem dX12_set_35 : decode cX12_set 35 = .ok (.putfield 13, 3) := by decide +kernel
theorem dX12_set_38 : decode cX12_set 38 = .ok (.aload_n 0, 1) := by decide +kernel
theorem dX12_set_39 : decode cX12_set 39 = .ok (.iload_n 2, 1) := by decide +kernel
theorem dX12_set_40 : decode cX12_set 40 = .ok (.putfield 17, 3) := by decide +kernel
theorem dX12_set_43 : decode cX12_set 43 = .ok (.iconst 1, 1) := by decide +kernel
theorem dX12_set_44 : decode cX12_set 44 = .ok (.ireturn, 1) := by decide +kernel
theorem dX12_readingOf_0 : decode cX12_readingOf 0 = .ok (.iconst 0, 1) := by decide +kernel
theorem dX12_readingOf_1 : decode cX12_readingOf 1 = .ok (.istore_n 3, 1) := by decide +kernel
theorem dX12_readingOf_2 : decode cX12_readingOf 2 = .ok (.iload_n 3, 1) := by decide +kernel
theorem dX12_readingOf_3 : decode cX12_readingOf 3 = .ok (.aload_n 0, 1) := by decide +kernel
theorem dX12_readingOf_4 : decode cX12_readingOf 4 = .ok (.getfield 182, 3) := by decide +kernel
theorem dX12_readingOf_7 : decode cX12_readingOf 7 = .ok (.if_icmp .ge 31, 3) := by decide +kernel
theorem dX12_readingOf_10 : decode cX12_readingOf 10 = .ok (.aload_n 0, 1) := by decide +kernel
theorem dX12_readingOf_11 : decode cX12_readingOf 11 = .ok (.getfield 42, 3) := by decide +kernel
theorem dX12_readingOf_14 : decode cX12_readingOf 14 = .ok (.iload_n 3, 1) := by decide +kernel
theorem dX12_readingOf_15 : decode cX12_readingOf 15 = .ok (.iaload, 1) := by decide +kernel
theorem dX12_readingOf_16 : decode cX12_readingOf 16 = .ok (.iload_n 1, 1) := by decide +kernel
theorem dX12_readingOf_17 : decode cX12_readingOf 17 = .ok (.if_icmp .ne 15, 3) := by decide +kernel
theorem dX12_readingOf_20 : decode cX12_readingOf 20 = .ok (.aload_n 0, 1) := by decide +kernel
theorem dX12_readingOf_21 : decode cX12_readingOf 21 = .ok (.getfield 45, 3) := by decide +kernel
theorem dX12_readingOf_24 : decode cX12_readingOf 24 = .ok (.iload_n 3, 1) := by decide +kernel
theorem dX12_readingOf_25 : decode cX12_readingOf 25 = .ok (.iaload, 1) := by decide +kernel
theorem dX12_readingOf_26 : decode cX12_readingOf 26 = .ok (.iload_n 2, 1) := by decide +kernel
theorem dX12_readingOf_27 : decode cX12_readingOf 27 = .ok (.if_icmp .ne 5, 3) := by decide +kernel
theorem dX12_readingOf_30 : decode cX12_readingOf 30 = .ok (.iload_n 3, 1) := by decide +kernel
theorem dX12_readingOf_31 : decode cX12_readingOf 31 = .ok (.ireturn, 1) := by decide +kernel
theorem dX12_readingOf_32 : decode cX12_readingOf 32 = .ok (.iinc 3 1, 3) := by decide +kernel
theorem dX12_readingOf_35 : decode cX12_readingOf 35 = .ok (.goto (-33), 3) := by decide +kernel
theorem dX12_readingOf_38 : decode cX12_readingOf 38 = .ok (.iconst (-1), 1) := by decide +kernel
theorem dX12_readingOf_39 : decode cX12_readingOf 39 = .ok (.ireturn, 1) := by decide +kernel
theorem dX12_read_0 : decode cX12_read 0 = .ok (.aload_n 0, 1) := by decide +kernel
theorem dX12_read_1 : decode cX12_read 1 = .ok (.iload_n 1, 1) := by decide +kernel
theorem dX12_read_2 : decode cX12_read 2 = .ok (.invokevirtual 176, 3) := by decide +kernel
theorem dX12_read_5 : decode cX12_read 5 = .ok (.ifCond .eq 66, 3) := by decide +kernel
theorem dX12_read_8 : decode cX12_read 8 = .ok (.iload_n 2, 1) := by decide +kernel
theorem dX12_read_9 : decode cX12_read 9 = .ok (.iconst 0, 1) := by decide +kernel
theorem dX12_read_10 : decode cX12_read 10 = .ok (.sipush 999, 3) := by decide +kernel
theorem dX12_read_13 : decode cX12_read 13 = .ok (.invokestatic 168, 3) := by decide +kernel
theorem dX12_read_16 : decode cX12_read 16 = .ok (.ifCond .eq 55, 3) := by decide +kernel
theorem dX12_read_19 : decode cX12_read 19 = .ok (.iload_n 3, 1) := by decide +kernel
theorem dX12_read_20 : decode cX12_read 20 = .ok (.iconst 0, 1) := by decide +kernel
theorem dX12_read_21 : decode cX12_read 21 = .ok (.sipush 6399, 3) := by decide +kernel
theorem dX12_read_24 : decode cX12_read 24 = .ok (.invokestatic 168, 3) := by decide +kernel
theorem dX12_read_27 : decode cX12_read 27 = .ok (.ifCond .eq 44, 3) := by decide +kernel
theorem dX12_read_30 : decode cX12_read 30 = .ok (.iload 4, 2) := by decide +kernel
theorem dX12_read_32 : decode cX12_read 32 = .ok (.iconst 0, 1) := by decide +kernel
theorem dX12_read_33 : decode cX12_read 33 = .ok (.iconst 3, 1) := by decide +kernel
theorem dX12_read_34 : decode cX12_read 34 = .ok (.invokestatic 168, 3) := by decide +kernel
theorem dX12_read_37 : decode cX12_read 37 = .ok (.ifCond .eq 34, 3) := by decide +kernel
theorem dX12_read_40 : decode cX12_read 40 = .ok (.iload 5, 2) := by decide +kernel
theorem dX12_read_42 : decode cX12_read 42 = .ok (.iconst 0, 1) := by decide +kernel
theorem dX12_read_43 : decode cX12_read 43 = .ok (.iload 4, 2) := by decide +kernel
theorem dX12_read_45 : decode cX12_read 45 = .ok (.iconst 3, 1) := by decide +kernel
theorem dX12_read_46 : decode cX12_read 46 = .ok (.if_icmp .ne 8, 3) := by decide +kernel
theorem dX12_read_49 : decode cX12_read 49 = .ok (.bipush 99, 2) := by decide +kernel
theorem dX12_read_51 : decode cX12_read 51 = .ok (.goto 5, 3) := by decide +kernel
theorem dX12_read_54 : decode cX12_read 54 = .ok (.bipush 12, 2) := by decide +kernel
theorem dX12_read_56 : decode cX12_read 56 = .ok (.invokestatic 168, 3) := by decide +kernel
theorem dX12_read_59 : decode cX12_read 59 = .ok (.ifCond .eq 12, 3) := by decide +kernel
theorem dX12_read_62 : decode cX12_read 62 = .ok (.aload_n 0, 1) := by decide +kernel
theorem dX12_read_63 : decode cX12_read 63 = .ok (.iload_n 1, 1) := by decide +kernel
theorem dX12_read_64 : decode cX12_read 64 = .ok (.iload_n 2, 1) := by decide +kernel
theorem dX12_read_65 : decode cX12_read 65 = .ok (.invokevirtual 185, 3) := by decide +kernel
theorem dX12_read_68 : decode cX12_read 68 = .ok (.ifCond .lt 9, 3) := by decide +kernel
theorem dX12_read_71 : decode cX12_read 71 = .ok (.aload_n 0, 1) := by decide +kernel
theorem dX12_read_72 : decode cX12_read 72 = .ok (.iconst 0, 1) := by decide +kernel
theorem dX12_read_73 : decode cX12_read 73 = .ok (.invokevirtual 161, 3) := by decide +kernel
theorem dX12_read_76 : decode cX12_read 76 = .ok (.ireturn, 1) := by decide +kernel
theorem dX12_read_77 : decode cX12_read 77 = .ok (.aload_n 0, 1) := by decide +kernel
theorem dX12_read_78 : decode cX12_read 78 = .ok (.getfield 182, 3) := by decide +kernel
theorem dX12_read_81 : decode cX12_read 81 = .ok (.sipush 300, 3) := by decide +kernel
theorem dX12_read_84 : decode cX12_read 84 = .ok (.if_icmp .ne 9, 3) := by decide +kernel
theorem dX12_read_87 : decode cX12_read 87 = .ok (.aload_n 0, 1) := by decide +kernel
theorem dX12_read_88 : decode cX12_read 88 = .ok (.iconst 1, 1) := by decide +kernel
theorem dX12_read_89 : decode cX12_read 89 = .ok (.invokevirtual 161, 3) := by decide +kernel
theorem dX12_read_92 : decode cX12_read 92 = .ok (.ireturn, 1) := by decide +kernel
theorem dX12_read_93 : decode cX12_read 93 = .ok (.aload_n 0, 1) := by decide +kernel
theorem dX12_read_94 : decode cX12_read 94 = .ok (.getfield 42, 3) := by decide +kernel
theorem dX12_read_97 : decode cX12_read 97 = .ok (.aload_n 0, 1) := by decide +kernel
theorem dX12_read_98 : decode cX12_read 98 = .ok (.getfield 182, 3) := by decide +kernel
theorem dX12_read_101 : decode cX12_read 101 = .ok (.iload_n 1, 1) := by decide +kernel
theorem dX12_read_102 : decode cX12_read 102 = .ok (.iastore, 1) := by decide +kernel
theorem dX12_read_103 : decode cX12_read 103 = .ok (.aload_n 0, 1) := by decide +kernel
theorem dX12_read_104 : decode cX12_read 104 = .ok (.getfield 45, 3) := by decide +kernel
theorem dX12_read_107 : decode cX12_read 107 = .ok (.aload_n 0, 1) := by decide +kernel
theorem dX12_read_108 : decode cX12_read 108 = .ok (.getfield 182, 3) := by decide +kernel
theorem dX12_read_111 : decode cX12_read 111 = .ok (.iload_n 2, 1) := by decide +kernel
theorem dX12_read_112 : decode cX12_read 112 = .ok (.iastore, 1) := by decide +kernel
theorem dX12_read_113 : decode cX12_read 113 = .ok (.aload_n 0, 1) := by decide +kernel
theorem dX12_read_114 : decode cX12_read 114 = .ok (.getfield 48, 3) := by decide +kernel
theorem dX12_read_117 : decode cX12_read 117 = .ok (.aload_n 0, 1) := by decide +kernel
theorem dX12_read_118 : decode cX12_read 118 = .ok (.getfield 182, 3) := by decide +kernel
theorem dX12_read_121 : decode cX12_read 121 = .ok (.iload_n 3, 1) := by decide +kernel
theorem dX12_read_122 : decode cX12_read 122 = .ok (.bipush 100, 2) := by decide +kernel
theorem dX12_read_124 : decode cX12_read 124 = .ok (.idiv, 1) := by decide +kernel
theorem dX12_read_125 : decode cX12_read 125 = .ok (.iastore, 1) := by decide +kernel
theorem dX12_read_126 : decode cX12_read 126 = .ok (.aload_n 0, 1) := by decide +kernel
theorem dX12_read_127 : decode cX12_read 127 = .ok (.getfield 57, 3) := by decide +kernel
theorem dX12_read_130 : decode cX12_read 130 = .ok (.aload_n 0, 1) := by decide +kernel
theorem dX12_read_131 : decode cX12_read 131 = .ok (.getfield 182, 3) := by decide +kernel
theorem dX12_read_134 : decode cX12_read 134 = .ok (.iload_n 3, 1) := by decide +kernel
theorem dX12_read_135 : decode cX12_read 135 = .ok (.bipush 10, 2) := by decide +kernel
theorem dX12_read_137 : decode cX12_read 137 = .ok (.idiv, 1) := by decide +kernel
theorem dX12_read_138 : decode cX12_read 138 = .ok (.bipush 10, 2) := by decide +kernel
theorem dX12_read_140 : decode cX12_read 140 = .ok (.irem, 1) := by decide +kernel
theorem dX12_read_141 : decode cX12_read 141 = .ok (.iastore, 1) := by decide +kernel
theorem dX12_read_142 : decode cX12_read 142 = .ok (.aload_n 0, 1) := by decide +kernel
theorem dX12_read_143 : decode cX12_read 143 = .ok (.getfield 60, 3) := by decide +kernel
theorem dX12_read_146 : decode cX12_read 146 = .ok (.aload_n 0, 1) := by decide +kernel
theorem dX12_read_147 : decode cX12_read 147 = .ok (.getfield 182, 3) := by decide +kernel
theorem dX12_read_150 : decode cX12_read 150 = .ok (.iload_n 3, 1) := by decide +kernel
theorem dX12_read_151 : decode cX12_read 151 = .ok (.bipush 10, 2) := by decide +kernel
theorem dX12_read_153 : decode cX12_read 153 = .ok (.irem, 1) := by decide +kernel
theorem dX12_read_154 : decode cX12_read 154 = .ok (.iastore, 1) := by decide +kernel
theorem dX12_read_155 : decode cX12_read 155 = .ok (.aload_n 0, 1) := by decide +kernel
theorem dX12_read_156 : decode cX12_read 156 = .ok (.getfield 51, 3) := by decide +kernel
theorem dX12_read_159 : decode cX12_read 159 = .ok (.aload_n 0, 1) := by decide +kernel
theorem dX12_read_160 : decode cX12_read 160 = .ok (.getfield 182, 3) := by decide +kernel
theorem dX12_read_163 : decode cX12_read 163 = .ok (.iload 4, 2) := by decide +kernel
theorem dX12_read_165 : decode cX12_read 165 = .ok (.iastore, 1) := by decide +kernel
theorem dX12_read_166 : decode cX12_read 166 = .ok (.aload_n 0, 1) := by decide +kernel
theorem dX12_read_167 : decode cX12_read 167 = .ok (.getfield 54, 3) := by decide +kernel
theorem dX12_read_170 : decode cX12_read 170 = .ok (.aload_n 0, 1) := by decide +kernel
theorem dX12_read_171 : decode cX12_read 171 = .ok (.getfield 182, 3) := by decide +kernel
theorem dX12_read_174 : decode cX12_read 174 = .ok (.iload 5, 2) := by decide +kernel
theorem dX12_read_176 : decode cX12_read 176 = .ok (.iastore, 1) := by decide +kernel
theorem dX12_read_177 : decode cX12_read 177 = .ok (.aload_n 0, 1) := by decide +kernel
theorem dX12_read_178 : decode cX12_read 178 = .ok (.dup, 1) := by decide +kernel
theorem dX12_read_179 : decode cX12_read 179 = .ok (.getfield 182, 3) := by decide +kernel
theorem dX12_read_182 : decode cX12_read 182 = .ok (.iconst 1, 1) := by decide +kernel
theorem dX12_read_183 : decode cX12_read 183 = .ok (.iadd, 1) := by decide +kernel
theorem dX12_read_184 : decode cX12_read 184 = .ok (.putfield 182, 3) := by decide +kernel
theorem dX12_read_187 : decode cX12_read 187 = .ok (.aload_n 0, 1) := by decide +kernel
theorem dX12_read_188 : decode cX12_read 188 = .ok (.getfield 182, 3) := by decide +kernel
theorem dX12_read_191 : decode cX12_read 191 = .ok (.iconst 1, 1) := by decide +kernel
theorem dX12_read_192 : decode cX12_read 192 = .ok (.isub, 1) := by decide +kernel
theorem dX12_read_193 : decode cX12_read 193 = .ok (.ireturn, 1) := by decide +kernel
theorem dX12_far_0 : decode cX12_far 0 = .ok (.iload_n 0, 1) := by decide +kernel
theorem dX12_far_1 : decode cX12_far 1 = .ok (.bipush 8, 2) := by decide +kernel
theorem dX12_far_3 : decode cX12_far 3 = .ok (.irem, 1) := by decide +kernel
theorem dX12_far_4 : decode cX12_far 4 = .ok (.iload_n 1, 1) := by decide +kernel
theorem dX12_far_5 : decode cX12_far 5 = .ok (.bipush 8, 2) := by decide +kernel
theorem dX12_far_7 : decode cX12_far 7 = .ok (.irem, 1) := by decide +kernel
theorem dX12_far_8 : decode cX12_far 8 = .ok (.isub, 1) := by decide +kernel
theorem dX12_far_9 : decode cX12_far 9 = .ok (.invokestatic 189, 3) := by decide +kernel
theorem dX12_far_12 : decode cX12_far 12 = .ok (.istore_n 2, 1) := by decide +kernel
theorem dX12_far_13 : decode cX12_far 13 = .ok (.iload_n 0, 1) := by decide +kernel
theorem dX12_far_14 : decode cX12_far 14 = .ok (.bipush 8, 2) := by decide +kernel
theorem dX12_far_16 : decode cX12_far 16 = .ok (.idiv, 1) := by decide +kernel
theorem dX12_far_17 : decode cX12_far 17 = .ok (.iload_n 1, 1) := by decide +kernel
theorem dX12_far_18 : decode cX12_far 18 = .ok (.bipush 8, 2) := by decide +kernel
theorem dX12_far_20 : decode cX12_far 20 = .ok (.idiv, 1) := by decide +kernel
theorem dX12_far_21 : decode cX12_far 21 = .ok (.isub, 1) := by decide +kernel
theorem dX12_far_22 : decode cX12_far 22 = .ok (.invokestatic 189, 3) := by decide +kernel
theorem dX12_far_25 : decode cX12_far 25 = .ok (.istore_n 3, 1) := by decide +kernel
theorem dX12_far_26 : decode cX12_far 26 = .ok (.iload_n 2, 1) := by decide +kernel
theorem dX12_far_27 : decode cX12_far 27 = .ok (.iload_n 3, 1) := by decide +kernel
theorem dX12_far_28 : decode cX12_far 28 = .ok (.if_icmp .le 7, 3) := by decide +kernel
theorem dX12_far_31 : decode cX12_far 31 = .ok (.iload_n 2, 1) := by decide +kernel
theorem dX12_far_32 : decode cX12_far 32 = .ok (.goto 4, 3) := by decide +kernel
theorem dX12_far_35 : decode cX12_far 35 = .ok (.iload_n 3, 1) := by decide +kernel
theorem dX12_far_36 : decode cX12_far 36 = .ok (.ireturn, 1) := by decide +kernel
theorem dX12_isMan_0 : decode cX12_isMan 0 = .ok (.aload_n 0, 1) := by decide +kernel
theorem dX12_isMan_1 : decode cX12_isMan 1 = .ok (.getfield 51, 3) := by decide +kernel
theorem dX12_isMan_4 : decode cX12_isMan 4 = .ok (.iload_n 1, 1) := by decide +kernel
theorem dX12_isMan_5 : decode cX12_isMan 5 = .ok (.iaload, 1) := by decide +kernel
theorem dX12_isMan_6 : decode cX12_isMan 6 = .ok (.iconst 3, 1) := by decide +kernel
theorem dX12_isMan_7 : decode cX12_isMan 7 = .ok (.if_icmp .ge 7, 3) := by decide +kernel
theorem dX12_isMan_10 : decode cX12_isMan 10 = .ok (.iconst 1, 1) := by decide +kernel
theorem dX12_isMan_11 : decode cX12_isMan 11 = .ok (.goto 4, 3) := by decide +kernel
theorem dX12_isMan_14 : decode cX12_isMan 14 = .ok (.iconst 0, 1) := by decide +kernel
theorem dX12_isMan_15 : decode cX12_isMan 15 = .ok (.ireturn, 1) := by decide +kernel
theorem dX12_writer_0 : decode cX12_writer 0 = .ok (.aload_n 0, 1) := by decide +kernel
theorem dX12_writer_1 : decode cX12_writer 1 = .ok (.aload_n 0, 1) := by decide +kernel
theorem dX12_writer_2 : decode cX12_writer 2 = .ok (.getfield 42, 3) := by decide +kernel
theorem dX12_writer_5 : decode cX12_writer 5 = .ok (.iload_n 1, 1) := by decide +kernel
theorem dX12_writer_6 : decode cX12_writer 6 = .ok (.iaload, 1) := by decide +kernel
theorem dX12_writer_7 : decode cX12_writer 7 = .ok (.aload_n 0, 1) := by decide +kernel
theorem dX12_writer_8 : decode cX12_writer 8 = .ok (.getfield 45, 3) := by decide +kernel
theorem dX12_writer_11 : decode cX12_writer 11 = .ok (.iload_n 1, 1) := by decide +kernel
theorem dX12_writer_12 : decode cX12_writer 12 = .ok (.iaload, 1) := by decide +kernel
theorem dX12_writer_13 : decode cX12_writer 13 = .ok (.invokevirtual 192, 3) := by decide +kernel
theorem dX12_writer_16 : decode cX12_writer 16 = .ok (.ireturn, 1) := by decide +kernel
theorem dX12_isTrustedOne_0 : decode cX12_isTrustedOne 0 = .ok (.aload_n 0, 1) := by decide +kernel
theorem dX12_isTrustedOne_1 : decode cX12_isTrustedOne 1 = .ok (.getfield 20, 3) := by decide +kernel
theorem dX12_isTrustedOne_4 : decode cX12_isTrustedOne 4 = .ok (.aload_n 0, 1) := by decide +kernel
theorem dX12_isTrustedOne_5 : decode cX12_isTrustedOne 5 = .ok (.iload_n 1, 1) := by decide +kernel
theorem dX12_isTrustedOne_6 : decode cX12_isTrustedOne 6 = .ok (.invokevirtual 195, 3) := by decide +kernel
theorem dX12_isTrustedOne_9 : decode cX12_isTrustedOne 9 = .ok (.baload, 1) := by decide +kernel
theorem dX12_isTrustedOne_10 : decode cX12_isTrustedOne 10 = .ok (.ireturn, 1) := by decide +kernel
theorem dX12_areInSight_0 : decode cX12_areInSight 0 = .ok (.aload_n 0, 1) := by decide +kernel
theorem dX12_areInSight_1 : decode cX12_areInSight 1 = .ok (.getfield 45, 3) := by decide +kernel
theorem dX12_areInSight_4 : decode cX12_areInSight 4 = .ok (.iload_n 1, 1) := by decide +kernel
theorem dX12_areInSight_5 : decode cX12_areInSight 5 = .ok (.iaload, 1) := by decide +kernel
theorem dX12_areInSight_6 : decode cX12_areInSight 6 = .ok (.aload_n 0, 1) := by decide +kernel
theorem dX12_areInSight_7 : decode cX12_areInSight 7 = .ok (.getfield 45, 3) := by decide +kernel
theorem dX12_areInSight_10 : decode cX12_areInSight 10 = .ok (.iload_n 2, 1) := by decide +kernel
theorem dX12_areInSight_11 : decode cX12_areInSight 11 = .ok (.iaload, 1) := by decide +kernel
theorem dX12_areInSight_12 : decode cX12_areInSight 12 = .ok (.if_icmp .ne 44, 3) := by decide +kernel
theorem dX12_areInSight_15 : decode cX12_areInSight 15 = .ok (.aload_n 0, 1) := by decide +kernel
theorem dX12_areInSight_16 : decode cX12_areInSight 16 = .ok (.getfield 42, 3) := by decide +kernel
theorem dX12_areInSight_19 : decode cX12_areInSight 19 = .ok (.iload_n 1, 1) := by decide +kernel
theorem dX12_areInSight_20 : decode cX12_areInSight 20 = .ok (.iaload, 1) := by decide +kernel
theorem dX12_areInSight_21 : decode cX12_areInSight 21 = .ok (.aload_n 0, 1) := by decide +kernel
theorem dX12_areInSight_22 : decode cX12_areInSight 22 = .ok (.getfield 42, 3) := by decide +kernel
theorem dX12_areInSight_25 : decode cX12_areInSight 25 = .ok (.iload_n 2, 1) := by decide +kernel
theorem dX12_areInSight_26 : decode cX12_areInSight 26 = .ok (.iaload, 1) := by decide +kernel
theorem dX12_areInSight_27 : decode cX12_areInSight 27 = .ok (.if_icmp .eq 29, 3) := by decide +kernel
theorem dX12_areInSight_30 : decode cX12_areInSight 30 = .ok (.aload_n 0, 1) := by decide +kernel
theorem dX12_areInSight_31 : decode cX12_areInSight 31 = .ok (.getfield 48, 3) := by decide +kernel
theorem dX12_areInSight_34 : decode cX12_areInSight 34 = .ok (.iload_n 1, 1) := by decide +kernel
theorem dX12_areInSight_35 : decode cX12_areInSight 35 = .ok (.iaload, 1) := by decide +kernel
theorem dX12_areInSight_36 : decode cX12_areInSight 36 = .ok (.aload_n 0, 1) := by decide +kernel
theorem dX12_areInSight_37 : decode cX12_areInSight 37 = .ok (.getfield 48, 3) := by decide +kernel
theorem dX12_areInSight_40 : decode cX12_areInSight 40 = .ok (.iload_n 2, 1) := by decide +kernel
theorem dX12_areInSight_41 : decode cX12_areInSight 41 = .ok (.iaload, 1) := by decide +kernel
theorem dX12_areInSight_42 : decode cX12_areInSight 42 = .ok (.invokestatic 198, 3) := by decide +kernel
theorem dX12_areInSight_45 : decode cX12_areInSight 45 = .ok (.aload_n 0, 1) := by decide +kernel
theorem dX12_areInSight_46 : decode cX12_areInSight 46 = .ok (.getfield 13, 3) := by decide +kernel
theorem dX12_areInSight_49 : decode cX12_areInSight 49 = .ok (.if_icmp .gt 7, 3) := by decide +kernel
theorem dX12_areInSight_52 : decode cX12_areInSight 52 = .ok (.iconst 1, 1) := by decide +kernel
theorem dX12_areInSight_53 : decode cX12_areInSight 53 = .ok (.goto 4, 3) := by decide +kernel
theorem dX12_areInSight_56 : decode cX12_areInSight 56 = .ok (.iconst 0, 1) := by decide +kernel
theorem dX12_areInSight_57 : decode cX12_areInSight 57 = .ok (.ireturn, 1) := by decide +kernel
theorem dX12_yearOf_0 : decode cX12_yearOf 0 = .ok (.aload_n 0, 1) := by decide +kernel
theorem dX12_yearOf_1 : decode cX12_yearOf 1 = .ok (.getfield 45, 3) := by decide +kernel
theorem dX12_yearOf_4 : decode cX12_yearOf 4 = .ok (.iload_n 1, 1) := by decide +kernel
theorem dX12_yearOf_5 : decode cX12_yearOf 5 = .ok (.iaload, 1) := by decide +kernel
theorem dX12_yearOf_6 : decode cX12_yearOf 6 = .ok (.bipush 100, 2) := by decide +kernel
theorem dX12_yearOf_8 : decode cX12_yearOf 8 = .ok (.idiv, 1) := by decide +kernel
theorem dX12_yearOf_9 : decode cX12_yearOf 9 = .ok (.ireturn, 1) := by decide +kernel
theorem dX12_feed_0 : decode cX12_feed 0 = .ok (.aload_n 0, 1) := by decide +kernel
theorem dX12_feed_1 : decode cX12_feed 1 = .ok (.getfield 201, 3) := by decide +kernel
theorem dX12_feed_4 : decode cX12_feed 4 = .ok (.bipush 20, 2) := by decide +kernel
theorem dX12_feed_6 : decode cX12_feed 6 = .ok (.iadd, 1) := by decide +kernel
theorem dX12_feed_7 : decode cX12_feed 7 = .ok (.sipush 900, 3) := by decide +kernel
theorem dX12_feed_10 : decode cX12_feed 10 = .ok (.if_icmp .le 5, 3) := by decide +kernel
theorem dX12_feed_13 : decode cX12_feed 13 = .ok (.iconst (-1), 1) := by decide +kernel
theorem dX12_feed_14 : decode cX12_feed 14 = .ok (.ireturn, 1) := by decide +kernel
theorem dX12_feed_15 : decode cX12_feed 15 = .ok (.iconst 0, 1) := by decide +kernel
theorem dX12_feed_16 : decode cX12_feed 16 = .ok (.istore 6, 2) := by decide +kernel
theorem dX12_feed_18 : decode cX12_feed 18 = .ok (.iload 6, 2) := by decide +kernel
theorem dX12_feed_20 : decode cX12_feed 20 = .ok (.bipush 20, 2) := by decide +kernel
theorem dX12_feed_22 : decode cX12_feed 22 = .ok (.if_icmp .ge 90, 3) := by decide +kernel
theorem dX12_feed_25 : decode cX12_feed 25 = .ok (.iload 6, 2) := by decide +kernel
theorem dX12_feed_27 : decode cX12_feed 27 = .ok (.iconst 4, 1) := by decide +kernel
theorem dX12_feed_28 : decode cX12_feed 28 = .ok (.if_icmp .ge 7, 3) := by decide +kernel
theorem dX12_feed_31 : decode cX12_feed 31 = .ok (.iload_n 1, 1) := by decide +kernel
theorem dX12_feed_32 : decode cX12_feed 32 = .ok (.goto 39, 3) := by decide +kernel
theorem dX12_feed_35 : decode cX12_feed 35 = .ok (.iload 6, 2) := by decide +kernel
theorem dX12_feed_37 : decode cX12_feed 37 = .ok (.bipush 8, 2) := by decide +kernel
theorem dX12_feed_39 : decode cX12_feed 39 = .ok (.if_icmp .ge 7, 3) := by decide +kernel
theorem dX12_feed_42 : decode cX12_feed 42 = .ok (.iload_n 2, 1) := by decide +kernel
theorem dX12_feed_43 : decode cX12_feed 43 = .ok (.goto 28, 3) := by decide +kernel
theorem dX12_feed_46 : decode cX12_feed 46 = .ok (.iload 6, 2) := by decide +kernel
theorem dX12_feed_48 : decode cX12_feed 48 = .ok (.bipush 12, 2) := by decide +kernel
theorem dX12_feed_50 : decode cX12_feed 50 = .ok (.if_icmp .ge 7, 3) := by decide +kernel
theorem dX12_feed_53 : decode cX12_feed 53 = .ok (.iload_n 3, 1) := by decide +kernel
theorem dX12_feed_54 : decode cX12_feed 54 = .ok (.goto 17, 3) := by decide +kernel
theorem dX12_feed_57 : decode cX12_feed 57 = .ok (.iload 6, 2) := by decide +kernel
theorem dX12_feed_59 : decode cX12_feed 59 = .ok (.bipush 16, 2) := by decide +kernel
theorem dX12_feed_61 : decode cX12_feed 61 = .ok (.if_icmp .ge 8, 3) := by decide +kernel
theorem dX12_feed_64 : decode cX12_feed 64 = .ok (.iload 4, 2) := by decide +kernel
theorem dX12_feed_66 : decode cX12_feed 66 = .ok (.goto 5, 3) := by decide +kernel
theorem dX12_feed_69 : decode cX12_feed 69 = .ok (.iload 5, 2) := by decide +kernel
theorem dX12_feed_71 : decode cX12_feed 71 = .ok (.istore 7, 2) := by decide +kernel
theorem dX12_feed_73 : decode cX12_feed 73 = .ok (.aload_n 0, 1) := by decide +kernel
theorem dX12_feed_74 : decode cX12_feed 74 = .ok (.getfield 90, 3) := by decide +kernel
theorem dX12_feed_77 : decode cX12_feed 77 = .ok (.aload_n 0, 1) := by decide +kernel
theorem dX12_feed_78 : decode cX12_feed 78 = .ok (.getfield 201, 3) := by decide +kernel
theorem dX12_feed_81 : decode cX12_feed 81 = .ok (.iload 7, 2) := by decide +kernel
theorem dX12_feed_83 : decode cX12_feed 83 = .ok (.bipush 24, 2) := by decide +kernel
theorem dX12_feed_85 : decode cX12_feed 85 = .ok (.bipush 8, 2) := by decide +kernel
theorem dX12_feed_87 : decode cX12_feed 87 = .ok (.iload 6, 2) := by decide +kernel
theorem dX12_feed_89 : decode cX12_feed 89 = .ok (.iconst 4, 1) := by decide +kernel
theorem dX12_feed_90 : decode cX12_feed 90 = .ok (.irem, 1) := by decide +kernel
theorem dX12_feed_91 : decode cX12_feed 91 = .ok (.imul, 1) := by decide +kernel
theorem dX12_feed_92 : decode cX12_feed 92 = .ok (.isub, 1) := by decide +kernel
theorem dX12_feed_93 : decode cX12_feed 93 = .ok (.ishr, 1) := by decide +kernel
theorem dX12_feed_94 : decode cX12_feed 94 = .ok (.i2b, 1) := by decide +kernel
theorem dX12_feed_95 : decode cX12_feed 95 = .ok (.bastore, 1) := by decide +kernel
theorem dX12_feed_96 : decode cX12_feed 96 = .ok (.aload_n 0, 1) := by decide +kernel
theorem dX12_feed_97 : decode cX12_feed 97 = .ok (.dup, 1) := by decide +kernel
theorem dX12_feed_98 : decode cX12_feed 98 = .ok (.getfield 201, 3) := by decide +kernel
theorem dX12_feed_101 : decode cX12_feed 101 = .ok (.iconst 1, 1) := by decide +kernel
theorem dX12_feed_102 : decode cX12_feed 102 = .ok (.iadd, 1) := by decide +kernel
theorem dX12_feed_103 : decode cX12_feed 103 = .ok (.putfield 201, 3) := by decide +kernel
theorem dX12_feed_106 : decode cX12_feed 106 = .ok (.iinc 6 1, 3) := by decide +kernel
theorem dX12_feed_109 : decode cX12_feed 109 = .ok (.goto (-91), 3) := by decide +kernel
theorem dX12_feed_112 : decode cX12_feed 112 = .ok (.aload_n 0, 1) := by decide +kernel
theorem dX12_feed_113 : decode cX12_feed 113 = .ok (.getfield 201, 3) := by decide +kernel
theorem dX12_feed_116 : decode cX12_feed 116 = .ok (.ireturn, 1) := by decide +kernel
theorem dX12_here_0 : decode cX12_here 0 = .ok (.aload_n 0, 1) := by decide +kernel
theorem dX12_here_1 : decode cX12_here 1 = .ok (.getfield 204, 3) := by decide +kernel
theorem dX12_here_4 : decode cX12_here 4 = .ok (.aload_n 0, 1) := by decide +kernel
theorem dX12_here_5 : decode cX12_here 5 = .ok (.getfield 207, 3) := by decide +kernel
theorem dX12_here_8 : decode cX12_here 8 = .ok (.if_icmp .ge 19, 3) := by decide +kernel
theorem dX12_here_11 : decode cX12_here 11 = .ok (.aload_n 0, 1) := by decide +kernel
theorem dX12_here_12 : decode cX12_here 12 = .ok (.getfield 90, 3) := by decide +kernel
theorem dX12_here_15 : decode cX12_here 15 = .ok (.aload_n 0, 1) := by decide +kernel
theorem dX12_here_16 : decode cX12_here 16 = .ok (.getfield 204, 3) := by decide +kernel
theorem dX12_here_19 : decode cX12_here 19 = .ok (.baload, 1) := by decide +kernel
theorem dX12_here_20 : decode cX12_here 20 = .ok (.sipush 255, 3) := by decide +kernel
theorem dX12_here_23 : decode cX12_here 23 = .ok (.iand, 1) := by decide +kernel
theorem dX12_here_24 : decode cX12_here 24 = .ok (.goto 4, 3) := by decide +kernel
theorem dX12_here_27 : decode cX12_here 27 = .ok (.iconst (-1), 1) := by decide +kernel
theorem dX12_here_28 : decode cX12_here 28 = .ok (.ireturn, 1) := by decide +kernel
theorem dX12_next_0 : decode cX12_next 0 = .ok (.aload_n 0, 1) := by decide +kernel
theorem dX12_next_1 : decode cX12_next 1 = .ok (.invokevirtual 210, 3) := by decide +kernel
theorem dX12_next_4 : decode cX12_next 4 = .ok (.bipush 32, 2) := by decide +kernel
theorem dX12_next_6 : decode cX12_next 6 = .ok (.if_icmp .eq 12, 3) := by decide +kernel
theorem dX12_next_9 : decode cX12_next 9 = .ok (.aload_n 0, 1) := by decide +kernel
theorem dX12_next_10 : decode cX12_next 10 = .ok (.invokevirtual 210, 3) := by decide +kernel
theorem dX12_next_13 : decode cX12_next 13 = .ok (.bipush 10, 2) := by decide +kernel
theorem dX12_next_15 : decode cX12_next 15 = .ok (.if_icmp .ne 16, 3) := by decide +kernel
theorem dX12_next_18 : decode cX12_next 18 = .ok (.aload_n 0, 1) := by decide +kernel
theorem dX12_next_19 : decode cX12_next 19 = .ok (.dup, 1) := by decide +kernel
theorem dX12_next_20 : decode cX12_next 20 = .ok (.getfield 204, 3) := by decide +kernel
theorem dX12_next_23 : decode cX12_next 23 = .ok (.iconst 1, 1) := by decide +kernel
theorem dX12_next_24 : decode cX12_next 24 = .ok (.iadd, 1) := by decide +kernel
theorem dX12_next_25 : decode cX12_next 25 = .ok (.putfield 204, 3) := by decide +kernel
theorem dX12_next_28 : decode cX12_next 28 = .ok (.goto (-28), 3) := by decide +kernel
theorem dX12_next_31 : decode cX12_next 31 = .ok (.aload_n 0, 1) := by decide +kernel
theorem dX12_next_32 : decode cX12_next 32 = .ok (.aload_n 0, 1) := by decide +kernel
theorem dX12_next_33 : decode cX12_next 33 = .ok (.getfield 204, 3) := by decide +kernel
theorem dX12_next_36 : decode cX12_next 36 = .ok (.putfield 214, 3) := by decide +kernel
theorem dX12_next_39 : decode cX12_next 39 = .ok (.aload_n 0, 1) := by decide +kernel
theorem dX12_next_40 : decode cX12_next 40 = .ok (.invokevirtual 210, 3) := by decide +kernel
theorem dX12_next_43 : decode cX12_next 43 = .ok (.istore_n 1, 1) := by decide +kernel
theorem dX12_next_44 : decode cX12_next 44 = .ok (.aload_n 0, 1) := by decide +kernel
theorem dX12_next_45 : decode cX12_next 45 = .ok (.ldc2_w 217, 3) := by decide +kernel
theorem dX12_next_48 : decode cX12_next 48 = .ok (.putfield 219, 3) := by decide +kernel
theorem dX12_next_51 : decode cX12_next 51 = .ok (.aload_n 0, 1) := by decide +kernel
theorem dX12_next_52 : decode cX12_next 52 = .ok (.iconst 0, 1) := by decide +kernel
theorem dX12_next_53 : decode cX12_next 53 = .ok (.putfield 223, 3) := by decide +kernel
theorem dX12_next_56 : decode cX12_next 56 = .ok (.iload_n 1, 1) := by decide +kernel
theorem dX12_next_57 : decode cX12_next 57 = .ok (.ifCond .ge 11, 3) := by decide +kernel
theorem dX12_next_60 : decode cX12_next 60 = .ok (.aload_n 0, 1) := by decide +kernel
theorem dX12_next_61 : decode cX12_next 61 = .ok (.iconst 0, 1) := by decide +kernel
theorem dX12_next_62 : decode cX12_next 62 = .ok (.putfield 226, 3) := by decide +kernel
theorem dX12_next_65 : decode cX12_next 65 = .ok (.goto 238, 3) := by decide +kernel
theorem dX12_next_68 : decode cX12_next 68 = .ok (.iload_n 1, 1) := by decide +kernel
theorem dX12_next_69 : decode cX12_next 69 = .ok (.bipush 97, 2) := by decide +kernel
theorem dX12_next_71 : decode cX12_next 71 = .ok (.bipush 122, 2) := by decide +kernel
theorem dX12_next_73 : decode cX12_next 73 = .ok (.invokestatic 168, 3) := by decide +kernel
theorem dX12_next_76 : decode cX12_next 76 = .ok (.ifCond .eq 81, 3) := by decide +kernel
theorem dX12_next_79 : decode cX12_next 79 = .ok (.aload_n 0, 1) := by decide +kernel
theorem dX12_next_80 : decode cX12_next 80 = .ok (.iconst 1, 1) := by decide +kernel
theorem dX12_next_81 : decode cX12_next 81 = .ok (.putfield 226, 3) := by decide +kernel
theorem dX12_next_84 : decode cX12_next 84 = .ok (.aload_n 0, 1) := by decide +kernel
theorem dX12_next_85 : decode cX12_next 85 = .ok (.lconst 0, 1) := by decide +kernel
theorem dX12_next_86 : decode cX12_next 86 = .ok (.putfield 219, 3) := by decide +kernel
theorem dX12_next_89 : decode cX12_next 89 = .ok (.aload_n 0, 1) := by decide +kernel
theorem dX12_next_90 : decode cX12_next 90 = .ok (.invokevirtual 210, 3) := by decide +kernel
theorem dX12_next_93 : decode cX12_next 93 = .ok (.bipush 97, 2) := by decide +kernel
theorem dX12_next_95 : decode cX12_next 95 = .ok (.bipush 122, 2) := by decide +kernel
theorem dX12_next_97 : decode cX12_next 97 = .ok (.invokestatic 168, 3) := by decide +kernel
theorem dX12_next_100 : decode cX12_next 100 = .ok (.ifCond .eq 203, 3) := by decide +kernel
theorem dX12_next_103 : decode cX12_next 103 = .ok (.aload_n 0, 1) := by decide +kernel
theorem dX12_next_104 : decode cX12_next 104 = .ok (.aload_n 0, 1) := by decide +kernel
theorem dX12_next_105 : decode cX12_next 105 = .ok (.getfield 204, 3) := by decide +kernel
theorem dX12_next_108 : decode cX12_next 108 = .ok (.aload_n 0, 1) := by decide +kernel
theorem dX12_next_109 : decode cX12_next 109 = .ok (.getfield 214, 3) := by decide +kernel
theorem dX12_next_112 : decode cX12_next 112 = .ok (.isub, 1) := by decide +kernel
theorem dX12_next_113 : decode cX12_next 113 = .ok (.bipush 6, 2) := by decide +kernel
theorem dX12_next_115 : decode cX12_next 115 = .ok (.if_icmp .ge 23, 3) := by decide +kernel
theorem dX12_next_118 : decode cX12_next 118 = .ok (.aload_n 0, 1) := by decide +kernel
theorem dX12_next_119 : decode cX12_next 119 = .ok (.getfield 219, 3) := by decide +kernel
theorem dX12_next_122 : decode cX12_next 122 = .ok (.ldc2_w 229, 3) := by decide +kernel
theorem dX12_next_125 : decode cX12_next 125 = .ok (.lmul, 1) := by decide +kernel
theorem dX12_next_126 : decode cX12_next 126 = .ok (.aload_n 0, 1) := by decide +kernel
theorem dX12_next_127 : decode cX12_next 127 = .ok (.invokevirtual 210, 3) := by decide +kernel
theorem dX12_next_130 : decode cX12_next 130 = .ok (.bipush 96, 2) := by decide +kernel
theorem dX12_next_132 : decode cX12_next 132 = .ok (.isub, 1) := by decide +kernel
theorem dX12_next_133 : decode cX12_next 133 = .ok (.i2l, 1) := by decide +kernel
theorem dX12_next_134 : decode cX12_next 134 = .ok (.ladd, 1) := by decide +kernel
theorem dX12_next_135 : decode cX12_next 135 = .ok (.goto 6, 3) := by decide +kernel
theorem dX12_next_138 : decode cX12_next 138 = .ok (.ldc2_w 217, 3) := by decide +kernel
theorem dX12_next_141 : decode cX12_next 141 = .ok (.putfield 219, 3) := by decide +kernel
theorem dX12_next_144 : decode cX12_next 144 = .ok (.aload_n 0, 1) := by decide +kernel
theorem dX12_next_145 : decode cX12_next 145 = .ok (.dup, 1) := by decide +kernel
theorem dX12_next_146 : decode cX12_next 146 = .ok (.getfield 204, 3) := by decide +kernel
theorem dX12_next_149 : decode cX12_next 149 = .ok (.iconst 1, 1) := by decide +kernel
theorem dX12_next_150 : decode cX12_next 150 = .ok (.iadd, 1) := by decide +kernel
theorem dX12_next_151 : decode cX12_next 151 = .ok (.putfield 204, 3) := by decide +kernel
theorem dX12_next_154 : decode cX12_next 154 = .ok (.goto (-65), 3) := by decide +kernel
theorem dX12_next_157 : decode cX12_next 157 = .ok (.iload_n 1, 1) := by decide +kernel
theorem dX12_next_158 : decode cX12_next 158 = .ok (.bipush 48, 2) := by decide +kernel
theorem dX12_next_160 : decode cX12_next 160 = .ok (.bipush 57, 2) := by decide +kernel
theorem dX12_next_162 : decode cX12_next 162 = .ok (.invokestatic 168, 3) := by decide +kernel
theorem dX12_next_165 : decode cX12_next 165 = .ok (.ifCond .eq 83, 3) := by decide +kernel
theorem dX12_next_168 : decode cX12_next 168 = .ok (.aload_n 0, 1) := by decide +kernel
theorem dX12_next_169 : decode cX12_next 169 = .ok (.invokevirtual 210, 3) := by decide +kernel
theorem dX12_next_172 : decode cX12_next 172 = .ok (.bipush 48, 2) := by decide +kernel
theorem dX12_next_174 : decode cX12_next 174 = .ok (.bipush 57, 2) := by decide +kernel
theorem dX12_next_176 : decode cX12_next 176 = .ok (.invokestatic 168, 3) := by decide +kernel
theorem dX12_next_179 : decode cX12_next 179 = .ok (.ifCond .eq 44, 3) := by decide +kernel
theorem dX12_next_182 : decode cX12_next 182 = .ok (.aload_n 0, 1) := by decide +kernel
theorem dX12_next_183 : decode cX12_next 183 = .ok (.getfield 223, 3) := by decide +kernel
theorem dX12_next_186 : decode cX12_next 186 = .ok (.ldc 231, 2) := by decide +kernel
theorem dX12_next_188 : decode cX12_next 188 = .ok (.if_icmp .ge 22, 3) := by decide +kernel
theorem dX12_next_191 : decode cX12_next 191 = .ok (.aload_n 0, 1) := by decide +kernel
theorem dX12_next_192 : decode cX12_next 192 = .ok (.bipush 10, 2) := by decide +kernel
theorem dX12_next_194 : decode cX12_next 194 = .ok (.aload_n 0, 1) := by decide +kernel
theorem dX12_next_195 : decode cX12_next 195 = .ok (.getfield 223, 3) := by decide +kernel
theorem dX12_next_198 : decode cX12_next 198 = .ok (.imul, 1) := by decide +kernel
theorem dX12_next_199 : decode cX12_next 199 = .ok (.aload_n 0, 1) := by decide +kernel
theorem dX12_next_200 : decode cX12_next 200 = .ok (.invokevirtual 210, 3) := by decide +kernel
theorem dX12_next_203 : decode cX12_next 203 = .ok (.iadd, 1) := by decide +kernel
theorem dX12_next_204 : decode cX12_next 204 = .ok (.bipush 48, 2) := by decide +kernel
theorem dX12_next_206 : decode cX12_next 206 = .ok (.isub, 1) := by decide +kernel
theorem dX12_next_207 : decode cX12_next 207 = .ok (.putfield 223, 3) := by decide +kernel
theorem dX12_next_210 : decode cX12_next 210 = .ok (.aload_n 0, 1) := by decide +kernel
theorem dX12_next_211 : decode cX12_next 211 = .ok (.dup, 1) := by decide +kernel
theorem dX12_next_212 : decode cX12_next 212 = .ok (.getfield 204, 3) := by decide +kernel
theorem dX12_next_215 : decode cX12_next 215 = .ok (.iconst 1, 1) := by decide +kernel
theorem dX12_next_216 : decode cX12_next 216 = .ok (.iadd, 1) := by decide +kernel
theorem dX12_next_217 : decode cX12_next 217 = .ok (.putfield 204, 3) := by decide +kernel
theorem dX12_next_220 : decode cX12_next 220 = .ok (.goto (-52), 3) := by decide +kernel
theorem dX12_next_223 : decode cX12_next 223 = .ok (.aload_n 0, 1) := by decide +kernel
theorem dX12_next_224 : decode cX12_next 224 = .ok (.aload_n 0, 1) := by decide +kernel
theorem dX12_next_225 : decode cX12_next 225 = .ok (.getfield 204, 3) := by decide +kernel
theorem dX12_next_228 : decode cX12_next 228 = .ok (.aload_n 0, 1) := by decide +kernel
theorem dX12_next_229 : decode cX12_next 229 = .ok (.getfield 214, 3) := by decide +kernel
theorem dX12_next_232 : decode cX12_next 232 = .ok (.isub, 1) := by decide +kernel
theorem dX12_next_233 : decode cX12_next 233 = .ok (.iconst 4, 1) := by decide +kernel
theorem dX12_next_234 : decode cX12_next 234 = .ok (.if_icmp .gt 7, 3) := by decide +kernel
theorem dX12_next_237 : decode cX12_next 237 = .ok (.iconst 2, 1) := by decide +kernel
theorem dX12_next_238 : decode cX12_next 238 = .ok (.goto 4, 3) := by decide +kernel
theorem dX12_next_241 : decode cX12_next 241 = .ok (.iconst 3, 1) := by decide +kernel
theorem dX12_next_242 : decode cX12_next 242 = .ok (.putfield 226, 3) := by decide +kernel
theorem dX12_next_245 : decode cX12_next 245 = .ok (.goto 58, 3) := by decide +kernel
theorem dX12_next_248 : decode cX12_next 248 = .ok (.aload_n 0, 1) := by decide +kernel
theorem dX12_next_249 : decode cX12_next 249 = .ok (.iload_n 1, 1) := by decide +kernel
theorem dX12_next_250 : decode cX12_next 250 = .ok (.bipush 59, 2) := by decide +kernel
theorem dX12_next_252 : decode cX12_next 252 = .ok (.if_icmp .eq 33, 3) := by decide +kernel
theorem dX12_next_255 : decode cX12_next 255 = .ok (.iload_n 1, 1) := by decide +kernel
theorem dX12_next_256 : decode cX12_next 256 = .ok (.bipush 40, 2) := by decide +kernel
theorem dX12_next_258 : decode cX12_next 258 = .ok (.if_icmp .eq 27, 3) := by decide +kernel
theorem dX12_next_261 : decode cX12_next 261 = .ok (.iload_n 1, 1) := by decide +kernel
theorem dX12_next_262 : decode cX12_next 262 = .ok (.bipush 41, 2) := by decide +kernel
theorem dX12_next_264 : decode cX12_next 264 = .ok (.if_icmp .eq 21, 3) := by decide +kernel
theorem dX12_next_267 : decode cX12_next 267 = .ok (.iload_n 1, 1) := by decide +kernel
theorem dX12_next_268 : decode cX12_next 268 = .ok (.bipush 60, 2) := by decide +kernel
theorem dX12_next_270 : decode cX12_next 270 = .ok (.if_icmp .eq 15, 3) := by decide +kernel
theorem dX12_next_273 : decode cX12_next 273 = .ok (.iload_n 1, 1) := by decide +kernel
theorem dX12_next_274 : decode cX12_next 274 = .ok (.bipush 61, 2) := by decide +kernel
theorem dX12_next_276 : decode cX12_next 276 = .ok (.if_icmp .eq 9, 3) := by decide +kernel
theorem dX12_next_279 : decode cX12_next 279 = .ok (.iload_n 1, 1) := by decide +kernel
theorem dX12_next_280 : decode cX12_next 280 = .ok (.bipush 62, 2) := by decide +kernel
theorem dX12_next_282 : decode cX12_next 282 = .ok (.if_icmp .ne 7, 3) := by decide +kernel
theorem dX12_next_285 : decode cX12_next 285 = .ok (.iload_n 1, 1) := by decide +kernel
theorem dX12_next_286 : decode cX12_next 286 = .ok (.goto 4, 3) := by decide +kernel
theorem dX12_next_289 : decode cX12_next 289 = .ok (.iconst 3, 1) := by decide +kernel
theorem dX12_next_290 : decode cX12_next 290 = .ok (.putfield 226, 3) := by decide +kernel
theorem dX12_next_293 : decode cX12_next 293 = .ok (.aload_n 0, 1) := by decide +kernel
theorem dX12_next_294 : decode cX12_next 294 = .ok (.dup, 1) := by decide +kernel
theorem dX12_next_295 : decode cX12_next 295 = .ok (.getfield 204, 3) := by decide +kernel
theorem dX12_next_298 : decode cX12_next 298 = .ok (.iconst 1, 1) := by decide +kernel
theorem dX12_next_299 : decode cX12_next 299 = .ok (.iadd, 1) := by decide +kernel
theorem dX12_next_300 : decode cX12_next 300 = .ok (.putfield 204, 3) := by decide +kernel
theorem dX12_next_303 : decode cX12_next 303 = .ok (.return_, 1) := by decide +kernel
theorem dX12_errs_0 : decode cX12_errs 0 = .ok (.aload_n 0, 1) := by decide +kernel
theorem dX12_errs_1 : decode cX12_errs 1 = .ok (.getfield 232, 3) := by decide +kernel
theorem dX12_errs_4 : decode cX12_errs 4 = .ok (.ifCond .eq 4, 3) := by decide +kernel
theorem dX12_errs_7 : decode cX12_errs 7 = .ok (.return_, 1) := by decide +kernel
theorem dX12_errs_8 : decode cX12_errs 8 = .ok (.aload_n 0, 1) := by decide +kernel
theorem dX12_errs_9 : decode cX12_errs 9 = .ok (.iconst 1, 1) := by decide +kernel
theorem dX12_errs_10 : decode cX12_errs 10 = .ok (.putfield 232, 3) := by decide +kernel
theorem dX12_errs_13 : decode cX12_errs 13 = .ok (.aload_n 0, 1) := by decide +kernel
theorem dX12_errs_14 : decode cX12_errs 14 = .ok (.aload_n 0, 1) := by decide +kernel
theorem dX12_errs_15 : decode cX12_errs 15 = .ok (.getfield 214, 3) := by decide +kernel
theorem dX12_errs_18 : decode cX12_errs 18 = .ok (.putfield 94, 3) := by decide +kernel
theorem dX12_errs_21 : decode cX12_errs 21 = .ok (.return_, 1) := by decide +kernel
theorem dX12_is_0 : decode cX12_is 0 = .ok (.aload_n 0, 1) := by decide +kernel
theorem dX12_is_1 : decode cX12_is 1 = .ok (.getfield 232, 3) := by decide +kernel
theorem dX12_is_4 : decode cX12_is 4 = .ok (.ifCond .ne 24, 3) := by decide +kernel
theorem dX12_is_7 : decode cX12_is 7 = .ok (.aload_n 0, 1) := by decide +kernel
theorem dX12_is_8 : decode cX12_is 8 = .ok (.getfield 226, 3) := by decide +kernel
theorem dX12_is_11 : decode cX12_is 11 = .ok (.iconst 1, 1) := by decide +kernel
theorem dX12_is_12 : decode cX12_is 12 = .ok (.if_icmp .ne 16, 3) := by decide +kernel
theorem dX12_is_15 : decode cX12_is 15 = .ok (.aload_n 0, 1) := by decide +kernel
theorem dX12_is_16 : decode cX12_is 16 = .ok (.getfield 219, 3) := by decide +kernel
theorem dX12_is_19 : decode cX12_is 19 = .ok (.lload_n 1, 1) := by decide +kernel
theorem dX12_is_20 : decode cX12_is 20 = .ok (.lcmp, 1) := by decide +kernel
theorem dX12_is_21 : decode cX12_is 21 = .ok (.ifCond .ne 7, 3) := by decide +kernel
theorem dX12_is_24 : decode cX12_is 24 = .ok (.iconst 1, 1) := by decide +kernel
theorem dX12_is_25 : decode cX12_is 25 = .ok (.goto 4, 3) := by decide +kernel
theorem dX12_is_28 : decode cX12_is 28 = .ok (.iconst 0, 1) := by decide +kernel
theorem dX12_is_29 : decode cX12_is 29 = .ok (.ireturn, 1) := by decide +kernel
theorem dX12_mustBe_0 : decode cX12_mustBe 0 = .ok (.aload_n 0, 1) := by decide +kernel
theorem dX12_mustBe_1 : decode cX12_mustBe 1 = .ok (.lload_n 1, 1) := by decide +kernel
theorem dX12_mustBe_2 : decode cX12_mustBe 2 = .ok (.invokevirtual 236, 3) := by decide +kernel
theorem dX12_mustBe_5 : decode cX12_mustBe 5 = .ok (.ifCond .eq 10, 3) := by decide +kernel
theorem dX12_mustBe_8 : decode cX12_mustBe 8 = .ok (.aload_n 0, 1) := by decide +kernel
theorem dX12_mustBe_9 : decode cX12_mustBe 9 = .ok (.invokevirtual 240, 3) := by decide +kernel
theorem dX12_mustBe_12 : decode cX12_mustBe 12 = .ok (.goto 7, 3) := by decide +kernel
theorem dX12_mustBe_15 : decode cX12_mustBe 15 = .ok (.aload_n 0, 1) := by decide +kernel
theorem dX12_mustBe_16 : decode cX12_mustBe 16 = .ok (.invokevirtual 243, 3) := by decide +kernel
theorem dX12_mustBe_19 : decode cX12_mustBe 19 = .ok (.return_, 1) := by decide +kernel
theorem dX12_numeral_0 : decode cX12_numeral 0 = .ok (.aload_n 0, 1) := by decide +kernel
theorem dX12_numeral_1 : decode cX12_numeral 1 = .ok (.getfield 223, 3) := by decide +kernel
theorem dX12_numeral_4 : decode cX12_numeral 4 = .ok (.istore_n 2, 1) := by decide +kernel
theorem dX12_numeral_5 : decode cX12_numeral 5 = .ok (.aload_n 0, 1) := by decide +kernel
theorem dX12_numeral_6 : decode cX12_numeral 6 = .ok (.getfield 232, 3) := by decide +kernel
theorem dX12_numeral_9 : decode cX12_numeral 9 = .ok (.ifCond .eq 5, 3) := by decide +kernel
theorem dX12_numeral_12 : decode cX12_numeral 12 = .ok (.iconst 0, 1) := by decide +kernel
theorem dX12_numeral_13 : decode cX12_numeral 13 = .ok (.ireturn, 1) := by decide +kernel
theorem dX12_numeral_14 : decode cX12_numeral 14 = .ok (.aload_n 0, 1) := by decide +kernel
theorem dX12_numeral_15 : decode cX12_numeral 15 = .ok (.getfield 226, 3) := by decide +kernel
theorem dX12_numeral_18 : decode cX12_numeral 18 = .ok (.iconst 2, 1) := by decide +kernel
theorem dX12_numeral_19 : decode cX12_numeral 19 = .ok (.if_icmp .ne 8, 3) := by decide +kernel
theorem dX12_numeral_22 : decode cX12_numeral 22 = .ok (.iload_n 2, 1) := by decide +kernel
theorem dX12_numeral_23 : decode cX12_numeral 23 = .ok (.iload_n 1, 1) := by decide +kernel
theorem dX12_numeral_24 : decode cX12_numeral 24 = .ok (.if_icmp .le 9, 3) := by decide +kernel
theorem dX12_numeral_27 : decode cX12_numeral 27 = .ok (.aload_n 0, 1) := by decide +kernel
theorem dX12_numeral_28 : decode cX12_numeral 28 = .ok (.invokevirtual 243, 3) := by decide +kernel
theorem dX12_numeral_31 : decode cX12_numeral 31 = .ok (.iconst 0, 1) := by decide +kernel
theorem dX12_numeral_32 : decode cX12_numeral 32 = .ok (.ireturn, 1) := by decide +kernel
theorem dX12_numeral_33 : decode cX12_numeral 33 = .ok (.aload_n 0, 1) := by decide +kernel
theorem dX12_numeral_34 : decode cX12_numeral 34 = .ok (.invokevirtual 240, 3) := by decide +kernel
theorem dX12_numeral_37 : decode cX12_numeral 37 = .ok (.iload_n 2, 1) := by decide +kernel
theorem dX12_numeral_38 : decode cX12_numeral 38 = .ok (.ireturn, 1) := by decide +kernel
theorem dX12_asked_0 : decode cX12_asked 0 = .ok (.aload_n 0, 1) := by decide +kernel
theorem dX12_asked_1 : decode cX12_asked 1 = .ok (.ldc2_w 246, 3) := by decide +kernel
theorem dX12_asked_4 : decode cX12_asked 4 = .ok (.invokevirtual 236, 3) := by decide +kernel
theorem dX12_asked_7 : decode cX12_asked 7 = .ok (.ifCond .eq 5, 3) := by decide +kernel
theorem dX12_asked_10 : decode cX12_asked 10 = .ok (.iconst 0, 1) := by decide +kernel
theorem dX12_asked_11 : decode cX12_asked 11 = .ok (.ireturn, 1) := by decide +kernel
theorem dX12_asked_12 : decode cX12_asked 12 = .ok (.aload_n 0, 1) := by decide +kernel
theorem dX12_asked_13 : decode cX12_asked 13 = .ok (.ldc2_w 248, 3) := by decide +kernel
theorem dX12_asked_16 : decode cX12_asked 16 = .ok (.invokevirtual 236, 3) := by decide +kernel
theorem dX12_asked_19 : decode cX12_asked 19 = .ok (.ifCond .eq 5, 3) := by decide +kernel
theorem dX12_asked_22 : decode cX12_asked 22 = .ok (.iconst 2, 1) := by decide +kernel
theorem dX12_asked_23 : decode cX12_asked 23 = .ok (.ireturn, 1) := by decide +kernel
theorem dX12_asked_24 : decode cX12_asked 24 = .ok (.iload_n 1, 1) := by decide +kernel
theorem dX12_asked_25 : decode cX12_asked 25 = .ok (.ifCond .eq 19, 3) := by decide +kernel
theorem dX12_asked_28 : decode cX12_asked 28 = .ok (.aload_n 0, 1) := by decide +kernel
theorem dX12_asked_29 : decode cX12_asked 29 = .ok (.ldc2_w 250, 3) := by decide +kernel
theorem dX12_asked_32 : decode cX12_asked 32 = .ok (.invokevirtual 236, 3) := by decide +kernel
theorem dX12_asked_35 : decode cX12_asked 35 = .ok (.ifCond .eq 7, 3) := by decide +kernel
theorem dX12_asked_38 : decode cX12_asked 38 = .ok (.iconst 1, 1) := by decide +kernel
theorem dX12_asked_39 : decode cX12_asked 39 = .ok (.goto 4, 3) := by decide +kernel
theorem dX12_asked_42 : decode cX12_asked 42 = .ok (.iconst (-1), 1) := by decide +kernel
theorem dX12_asked_43 : decode cX12_asked 43 = .ok (.ireturn, 1) := by decide +kernel
theorem dX12_asked_44 : decode cX12_asked 44 = .ok (.aload_n 0, 1) := by decide +kernel
theorem dX12_asked_45 : decode cX12_asked 45 = .ok (.ldc2_w 252, 3) := by decide +kernel
theorem dX12_asked_48 : decode cX12_asked 48 = .ok (.invokevirtual 236, 3) := by decide +kernel
theorem dX12_asked_51 : decode cX12_asked 51 = .ok (.ifCond .eq 7, 3) := by decide +kernel
theorem dX12_asked_54 : decode cX12_asked 54 = .ok (.iconst 1, 1) := by decide +kernel
theorem dX12_asked_55 : decode cX12_asked 55 = .ok (.goto 18, 3) := by decide +kernel
theorem dX12_asked_58 : decode cX12_asked 58 = .ok (.aload_n 0, 1) := by decide +kernel
theorem dX12_asked_59 : decode cX12_asked 59 = .ok (.ldc2_w 254, 3) := by decide +kernel
theorem dX12_asked_62 : decode cX12_asked 62 = .ok (.invokevirtual 236, 3) := by decide +kernel
theorem dX12_asked_65 : decode cX12_asked 65 = .ok (.ifCond .eq 7, 3) := by decide +kernel
theorem dX12_asked_68 : decode cX12_asked 68 = .ok (.iconst 3, 1) := by decide +kernel
theorem dX12_asked_69 : decode cX12_asked 69 = .ok (.goto 4, 3) := by decide +kernel
theorem dX12_asked_72 : decode cX12_asked 72 = .ok (.iconst (-1), 1) := by decide +kernel
theorem dX12_asked_73 : decode cX12_asked 73 = .ok (.ireturn, 1) := by decide +kernel
theorem dX12_adds_0 : decode cX12_adds 0 = .ok (.aload_n 0, 1) := by decide +kernel
theorem dX12_adds_1 : decode cX12_adds 1 = .ok (.getfield 84, 3) := by decide +kernel
theorem dX12_adds_4 : decode cX12_adds 4 = .ok (.sipush 320, 3) := by decide +kernel
theorem dX12_adds_7 : decode cX12_adds 7 = .ok (.aload_n 0, 1) := by decide +kernel
theorem dX12_adds_8 : decode cX12_adds 8 = .ok (.getfield 256, 3) := by decide +kernel
theorem dX12_adds_11 : decode cX12_adds 11 = .ok (.imul, 1) := by decide +kernel
theorem dX12_adds_12 : decode cX12_adds 12 = .ok (.aload_n 0, 1) := by decide +kernel
theorem dX12_adds_13 : decode cX12_adds 13 = .ok (.getfield 259, 3) := by decide +kernel
theorem dX12_adds_16 : decode cX12_adds 16 = .ok (.iadd, 1) := by decide +kernel
theorem dX12_adds_17 : decode cX12_adds 17 = .ok (.iload_n 1, 1) := by decide +kernel
theorem dX12_adds_18 : decode cX12_adds 18 = .ok (.iastore, 1) := by decide +kernel
theorem dX12_adds_19 : decode cX12_adds 19 = .ok (.aload_n 0, 1) := by decide +kernel
theorem dX12_adds_20 : decode cX12_adds 20 = .ok (.getfield 87, 3) := by decide +kernel
theorem dX12_adds_23 : decode cX12_adds 23 = .ok (.sipush 320, 3) := by decide +kernel
theorem dX12_adds_26 : decode cX12_adds 26 = .ok (.aload_n 0, 1) := by decide +kernel
theorem dX12_adds_27 : decode cX12_adds 27 = .ok (.getfield 256, 3) := by decide +kernel
theorem dX12_adds_30 : decode cX12_adds 30 = .ok (.imul, 1) := by decide +kernel
theorem dX12_adds_31 : decode cX12_adds 31 = .ok (.aload_n 0, 1) := by decide +kernel
theorem dX12_adds_32 : decode cX12_adds 32 = .ok (.getfield 259, 3) := by decide +kernel
theorem dX12_adds_35 : decode cX12_adds 35 = .ok (.iadd, 1) := by decide +kernel
theorem dX12_adds_36 : decode cX12_adds 36 = .ok (.iload_n 2, 1) := by decide +kernel
theorem dX12_adds_37 : decode cX12_adds 37 = .ok (.iastore, 1) := by decide +kernel
theorem dX12_adds_38 : decode cX12_adds 38 = .ok (.aload_n 0, 1) := by decide +kernel
theorem dX12_adds_39 : decode cX12_adds 39 = .ok (.dup, 1) := by decide +kernel
theorem dX12_adds_40 : decode cX12_adds 40 = .ok (.getfield 259, 3) := by decide +kernel
theorem dX12_adds_43 : decode cX12_adds 43 = .ok (.iconst 1, 1) := by decide +kernel
theorem dX12_adds_44 : decode cX12_adds 44 = .ok (.iadd, 1) := by decide +kernel
theorem dX12_adds_45 : decode cX12_adds 45 = .ok (.putfield 259, 3) := by decide +kernel
theorem dX12_adds_48 : decode cX12_adds 48 = .ok (.return_, 1) := by decide +kernel
theorem dX12_opens_0 : decode cX12_opens 0 = .ok (.aload_n 0, 1) := by decide +kernel
theorem dX12_opens_1 : decode cX12_opens 1 = .ok (.getfield 232, 3) := by decide +kernel
theorem dX12_opens_4 : decode cX12_opens 4 = .ok (.ifCond .eq 4, 3) := by decide +kernel
theorem dX12_opens_7 : decode cX12_opens 7 = .ok (.return_, 1) := by decide +kernel
theorem dX12_opens_8 : decode cX12_opens 8 = .ok (.aload_n 0, 1) := by decide +kernel
theorem dX12_opens_9 : decode cX12_opens 9 = .ok (.getfield 262, 3) := by decide +kernel
theorem dX12_opens_12 : decode cX12_opens 12 = .ok (.bipush 9, 2) := by decide +kernel
theorem dX12_opens_14 : decode cX12_opens 14 = .ok (.if_icmp .ne 8, 3) := by decide +kernel
theorem dX12_opens_17 : decode cX12_opens 17 = .ok (.aload_n 0, 1) := by decide +kernel
theorem dX12_opens_18 : decode cX12_opens 18 = .ok (.invokevirtual 243, 3) := by decide +kernel
theorem dX12_opens_21 : decode cX12_opens 21 = .ok (.return_, 1) := by decide +kernel
theorem dX12_opens_22 : decode cX12_opens 22 = .ok (.aload_n 0, 1) := by decide +kernel
theorem dX12_opens_23 : decode cX12_opens 23 = .ok (.dup, 1) := by decide +kernel
theorem dX12_opens_24 : decode cX12_opens 24 = .ok (.getfield 262, 3) := by decide +kernel
theorem dX12_opens_27 : decode cX12_opens 27 = .ok (.iconst 1, 1) := by decide +kernel
theorem dX12_opens_28 : decode cX12_opens 28 = .ok (.iadd, 1) := by decide +kernel
theorem dX12_opens_29 : decode cX12_opens 29 = .ok (.putfield 262, 3) := by decide +kernel
theorem dX12_opens_32 : decode cX12_opens 32 = .ok (.aload_n 0, 1) := by decide +kernel
theorem dX12_opens_33 : decode cX12_opens 33 = .ok (.getfield 97, 3) := by decide +kernel
theorem dX12_opens_36 : decode cX12_opens 36 = .ok (.aload_n 0, 1) := by decide +kernel
theorem dX12_opens_37 : decode cX12_opens 37 = .ok (.getfield 265, 3) := by decide +kernel
theorem dX12_opens_40 : decode cX12_opens 40 = .ok (.iload_n 1, 1) := by decide +kernel
theorem dX12_opens_41 : decode cX12_opens 41 = .ok (.iastore, 1) := by decide +kernel
theorem dX12_opens_42 : decode cX12_opens 42 = .ok (.aload_n 0, 1) := by decide +kernel
theorem dX12_opens_43 : decode cX12_opens 43 = .ok (.dup, 1) := by decide +kernel
theorem dX12_opens_44 : decode cX12_opens 44 = .ok (.getfield 265, 3) := by decide +kernel
theorem dX12_opens_47 : decode cX12_opens 47 = .ok (.iconst 1, 1) := by decide +kernel
theorem dX12_opens_48 : decode cX12_opens 48 = .ok (.iadd, 1) := by decide +kernel
theorem dX12_opens_49 : decode cX12_opens 49 = .ok (.putfield 265, 3) := by decide +kernel
theorem dX12_opens_52 : decode cX12_opens 52 = .ok (.aload_n 0, 1) := by decide +kernel
theorem dX12_opens_53 : decode cX12_opens 53 = .ok (.invokevirtual 240, 3) := by decide +kernel
theorem dX12_opens_56 : decode cX12_opens 56 = .ok (.return_, 1) := by decide +kernel
theorem dX12_comes_0 : decode cX12_comes 0 = .ok (.aload_n 0, 1) := by decide +kernel
theorem dX12_comes_1 : decode cX12_comes 1 = .ok (.getfield 265, 3) := by decide +kernel
theorem dX12_comes_4 : decode cX12_comes 4 = .ok (.ifCond .le 73, 3) := by decide +kernel
theorem dX12_comes_7 : decode cX12_comes 7 = .ok (.aload_n 0, 1) := by decide +kernel
theorem dX12_comes_8 : decode cX12_comes 8 = .ok (.getfield 97, 3) := by decide +kernel
theorem dX12_comes_11 : decode cX12_comes 11 = .ok (.aload_n 0, 1) := by decide +kernel
theorem dX12_comes_12 : decode cX12_comes 12 = .ok (.getfield 265, 3) := by decide +kernel
theorem dX12_comes_15 : decode cX12_comes 15 = .ok (.iconst 1, 1) := by decide +kernel
theorem dX12_comes_16 : decode cX12_comes 16 = .ok (.isub, 1) := by decide +kernel
theorem dX12_comes_17 : decode cX12_comes 17 = .ok (.iaload, 1) := by decide +kernel
theorem dX12_comes_18 : decode cX12_comes 18 = .ok (.iload_n 1, 1) := by decide +kernel
theorem dX12_comes_19 : decode cX12_comes 19 = .ok (.iload_n 2, 1) := by decide +kernel
theorem dX12_comes_20 : decode cX12_comes 20 = .ok (.invokestatic 168, 3) := by decide +kernel
theorem dX12_comes_23 : decode cX12_comes 23 = .ok (.ifCond .eq 54, 3) := by decide +kernel
theorem dX12_comes_26 : decode cX12_comes 26 = .ok (.aload_n 0, 1) := by decide +kernel
theorem dX12_comes_27 : decode cX12_comes 27 = .ok (.dup, 1) := by decide +kernel
theorem dX12_comes_28 : decode cX12_comes 28 = .ok (.getfield 265, 3) := by decide +kernel
theorem dX12_comes_31 : decode cX12_comes 31 = .ok (.iconst 1, 1) := by decide +kernel
theorem dX12_comes_32 : decode cX12_comes 32 = .ok (.isub, 1) := by decide +kernel
theorem dX12_comes_33 : decode cX12_comes 33 = .ok (.putfield 265, 3) := by decide +kernel
theorem dX12_comes_36 : decode cX12_comes 36 = .ok (.aload_n 0, 1) := by decide +kernel
theorem dX12_comes_37 : decode cX12_comes 37 = .ok (.getfield 97, 3) := by decide +kernel
theorem dX12_comes_40 : decode cX12_comes 40 = .ok (.aload_n 0, 1) := by decide +kernel
theorem dX12_comes_41 : decode cX12_comes 41 = .ok (.getfield 265, 3) := by decide +kernel
theorem dX12_comes_44 : decode cX12_comes 44 = .ok (.iaload, 1) := by decide +kernel
theorem dX12_comes_45 : decode cX12_comes 45 = .ok (.bipush 20, 2) := by decide +kernel
theorem dX12_comes_47 : decode cX12_comes 47 = .ok (.if_icmp .ne 13, 3) := by decide +kernel
theorem dX12_comes_50 : decode cX12_comes 50 = .ok (.aload_n 0, 1) := by decide +kernel
theorem dX12_comes_51 : decode cX12_comes 51 = .ok (.dup, 1) := by decide +kernel
theorem dX12_comes_52 : decode cX12_comes 52 = .ok (.getfield 262, 3) := by decide +kernel
theorem dX12_comes_55 : decode cX12_comes 55 = .ok (.iconst 1, 1) := by decide +kernel
theorem dX12_comes_56 : decode cX12_comes 56 = .ok (.isub, 1) := by decide +kernel
theorem dX12_comes_57 : decode cX12_comes 57 = .ok (.putfield 262, 3) := by decide +kernel
theorem dX12_comes_60 : decode cX12_comes 60 = .ok (.aload_n 0, 1) := by decide +kernel
theorem dX12_comes_61 : decode cX12_comes 61 = .ok (.aload_n 0, 1) := by decide +kernel
theorem dX12_comes_62 : decode cX12_comes 62 = .ok (.getfield 97, 3) := by decide +kernel
theorem dX12_comes_65 : decode cX12_comes 65 = .ok (.aload_n 0, 1) := by decide +kernel
theorem dX12_comes_66 : decode cX12_comes 66 = .ok (.getfield 265, 3) := by decide +kernel
theorem dX12_comes_69 : decode cX12_comes 69 = .ok (.iaload, 1) := by decide +kernel
theorem dX12_comes_70 : decode cX12_comes 70 = .ok (.iconst 0, 1) := by decide +kernel
theorem dX12_comes_71 : decode cX12_comes 71 = .ok (.invokevirtual 268, 3) := by decide +kernel
theorem dX12_comes_74 : decode cX12_comes 74 = .ok (.goto (-74), 3) := by decide +kernel
theorem dX12_comes_77 : decode cX12_comes 77 = .ok (.return_, 1) := by decide +kernel
theorem dX12_test_0 : decode cX12_test 0 = .ok (.aload_n 0, 1) := by decide +kernel
theorem dX12_test_1 : decode cX12_test 1 = .ok (.iload_n 1, 1) := by decide +kernel
theorem dX12_test_2 : decode cX12_test 2 = .ok (.invokevirtual 272, 3) := by decide +kernel
theorem dX12_test_5 : decode cX12_test 5 = .ok (.istore_n 2, 1) := by decide +kernel
theorem dX12_test_6 : decode cX12_test 6 = .ok (.iload_n 2, 1) := by decide +kernel
theorem dX12_test_7 : decode cX12_test 7 = .ok (.ifCond .ge 8, 3) := by decide +kernel
theorem dX12_test_10 : decode cX12_test 10 = .ok (.aload_n 0, 1) := by decide +kernel
theorem dX12_test_11 : decode cX12_test 11 = .ok (.invokevirtual 243, 3) := by decide +kernel
theorem dX12_test_14 : decode cX12_test 14 = .ok (.return_, 1) := by decide +kernel
theorem dX12_test_15 : decode cX12_test 15 = .ok (.aload_n 0, 1) := by decide +kernel
theorem dX12_test_16 : decode cX12_test 16 = .ok (.invokevirtual 240, 3) := by decide +kernel
theorem dX12_test_19 : decode cX12_test 19 = .ok (.aload_n 0, 1) := by decide +kernel
theorem dX12_test_20 : decode cX12_test 20 = .ok (.getfield 226, 3) := by decide +kernel
theorem dX12_test_23 : decode cX12_test 23 = .ok (.bipush 60, 2) := by decide +kernel
theorem dX12_test_25 : decode cX12_test 25 = .ok (.if_icmp .ne 7, 3) := by decide +kernel
theorem dX12_test_28 : decode cX12_test 28 = .ok (.iconst 0, 1) := by decide +kernel
theorem dX12_test_29 : decode cX12_test 29 = .ok (.goto 30, 3) := by decide +kernel
theorem dX12_test_32 : decode cX12_test 32 = .ok (.aload_n 0, 1) := by decide +kernel
theorem dX12_test_33 : decode cX12_test 33 = .ok (.getfield 226, 3) := by decide +kernel
theorem dX12_test_36 : decode cX12_test 36 = .ok (.bipush 62, 2) := by decide +kernel
theorem dX12_test_38 : decode cX12_test 38 = .ok (.if_icmp .ne 7, 3) := by decide +kernel
theorem dX12_test_41 : decode cX12_test 41 = .ok (.iconst 1, 1) := by decide +kernel
theorem dX12_test_42 : decode cX12_test 42 = .ok (.goto 17, 3) := by decide +kernel
theorem dX12_test_45 : decode cX12_test 45 = .ok (.aload_n 0, 1) := by decide +kernel
theorem dX12_test_46 : decode cX12_test 46 = .ok (.getfield 226, 3) := by decide +kernel
theorem dX12_test_49 : decode cX12_test 49 = .ok (.bipush 61, 2) := by decide +kernel
theorem dX12_test_51 : decode cX12_test 51 = .ok (.if_icmp .ne 7, 3) := by decide +kernel
theorem dX12_test_54 : decode cX12_test 54 = .ok (.iconst 2, 1) := by decide +kernel
theorem dX12_test_55 : decode cX12_test 55 = .ok (.goto 4, 3) := by decide +kernel
theorem dX12_test_58 : decode cX12_test 58 = .ok (.iconst (-1), 1) := by decide +kernel
theorem dX12_test_59 : decode cX12_test 59 = .ok (.istore_n 3, 1) := by decide +kernel
theorem dX12_test_60 : decode cX12_test 60 = .ok (.iload_n 3, 1) := by decide +kernel
theorem dX12_test_61 : decode cX12_test 61 = .ok (.ifCond .ge 8, 3) := by decide +kernel
theorem dX12_test_64 : decode cX12_test 64 = .ok (.aload_n 0, 1) := by decide +kernel
theorem dX12_test_65 : decode cX12_test 65 = .ok (.invokevirtual 243, 3) := by decide +kernel
theorem dX12_test_68 : decode cX12_test 68 = .ok (.return_, 1) := by decide +kernel
theorem dX12_test_69 : decode cX12_test 69 = .ok (.aload_n 0, 1) := by decide +kernel
theorem dX12_test_70 : decode cX12_test 70 = .ok (.invokevirtual 240, 3) := by decide +kernel
theorem dX12_test_73 : decode cX12_test 73 = .ok (.aload_n 0, 1) := by decide +kernel
theorem dX12_test_74 : decode cX12_test 74 = .ok (.iconst 4, 1) := by decide +kernel
theorem dX12_test_75 : decode cX12_test 75 = .ok (.iload_n 2, 1) := by decide +kernel
theorem dX12_test_76 : decode cX12_test 76 = .ok (.imul, 1) := by decide +kernel
theorem dX12_test_77 : decode cX12_test 77 = .ok (.iload_n 3, 1) := by decide +kernel
theorem dX12_test_78 : decode cX12_test 78 = .ok (.iadd, 1) := by decide +kernel
theorem dX12_test_79 : decode cX12_test 79 = .ok (.aload_n 0, 1) := by decide +kernel
theorem dX12_test_80 : decode cX12_test 80 = .ok (.sipush 9999, 3) := by decide +kernel
theorem dX12_test_83 : decode cX12_test 83 = .ok (.invokevirtual 276, 3) := by decide +kernel
theorem dX12_test_86 : decode cX12_test 86 = .ok (.invokevirtual 268, 3) := by decide +kernel
theorem dX12_test_89 : decode cX12_test 89 = .ok (.aload_n 0, 1) := by decide +kernel
theorem dX12_test_90 : decode cX12_test 90 = .ok (.bipush 20, 2) := by decide +kernel
theorem dX12_test_92 : decode cX12_test 92 = .ok (.bipush 20, 2) := by decide +kernel
theorem dX12_test_94 : decode cX12_test 94 = .ok (.invokevirtual 279, 3) := by decide +kernel
theorem dX12_test_97 : decode cX12_test 97 = .ok (.return_, 1) := by decide +kernel
theorem dX12_joins_0 : decode cX12_joins 0 = .ok (.aload_n 0, 1) := by decide +kernel
theorem dX12_joins_1 : decode cX12_joins 1 = .ok (.bipush 21, 2) := by decide +kernel
theorem dX12_joins_3 : decode cX12_joins 3 = .ok (.iload_n 1, 1) := by decide +kernel
theorem dX12_joins_4 : decode cX12_joins 4 = .ok (.invokevirtual 279, 3) := by decide +kernel
theorem dX12_joins_7 : decode cX12_joins 7 = .ok (.aload_n 0, 1) := by decide +kernel
theorem dX12_joins_8 : decode cX12_joins 8 = .ok (.getfield 97, 3) := by decide +kernel
theorem dX12_joins_11 : decode cX12_joins 11 = .ok (.aload_n 0, 1) := by decide +kernel
theorem dX12_joins_12 : decode cX12_joins 12 = .ok (.getfield 265, 3) := by decide +kernel
theorem dX12_joins_15 : decode cX12_joins 15 = .ok (.iload_n 1, 1) := by decide +kernel
theorem dX12_joins_16 : decode cX12_joins 16 = .ok (.iastore, 1) := by decide +kernel
theorem dX12_joins_17 : decode cX12_joins 17 = .ok (.aload_n 0, 1) := by decide +kernel
theorem dX12_joins_18 : decode cX12_joins 18 = .ok (.dup, 1) := by decide +kernel
theorem dX12_joins_19 : decode cX12_joins 19 = .ok (.getfield 265, 3) := by decide +kernel
theorem dX12_joins_22 : decode cX12_joins 22 = .ok (.iconst 1, 1) := by decide +kernel
theorem dX12_joins_23 : decode cX12_joins 23 = .ok (.iadd, 1) := by decide +kernel
theorem dX12_joins_24 : decode cX12_joins 24 = .ok (.putfield 265, 3) := by decide +kernel
theorem dX12_joins_27 : decode cX12_joins 27 = .ok (.aload_n 0, 1) := by decide +kernel
theorem dX12_joins_28 : decode cX12_joins 28 = .ok (.invokevirtual 240, 3) := by decide +kernel
theorem dX12_joins_31 : decode cX12_joins 31 = .ok (.return_, 1) := by decide +kernel
theorem dX12_condition_0 : decode cX12_condition 0 = .ok (.aload_n 0, 1) := by decide +kernel
theorem dX12_condition_1 : decode cX12_condition 1 = .ok (.iconst 0, 1) := by decide +kernel
theorem dX12_condition_2 : decode cX12_condition 2 = .ok (.putfield 265, 3) := by decide +kernel
theorem dX12_condition_5 : decode cX12_condition 5 = .ok (.aload_n 0, 1) := by decide +kernel
theorem dX12_condition_6 : decode cX12_condition 6 = .ok (.iconst 0, 1) := by decide +kernel
theorem dX12_condition_7 : decode cX12_condition 7 = .ok (.putfield 262, 3) := by decide +kernel
theorem dX12_condition_10 : decode cX12_condition 10 = .ok (.iconst 1, 1) := by decide +kernel
theorem dX12_condition_11 : decode cX12_condition 11 = .ok (.istore_n 2, 1) := by decide +kernel
theorem dX12_condition_12 : decode cX12_condition 12 = .ok (.iconst 1, 1) := by decide +kernel
theorem dX12_condition_13 : decode cX12_condition 13 = .ok (.istore_n 3, 1) := by decide +kernel
theorem dX12_condition_14 : decode cX12_condition 14 = .ok (.iload_n 3, 1) := by decide +kernel
theorem dX12_condition_15 : decode cX12_condition 15 = .ok (.ifCond .eq 143, 3) := by decide +kernel
theorem dX12_condition_18 : decode cX12_condition 18 = .ok (.aload_n 0, 1) := by decide +kernel
theorem dX12_condition_19 : decode cX12_condition 19 = .ok (.getfield 232, 3) := by decide +kernel
theorem dX12_condition_22 : decode cX12_condition 22 = .ok (.ifCond .ne 136, 3) := by decide +kernel
theorem dX12_condition_25 : decode cX12_condition 25 = .ok (.iload_n 2, 1) := by decide +kernel
theorem dX12_condition_26 : decode cX12_condition 26 = .ok (.ifCond .eq 22, 3) := by decide +kernel
theorem dX12_condition_29 : decode cX12_condition 29 = .ok (.aload_n 0, 1) := by decide +kernel
theorem dX12_condition_30 : decode cX12_condition 30 = .ok (.ldc2_w 282, 3) := by decide +kernel
theorem dX12_condition_33 : decode cX12_condition 33 = .ok (.invokevirtual 236, 3) := by decide +kernel
theorem dX12_condition_36 : decode cX12_condition 36 = .ok (.ifCond .eq 12, 3) := by decide +kernel
theorem dX12_condition_39 : decode cX12_condition 39 = .ok (.aload_n 0, 1) := by decide +kernel
theorem dX12_condition_40 : decode cX12_condition 40 = .ok (.bipush 20, 2) := by decide +kernel
theorem dX12_condition_42 : decode cX12_condition 42 = .ok (.invokevirtual 284, 3) := by decide +kernel
theorem dX12_condition_45 : decode cX12_condition 45 = .ok (.goto (-31), 3) := by decide +kernel
theorem dX12_condition_48 : decode cX12_condition 48 = .ok (.iload_n 2, 1) := by decide +kernel
theorem dX12_condition_49 : decode cX12_condition 49 = .ok (.ifCond .eq 21, 3) := by decide +kernel
theorem dX12_condition_52 : decode cX12_condition 52 = .ok (.aload_n 0, 1) := by decide +kernel
theorem dX12_condition_53 : decode cX12_condition 53 = .ok (.getfield 226, 3) := by decide +kernel
theorem dX12_condition_56 : decode cX12_condition 56 = .ok (.bipush 40, 2) := by decide +kernel
theorem dX12_condition_58 : decode cX12_condition 58 = .ok (.if_icmp .ne 12, 3) := by decide +kernel
theorem dX12_condition_61 : decode cX12_condition 61 = .ok (.aload_n 0, 1) := by decide +kernel
theorem dX12_condition_62 : decode cX12_condition 62 = .ok (.bipush 23, 2) := by decide +kernel
theorem dX12_condition_64 : decode cX12_condition 64 = .ok (.invokevirtual 284, 3) := by decide +kernel
theorem dX12_condition_67 : decode cX12_condition 67 = .ok (.goto (-53), 3) := by decide +kernel
theorem dX12_condition_70 : decode cX12_condition 70 = .ok (.iload_n 2, 1) := by decide +kernel
theorem dX12_condition_71 : decode cX12_condition 71 = .ok (.ifCond .eq 13, 3) := by decide +kernel
theorem dX12_condition_74 : decode cX12_condition 74 = .ok (.aload_n 0, 1) := by decide +kernel
theorem dX12_condition_75 : decode cX12_condition 75 = .ok (.iload_n 1, 1) := by decide +kernel
theorem dX12_condition_76 : decode cX12_condition 76 = .ok (.invokevirtual 288, 3) := by decide +kernel
theorem dX12_condition_79 : decode cX12_condition 79 = .ok (.iconst 0, 1) := by decide +kernel
theorem dX12_condition_80 : decode cX12_condition 80 = .ok (.istore_n 2, 1) := by decide +kernel
theorem dX12_condition_81 : decode cX12_condition 81 = .ok (.goto (-67), 3) := by decide +kernel
theorem dX12_condition_84 : decode cX12_condition 84 = .ok (.aload_n 0, 1) := by decide +kernel
theorem dX12_condition_85 : decode cX12_condition 85 = .ok (.ldc2_w 292, 3) := by decide +kernel
theorem dX12_condition_88 : decode cX12_condition 88 = .ok (.invokevirtual 236, 3) := by decide +kernel
theorem dX12_condition_91 : decode cX12_condition 91 = .ok (.ifCond .eq 14, 3) := by decide +kernel
theorem dX12_condition_94 : decode cX12_condition 94 = .ok (.aload_n 0, 1) := by decide +kernel
theorem dX12_condition_95 : decode cX12_condition 95 = .ok (.bipush 21, 2) := by decide +kernel
theorem dX12_condition_97 : decode cX12_condition 97 = .ok (.invokevirtual 294, 3) := by decide +kernel
theorem dX12_condition_100 : decode cX12_condition 100 = .ok (.iconst 1, 1) := by decide +kernel
theorem dX12_condition_101 : decode cX12_condition 101 = .ok (.istore_n 2, 1) := by decide +kernel
theorem dX12_condition_102 : decode cX12_condition 102 = .ok (.goto (-88), 3) := by decide +kernel
theorem dX12_condition_105 : decode cX12_condition 105 = .ok (.aload_n 0, 1) := by decide +kernel
theorem dX12_condition_106 : decode cX12_condition 106 = .ok (.ldc2_w 297, 3) := by decide +kernel
theorem dX12_condition_109 : decode cX12_condition 109 = .ok (.invokevirtual 236, 3) := by decide +kernel
theorem dX12_condition_112 : decode cX12_condition 112 = .ok (.ifCond .eq 14, 3) := by decide +kernel
theorem dX12_condition_115 : decode cX12_condition 115 = .ok (.aload_n 0, 1) := by decide +kernel
theorem dX12_condition_116 : decode cX12_condition 116 = .ok (.bipush 22, 2) := by decide +kernel
theorem dX12_condition_118 : decode cX12_condition 118 = .ok (.invokevirtual 294, 3) := by decide +kernel
theorem dX12_condition_121 : decode cX12_condition 121 = .ok (.iconst 1, 1) := by decide +kernel
theorem dX12_condition_122 : decode cX12_condition 122 = .ok (.istore_n 2, 1) := by decide +kernel
theorem dX12_condition_123 : decode cX12_condition 123 = .ok (.goto (-109), 3) := by decide +kernel
theorem dX12_condition_126 : decode cX12_condition 126 = .ok (.aload_n 0, 1) := by decide +kernel
theorem dX12_condition_127 : decode cX12_condition 127 = .ok (.bipush 21, 2) := by decide +kernel
theorem dX12_condition_129 : decode cX12_condition 129 = .ok (.bipush 22, 2) := by decide +kernel
theorem dX12_condition_131 : decode cX12_condition 131 = .ok (.invokevirtual 279, 3) := by decide +kernel
theorem dX12_condition_134 : decode cX12_condition 134 = .ok (.aload_n 0, 1) := by decide +kernel
theorem dX12_condition_135 : decode cX12_condition 135 = .ok (.getfield 265, 3) := by decide +kernel
theorem dX12_condition_138 : decode cX12_condition 138 = .ok (.ifCond .le 7, 3) := by decide +kernel
theorem dX12_condition_141 : decode cX12_condition 141 = .ok (.iconst 1, 1) := by decide +kernel
theorem dX12_condition_142 : decode cX12_condition 142 = .ok (.goto 4, 3) := by decide +kernel
theorem dX12_condition_145 : decode cX12_condition 145 = .ok (.iconst 0, 1) := by decide +kernel
theorem dX12_condition_146 : decode cX12_condition 146 = .ok (.istore_n 3, 1) := by decide +kernel
theorem dX12_condition_147 : decode cX12_condition 147 = .ok (.iload_n 3, 1) := by decide +kernel
theorem dX12_condition_148 : decode cX12_condition 148 = .ok (.ifCond .eq (-134), 3) := by decide +kernel
theorem dX12_condition_151 : decode cX12_condition 151 = .ok (.aload_n 0, 1) := by decide +kernel
theorem dX12_condition_152 : decode cX12_condition 152 = .ok (.invokevirtual 299, 3) := by decide +kernel
theorem dX12_condition_155 : decode cX12_condition 155 = .ok (.goto (-141), 3) := by decide +kernel
theorem dX12_condition_158 : decode cX12_condition 158 = .ok (.return_, 1) := by decide +kernel
theorem dX12_closes_0 : decode cX12_closes 0 = .ok (.aload_n 0, 1) := by decide +kernel
theorem dX12_closes_1 : decode cX12_closes 1 = .ok (.getfield 226, 3) := by decide +kernel
theorem dX12_closes_4 : decode cX12_closes 4 = .ok (.bipush 41, 2) := by decide +kernel
theorem dX12_closes_6 : decode cX12_closes 6 = .ok (.if_icmp .eq 8, 3) := by decide +kernel
theorem dX12_closes_9 : decode cX12_closes 9 = .ok (.aload_n 0, 1) := by decide +kernel
theorem dX12_closes_10 : decode cX12_closes 10 = .ok (.invokevirtual 243, 3) := by decide +kernel
theorem dX12_closes_13 : decode cX12_closes 13 = .ok (.return_, 1) := by decide +kernel
theorem dX12_closes_14 : decode cX12_closes 14 = .ok (.aload_n 0, 1) := by decide +kernel
theorem dX12_closes_15 : decode cX12_closes 15 = .ok (.dup, 1) := by decide +kernel
theorem dX12_closes_16 : decode cX12_closes 16 = .ok (.getfield 265, 3) := by decide +kernel
theorem dX12_closes_19 : decode cX12_closes 19 = .ok (.iconst 1, 1) := by decide +kernel
theorem dX12_closes_20 : decode cX12_closes 20 = .ok (.isub, 1) := by decide +kernel
theorem dX12_closes_21 : decode cX12_closes 21 = .ok (.putfield 265, 3) := by decide +kernel
theorem dX12_closes_24 : decode cX12_closes 24 = .ok (.aload_n 0, 1) := by decide +kernel
theorem dX12_closes_25 : decode cX12_closes 25 = .ok (.dup, 1) := by decide +kernel
theorem dX12_closes_26 : decode cX12_closes 26 = .ok (.getfield 262, 3) := by decide +kernel
theorem dX12_closes_29 : decode cX12_closes 29 = .ok (.iconst 1, 1) := by decide +kernel
theorem dX12_closes_30 : decode cX12_closes 30 = .ok (.isub, 1) := by decide +kernel
theorem dX12_closes_31 : decode cX12_closes 31 = .ok (.putfield 262, 3) := by decide +kernel
theorem dX12_closes_34 : decode cX12_closes 34 = .ok (.aload_n 0, 1) := by decide +kernel
theorem dX12_closes_35 : decode cX12_closes 35 = .ok (.invokevirtual 240, 3) := by decide +kernel
theorem dX12_closes_38 : decode cX12_closes 38 = .ok (.aload_n 0, 1) := by decide +kernel
theorem dX12_closes_39 : decode cX12_closes 39 = .ok (.bipush 20, 2) := by decide +kernel
theorem dX12_closes_41 : decode cX12_closes 41 = .ok (.bipush 20, 2) := by decide +kernel
theorem dX12_closes_43 : decode cX12_closes 43 = .ok (.invokevirtual 279, 3) := by decide +kernel
theorem dX12_closes_46 : decode cX12_closes 46 = .ok (.return_, 1) := by decide +kernel
theorem dX12_sortHere_0 : decode cX12_sortHere 0 = .ok (.aload_n 0, 1) := by decide +kernel
theorem dX12_sortHere_1 : decode cX12_sortHere 1 = .ok (.ldc2_w 302, 3) := by decide +kernel
theorem dX12_sortHere_4 : decode cX12_sortHere 4 = .ok (.invokevirtual 236, 3) := by decide +kernel
theorem dX12_sortHere_7 : decode cX12_sortHere 7 = .ok (.ifCond .eq 7, 3) := by decide +kernel
theorem dX12_sortHere_10 : decode cX12_sortHere 10 = .ok (.iconst 0, 1) := by decide +kernel
theorem dX12_sortHere_11 : decode cX12_sortHere 11 = .ok (.goto 32, 3) := by decide +kernel
theorem dX12_sortHere_14 : decode cX12_sortHere 14 = .ok (.aload_n 0, 1) := by decide +kernel
theorem dX12_sortHere_15 : decode cX12_sortHere 15 = .ok (.ldc2_w 304, 3) := by decide +kernel
theorem dX12_sortHere_18 : decode cX12_sortHere 18 = .ok (.invokevirtual 236, 3) := by decide +kernel
theorem dX12_sortHere_21 : decode cX12_sortHere 21 = .ok (.ifCond .eq 7, 3) := by decide +kernel
theorem dX12_sortHere_24 : decode cX12_sortHere 24 = .ok (.iconst 1, 1) := by decide +kernel
theorem dX12_sortHere_25 : decode cX12_sortHere 25 = .ok (.goto 18, 3) := by decide +kernel
theorem dX12_sortHere_28 : decode cX12_sortHere 28 = .ok (.aload_n 0, 1) := by decide +kernel
theorem dX12_sortHere_29 : decode cX12_sortHere 29 = .ok (.ldc2_w 306, 3) := by decide +kernel
theorem dX12_sortHere_32 : decode cX12_sortHere 32 = .ok (.invokevirtual 236, 3) := by decide +kernel
theorem dX12_sortHere_35 : decode cX12_sortHere 35 = .ok (.ifCond .eq 7, 3) := by decide +kernel
theorem dX12_sortHere_38 : decode cX12_sortHere 38 = .ok (.iconst 2, 1) := by decide +kernel
theorem dX12_sortHere_39 : decode cX12_sortHere 39 = .ok (.goto 4, 3) := by decide +kernel
theorem dX12_sortHere_42 : decode cX12_sortHere 42 = .ok (.iconst (-1), 1) := by decide +kernel
theorem dX12_sortHere_43 : decode cX12_sortHere 43 = .ok (.ireturn, 1) := by decide +kernel
theorem dX12_ending_0 : decode cX12_ending 0 = .ok (.aload_n 0, 1) := by decide +kernel
theorem dX12_ending_1 : decode cX12_ending 1 = .ok (.getfield 78, 3) := by decide +kernel
theorem dX12_ending_4 : decode cX12_ending 4 = .ok (.iload_n 1, 1) := by decide +kernel
theorem dX12_ending_5 : decode cX12_ending 5 = .ok (.aload_n 0, 1) := by decide +kernel
theorem dX12_ending_6 : decode cX12_ending 6 = .ok (.getfield 259, 3) := by decide +kernel
theorem dX12_ending_9 : decode cX12_ending 9 = .ok (.iastore, 1) := by decide +kernel
theorem dX12_ending_10 : decode cX12_ending 10 = .ok (.iload_n 3, 1) := by decide +kernel
theorem dX12_ending_11 : decode cX12_ending 11 = .ok (.ifCond .eq 22, 3) := by decide +kernel
theorem dX12_ending_14 : decode cX12_ending 14 = .ok (.aload_n 0, 1) := by decide +kernel
theorem dX12_ending_15 : decode cX12_ending 15 = .ok (.ldc2_w 308, 3) := by decide +kernel
theorem dX12_ending_18 : decode cX12_ending 18 = .ok (.invokevirtual 236, 3) := by decide +kernel
theorem dX12_ending_21 : decode cX12_ending 21 = .ok (.ifCond .eq 12, 3) := by decide +kernel
theorem dX12_ending_24 : decode cX12_ending 24 = .ok (.aload_n 0, 1) := by decide +kernel
theorem dX12_ending_25 : decode cX12_ending 25 = .ok (.invokevirtual 240, 3) := by decide +kernel
theorem dX12_ending_28 : decode cX12_ending 28 = .ok (.aload_n 0, 1) := by decide +kernel
theorem dX12_ending_29 : decode cX12_ending 29 = .ok (.iload_n 2, 1) := by decide +kernel
theorem dX12_ending_30 : decode cX12_ending 30 = .ok (.invokevirtual 310, 3) := by decide +kernel
theorem dX12_ending_33 : decode cX12_ending 33 = .ok (.aload_n 0, 1) := by decide +kernel
theorem dX12_ending_34 : decode cX12_ending 34 = .ok (.getfield 81, 3) := by decide +kernel
theorem dX12_ending_37 : decode cX12_ending 37 = .ok (.iload_n 1, 1) := by decide +kernel
theorem dX12_ending_38 : decode cX12_ending 38 = .ok (.aload_n 0, 1) := by decide +kernel
theorem dX12_ending_39 : decode cX12_ending 39 = .ok (.getfield 259, 3) := by decide +kernel
theorem dX12_ending_42 : decode cX12_ending 42 = .ok (.iastore, 1) := by decide +kernel
theorem dX12_ending_43 : decode cX12_ending 43 = .ok (.aload_n 0, 1) := by decide +kernel
theorem dX12_ending_44 : decode cX12_ending 44 = .ok (.getfield 232, 3) := by decide +kernel
theorem dX12_ending_47 : decode cX12_ending 47 = .ok (.ifCond .eq 4, 3) := by decide +kernel
theorem dX12_ending_50 : decode cX12_ending 50 = .ok (.return_, 1) := by decide +kernel
theorem dX12_ending_51 : decode cX12_ending 51 = .ok (.aload_n 0, 1) := by decide +kernel
theorem dX12_ending_52 : decode cX12_ending 52 = .ok (.getfield 226, 3) := by decide +kernel
theorem dX12_ending_55 : decode cX12_ending 55 = .ok (.bipush 59, 2) := by decide +kernel
theorem dX12_ending_57 : decode cX12_ending 57 = .ok (.if_icmp .ne 10, 3) := by decide +kernel
theorem dX12_ending_60 : decode cX12_ending 60 = .ok (.aload_n 0, 1) := by decide +kernel
theorem dX12_ending_61 : decode cX12_ending 61 = .ok (.invokevirtual 240, 3) := by decide +kernel
theorem dX12_ending_64 : decode cX12_ending 64 = .ok (.goto 7, 3) := by decide +kernel
theorem dX12_ending_67 : decode cX12_ending 67 = .ok (.aload_n 0, 1) := by decide +kernel
theorem dX12_ending_68 : decode cX12_ending 68 = .ok (.invokevirtual 243, 3) := by decide +kernel
theorem dX12_ending_71 : decode cX12_ending 71 = .ok (.return_, 1) := by decide +kernel
theorem dX12_readScale_0 : decode cX12_readScale 0 = .ok (.aload_n 0, 1) := by decide +kernel
theorem dX12_readScale_1 : decode cX12_readScale 1 = .ok (.getfield 69, 3) := by decide +kernel
theorem dX12_readScale_4 : decode cX12_readScale 4 = .ok (.iload_n 1, 1) := by decide +kernel
theorem dX12_readScale_5 : decode cX12_readScale 5 = .ok (.aload_n 0, 1) := by decide +kernel
theorem dX12_readScale_6 : decode cX12_readScale 6 = .ok (.invokevirtual 313, 3) := by decide +kernel
theorem dX12_readScale_9 : decode cX12_readScale 9 = .ok (.iastore, 1) := by decide +kernel
theorem dX12_readScale_10 : decode cX12_readScale 10 = .ok (.aload_n 0, 1) := by decide +kernel
theorem dX12_readScale_11 : decode cX12_readScale 11 = .ok (.getfield 69, 3) := by decide +kernel
theorem dX12_readScale_14 : decode cX12_readScale 14 = .ok (.iload_n 1, 1) := by decide +kernel
theorem dX12_readScale_15 : decode cX12_readScale 15 = .ok (.iaload, 1) := by decide +kernel
theorem dX12_readScale_16 : decode cX12_readScale 16 = .ok (.ifCond .ge 8, 3) := by decide +kernel
theorem dX12_readScale_19 : decode cX12_readScale 19 = .ok (.aload_n 0, 1) := by decide +kernel
theorem dX12_readScale_20 : decode cX12_readScale 20 = .ok (.invokevirtual 243, 3) := by decide +kernel
theorem dX12_readScale_23 : decode cX12_readScale 23 = .ok (.return_, 1) := by decide +kernel
theorem dX12_readScale_24 : decode cX12_readScale 24 = .ok (.aload_n 0, 1) := by decide +kernel
theorem dX12_readScale_25 : decode cX12_readScale 25 = .ok (.invokevirtual 240, 3) := by decide +kernel
theorem dX12_readScale_28 : decode cX12_readScale 28 = .ok (.aload_n 0, 1) := by decide +kernel
theorem dX12_readScale_29 : decode cX12_readScale 29 = .ok (.getfield 72, 3) := by decide +kernel
theorem dX12_readScale_32 : decode cX12_readScale 32 = .ok (.iload_n 1, 1) := by decide +kernel
theorem dX12_readScale_33 : decode cX12_readScale 33 = .ok (.aload_n 0, 1) := by decide +kernel
theorem dX12_readScale_34 : decode cX12_readScale 34 = .ok (.bipush 12, 2) := by decide +kernel
theorem dX12_readScale_36 : decode cX12_readScale 36 = .ok (.invokevirtual 276, 3) := by decide +kernel
theorem dX12_readScale_39 : decode cX12_readScale 39 = .ok (.iastore, 1) := by decide +kernel
theorem dX12_readScale_40 : decode cX12_readScale 40 = .ok (.aload_n 0, 1) := by decide +kernel
theorem dX12_readScale_41 : decode cX12_readScale 41 = .ok (.ldc2_w 316, 3) := by decide +kernel
theorem dX12_readScale_44 : decode cX12_readScale 44 = .ok (.invokevirtual 318, 3) := by decide +kernel
theorem dX12_readScale_47 : decode cX12_readScale 47 = .ok (.aload_n 0, 1) := by decide +kernel
theorem dX12_readScale_48 : decode cX12_readScale 48 = .ok (.getfield 75, 3) := by decide +kernel
theorem dX12_readScale_51 : decode cX12_readScale 51 = .ok (.iload_n 1, 1) := by decide +kernel
theorem dX12_readScale_52 : decode cX12_readScale 52 = .ok (.aload_n 0, 1) := by decide +kernel
theorem dX12_readScale_53 : decode cX12_readScale 53 = .ok (.bipush 99, 2) := by decide +kernel
theorem dX12_readScale_55 : decode cX12_readScale 55 = .ok (.invokevirtual 276, 3) := by decide +kernel
theorem dX12_readScale_58 : decode cX12_readScale 58 = .ok (.iastore, 1) := by decide +kernel
theorem dX12_readScale_59 : decode cX12_readScale 59 = .ok (.aload_n 0, 1) := by decide +kernel
theorem dX12_readScale_60 : decode cX12_readScale 60 = .ok (.iload_n 1, 1) := by decide +kernel
theorem dX12_readScale_61 : decode cX12_readScale 61 = .ok (.iconst 1, 1) := by decide +kernel
theorem dX12_readScale_62 : decode cX12_readScale 62 = .ok (.iconst 1, 1) := by decide +kernel
theorem dX12_readScale_63 : decode cX12_readScale 63 = .ok (.invokevirtual 322, 3) := by decide +kernel
theorem dX12_readScale_66 : decode cX12_readScale 66 = .ok (.return_, 1) := by decide +kernel
theorem dX12_readHabit_0 : decode cX12_readHabit 0 = .ok (.aload_n 0, 1) := by decide +kernel
theorem dX12_readHabit_1 : decode cX12_readHabit 1 = .ok (.ldc2_w 326, 3) := by decide +kernel
theorem dX12_readHabit_4 : decode cX12_readHabit 4 = .ok (.invokevirtual 236, 3) := by decide +kernel
theorem dX12_readHabit_7 : decode cX12_readHabit 7 = .ok (.istore_n 2, 1) := by decide +kernel
theorem dX12_readHabit_8 : decode cX12_readHabit 8 = .ok (.aload_n 0, 1) := by decide +kernel
theorem dX12_readHabit_9 : decode cX12_readHabit 9 = .ok (.getfield 69, 3) := by decide +kernel
theorem dX12_readHabit_12 : decode cX12_readHabit 12 = .ok (.iload_n 1, 1) := by decide +kernel
theorem dX12_readHabit_13 : decode cX12_readHabit 13 = .ok (.iload_n 2, 1) := by decide +kernel
theorem dX12_readHabit_14 : decode cX12_readHabit 14 = .ok (.ifCond .eq 7, 3) := by decide +kernel
theorem dX12_readHabit_17 : decode cX12_readHabit 17 = .ok (.iconst 0, 1) := by decide +kernel
theorem dX12_readHabit_18 : decode cX12_readHabit 18 = .ok (.goto 4, 3) := by decide +kernel
theorem dX12_readHabit_21 : decode cX12_readHabit 21 = .ok (.iconst 1, 1) := by decide +kernel
theorem dX12_readHabit_22 : decode cX12_readHabit 22 = .ok (.iastore, 1) := by decide +kernel
theorem dX12_readHabit_23 : decode cX12_readHabit 23 = .ok (.iload_n 2, 1) := by decide +kernel
theorem dX12_readHabit_24 : decode cX12_readHabit 24 = .ok (.ifCond .ne 18, 3) := by decide +kernel
theorem dX12_readHabit_27 : decode cX12_readHabit 27 = .ok (.aload_n 0, 1) := by decide +kernel
theorem dX12_readHabit_28 : decode cX12_readHabit 28 = .ok (.ldc2_w 328, 3) := by decide +kernel
theorem dX12_readHabit_31 : decode cX12_readHabit 31 = .ok (.invokevirtual 236, 3) := by decide +kernel
theorem dX12_readHabit_34 : decode cX12_readHabit 34 = .ok (.ifCond .ne 8, 3) := by decide +kernel
theorem dX12_readHabit_37 : decode cX12_readHabit 37 = .ok (.aload_n 0, 1) := by decide +kernel
theorem dX12_readHabit_38 : decode cX12_readHabit 38 = .ok (.invokevirtual 243, 3) := by decide +kernel
theorem dX12_readHabit_41 : decode cX12_readHabit 41 = .ok (.return_, 1) := by decide +kernel
theorem dX12_readHabit_42 : decode cX12_readHabit 42 = .ok (.aload_n 0, 1) := by decide +kernel
theorem dX12_readHabit_43 : decode cX12_readHabit 43 = .ok (.invokevirtual 240, 3) := by decide +kernel
theorem dX12_readHabit_46 : decode cX12_readHabit 46 = .ok (.iload_n 2, 1) := by decide +kernel
theorem dX12_readHabit_47 : decode cX12_readHabit 47 = .ok (.ifCond .eq 63, 3) := by decide +kernel
theorem dX12_readHabit_50 : decode cX12_readHabit 50 = .ok (.aload_n 0, 1) := by decide +kernel
theorem dX12_readHabit_51 : decode cX12_readHabit 51 = .ok (.ldc2_w 330, 3) := by decide +kernel
theorem dX12_readHabit_54 : decode cX12_readHabit 54 = .ok (.invokevirtual 236, 3) := by decide +kernel
theorem dX12_readHabit_57 : decode cX12_readHabit 57 = .ok (.istore_n 3, 1) := by decide +kernel
theorem dX12_readHabit_58 : decode cX12_readHabit 58 = .ok (.iload_n 3, 1) := by decide +kernel
theorem dX12_readHabit_59 : decode cX12_readHabit 59 = .ok (.ifCond .ne 18, 3) := by decide +kernel
theorem dX12_readHabit_62 : decode cX12_readHabit 62 = .ok (.aload_n 0, 1) := by decide +kernel
theorem dX12_readHabit_63 : decode cX12_readHabit 63 = .ok (.ldc2_w 332, 3) := by decide +kernel
theorem dX12_readHabit_66 : decode cX12_readHabit 66 = .ok (.invokevirtual 236, 3) := by decide +kernel
theorem dX12_readHabit_69 : decode cX12_readHabit 69 = .ok (.ifCond .ne 8, 3) := by decide +kernel
theorem dX12_readHabit_72 : decode cX12_readHabit 72 = .ok (.aload_n 0, 1) := by decide +kernel
theorem dX12_readHabit_73 : decode cX12_readHabit 73 = .ok (.invokevirtual 243, 3) := by decide +kernel
theorem dX12_readHabit_76 : decode cX12_readHabit 76 = .ok (.return_, 1) := by decide +kernel
theorem dX12_readHabit_77 : decode cX12_readHabit 77 = .ok (.aload_n 0, 1) := by decide +kernel
theorem dX12_readHabit_78 : decode cX12_readHabit 78 = .ok (.invokevirtual 240, 3) := by decide +kernel
theorem dX12_readHabit_81 : decode cX12_readHabit 81 = .ok (.aload_n 0, 1) := by decide +kernel
theorem dX12_readHabit_82 : decode cX12_readHabit 82 = .ok (.bipush 12, 2) := by decide +kernel
theorem dX12_readHabit_84 : decode cX12_readHabit 84 = .ok (.invokevirtual 276, 3) := by decide +kernel
theorem dX12_readHabit_87 : decode cX12_readHabit 87 = .ok (.istore 4, 2) := by decide +kernel
theorem dX12_readHabit_89 : decode cX12_readHabit 89 = .ok (.aload_n 0, 1) := by decide +kernel
theorem dX12_readHabit_90 : decode cX12_readHabit 90 = .ok (.getfield 72, 3) := by decide +kernel
theorem dX12_readHabit_93 : decode cX12_readHabit 93 = .ok (.iload_n 1, 1) := by decide +kernel
theorem dX12_readHabit_94 : decode cX12_readHabit 94 = .ok (.iload_n 3, 1) := by decide +kernel
theorem dX12_readHabit_95 : decode cX12_readHabit 95 = .ok (.ifCond .eq 8, 3) := by decide +kernel
theorem dX12_readHabit_98 : decode cX12_readHabit 98 = .ok (.iload 4, 2) := by decide +kernel
theorem dX12_readHabit_100 : decode cX12_readHabit 100 = .ok (.goto 6, 3) := by decide +kernel
theorem dX12_readHabit_103 : decode cX12_readHabit 103 = .ok (.iload 4, 2) := by decide +kernel
theorem dX12_readHabit_105 : decode cX12_readHabit 105 = .ok (.ineg, 1) := by decide +kernel
theorem dX12_readHabit_106 : decode cX12_readHabit 106 = .ok (.iastore, 1) := by decide +kernel
theorem dX12_readHabit_107 : decode cX12_readHabit 107 = .ok (.goto 34, 3) := by decide +kernel
theorem dX12_readHabit_110 : decode cX12_readHabit 110 = .ok (.aload_n 0, 1) := by decide +kernel
theorem dX12_readHabit_111 : decode cX12_readHabit 111 = .ok (.getfield 72, 3) := by decide +kernel
theorem dX12_readHabit_114 : decode cX12_readHabit 114 = .ok (.iload_n 1, 1) := by decide +kernel
theorem dX12_readHabit_115 : decode cX12_readHabit 115 = .ok (.aload_n 0, 1) := by decide +kernel
theorem dX12_readHabit_116 : decode cX12_readHabit 116 = .ok (.bipush 12, 2) := by decide +kernel
theorem dX12_readHabit_118 : decode cX12_readHabit 118 = .ok (.invokevirtual 276, 3) := by decide +kernel
theorem dX12_readHabit_121 : decode cX12_readHabit 121 = .ok (.iastore, 1) := by decide +kernel
theorem dX12_readHabit_122 : decode cX12_readHabit 122 = .ok (.aload_n 0, 1) := by decide +kernel
theorem dX12_readHabit_123 : decode cX12_readHabit 123 = .ok (.ldc2_w 334, 3) := by decide +kernel
theorem dX12_readHabit_126 : decode cX12_readHabit 126 = .ok (.invokevirtual 318, 3) := by decide +kernel
theorem dX12_readHabit_129 : decode cX12_readHabit 129 = .ok (.aload_n 0, 1) := by decide +kernel
theorem dX12_readHabit_130 : decode cX12_readHabit 130 = .ok (.getfield 75, 3) := by decide +kernel
theorem dX12_readHabit_133 : decode cX12_readHabit 133 = .ok (.iload_n 1, 1) := by decide +kernel
theorem dX12_readHabit_134 : decode cX12_readHabit 134 = .ok (.aload_n 0, 1) := by decide +kernel
theorem dX12_readHabit_135 : decode cX12_readHabit 135 = .ok (.bipush 12, 2) := by decide +kernel
theorem dX12_readHabit_137 : decode cX12_readHabit 137 = .ok (.invokevirtual 276, 3) := by decide +kernel
theorem dX12_readHabit_140 : decode cX12_readHabit 140 = .ok (.iastore, 1) := by decide +kernel
theorem dX12_readHabit_141 : decode cX12_readHabit 141 = .ok (.aload_n 0, 1) := by decide +kernel
theorem dX12_readHabit_142 : decode cX12_readHabit 142 = .ok (.iload_n 1, 1) := by decide +kernel
theorem dX12_readHabit_143 : decode cX12_readHabit 143 = .ok (.iconst 0, 1) := by decide +kernel
theorem dX12_readHabit_144 : decode cX12_readHabit 144 = .ok (.iload_n 2, 1) := by decide +kernel
theorem dX12_readHabit_145 : decode cX12_readHabit 145 = .ok (.invokevirtual 322, 3) := by decide +kernel
theorem dX12_readHabit_148 : decode cX12_readHabit 148 = .ok (.return_, 1) := by decide +kernel
theorem dX12_reads_0 : decode cX12_reads 0 = .ok (.aload_n 0, 1) := by decide +kernel
theorem dX12_reads_1 : decode cX12_reads 1 = .ok (.iload_n 1, 1) := by decide +kernel
theorem dX12_reads_2 : decode cX12_reads 2 = .ok (.putfield 207, 3) := by decide +kernel
theorem dX12_reads_5 : decode cX12_reads 5 = .ok (.aload_n 0, 1) := by decide +kernel
theorem dX12_reads_6 : decode cX12_reads 6 = .ok (.iconst 0, 1) := by decide +kernel
theorem dX12_reads_7 : decode cX12_reads 7 = .ok (.putfield 201, 3) := by decide +kernel
theorem dX12_reads_10 : decode cX12_reads 10 = .ok (.aload_n 0, 1) := by decide +kernel
theorem dX12_reads_11 : decode cX12_reads 11 = .ok (.iconst 0, 1) := by decide +kernel
theorem dX12_reads_12 : decode cX12_reads 12 = .ok (.putfield 204, 3) := by decide +kernel
theorem dX12_reads_15 : decode cX12_reads 15 = .ok (.aload_n 0, 1) := by decide +kernel
theorem dX12_reads_16 : decode cX12_reads 16 = .ok (.iconst (-1), 1) := by decide +kernel
theorem dX12_reads_17 : decode cX12_reads 17 = .ok (.putfield 94, 3) := by decide +kernel
theorem dX12_reads_20 : decode cX12_reads 20 = .ok (.aload_n 0, 1) := by decide +kernel
theorem dX12_reads_21 : decode cX12_reads 21 = .ok (.iconst 0, 1) := by decide +kernel
theorem dX12_reads_22 : decode cX12_reads 22 = .ok (.putfield 232, 3) := by decide +kernel
theorem dX12_reads_25 : decode cX12_reads 25 = .ok (.aload_n 0, 1) := by decide +kernel
theorem dX12_reads_26 : decode cX12_reads 26 = .ok (.iload_n 2, 1) := by decide +kernel
theorem dX12_reads_27 : decode cX12_reads 27 = .ok (.putfield 256, 3) := by decide +kernel
theorem dX12_reads_30 : decode cX12_reads 30 = .ok (.aload_n 0, 1) := by decide +kernel
theorem dX12_reads_31 : decode cX12_reads 31 = .ok (.iconst 0, 1) := by decide +kernel
theorem dX12_reads_32 : decode cX12_reads 32 = .ok (.putfield 336, 3) := by decide +kernel
theorem dX12_reads_35 : decode cX12_reads 35 = .ok (.aload_n 0, 1) := by decide +kernel
theorem dX12_reads_36 : decode cX12_reads 36 = .ok (.iconst 0, 1) := by decide +kernel
theorem dX12_reads_37 : decode cX12_reads 37 = .ok (.putfield 259, 3) := by decide +kernel
theorem dX12_reads_40 : decode cX12_reads 40 = .ok (.aload_n 0, 1) := by decide +kernel
theorem dX12_reads_41 : decode cX12_reads 41 = .ok (.invokevirtual 240, 3) := by decide +kernel
theorem dX12_reads_44 : decode cX12_reads 44 = .ok (.aload_n 0, 1) := by decide +kernel
theorem dX12_reads_45 : decode cX12_reads 45 = .ok (.getfield 226, 3) := by decide +kernel
theorem dX12_reads_48 : decode cX12_reads 48 = .ok (.ifCond .eq 78, 3) := by decide +kernel
theorem dX12_reads_51 : decode cX12_reads 51 = .ok (.aload_n 0, 1) := by decide +kernel
theorem dX12_reads_52 : decode cX12_reads 52 = .ok (.getfield 232, 3) := by decide +kernel
theorem dX12_reads_55 : decode cX12_reads 55 = .ok (.ifCond .ne 71, 3) := by decide +kernel
theorem dX12_reads_58 : decode cX12_reads 58 = .ok (.aload_n 0, 1) := by decide +kernel
theorem dX12_reads_59 : decode cX12_reads 59 = .ok (.getfield 336, 3) := by decide +kernel
theorem dX12_reads_62 : decode cX12_reads 62 = .ok (.bipush 40, 2) := by decide +kernel
theorem dX12_reads_64 : decode cX12_reads 64 = .ok (.if_icmp .ne 10, 3) := by decide +kernel
theorem dX12_reads_67 : decode cX12_reads 67 = .ok (.aload_n 0, 1) := by decide +kernel
theorem dX12_reads_68 : decode cX12_reads 68 = .ok (.invokevirtual 243, 3) := by decide +kernel
theorem dX12_reads_71 : decode cX12_reads 71 = .ok (.goto 42, 3) := by decide +kernel
theorem dX12_reads_74 : decode cX12_reads 74 = .ok (.iload_n 3, 1) := by decide +kernel
theorem dX12_reads_75 : decode cX12_reads 75 = .ok (.ifCond .eq 22, 3) := by decide +kernel
theorem dX12_reads_78 : decode cX12_reads 78 = .ok (.aload_n 0, 1) := by decide +kernel
theorem dX12_reads_79 : decode cX12_reads 79 = .ok (.bipush 40, 2) := by decide +kernel
theorem dX12_reads_81 : decode cX12_reads 81 = .ok (.aload_n 0, 1) := by decide +kernel
theorem dX12_reads_82 : decode cX12_reads 82 = .ok (.getfield 256, 3) := by decide +kernel
theorem dX12_reads_85 : decode cX12_reads 85 = .ok (.imul, 1) := by decide +kernel
theorem dX12_reads_86 : decode cX12_reads 86 = .ok (.aload_n 0, 1) := by decide +kernel
theorem dX12_reads_87 : decode cX12_reads 87 = .ok (.getfield 336, 3) := by decide +kernel
theorem dX12_reads_90 : decode cX12_reads 90 = .ok (.iadd, 1) := by decide +kernel
theorem dX12_reads_91 : decode cX12_reads 91 = .ok (.invokevirtual 339, 3) := by decide +kernel
theorem dX12_reads_94 : decode cX12_reads 94 = .ok (.goto 19, 3) := by decide +kernel
theorem dX12_reads_97 : decode cX12_reads 97 = .ok (.aload_n 0, 1) := by decide +kernel
theorem dX12_reads_98 : decode cX12_reads 98 = .ok (.bipush 40, 2) := by decide +kernel
theorem dX12_reads_100 : decode cX12_reads 100 = .ok (.aload_n 0, 1) := by decide +kernel
theorem dX12_reads_101 : decode cX12_reads 101 = .ok (.getfield 256, 3) := by decide +kernel
theorem dX12_reads_104 : decode cX12_reads 104 = .ok (.imul, 1) := by decide +kernel
theorem dX12_reads_105 : decode cX12_reads 105 = .ok (.aload_n 0, 1) := by decide +kernel
theorem dX12_reads_106 : decode cX12_reads 106 = .ok (.getfield 336, 3) := by decide +kernel
theorem dX12_reads_109 : decode cX12_reads 109 = .ok (.iadd, 1) := by decide +kernel
theorem dX12_reads_110 : decode cX12_reads 110 = .ok (.invokevirtual 342, 3) := by decide +kernel
theorem dX12_reads_113 : decode cX12_reads 113 = .ok (.aload_n 0, 1) := by decide +kernel
theorem dX12_reads_114 : decode cX12_reads 114 = .ok (.dup, 1) := by decide +kernel
theorem dX12_reads_115 : decode cX12_reads 115 = .ok (.getfield 336, 3) := by decide +kernel
theorem dX12_reads_118 : decode cX12_reads 118 = .ok (.iconst 1, 1) := by decide +kernel
theorem dX12_reads_119 : decode cX12_reads 119 = .ok (.iadd, 1) := by decide +kernel
theorem dX12_reads_120 : decode cX12_reads 120 = .ok (.putfield 336, 3) := by decide +kernel
theorem dX12_reads_123 : decode cX12_reads 123 = .ok (.goto (-79), 3) := by decide +kernel
theorem dX12_reads_126 : decode cX12_reads 126 = .ok (.aload_n 0, 1) := by decide +kernel
theorem dX12_reads_127 : decode cX12_reads 127 = .ok (.getfield 232, 3) := by decide +kernel
theorem dX12_reads_130 : decode cX12_reads 130 = .ok (.ifCond .eq 5, 3) := by decide +kernel
theorem dX12_reads_133 : decode cX12_reads 133 = .ok (.iconst 0, 1) := by decide +kernel
theorem dX12_reads_134 : decode cX12_reads 134 = .ok (.ireturn, 1) := by decide +kernel
theorem dX12_reads_135 : decode cX12_reads 135 = .ok (.aload_n 0, 1) := by decide +kernel
theorem dX12_reads_136 : decode cX12_reads 136 = .ok (.getfield 63, 3) := by decide +kernel
theorem dX12_reads_139 : decode cX12_reads 139 = .ok (.aload_n 0, 1) := by decide +kernel
theorem dX12_reads_140 : decode cX12_reads 140 = .ok (.getfield 256, 3) := by decide +kernel
theorem dX12_reads_143 : decode cX12_reads 143 = .ok (.aload_n 0, 1) := by decide +kernel
theorem dX12_reads_144 : decode cX12_reads 144 = .ok (.getfield 336, 3) := by decide +kernel
theorem dX12_reads_147 : decode cX12_reads 147 = .ok (.iastore, 1) := by decide +kernel
theorem dX12_reads_148 : decode cX12_reads 148 = .ok (.iconst 1, 1) := by decide +kernel
theorem dX12_reads_149 : decode cX12_reads 149 = .ok (.ireturn, 1) := by decide +kernel
theorem dX12_scale_0 : decode cX12_scale 0 = .ok (.iload_n 1, 1) := by decide +kernel
theorem dX12_scale_1 : decode cX12_scale 1 = .ok (.ifCond .lt 21, 3) := by decide +kernel
theorem dX12_scale_4 : decode cX12_scale 4 = .ok (.iload_n 1, 1) := by decide +kernel
theorem dX12_scale_5 : decode cX12_scale 5 = .ok (.aload_n 0, 1) := by decide +kernel
theorem dX12_scale_6 : decode cX12_scale 6 = .ok (.getfield 201, 3) := by decide +kernel
theorem dX12_scale_9 : decode cX12_scale 9 = .ok (.if_icmp .gt 13, 3) := by decide +kernel
theorem dX12_scale_12 : decode cX12_scale 12 = .ok (.iload_n 2, 1) := by decide +kernel
theorem dX12_scale_13 : decode cX12_scale 13 = .ok (.iconst 0, 1) := by decide +kernel
theorem dX12_scale_14 : decode cX12_scale 14 = .ok (.bipush 9, 2) := by decide +kernel
theorem dX12_scale_16 : decode cX12_scale 16 = .ok (.invokestatic 168, 3) := by decide +kernel
theorem dX12_scale_19 : decode cX12_scale 19 = .ok (.ifCond .ne 12, 3) := by decide +kernel
theorem dX12_scale_22 : decode cX12_scale 22 = .ok (.aload_n 0, 1) := by decide +kernel
theorem dX12_scale_23 : decode cX12_scale 23 = .ok (.iconst 0, 1) := by decide +kernel
theorem dX12_scale_24 : decode cX12_scale 24 = .ok (.invokevirtual 161, 3) := by decide +kernel
theorem dX12_scale_27 : decode cX12_scale 27 = .ok (.pop, 1) := by decide +kernel
theorem dX12_scale_28 : decode cX12_scale 28 = .ok (.bipush (-2), 2) := by decide +kernel
theorem dX12_scale_30 : decode cX12_scale 30 = .ok (.ireturn, 1) := by decide +kernel
theorem dX12_scale_31 : decode cX12_scale 31 = .ok (.aload_n 0, 1) := by decide +kernel
theorem dX12_scale_32 : decode cX12_scale 32 = .ok (.getfield 345, 3) := by decide +kernel
theorem dX12_scale_35 : decode cX12_scale 35 = .ok (.bipush 8, 2) := by decide +kernel
theorem dX12_scale_37 : decode cX12_scale 37 = .ok (.if_icmp .ne 12, 3) := by decide +kernel
theorem dX12_scale_40 : decode cX12_scale 40 = .ok (.aload_n 0, 1) := by decide +kernel
theorem dX12_scale_41 : decode cX12_scale 41 = .ok (.iconst 1, 1) := by decide +kernel
theorem dX12_scale_42 : decode cX12_scale 42 = .ok (.invokevirtual 161, 3) := by decide +kernel
theorem dX12_scale_45 : decode cX12_scale 45 = .ok (.pop, 1) := by decide +kernel
theorem dX12_scale_46 : decode cX12_scale 46 = .ok (.bipush (-3), 2) := by decide +kernel
theorem dX12_scale_48 : decode cX12_scale 48 = .ok (.ireturn, 1) := by decide +kernel
theorem dX12_scale_49 : decode cX12_scale 49 = .ok (.aload_n 0, 1) := by decide +kernel
theorem dX12_scale_50 : decode cX12_scale 50 = .ok (.iload_n 1, 1) := by decide +kernel
theorem dX12_scale_51 : decode cX12_scale 51 = .ok (.aload_n 0, 1) := by decide +kernel
theorem dX12_scale_52 : decode cX12_scale 52 = .ok (.getfield 345, 3) := by decide +kernel
theorem dX12_scale_55 : decode cX12_scale 55 = .ok (.iconst 1, 1) := by decide +kernel
theorem dX12_scale_56 : decode cX12_scale 56 = .ok (.invokevirtual 348, 3) := by decide +kernel
theorem dX12_scale_59 : decode cX12_scale 59 = .ok (.ifCond .ne 9, 3) := by decide +kernel
theorem dX12_scale_62 : decode cX12_scale 62 = .ok (.aload_n 0, 1) := by decide +kernel
theorem dX12_scale_63 : decode cX12_scale 63 = .ok (.iconst 2, 1) := by decide +kernel
theorem dX12_scale_64 : decode cX12_scale 64 = .ok (.invokevirtual 161, 3) := by decide +kernel
theorem dX12_scale_67 : decode cX12_scale 67 = .ok (.ireturn, 1) := by decide +kernel
theorem dX12_scale_68 : decode cX12_scale 68 = .ok (.aload_n 0, 1) := by decide +kernel
theorem dX12_scale_69 : decode cX12_scale 69 = .ok (.getfield 66, 3) := by decide +kernel
theorem dX12_scale_72 : decode cX12_scale 72 = .ok (.aload_n 0, 1) := by decide +kernel
theorem dX12_scale_73 : decode cX12_scale 73 = .ok (.getfield 345, 3) := by decide +kernel
theorem dX12_scale_76 : decode cX12_scale 76 = .ok (.iload_n 2, 1) := by decide +kernel
theorem dX12_scale_77 : decode cX12_scale 77 = .ok (.iastore, 1) := by decide +kernel
theorem dX12_scale_78 : decode cX12_scale 78 = .ok (.aload_n 0, 1) := by decide +kernel
theorem dX12_scale_79 : decode cX12_scale 79 = .ok (.dup, 1) := by decide +kernel
theorem dX12_scale_80 : decode cX12_scale 80 = .ok (.getfield 345, 3) := by decide +kernel
theorem dX12_scale_83 : decode cX12_scale 83 = .ok (.iconst 1, 1) := by decide +kernel
theorem dX12_scale_84 : decode cX12_scale 84 = .ok (.iadd, 1) := by decide +kernel
theorem dX12_scale_85 : decode cX12_scale 85 = .ok (.putfield 345, 3) := by decide +kernel
theorem dX12_scale_88 : decode cX12_scale 88 = .ok (.aload_n 0, 1) := by decide +kernel
theorem dX12_scale_89 : decode cX12_scale 89 = .ok (.getfield 345, 3) := by decide +kernel
theorem dX12_scale_92 : decode cX12_scale 92 = .ok (.iconst 1, 1) := by decide +kernel
theorem dX12_scale_93 : decode cX12_scale 93 = .ok (.isub, 1) := by decide +kernel
theorem dX12_scale_94 : decode cX12_scale 94 = .ok (.ireturn, 1) := by decide +kernel
theorem dX12_habits_0 : decode cX12_habits 0 = .ok (.aload_n 0, 1) := by decide +kernel
theorem dX12_habits_1 : decode cX12_habits 1 = .ok (.iload_n 1, 1) := by decide +kernel
theorem dX12_habits_2 : decode cX12_habits 2 = .ok (.invokevirtual 172, 3) := by decide +kernel
theorem dX12_habits_5 : decode cX12_habits 5 = .ok (.ifCond .eq 15, 3) := by decide +kernel
theorem dX12_habits_8 : decode cX12_habits 8 = .ok (.iload_n 2, 1) := by decide +kernel
theorem dX12_habits_9 : decode cX12_habits 9 = .ok (.ifCond .lt 11, 3) := by decide +kernel
theorem dX12_habits_12 : decode cX12_habits 12 = .ok (.iload_n 2, 1) := by decide +kernel
theorem dX12_habits_13 : decode cX12_habits 13 = .ok (.aload_n 0, 1) := by decide +kernel
theorem dX12_habits_14 : decode cX12_habits 14 = .ok (.getfield 201, 3) := by decide +kernel
theorem dX12_habits_17 : decode cX12_habits 17 = .ok (.if_icmp .le 12, 3) := by decide +kernel
theorem dX12_habits_20 : decode cX12_habits 20 = .ok (.aload_n 0, 1) := by decide +kernel
theorem dX12_habits_21 : decode cX12_habits 21 = .ok (.iconst 0, 1) := by decide +kernel
theorem dX12_habits_22 : decode cX12_habits 22 = .ok (.invokevirtual 161, 3) := by decide +kernel
theorem dX12_habits_25 : decode cX12_habits 25 = .ok (.pop, 1) := by decide +kernel
theorem dX12_habits_26 : decode cX12_habits 26 = .ok (.bipush (-2), 2) := by decide +kernel
theorem dX12_habits_28 : decode cX12_habits 28 = .ok (.ireturn, 1) := by decide +kernel
theorem dX12_habits_29 : decode cX12_habits 29 = .ok (.aload_n 0, 1) := by decide +kernel
theorem dX12_habits_30 : decode cX12_habits 30 = .ok (.iload_n 2, 1) := by decide +kernel
theorem dX12_habits_31 : decode cX12_habits 31 = .ok (.bipush 24, 2) := by decide +kernel
theorem dX12_habits_33 : decode cX12_habits 33 = .ok (.iconst 0, 1) := by decide +kernel
theorem dX12_habits_34 : decode cX12_habits 34 = .ok (.invokevirtual 348, 3) := by decide +kernel
theorem dX12_habits_37 : decode cX12_habits 37 = .ok (.ifCond .ne 9, 3) := by decide +kernel
theorem dX12_habits_40 : decode cX12_habits 40 = .ok (.aload_n 0, 1) := by decide +kernel
theorem dX12_habits_41 : decode cX12_habits 41 = .ok (.iconst 2, 1) := by decide +kernel
theorem dX12_habits_42 : decode cX12_habits 42 = .ok (.invokevirtual 161, 3) := by decide +kernel
theorem dX12_habits_45 : decode cX12_habits 45 = .ok (.ireturn, 1) := by decide +kernel
theorem dX12_habits_46 : decode cX12_habits 46 = .ok (.bipush 8, 2) := by decide +kernel
theorem dX12_habits_48 : decode cX12_habits 48 = .ok (.iload_n 1, 1) := by decide +kernel
theorem dX12_habits_49 : decode cX12_habits 49 = .ok (.iadd, 1) := by decide +kernel
theorem dX12_habits_50 : decode cX12_habits 50 = .ok (.istore_n 3, 1) := by decide +kernel
theorem dX12_habits_51 : decode cX12_habits 51 = .ok (.aload_n 0, 1) := by decide +kernel
theorem dX12_habits_52 : decode cX12_habits 52 = .ok (.getfield 63, 3) := by decide +kernel
theorem dX12_habits_55 : decode cX12_habits 55 = .ok (.iload_n 3, 1) := by decide +kernel
theorem dX12_habits_56 : decode cX12_habits 56 = .ok (.aload_n 0, 1) := by decide +kernel
theorem dX12_habits_57 : decode cX12_habits 57 = .ok (.getfield 63, 3) := by decide +kernel
theorem dX12_habits_60 : decode cX12_habits 60 = .ok (.bipush 24, 2) := by decide +kernel
theorem dX12_habits_62 : decode cX12_habits 62 = .ok (.iaload, 1) := by decide +kernel
theorem dX12_habits_63 : decode cX12_habits 63 = .ok (.iastore, 1) := by decide +kernel
theorem dX12_habits_64 : decode cX12_habits 64 = .ok (.iconst 0, 1) := by decide +kernel
theorem dX12_habits_65 : decode cX12_habits 65 = .ok (.istore 4, 2) := by decide +kernel
theorem dX12_habits_67 : decode cX12_habits 67 = .ok (.iload 4, 2) := by decide +kernel
theorem dX12_habits_69 : decode cX12_habits 69 = .ok (.bipush 40, 2) := by decide +kernel
theorem dX12_habits_71 : decode cX12_habits 71 = .ok (.if_icmp .ge 124, 3) := by decide +kernel
theorem dX12_habits_74 : decode cX12_habits 74 = .ok (.aload_n 0, 1) := by decide +kernel
theorem dX12_habits_75 : decode cX12_habits 75 = .ok (.getfield 69, 3) := by decide +kernel
theorem dX12_habits_78 : decode cX12_habits 78 = .ok (.bipush 40, 2) := by decide +kernel
theorem dX12_habits_80 : decode cX12_habits 80 = .ok (.iload_n 3, 1) := by decide +kernel
theorem dX12_habits_81 : decode cX12_habits 81 = .ok (.imul, 1) := by decide +kernel
theorem dX12_habits_82 : decode cX12_habits 82 = .ok (.iload 4, 2) := by decide +kernel
theorem dX12_habits_84 : decode cX12_habits 84 = .ok (.iadd, 1) := by decide +kernel
theorem dX12_habits_85 : decode cX12_habits 85 = .ok (.aload_n 0, 1) := by decide +kernel
theorem dX12_habits_86 : decode cX12_habits 86 = .ok (.getfield 69, 3) := by decide +kernel
theorem dX12_habits_89 : decode cX12_habits 89 = .ok (.sipush 960, 3) := by decide +kernel
theorem dX12_habits_92 : decode cX12_habits 92 = .ok (.iload 4, 2) := by decide +kernel
theorem dX12_habits_94 : decode cX12_habits 94 = .ok (.iadd, 1) := by decide +kernel
theorem dX12_habits_95 : decode cX12_habits 95 = .ok (.iaload, 1) := by decide +kernel
theorem dX12_habits_96 : decode cX12_habits 96 = .ok (.iastore, 1) := by decide +kernel
theorem dX12_habits_97 : decode cX12_habits 97 = .ok (.aload_n 0, 1) := by decide +kernel
theorem dX12_habits_98 : decode cX12_habits 98 = .ok (.getfield 72, 3) := by decide +kernel
theorem dX12_habits_101 : decode cX12_habits 101 = .ok (.bipush 40, 2) := by decide +kernel
theorem dX12_habits_103 : decode cX12_habits 103 = .ok (.iload_n 3, 1) := by decide +kernel
theorem dX12_habits_104 : decode cX12_habits 104 = .ok (.imul, 1) := by decide +kernel
theorem dX12_habits_105 : decode cX12_habits 105 = .ok (.iload 4, 2) := by decide +kernel
theorem dX12_habits_107 : decode cX12_habits 107 = .ok (.iadd, 1) := by decide +kernel
theorem dX12_habits_108 : decode cX12_habits 108 = .ok (.aload_n 0, 1) := by decide +kernel
theorem dX12_habits_109 : decode cX12_habits 109 = .ok (.getfield 72, 3) := by decide +kernel
theorem dX12_habits_112 : decode cX12_habits 112 = .ok (.sipush 960, 3) := by decide +kernel
theorem dX12_habits_115 : decode cX12_habits 115 = .ok (.iload 4, 2) := by decide +kernel
theorem dX12_habits_117 : decode cX12_habits 117 = .ok (.iadd, 1) := by decide +kernel
theorem dX12_habits_118 : decode cX12_habits 118 = .ok (.iaload, 1) := by decide +kernel
theorem dX12_habits_119 : decode cX12_habits 119 = .ok (.iastore, 1) := by decide +kernel
theorem dX12_habits_120 : decode cX12_habits 120 = .ok (.aload_n 0, 1) := by decide +kernel
theorem dX12_habits_121 : decode cX12_habits 121 = .ok (.getfield 75, 3) := by decide +kernel
theorem dX12_habits_124 : decode cX12_habits 124 = .ok (.bipush 40, 2) := by decide +kernel
theorem dX12_habits_126 : decode cX12_habits 126 = .ok (.iload_n 3, 1) := by decide +kernel
theorem dX12_habits_127 : decode cX12_habits 127 = .ok (.imul, 1) := by decide +kernel
theorem dX12_habits_128 : decode cX12_habits 128 = .ok (.iload 4, 2) := by decide +kernel
theorem dX12_habits_130 : decode cX12_habits 130 = .ok (.iadd, 1) := by decide +kernel
theorem dX12_habits_131 : decode cX12_habits 131 = .ok (.aload_n 0, 1) := by decide +kernel
theorem dX12_habits_132 : decode cX12_habits 132 = .ok (.getfield 75, 3) := by decide +kernel
theorem dX12_habits_135 : decode cX12_habits 135 = .ok (.sipush 960, 3) := by decide +kernel
theorem dX12_habits_138 : decode cX12_habits 138 = .ok (.iload 4, 2) := by decide +kernel
theorem dX12_habits_140 : decode cX12_habits 140 = .ok (.iadd, 1) := by decide +kernel
theorem dX12_habits_141 : decode cX12_habits 141 = .ok (.iaload, 1) := by decide +kernel
theorem dX12_habits_142 : decode cX12_habits 142 = .ok (.iastore, 1) := by decide +kernel
theorem dX12_habits_143 : decode cX12_habits 143 = .ok (.aload_n 0, 1) := by decide +kernel
theorem dX12_habits_144 : decode cX12_habits 144 = .ok (.getfield 78, 3) := by decide +kernel
theorem dX12_habits_147 : decode cX12_habits 147 = .ok (.bipush 40, 2) := by decide +kernel
theorem dX12_habits_149 : decode cX12_habits 149 = .ok (.iload_n 3, 1) := by decide +kernel
theorem dX12_habits_150 : decode cX12_habits 150 = .ok (.imul, 1) := by decide +kernel
theorem dX12_habits_151 : decode cX12_habits 151 = .ok (.iload 4, 2) := by decide +kernel
theorem dX12_habits_153 : decode cX12_habits 153 = .ok (.iadd, 1) := by decide +kernel
theorem dX12_habits_154 : decode cX12_habits 154 = .ok (.aload_n 0, 1) := by decide +kernel
theorem dX12_habits_155 : decode cX12_habits 155 = .ok (.getfield 78, 3) := by decide +kernel
theorem dX12_habits_158 : decode cX12_habits 158 = .ok (.sipush 960, 3) := by decide +kernel
theorem dX12_habits_161 : decode cX12_habits 161 = .ok (.iload 4, 2) := by decide +kernel
theorem dX12_habits_163 : decode cX12_habits 163 = .ok (.iadd, 1) := by decide +kernel
theorem dX12_habits_164 : decode cX12_habits 164 = .ok (.iaload, 1) := by decide +kernel
theorem dX12_habits_165 : decode cX12_habits 165 = .ok (.iastore, 1) := by decide +kernel
theorem dX12_habits_166 : decode cX12_habits 166 = .ok (.aload_n 0, 1) := by decide +kernel
theorem dX12_habits_167 : decode cX12_habits 167 = .ok (.getfield 81, 3) := by decide +kernel
theorem dX12_habits_170 : decode cX12_habits 170 = .ok (.bipush 40, 2) := by decide +kernel
theorem dX12_habits_172 : decode cX12_habits 172 = .ok (.iload_n 3, 1) := by decide +kernel
theorem dX12_habits_173 : decode cX12_habits 173 = .ok (.imul, 1) := by decide +kernel
theorem dX12_habits_174 : decode cX12_habits 174 = .ok (.iload 4, 2) := by decide +kernel
theorem dX12_habits_176 : decode cX12_habits 176 = .ok (.iadd, 1) := by decide +kernel
theorem dX12_habits_177 : decode cX12_habits 177 = .ok (.aload_n 0, 1) := by decide +kernel
theorem dX12_habits_178 : decode cX12_habits 178 = .ok (.getfield 81, 3) := by decide +kernel
theorem dX12_habits_181 : decode cX12_habits 181 = .ok (.sipush 960, 3) := by decide +kernel
theorem dX12_habits_184 : decode cX12_habits 184 = .ok (.iload 4, 2) := by decide +kernel
theorem dX12_habits_186 : decode cX12_habits 186 = .ok (.iadd, 1) := by decide +kernel
theorem dX12_habits_187 : decode cX12_habits 187 = .ok (.iaload, 1) := by decide +kernel
theorem dX12_habits_188 : decode cX12_habits 188 = .ok (.iastore, 1) := by decide +kernel
theorem dX12_habits_189 : decode cX12_habits 189 = .ok (.iinc 4 1, 3) := by decide +kernel
theorem dX12_habits_192 : decode cX12_habits 192 = .ok (.goto (-125), 3) := by decide +kernel
theorem dX12_habits_195 : decode cX12_habits 195 = .ok (.iconst 0, 1) := by decide +kernel
theorem dX12_habits_196 : decode cX12_habits 196 = .ok (.istore 4, 2) := by decide +kernel
theorem dX12_habits_198 : decode cX12_habits 198 = .ok (.iload 4, 2) := by decide +kernel
theorem dX12_habits_200 : decode cX12_habits 200 = .ok (.sipush 320, 3) := by decide +kernel
theorem dX12_habits_203 : decode cX12_habits 203 = .ok (.if_icmp .ge 57, 3) := by decide +kernel
theorem dX12_habits_206 : decode cX12_habits 206 = .ok (.aload_n 0, 1) := by decide +kernel
theorem dX12_habits_207 : decode cX12_habits 207 = .ok (.getfield 84, 3) := by decide +kernel
theorem dX12_habits_210 : decode cX12_habits 210 = .ok (.sipush 320, 3) := by decide +kernel
theorem dX12_habits_213 : decode cX12_habits 213 = .ok (.iload_n 3, 1) := by decide +kernel
theorem dX12_habits_214 : decode cX12_habits 214 = .ok (.imul, 1) := by decide +kernel
theorem dX12_habits_215 : decode cX12_habits 215 = .ok (.iload 4, 2) := by decide +kernel
theorem dX12_habits_217 : decode cX12_habits 217 = .ok (.iadd, 1) := by decide +kernel
theorem dX12_habits_218 : decode cX12_habits 218 = .ok (.aload_n 0, 1) := by decide +kernel
theorem dX12_habits_219 : decode cX12_habits 219 = .ok (.getfield 84, 3) := by decide +kernel
theorem dX12_habits_222 : decode cX12_habits 222 = .ok (.sipush 7680, 3) := by decide +kernel
theorem dX12_habits_225 : decode cX12_habits 225 = .ok (.iload 4, 2) := by decide +kernel
theorem dX12_habits_227 : decode cX12_habits 227 = .ok (.iadd, 1) := by decide +kernel
theorem dX12_habits_228 : decode cX12_habits 228 = .ok (.iaload, 1) := by decide +kernel
theorem dX12_habits_229 : decode cX12_habits 229 = .ok (.iastore, 1) := by decide +kernel
theorem dX12_habits_230 : decode cX12_habits 230 = .ok (.aload_n 0, 1) := by decide +kernel
theorem dX12_habits_231 : decode cX12_habits 231 = .ok (.getfield 87, 3) := by decide +kernel
theorem dX12_habits_234 : decode cX12_habits 234 = .ok (.sipush 320, 3) := by decide +kernel
theorem dX12_habits_237 : decode cX12_habits 237 = .ok (.iload_n 3, 1) := by decide +kernel
theorem dX12_habits_238 : decode cX12_habits 238 = .ok (.imul, 1) := by decide +kernel
theorem dX12_habits_239 : decode cX12_habits 239 = .ok (.iload 4, 2) := by decide +kernel
theorem dX12_habits_241 : decode cX12_habits 241 = .ok (.iadd, 1) := by decide +kernel
theorem dX12_habits_242 : decode cX12_habits 242 = .ok (.aload_n 0, 1) := by decide +kernel
theorem dX12_habits_243 : decode cX12_habits 243 = .ok (.getfield 87, 3) := by decide +kernel
theorem dX12_habits_246 : decode cX12_habits 246 = .ok (.sipush 7680, 3) := by decide +kernel
theorem dX12_habits_249 : decode cX12_habits 249 = .ok (.iload 4, 2) := by decide +kernel
theorem dX12_habits_251 : decode cX12_habits 251 = .ok (.iadd, 1) := by decide +kernel
theorem dX12_habits_252 : decode cX12_habits 252 = .ok (.iaload, 1) := by decide +kernel
theorem dX12_habits_253 : decode cX12_habits 253 = .ok (.iastore, 1) := by decide +kernel
theorem dX12_habits_254 : decode cX12_habits 254 = .ok (.iinc 4 1, 3) := by decide +kernel
theorem dX12_habits_257 : decode cX12_habits 257 = .ok (.goto (-59), 3) := by decide +kernel
theorem dX12_habits_260 : decode cX12_habits 260 = .ok (.aload_n 0, 1) := by decide +kernel
theorem dX12_habits_261 : decode cX12_habits 261 = .ok (.getfield 63, 3) := by decide +kernel
theorem dX12_habits_264 : decode cX12_habits 264 = .ok (.iload_n 3, 1) := by decide +kernel
theorem dX12_habits_265 : decode cX12_habits 265 = .ok (.iaload, 1) := by decide +kernel
theorem dX12_habits_266 : decode cX12_habits 266 = .ok (.ireturn, 1) := by decide +kernel
theorem dX12_fault_0 : decode cX12_fault 0 = .ok (.aload_n 0, 1) := by decide +kernel
theorem dX12_fault_1 : decode cX12_fault 1 = .ok (.getfield 94, 3) := by decide +kernel
theorem dX12_fault_4 : decode cX12_fault 4 = .ok (.ireturn, 1) := by decide +kernel
theorem dX12_holds_0 : decode cX12_holds 0 = .ok (.iconst 0, 1) := by decide +kernel
theorem dX12_holds_1 : decode cX12_holds 1 = .ok (.istore_n 3, 1) := by decide +kernel
theorem dX12_holds_2 : decode cX12_holds 2 = .ok (.sipush 320, 3) := by decide +kernel
theorem dX12_holds_5 : decode cX12_holds 5 = .ok (.iload_n 1, 1) := by decide +kernel
theorem dX12_holds_6 : decode cX12_holds 6 = .ok (.imul, 1) := by decide +kernel
theorem dX12_holds_7 : decode cX12_holds 7 = .ok (.aload_n 0, 1) := by decide +kernel
theorem dX12_holds_8 : decode cX12_holds 8 = .ok (.getfield 78, 3) := by decide +kernel
theorem dX12_holds_11 : decode cX12_holds 11 = .ok (.iload_n 2, 1) := by decide +kernel
theorem dX12_holds_12 : decode cX12_holds 12 = .ok (.iaload, 1) := by decide +kernel
theorem dX12_holds_13 : decode cX12_holds 13 = .ok (.iadd, 1) := by decide +kernel
theorem dX12_holds_14 : decode cX12_holds 14 = .ok (.istore 4, 2) := by decide +kernel
theorem dX12_holds_16 : decode cX12_holds 16 = .ok (.iload 4, 2) := by decide +kernel
theorem dX12_holds_18 : decode cX12_holds 18 = .ok (.sipush 320, 3) := by decide +kernel
theorem dX12_holds_21 : decode cX12_holds 21 = .ok (.iload_n 1, 1) := by decide +kernel
theorem dX12_holds_22 : decode cX12_holds 22 = .ok (.imul, 1) := by decide +kernel
theorem dX12_holds_23 : decode cX12_holds 23 = .ok (.aload_n 0, 1) := by decide +kernel
theorem dX12_holds_24 : decode cX12_holds 24 = .ok (.getfield 81, 3) := by decide +kernel
theorem dX12_holds_27 : decode cX12_holds 27 = .ok (.iload_n 2, 1) := by decide +kernel
theorem dX12_holds_28 : decode cX12_holds 28 = .ok (.iaload, 1) := by decide +kernel
theorem dX12_holds_29 : decode cX12_holds 29 = .ok (.iadd, 1) := by decide +kernel
theorem dX12_holds_30 : decode cX12_holds 30 = .ok (.if_icmp .ge 225, 3) := by decide +kernel
theorem dX12_holds_33 : decode cX12_holds 33 = .ok (.aload_n 0, 1) := by decide +kernel
theorem dX12_holds_34 : decode cX12_holds 34 = .ok (.getfield 84, 3) := by decide +kernel
theorem dX12_holds_37 : decode cX12_holds 37 = .ok (.iload 4, 2) := by decide +kernel
theorem dX12_holds_39 : decode cX12_holds 39 = .ok (.iaload, 1) := by decide +kernel
theorem dX12_holds_40 : decode cX12_holds 40 = .ok (.istore 5, 2) := by decide +kernel
theorem dX12_holds_42 : decode cX12_holds 42 = .ok (.iload 5, 2) := by decide +kernel
theorem dX12_holds_44 : decode cX12_holds 44 = .ok (.bipush 20, 2) := by decide +kernel
theorem dX12_holds_46 : decode cX12_holds 46 = .ok (.if_icmp .ge 98, 3) := by decide +kernel
theorem dX12_holds_49 : decode cX12_holds 49 = .ok (.aload_n 0, 1) := by decide +kernel
theorem dX12_holds_50 : decode cX12_holds 50 = .ok (.getfield 100, 3) := by decide +kernel
theorem dX12_holds_53 : decode cX12_holds 53 = .ok (.iload 5, 2) := by decide +kernel
theorem dX12_holds_55 : decode cX12_holds 55 = .ok (.iconst 4, 1) := by decide +kernel
theorem dX12_holds_56 : decode cX12_holds 56 = .ok (.idiv, 1) := by decide +kernel
theorem dX12_holds_57 : decode cX12_holds 57 = .ok (.iaload, 1) := by decide +kernel
theorem dX12_holds_58 : decode cX12_holds 58 = .ok (.istore 6, 2) := by decide +kernel
theorem dX12_holds_60 : decode cX12_holds 60 = .ok (.aload_n 0, 1) := by decide +kernel
theorem dX12_holds_61 : decode cX12_holds 61 = .ok (.getfield 103, 3) := by decide +kernel
theorem dX12_holds_64 : decode cX12_holds 64 = .ok (.iload_n 3, 1) := by decide +kernel
theorem dX12_holds_65 : decode cX12_holds 65 = .ok (.iload 5, 2) := by decide +kernel
theorem dX12_holds_67 : decode cX12_holds 67 = .ok (.iconst 4, 1) := by decide +kernel
theorem dX12_holds_68 : decode cX12_holds 68 = .ok (.irem, 1) := by decide +kernel
theorem dX12_holds_69 : decode cX12_holds 69 = .ok (.ifCond .ne 23, 3) := by decide +kernel
theorem dX12_holds_72 : decode cX12_holds 72 = .ok (.iload 6, 2) := by decide +kernel
theorem dX12_holds_74 : decode cX12_holds 74 = .ok (.aload_n 0, 1) := by decide +kernel
theorem dX12_holds_75 : decode cX12_holds 75 = .ok (.getfield 87, 3) := by decide +kernel
theorem dX12_holds_78 : decode cX12_holds 78 = .ok (.iload 4, 2) := by decide +kernel
theorem dX12_holds_80 : decode cX12_holds 80 = .ok (.iaload, 1) := by decide +kernel
theorem dX12_holds_81 : decode cX12_holds 81 = .ok (.if_icmp .ge 7, 3) := by decide +kernel
theorem dX12_holds_84 : decode cX12_holds 84 = .ok (.iconst 1, 1) := by decide +kernel
theorem dX12_holds_85 : decode cX12_holds 85 = .ok (.goto 52, 3) := by decide +kernel
theorem dX12_holds_88 : decode cX12_holds 88 = .ok (.iconst 0, 1) := by decide +kernel
theorem dX12_holds_89 : decode cX12_holds 89 = .ok (.goto 48, 3) := by decide +kernel
theorem dX12_holds_92 : decode cX12_holds 92 = .ok (.iload 5, 2) := by decide +kernel
theorem dX12_holds_94 : decode cX12_holds 94 = .ok (.iconst 4, 1) := by decide +kernel
theorem dX12_holds_95 : decode cX12_holds 95 = .ok (.irem, 1) := by decide +kernel
theorem dX12_holds_96 : decode cX12_holds 96 = .ok (.iconst 1, 1) := by decide +kernel
theorem dX12_holds_97 : decode cX12_holds 97 = .ok (.if_icmp .ne 23, 3) := by decide +kernel
theorem dX12_holds_100 : decode cX12_holds 100 = .ok (.iload 6, 2) := by decide +kernel
theorem dX12_holds_102 : decode cX12_holds 102 = .ok (.aload_n 0, 1) := by decide +kernel
theorem dX12_holds_103 : decode cX12_holds 103 = .ok (.getfield 87, 3) := by decide +kernel
theorem dX12_holds_106 : decode cX12_holds 106 = .ok (.iload 4, 2) := by decide +kernel
theorem dX12_holds_108 : decode cX12_holds 108 = .ok (.iaload, 1) := by decide +kernel
theorem dX12_holds_109 : decode cX12_holds 109 = .ok (.if_icmp .le 7, 3) := by decide +kernel
theorem dX12_holds_112 : decode cX12_holds 112 = .ok (.iconst 1, 1) := by decide +kernel
theorem dX12_holds_113 : decode cX12_holds 113 = .ok (.goto 24, 3) := by decide +kernel
theorem dX12_holds_116 : decode cX12_holds 116 = .ok (.iconst 0, 1) := by decide +kernel
theorem dX12_holds_117 : decode cX12_holds 117 = .ok (.goto 20, 3) := by decide +kernel
theorem dX12_holds_120 : decode cX12_holds 120 = .ok (.iload 6, 2) := by decide +kernel
theorem dX12_holds_122 : decode cX12_holds 122 = .ok (.aload_n 0, 1) := by decide +kernel
theorem dX12_holds_123 : decode cX12_holds 123 = .ok (.getfield 87, 3) := by decide +kernel
theorem dX12_holds_126 : decode cX12_holds 126 = .ok (.iload 4, 2) := by decide +kernel
theorem dX12_holds_128 : decode cX12_holds 128 = .ok (.iaload, 1) := by decide +kernel
theorem dX12_holds_129 : decode cX12_holds 129 = .ok (.if_icmp .ne 7, 3) := by decide +kernel
theorem dX12_holds_132 : decode cX12_holds 132 = .ok (.iconst 1, 1) := by decide +kernel
theorem dX12_holds_133 : decode cX12_holds 133 = .ok (.goto 4, 3) := by decide +kernel
theorem dX12_holds_136 : decode cX12_holds 136 = .ok (.iconst 0, 1) := by decide +kernel
theorem dX12_holds_137 : decode cX12_holds 137 = .ok (.bastore, 1) := by decide +kernel
theorem dX12_holds_138 : decode cX12_holds 138 = .ok (.iinc 3 1, 3) := by decide +kernel
theorem dX12_holds_141 : decode cX12_holds 141 = .ok (.goto 108, 3) := by decide +kernel
theorem dX12_holds_144 : decode cX12_holds 144 = .ok (.iload 5, 2) := by decide +kernel
theorem dX12_holds_146 : decode cX12_holds 146 = .ok (.bipush 20, 2) := by decide +kernel
theorem dX12_holds_148 : decode cX12_holds 148 = .ok (.if_icmp .ne 30, 3) := by decide +kernel
theorem dX12_holds_151 : decode cX12_holds 151 = .ok (.aload_n 0, 1) := by decide +kernel
theorem dX12_holds_152 : decode cX12_holds 152 = .ok (.getfield 103, 3) := by decide +kernel
theorem dX12_holds_155 : decode cX12_holds 155 = .ok (.iload_n 3, 1) := by decide +kernel
theorem dX12_holds_156 : decode cX12_holds 156 = .ok (.iconst 1, 1) := by decide +kernel
theorem dX12_holds_157 : decode cX12_holds 157 = .ok (.isub, 1) := by decide +kernel
theorem dX12_holds_158 : decode cX12_holds 158 = .ok (.aload_n 0, 1) := by decide +kernel
theorem dX12_holds_159 : decode cX12_holds 159 = .ok (.getfield 103, 3) := by decide +kernel
theorem dX12_holds_162 : decode cX12_holds 162 = .ok (.iload_n 3, 1) := by decide +kernel
theorem dX12_holds_163 : decode cX12_holds 163 = .ok (.iconst 1, 1) := by decide +kernel
theorem dX12_holds_164 : decode cX12_holds 164 = .ok (.isub, 1) := by decide +kernel
theorem dX12_holds_165 : decode cX12_holds 165 = .ok (.baload, 1) := by decide +kernel
theorem dX12_holds_166 : decode cX12_holds 166 = .ok (.ifCond .ne 7, 3) := by decide +kernel
theorem dX12_holds_169 : decode cX12_holds 169 = .ok (.iconst 1, 1) := by decide +kernel
theorem dX12_holds_170 : decode cX12_holds 170 = .ok (.goto 4, 3) := by decide +kernel
theorem dX12_holds_173 : decode cX12_holds 173 = .ok (.iconst 0, 1) := by decide +kernel
theorem dX12_holds_174 : decode cX12_holds 174 = .ok (.bastore, 1) := by decide +kernel
theorem dX12_holds_175 : decode cX12_holds 175 = .ok (.goto 74, 3) := by decide +kernel
theorem dX12_holds_178 : decode cX12_holds 178 = .ok (.iinc 3 (-1), 3) := by decide +kernel
theorem dX12_holds_181 : decode cX12_holds 181 = .ok (.aload_n 0, 1) := by decide +kernel
theorem dX12_holds_182 : decode cX12_holds 182 = .ok (.getfield 103, 3) := by decide +kernel
theorem dX12_holds_185 : decode cX12_holds 185 = .ok (.iload_n 3, 1) := by decide +kernel
theorem dX12_holds_186 : decode cX12_holds 186 = .ok (.iconst 1, 1) := by decide +kernel
theorem dX12_holds_187 : decode cX12_holds 187 = .ok (.isub, 1) := by decide +kernel
theorem dX12_holds_188 : decode cX12_holds 188 = .ok (.iload 5, 2) := by decide +kernel
theorem dX12_holds_190 : decode cX12_holds 190 = .ok (.bipush 21, 2) := by decide +kernel
theorem dX12_holds_192 : decode cX12_holds 192 = .ok (.if_icmp .ne 31, 3) := by decide +kernel
theorem dX12_holds_195 : decode cX12_holds 195 = .ok (.aload_n 0, 1) := by decide +kernel
theorem dX12_holds_196 : decode cX12_holds 196 = .ok (.getfield 103, 3) := by decide +kernel
theorem dX12_holds_199 : decode cX12_holds 199 = .ok (.iload_n 3, 1) := by decide +kernel
theorem dX12_holds_200 : decode cX12_holds 200 = .ok (.iconst 1, 1) := by decide +kernel
theorem dX12_holds_201 : decode cX12_holds 201 = .ok (.isub, 1) := by decide +kernel
theorem dX12_holds_202 : decode cX12_holds 202 = .ok (.baload, 1) := by decide +kernel
theorem dX12_holds_203 : decode cX12_holds 203 = .ok (.ifCond .eq 16, 3) := by decide +kernel
theorem dX12_holds_206 : decode cX12_holds 206 = .ok (.aload_n 0, 1) := by decide +kernel
theorem dX12_holds_207 : decode cX12_holds 207 = .ok (.getfield 103, 3) := by decide +kernel
theorem dX12_holds_210 : decode cX12_holds 210 = .ok (.iload_n 3, 1) := by decide +kernel
theorem dX12_holds_211 : decode cX12_holds 211 = .ok (.baload, 1) := by decide +kernel
theorem dX12_holds_212 : decode cX12_holds 212 = .ok (.ifCond .eq 7, 3) := by decide +kernel
theorem dX12_holds_215 : decode cX12_holds 215 = .ok (.iconst 1, 1) := by decide +kernel
theorem dX12_holds_216 : decode cX12_holds 216 = .ok (.goto 32, 3) := by decide +kernel
theorem dX12_holds_219 : decode cX12_holds 219 = .ok (.iconst 0, 1) := by decide +kernel
theorem dX12_holds_220 : decode cX12_holds 220 = .ok (.goto 28, 3) := by decide +kernel
theorem dX12_holds_223 : decode cX12_holds 223 = .ok (.aload_n 0, 1) := by decide +kernel
theorem dX12_holds_224 : decode cX12_holds 224 = .ok (.getfield 103, 3) := by decide +kernel
theorem dX12_holds_227 : decode cX12_holds 227 = .ok (.iload_n 3, 1) := by decide +kernel
theorem dX12_holds_228 : decode cX12_holds 228 = .ok (.iconst 1, 1) := by decide +kernel
theorem dX12_holds_229 : decode cX12_holds 229 = .ok (.isub, 1) := by decide +kernel
theorem dX12_holds_230 : decode cX12_holds 230 = .ok (.baload, 1) := by decide +kernel
theorem dX12_holds_231 : decode cX12_holds 231 = .ok (.ifCond .ne 12, 3) := by decide +kernel
theorem dX12_holds_234 : decode cX12_holds 234 = .ok (.aload_n 0, 1) := by decide +kernel
theorem dX12_holds_235 : decode cX12_holds 235 = .ok (.getfield 103, 3) := by decide +kernel
theorem dX12_holds_238 : decode cX12_holds 238 = .ok (.iload_n 3, 1) := by decide +kernel
theorem dX12_holds_239 : decode cX12_holds 239 = .ok (.baload, 1) := by decide +kernel
theorem dX12_holds_240 : decode cX12_holds 240 = .ok (.ifCond .eq 7, 3) := by decide +kernel
theorem dX12_holds_243 : decode cX12_holds 243 = .ok (.iconst 1, 1) := by decide +kernel
theorem dX12_holds_244 : decode cX12_holds 244 = .ok (.goto 4, 3) := by decide +kernel
theorem dX12_holds_247 : decode cX12_holds 247 = .ok (.iconst 0, 1) := by decide +kernel
theorem dX12_holds_248 : decode cX12_holds 248 = .ok (.bastore, 1) := by decide +kernel
theorem dX12_holds_249 : decode cX12_holds 249 = .ok (.iinc 4 1, 3) := by decide +kernel
theorem dX12_holds_252 : decode cX12_holds 252 = .ok (.goto (-236), 3) := by decide +kernel
theorem dX12_holds_255 : decode cX12_holds 255 = .ok (.iload_n 3, 1) := by decide +kernel
theorem dX12_holds_256 : decode cX12_holds 256 = .ok (.ifCond .eq 12, 3) := by decide +kernel
theorem dX12_holds_259 : decode cX12_holds 259 = .ok (.aload_n 0, 1) := by decide +kernel
theorem dX12_holds_260 : decode cX12_holds 260 = .ok (.getfield 103, 3) := by decide +kernel
theorem dX12_holds_263 : decode cX12_holds 263 = .ok (.iconst 0, 1) := by decide +kernel
theorem dX12_holds_264 : decode cX12_holds 264 = .ok (.baload, 1) := by decide +kernel
theorem dX12_holds_265 : decode cX12_holds 265 = .ok (.ifCond .eq 7, 3) := by decide +kernel
theorem dX12_holds_268 : decode cX12_holds 268 = .ok (.iconst 1, 1) := by decide +kernel
theorem dX12_holds_269 : decode cX12_holds 269 = .ok (.goto 4, 3) := by decide +kernel
theorem dX12_holds_272 : decode cX12_holds 272 = .ok (.iconst 0, 1) := by decide +kernel
theorem dX12_holds_273 : decode cX12_holds 273 = .ok (.ireturn, 1) := by decide +kernel
theorem dX12_scaleFor_0 : decode cX12_scaleFor 0 = .ok (.iconst (-1), 1) := by decide +kernel
theorem dX12_scaleFor_1 : decode cX12_scaleFor 1 = .ok (.istore_n 2, 1) := by decide +kernel
theorem dX12_scaleFor_2 : decode cX12_scaleFor 2 = .ok (.iconst 0, 1) := by decide +kernel
theorem dX12_scaleFor_3 : decode cX12_scaleFor 3 = .ok (.istore_n 3, 1) := by decide +kernel
theorem dX12_scaleFor_4 : decode cX12_scaleFor 4 = .ok (.iload_n 3, 1) := by decide +kernel
theorem dX12_scaleFor_5 : decode cX12_scaleFor 5 = .ok (.aload_n 0, 1) := by decide +kernel
theorem dX12_scaleFor_6 : decode cX12_scaleFor 6 = .ok (.getfield 345, 3) := by decide +kernel
theorem dX12_scaleFor_9 : decode cX12_scaleFor 9 = .ok (.if_icmp .ge 40, 3) := by decide +kernel
theorem dX12_scaleFor_12 : decode cX12_scaleFor 12 = .ok (.aload_n 0, 1) := by decide +kernel
theorem dX12_scaleFor_13 : decode cX12_scaleFor 13 = .ok (.getfield 66, 3) := by decide +kernel
theorem dX12_scaleFor_16 : decode cX12_scaleFor 16 = .ok (.iload_n 3, 1) := by decide +kernel
theorem dX12_scaleFor_17 : decode cX12_scaleFor 17 = .ok (.iaload, 1) := by decide +kernel
theorem dX12_scaleFor_18 : decode cX12_scaleFor 18 = .ok (.iload_n 1, 1) := by decide +kernel
theorem dX12_scaleFor_19 : decode cX12_scaleFor 19 = .ok (.if_icmp .gt 24, 3) := by decide +kernel
theorem dX12_scaleFor_22 : decode cX12_scaleFor 22 = .ok (.iload_n 2, 1) := by decide +kernel
theorem dX12_scaleFor_23 : decode cX12_scaleFor 23 = .ok (.ifCond .lt 18, 3) := by decide +kernel
theorem dX12_scaleFor_26 : decode cX12_scaleFor 26 = .ok (.aload_n 0, 1) := by decide +kernel
theorem dX12_scaleFor_27 : decode cX12_scaleFor 27 = .ok (.getfield 66, 3) := by decide +kernel
theorem dX12_scaleFor_30 : decode cX12_scaleFor 30 = .ok (.iload_n 3, 1) := by decide +kernel
theorem dX12_scaleFor_31 : decode cX12_scaleFor 31 = .ok (.iaload, 1) := by decide +kernel
theorem dX12_scaleFor_32 : decode cX12_scaleFor 32 = .ok (.aload_n 0, 1) := by decide +kernel
theorem dX12_scaleFor_33 : decode cX12_scaleFor 33 = .ok (.getfield 66, 3) := by decide +kernel
theorem dX12_scaleFor_36 : decode cX12_scaleFor 36 = .ok (.iload_n 2, 1) := by decide +kernel
theorem dX12_scaleFor_37 : decode cX12_scaleFor 37 = .ok (.iaload, 1) := by decide +kernel
theorem dX12_scaleFor_38 : decode cX12_scaleFor 38 = .ok (.if_icmp .lt 5, 3) := by decide +kernel
theorem dX12_scaleFor_41 : decode cX12_scaleFor 41 = .ok (.iload_n 3, 1) := by decide +kernel
theorem dX12_scaleFor_42 : decode cX12_scaleFor 42 = .ok (.istore_n 2, 1) := by decide +kernel
theorem dX12_scaleFor_43 : decode cX12_scaleFor 43 = .ok (.iinc 3 1, 3) := by decide +kernel
theorem dX12_scaleFor_46 : decode cX12_scaleFor 46 = .ok (.goto (-42), 3) := by decide +kernel
theorem dX12_scaleFor_49 : decode cX12_scaleFor 49 = .ok (.iload_n 2, 1) := by decide +kernel
theorem dX12_scaleFor_50 : decode cX12_scaleFor 50 = .ok (.ireturn, 1) := by decide +kernel
theorem dX12_readsBy_0 : decode cX12_readsBy 0 = .ok (.iload_n 1, 1) := by decide +kernel
theorem dX12_readsBy_1 : decode cX12_readsBy 1 = .ok (.ifCond .ge 22, 3) := by decide +kernel
theorem dX12_readsBy_4 : decode cX12_readsBy 4 = .ok (.iload_n 3, 1) := by decide +kernel
theorem dX12_readsBy_5 : decode cX12_readsBy 5 = .ok (.bipush 8, 2) := by decide +kernel
theorem dX12_readsBy_7 : decode cX12_readsBy 7 = .ok (.idiv, 1) := by decide +kernel
theorem dX12_readsBy_8 : decode cX12_readsBy 8 = .ok (.bipush 12, 2) := by decide +kernel
theorem dX12_readsBy_10 : decode cX12_readsBy 10 = .ok (.if_icmp .le 8, 3) := by decide +kernel
theorem dX12_readsBy_13 : decode cX12_readsBy 13 = .ok (.bipush 12, 2) := by decide +kernel
theorem dX12_readsBy_15 : decode cX12_readsBy 15 = .ok (.goto 7, 3) := by decide +kernel
theorem dX12_readsBy_18 : decode cX12_readsBy 18 = .ok (.iload_n 3, 1) := by decide +kernel
theorem dX12_readsBy_19 : decode cX12_readsBy 19 = .ok (.bipush 8, 2) := by decide +kernel
theorem dX12_readsBy_21 : decode cX12_readsBy 21 = .ok (.idiv, 1) := by decide +kernel
theorem dX12_readsBy_22 : decode cX12_readsBy 22 = .ok (.ireturn, 1) := by decide +kernel
theorem dX12_readsBy_23 : decode cX12_readsBy 23 = .ok (.aload_n 0, 1) := by decide +kernel
theorem dX12_readsBy_24 : decode cX12_readsBy 24 = .ok (.getfield 100, 3) := by decide +kernel
theorem dX12_readsBy_27 : decode cX12_readsBy 27 = .ok (.iconst 0, 1) := by decide +kernel
theorem dX12_readsBy_28 : decode cX12_readsBy 28 = .ok (.iload 4, 2) := by decide +kernel
theorem dX12_readsBy_30 : decode cX12_readsBy 30 = .ok (.iastore, 1) := by decide +kernel
theorem dX12_readsBy_31 : decode cX12_readsBy 31 = .ok (.aload_n 0, 1) := by decide +kernel
theorem dX12_readsBy_32 : decode cX12_readsBy 32 = .ok (.getfield 100, 3) := by decide +kernel
theorem dX12_readsBy_35 : decode cX12_readsBy 35 = .ok (.iconst 1, 1) := by decide +kernel
theorem dX12_readsBy_36 : decode cX12_readsBy 36 = .ok (.iload 5, 2) := by decide +kernel
theorem dX12_readsBy_38 : decode cX12_readsBy 38 = .ok (.iastore, 1) := by decide +kernel
theorem dX12_readsBy_39 : decode cX12_readsBy 39 = .ok (.aload_n 0, 1) := by decide +kernel
theorem dX12_readsBy_40 : decode cX12_readsBy 40 = .ok (.getfield 100, 3) := by decide +kernel
theorem dX12_readsBy_43 : decode cX12_readsBy 43 = .ok (.iconst 2, 1) := by decide +kernel
theorem dX12_readsBy_44 : decode cX12_readsBy 44 = .ok (.iload 6, 2) := by decide +kernel
theorem dX12_readsBy_46 : decode cX12_readsBy 46 = .ok (.iastore, 1) := by decide +kernel
theorem dX12_readsBy_47 : decode cX12_readsBy 47 = .ok (.iconst 0, 1) := by decide +kernel
theorem dX12_readsBy_48 : decode cX12_readsBy 48 = .ok (.istore 7, 2) := by decide +kernel
theorem dX12_readsBy_50 : decode cX12_readsBy 50 = .ok (.bipush 40, 2) := by decide +kernel
theorem dX12_readsBy_52 : decode cX12_readsBy 52 = .ok (.iload_n 1, 1) := by decide +kernel
theorem dX12_readsBy_53 : decode cX12_readsBy 53 = .ok (.imul, 1) := by decide +kernel
theorem dX12_readsBy_54 : decode cX12_readsBy 54 = .ok (.istore 8, 2) := by decide +kernel
theorem dX12_readsBy_56 : decode cX12_readsBy 56 = .ok (.iload 8, 2) := by decide +kernel
theorem dX12_readsBy_58 : decode cX12_readsBy 58 = .ok (.bipush 40, 2) := by decide +kernel
theorem dX12_readsBy_60 : decode cX12_readsBy 60 = .ok (.iload_n 1, 1) := by decide +kernel
theorem dX12_readsBy_61 : decode cX12_readsBy 61 = .ok (.imul, 1) := by decide +kernel
theorem dX12_readsBy_62 : decode cX12_readsBy 62 = .ok (.aload_n 0, 1) := by decide +kernel
theorem dX12_readsBy_63 : decode cX12_readsBy 63 = .ok (.getfield 63, 3) := by decide +kernel
theorem dX12_readsBy_66 : decode cX12_readsBy 66 = .ok (.iload_n 1, 1) := by decide +kernel
theorem dX12_readsBy_67 : decode cX12_readsBy 67 = .ok (.iaload, 1) := by decide +kernel
theorem dX12_readsBy_68 : decode cX12_readsBy 68 = .ok (.iadd, 1) := by decide +kernel
theorem dX12_readsBy_69 : decode cX12_readsBy 69 = .ok (.if_icmp .ge 62, 3) := by decide +kernel
theorem dX12_readsBy_72 : decode cX12_readsBy 72 = .ok (.aload_n 0, 1) := by decide +kernel
theorem dX12_readsBy_73 : decode cX12_readsBy 73 = .ok (.getfield 69, 3) := by decide +kernel
theorem dX12_readsBy_76 : decode cX12_readsBy 76 = .ok (.iload 8, 2) := by decide +kernel
theorem dX12_readsBy_78 : decode cX12_readsBy 78 = .ok (.iaload, 1) := by decide +kernel
theorem dX12_readsBy_79 : decode cX12_readsBy 79 = .ok (.iload_n 2, 1) := by decide +kernel
theorem dX12_readsBy_80 : decode cX12_readsBy 80 = .ok (.if_icmp .ne 45, 3) := by decide +kernel
theorem dX12_readsBy_83 : decode cX12_readsBy 83 = .ok (.aload_n 0, 1) := by decide +kernel
theorem dX12_readsBy_84 : decode cX12_readsBy 84 = .ok (.getfield 75, 3) := by decide +kernel
theorem dX12_readsBy_87 : decode cX12_readsBy 87 = .ok (.iload 8, 2) := by decide +kernel
theorem dX12_readsBy_89 : decode cX12_readsBy 89 = .ok (.iaload, 1) := by decide +kernel
theorem dX12_readsBy_90 : decode cX12_readsBy 90 = .ok (.iload_n 3, 1) := by decide +kernel
theorem dX12_readsBy_91 : decode cX12_readsBy 91 = .ok (.if_icmp .gt 34, 3) := by decide +kernel
theorem dX12_readsBy_94 : decode cX12_readsBy 94 = .ok (.aload_n 0, 1) := by decide +kernel
theorem dX12_readsBy_95 : decode cX12_readsBy 95 = .ok (.getfield 72, 3) := by decide +kernel
theorem dX12_readsBy_98 : decode cX12_readsBy 98 = .ok (.iload 8, 2) := by decide +kernel
theorem dX12_readsBy_100 : decode cX12_readsBy 100 = .ok (.iaload, 1) := by decide +kernel
theorem dX12_readsBy_101 : decode cX12_readsBy 101 = .ok (.iload 7, 2) := by decide +kernel
theorem dX12_readsBy_103 : decode cX12_readsBy 103 = .ok (.if_icmp .le 22, 3) := by decide +kernel
theorem dX12_readsBy_106 : decode cX12_readsBy 106 = .ok (.aload_n 0, 1) := by decide +kernel
theorem dX12_readsBy_107 : decode cX12_readsBy 107 = .ok (.iload_n 1, 1) := by decide +kernel
theorem dX12_readsBy_108 : decode cX12_readsBy 108 = .ok (.iload 8, 2) := by decide +kernel
theorem dX12_readsBy_110 : decode cX12_readsBy 110 = .ok (.invokevirtual 352, 3) := by decide +kernel
theorem dX12_readsBy_113 : decode cX12_readsBy 113 = .ok (.ifCond .eq 12, 3) := by decide +kernel
theorem dX12_readsBy_116 : decode cX12_readsBy 116 = .ok (.aload_n 0, 1) := by decide +kernel
theorem dX12_readsBy_117 : decode cX12_readsBy 117 = .ok (.getfield 72, 3) := by decide +kernel
theorem dX12_readsBy_120 : decode cX12_readsBy 120 = .ok (.iload 8, 2) := by decide +kernel
theorem dX12_readsBy_122 : decode cX12_readsBy 122 = .ok (.iaload, 1) := by decide +kernel
theorem dX12_readsBy_123 : decode cX12_readsBy 123 = .ok (.istore 7, 2) := by decide +kernel
theorem dX12_readsBy_125 : decode cX12_readsBy 125 = .ok (.iinc 8 1, 3) := by decide +kernel
theorem dX12_readsBy_128 : decode cX12_readsBy 128 = .ok (.goto (-72), 3) := by decide +kernel
theorem dX12_readsBy_131 : decode cX12_readsBy 131 = .ok (.iload 7, 2) := by decide +kernel
theorem dX12_readsBy_133 : decode cX12_readsBy 133 = .ok (.ireturn, 1) := by decide +kernel
theorem dX12_readIn_0 : decode cX12_readIn 0 = .ok (.aload_n 0, 1) := by decide +kernel
theorem dX12_readIn_1 : decode cX12_readIn 1 = .ok (.aload_n 0, 1) := by decide +kernel
theorem dX12_readIn_2 : decode cX12_readIn 2 = .ok (.iload 5, 2) := by decide +kernel
theorem dX12_readIn_4 : decode cX12_readIn 4 = .ok (.invokevirtual 356, 3) := by decide +kernel
theorem dX12_readIn_7 : decode cX12_readIn 7 = .ok (.iload_n 1, 1) := by decide +kernel
theorem dX12_readIn_8 : decode cX12_readIn 8 = .ok (.iload_n 2, 1) := by decide +kernel
theorem dX12_readIn_9 : decode cX12_readIn 9 = .ok (.iload_n 3, 1) := by decide +kernel
theorem dX12_readIn_10 : decode cX12_readIn 10 = .ok (.iload 4, 2) := by decide +kernel
theorem dX12_readIn_12 : decode cX12_readIn 12 = .ok (.iload 5, 2) := by decide +kernel
theorem dX12_readIn_14 : decode cX12_readIn 14 = .ok (.invokevirtual 359, 3) := by decide +kernel
theorem dX12_readIn_17 : decode cX12_readIn 17 = .ok (.ireturn, 1) := by decide +kernel
theorem dX12_writes_0 : decode cX12_writes 0 = .ok (.bipush 8, 2) := by decide +kernel
theorem dX12_writes_2 : decode cX12_writes 2 = .ok (.iload_n 1, 1) := by decide +kernel
theorem dX12_writes_3 : decode cX12_writes 3 = .ok (.iadd, 1) := by decide +kernel
theorem dX12_writes_4 : decode cX12_writes 4 = .ok (.istore 6, 2) := by decide +kernel
theorem dX12_writes_6 : decode cX12_writes 6 = .ok (.aload_n 0, 1) := by decide +kernel
theorem dX12_writes_7 : decode cX12_writes 7 = .ok (.getfield 100, 3) := by decide +kernel
theorem dX12_writes_10 : decode cX12_writes 10 = .ok (.iconst 0, 1) := by decide +kernel
theorem dX12_writes_11 : decode cX12_writes 11 = .ok (.iload_n 3, 1) := by decide +kernel
theorem dX12_writes_12 : decode cX12_writes 12 = .ok (.iastore, 1) := by decide +kernel
theorem dX12_writes_13 : decode cX12_writes 13 = .ok (.aload_n 0, 1) := by decide +kernel
theorem dX12_writes_14 : decode cX12_writes 14 = .ok (.getfield 100, 3) := by decide +kernel
theorem dX12_writes_17 : decode cX12_writes 17 = .ok (.iconst 1, 1) := by decide +kernel
theorem dX12_writes_18 : decode cX12_writes 18 = .ok (.iload 5, 2) := by decide +kernel
theorem dX12_writes_20 : decode cX12_writes 20 = .ok (.iastore, 1) := by decide +kernel
theorem dX12_writes_21 : decode cX12_writes 21 = .ok (.aload_n 0, 1) := by decide +kernel
theorem dX12_writes_22 : decode cX12_writes 22 = .ok (.getfield 100, 3) := by decide +kernel
theorem dX12_writes_25 : decode cX12_writes 25 = .ok (.iconst 2, 1) := by decide +kernel
theorem dX12_writes_26 : decode cX12_writes 26 = .ok (.iload 4, 2) := by decide +kernel
theorem dX12_writes_28 : decode cX12_writes 28 = .ok (.iastore, 1) := by decide +kernel
theorem dX12_writes_29 : decode cX12_writes 29 = .ok (.aload_n 0, 1) := by decide +kernel
theorem dX12_writes_30 : decode cX12_writes 30 = .ok (.getfield 100, 3) := by decide +kernel
theorem dX12_writes_33 : decode cX12_writes 33 = .ok (.iconst 3, 1) := by decide +kernel
theorem dX12_writes_34 : decode cX12_writes 34 = .ok (.iload_n 2, 1) := by decide +kernel
theorem dX12_writes_35 : decode cX12_writes 35 = .ok (.iastore, 1) := by decide +kernel
theorem dX12_writes_36 : decode cX12_writes 36 = .ok (.iload_n 2, 1) := by decide +kernel
theorem dX12_writes_37 : decode cX12_writes 37 = .ok (.istore 7, 2) := by decide +kernel
theorem dX12_writes_39 : decode cX12_writes 39 = .ok (.iconst 0, 1) := by decide +kernel
theorem dX12_writes_40 : decode cX12_writes 40 = .ok (.istore 8, 2) := by decide +kernel
theorem dX12_writes_42 : decode cX12_writes 42 = .ok (.bipush 40, 2) := by decide +kernel
theorem dX12_writes_44 : decode cX12_writes 44 = .ok (.iload 6, 2) := by decide +kernel
theorem dX12_writes_46 : decode cX12_writes 46 = .ok (.imul, 1) := by decide +kernel
theorem dX12_writes_47 : decode cX12_writes 47 = .ok (.istore 9, 2) := by decide +kernel
theorem dX12_writes_49 : decode cX12_writes 49 = .ok (.iload 9, 2) := by decide +kernel
theorem dX12_writes_51 : decode cX12_writes 51 = .ok (.bipush 40, 2) := by decide +kernel
theorem dX12_writes_53 : decode cX12_writes 53 = .ok (.iload 6, 2) := by decide +kernel
theorem dX12_writes_55 : decode cX12_writes 55 = .ok (.imul, 1) := by decide +kernel
theorem dX12_writes_56 : decode cX12_writes 56 = .ok (.aload_n 0, 1) := by decide +kernel
theorem dX12_writes_57 : decode cX12_writes 57 = .ok (.getfield 63, 3) := by decide +kernel
theorem dX12_writes_60 : decode cX12_writes 60 = .ok (.iload 6, 2) := by decide +kernel
theorem dX12_writes_62 : decode cX12_writes 62 = .ok (.iaload, 1) := by decide +kernel
theorem dX12_writes_63 : decode cX12_writes 63 = .ok (.iadd, 1) := by decide +kernel
theorem dX12_writes_64 : decode cX12_writes 64 = .ok (.if_icmp .ge 61, 3) := by decide +kernel
theorem dX12_writes_67 : decode cX12_writes 67 = .ok (.iload 8, 2) := by decide +kernel
theorem dX12_writes_69 : decode cX12_writes 69 = .ok (.ifCond .ne 56, 3) := by decide +kernel
theorem dX12_writes_72 : decode cX12_writes 72 = .ok (.aload_n 0, 1) := by decide +kernel
theorem dX12_writes_73 : decode cX12_writes 73 = .ok (.getfield 69, 3) := by decide +kernel
theorem dX12_writes_76 : decode cX12_writes 76 = .ok (.iload 9, 2) := by decide +kernel
theorem dX12_writes_78 : decode cX12_writes 78 = .ok (.iaload, 1) := by decide +kernel
theorem dX12_writes_79 : decode cX12_writes 79 = .ok (.ifCond .ne 18, 3) := by decide +kernel
theorem dX12_writes_82 : decode cX12_writes 82 = .ok (.aload_n 0, 1) := by decide +kernel
theorem dX12_writes_83 : decode cX12_writes 83 = .ok (.iload 6, 2) := by decide +kernel
theorem dX12_writes_85 : decode cX12_writes 85 = .ok (.iload 9, 2) := by decide +kernel
theorem dX12_writes_87 : decode cX12_writes 87 = .ok (.invokevirtual 352, 3) := by decide +kernel
theorem dX12_writes_90 : decode cX12_writes 90 = .ok (.ifCond .eq 7, 3) := by decide +kernel
theorem dX12_writes_93 : decode cX12_writes 93 = .ok (.iconst 1, 1) := by decide +kernel
theorem dX12_writes_94 : decode cX12_writes 94 = .ok (.goto 4, 3) := by decide +kernel
theorem dX12_writes_97 : decode cX12_writes 97 = .ok (.iconst 0, 1) := by decide +kernel
theorem dX12_writes_98 : decode cX12_writes 98 = .ok (.istore 8, 2) := by decide +kernel
theorem dX12_writes_100 : decode cX12_writes 100 = .ok (.iload 8, 2) := by decide +kernel
theorem dX12_writes_102 : decode cX12_writes 102 = .ok (.ifCond .eq 17, 3) := by decide +kernel
theorem dX12_writes_105 : decode cX12_writes 105 = .ok (.iload_n 2, 1) := by decide +kernel
theorem dX12_writes_106 : decode cX12_writes 106 = .ok (.aload_n 0, 1) := by decide +kernel
theorem dX12_writes_107 : decode cX12_writes 107 = .ok (.getfield 72, 3) := by decide +kernel
theorem dX12_writes_110 : decode cX12_writes 110 = .ok (.iload 9, 2) := by decide +kernel
theorem dX12_writes_112 : decode cX12_writes 112 = .ok (.iaload, 1) := by decide +kernel
theorem dX12_writes_113 : decode cX12_writes 113 = .ok (.iadd, 1) := by decide +kernel
theorem dX12_writes_114 : decode cX12_writes 114 = .ok (.invokestatic 363, 3) := by decide +kernel
theorem dX12_writes_117 : decode cX12_writes 117 = .ok (.istore 7, 2) := by decide +kernel
theorem dX12_writes_119 : decode cX12_writes 119 = .ok (.iinc 9 1, 3) := by decide +kernel
theorem dX12_writes_122 : decode cX12_writes 122 = .ok (.goto (-73), 3) := by decide +kernel
theorem dX12_writes_125 : decode cX12_writes 125 = .ok (.bipush 40, 2) := by decide +kernel
theorem dX12_writes_127 : decode cX12_writes 127 = .ok (.iload 6, 2) := by decide +kernel
theorem dX12_writes_129 : decode cX12_writes 129 = .ok (.imul, 1) := by decide +kernel
theorem dX12_writes_130 : decode cX12_writes 130 = .ok (.istore 9, 2) := by decide +kernel
theorem dX12_writes_132 : decode cX12_writes 132 = .ok (.iload 9, 2) := by decide +kernel
theorem dX12_writes_134 : decode cX12_writes 134 = .ok (.bipush 40, 2) := by decide +kernel
theorem dX12_writes_136 : decode cX12_writes 136 = .ok (.iload 6, 2) := by decide +kernel
theorem dX12_writes_138 : decode cX12_writes 138 = .ok (.imul, 1) := by decide +kernel
theorem dX12_writes_139 : decode cX12_writes 139 = .ok (.aload_n 0, 1) := by decide +kernel
theorem dX12_writes_140 : decode cX12_writes 140 = .ok (.getfield 63, 3) := by decide +kernel
theorem dX12_writes_143 : decode cX12_writes 143 = .ok (.iload 6, 2) := by decide +kernel
theorem dX12_writes_145 : decode cX12_writes 145 = .ok (.iaload, 1) := by decide +kernel
theorem dX12_writes_146 : decode cX12_writes 146 = .ok (.iadd, 1) := by decide +kernel
theorem dX12_writes_147 : decode cX12_writes 147 = .ok (.if_icmp .ge 40, 3) := by decide +kernel
theorem dX12_writes_150 : decode cX12_writes 150 = .ok (.aload_n 0, 1) := by decide +kernel
theorem dX12_writes_151 : decode cX12_writes 151 = .ok (.getfield 69, 3) := by decide +kernel
theorem dX12_writes_154 : decode cX12_writes 154 = .ok (.iload 9, 2) := by decide +kernel
theorem dX12_writes_156 : decode cX12_writes 156 = .ok (.iaload, 1) := by decide +kernel
theorem dX12_writes_157 : decode cX12_writes 157 = .ok (.iconst 1, 1) := by decide +kernel
theorem dX12_writes_158 : decode cX12_writes 158 = .ok (.if_icmp .ne 23, 3) := by decide +kernel
theorem dX12_writes_161 : decode cX12_writes 161 = .ok (.aload_n 0, 1) := by decide +kernel
theorem dX12_writes_162 : decode cX12_writes 162 = .ok (.getfield 75, 3) := by decide +kernel
theorem dX12_writes_165 : decode cX12_writes 165 = .ok (.iload 9, 2) := by decide +kernel
theorem dX12_writes_167 : decode cX12_writes 167 = .ok (.iaload, 1) := by decide +kernel
theorem dX12_writes_168 : decode cX12_writes 168 = .ok (.iload 7, 2) := by decide +kernel
theorem dX12_writes_170 : decode cX12_writes 170 = .ok (.if_icmp .ne 11, 3) := by decide +kernel
theorem dX12_writes_173 : decode cX12_writes 173 = .ok (.aload_n 0, 1) := by decide +kernel
theorem dX12_writes_174 : decode cX12_writes 174 = .ok (.getfield 72, 3) := by decide +kernel
theorem dX12_writes_177 : decode cX12_writes 177 = .ok (.iload 9, 2) := by decide +kernel
theorem dX12_writes_179 : decode cX12_writes 179 = .ok (.iaload, 1) := by decide +kernel
theorem dX12_writes_180 : decode cX12_writes 180 = .ok (.ireturn, 1) := by decide +kernel
theorem dX12_writes_181 : decode cX12_writes 181 = .ok (.iinc 9 1, 3) := by decide +kernel
theorem dX12_writes_184 : decode cX12_writes 184 = .ok (.goto (-52), 3) := by decide +kernel
theorem dX12_writes_187 : decode cX12_writes 187 = .ok (.iload 7, 2) := by decide +kernel
theorem dX12_writes_189 : decode cX12_writes 189 = .ok (.ireturn, 1) := by decide +kernel
theorem dX12_reads__0 : decode cX12_reads_ 0 = .ok (.iload_n 1, 1) := by decide +kernel
theorem dX12_reads__1 : decode cX12_reads_ 1 = .ok (.iconst 0, 1) := by decide +kernel
theorem dX12_reads__2 : decode cX12_reads_ 2 = .ok (.bipush 9, 2) := by decide +kernel
theorem dX12_reads__4 : decode cX12_reads_ 4 = .ok (.invokestatic 168, 3) := by decide +kernel
theorem dX12_reads__7 : decode cX12_reads_ 7 = .ok (.ifCond .eq 33, 3) := by decide +kernel
theorem dX12_reads__10 : decode cX12_reads_ 10 = .ok (.iload_n 2, 1) := by decide +kernel
theorem dX12_reads__11 : decode cX12_reads_ 11 = .ok (.iconst 0, 1) := by decide +kernel
theorem dX12_reads__12 : decode cX12_reads_ 12 = .ok (.iconst 2, 1) := by decide +kernel
theorem dX12_reads__13 : decode cX12_reads_ 13 = .ok (.invokestatic 168, 3) := by decide +kernel
theorem dX12_reads__16 : decode cX12_reads_ 16 = .ok (.ifCond .eq 24, 3) := by decide +kernel
theorem dX12_reads__19 : decode cX12_reads_ 19 = .ok (.iload_n 3, 1) := by decide +kernel
theorem dX12_reads__20 : decode cX12_reads_ 20 = .ok (.iconst 0, 1) := by decide +kernel
theorem dX12_reads__21 : decode cX12_reads_ 21 = .ok (.bipush 99, 2) := by decide +kernel
theorem dX12_reads__23 : decode cX12_reads_ 23 = .ok (.invokestatic 168, 3) := by decide +kernel
theorem dX12_reads__26 : decode cX12_reads_ 26 = .ok (.ifCond .eq 14, 3) := by decide +kernel
theorem dX12_reads__29 : decode cX12_reads_ 29 = .ok (.iload 4, 2) := by decide +kernel
theorem dX12_reads__31 : decode cX12_reads_ 31 = .ok (.iconst 0, 1) := by decide +kernel
theorem dX12_reads__32 : decode cX12_reads_ 32 = .ok (.bipush 39, 2) := by decide +kernel
theorem dX12_reads__34 : decode cX12_reads_ 34 = .ok (.invokestatic 168, 3) := by decide +kernel
theorem dX12_reads__37 : decode cX12_reads_ 37 = .ok (.ifCond .ne 5, 3) := by decide +kernel
theorem dX12_reads__40 : decode cX12_reads_ 40 = .ok (.iconst (-1), 1) := by decide +kernel
theorem dX12_reads__41 : decode cX12_reads_ 41 = .ok (.ireturn, 1) := by decide +kernel
theorem dX12_reads__42 : decode cX12_reads_ 42 = .ok (.aload_n 0, 1) := by decide +kernel
theorem dX12_reads__43 : decode cX12_reads_ 43 = .ok (.iload_n 2, 1) := by decide +kernel
theorem dX12_reads__44 : decode cX12_reads_ 44 = .ok (.iload_n 3, 1) := by decide +kernel
theorem dX12_reads__45 : decode cX12_reads_ 45 = .ok (.iload 4, 2) := by decide +kernel
theorem dX12_reads__47 : decode cX12_reads_ 47 = .ok (.bipush 10, 2) := by decide +kernel
theorem dX12_reads__49 : decode cX12_reads_ 49 = .ok (.idiv, 1) := by decide +kernel
theorem dX12_reads__50 : decode cX12_reads_ 50 = .ok (.iload 4, 2) := by decide +kernel
theorem dX12_reads__52 : decode cX12_reads_ 52 = .ok (.bipush 10, 2) := by decide +kernel
theorem dX12_reads__54 : decode cX12_reads_ 54 = .ok (.irem, 1) := by decide +kernel
theorem dX12_reads__55 : decode cX12_reads_ 55 = .ok (.iload_n 1, 1) := by decide +kernel
theorem dX12_reads__56 : decode cX12_reads_ 56 = .ok (.invokevirtual 366, 3) := by decide +kernel
theorem dX12_reads__59 : decode cX12_reads_ 59 = .ok (.ireturn, 1) := by decide +kernel
theorem dX12_blow_0 : decode cX12_blow 0 = .ok (.aload_n 0, 1) := by decide +kernel
theorem dX12_blow_1 : decode cX12_blow 1 = .ok (.iload_n 1, 1) := by decide +kernel
theorem dX12_blow_2 : decode cX12_blow 2 = .ok (.invokevirtual 176, 3) := by decide +kernel
theorem dX12_blow_5 : decode cX12_blow 5 = .ok (.ifCond .eq 45, 3) := by decide +kernel
theorem dX12_blow_8 : decode cX12_blow 8 = .ok (.iload_n 2, 1) := by decide +kernel
theorem dX12_blow_9 : decode cX12_blow 9 = .ok (.iconst 0, 1) := by decide +kernel
theorem dX12_blow_10 : decode cX12_blow 10 = .ok (.sipush 999, 3) := by decide +kernel
theorem dX12_blow_13 : decode cX12_blow 13 = .ok (.invokestatic 168, 3) := by decide +kernel
theorem dX12_blow_16 : decode cX12_blow 16 = .ok (.ifCond .eq 34, 3) := by decide +kernel
theorem dX12_blow_19 : decode cX12_blow 19 = .ok (.iload_n 3, 1) := by decide +kernel
theorem dX12_blow_20 : decode cX12_blow 20 = .ok (.iconst 0, 1) := by decide +kernel
theorem dX12_blow_21 : decode cX12_blow 21 = .ok (.iconst 2, 1) := by decide +kernel
theorem dX12_blow_22 : decode cX12_blow 22 = .ok (.invokestatic 168, 3) := by decide +kernel
theorem dX12_blow_25 : decode cX12_blow 25 = .ok (.ifCond .eq 25, 3) := by decide +kernel
theorem dX12_blow_28 : decode cX12_blow 28 = .ok (.iload 4, 2) := by decide +kernel
theorem dX12_blow_30 : decode cX12_blow 30 = .ok (.iconst 0, 1) := by decide +kernel
theorem dX12_blow_31 : decode cX12_blow 31 = .ok (.bipush 99, 2) := by decide +kernel
theorem dX12_blow_33 : decode cX12_blow 33 = .ok (.invokestatic 168, 3) := by decide +kernel
theorem dX12_blow_36 : decode cX12_blow 36 = .ok (.ifCond .eq 14, 3) := by decide +kernel
theorem dX12_blow_39 : decode cX12_blow 39 = .ok (.iload 5, 2) := by decide +kernel
theorem dX12_blow_41 : decode cX12_blow 41 = .ok (.iconst 0, 1) := by decide +kernel
theorem dX12_blow_42 : decode cX12_blow 42 = .ok (.bipush 9, 2) := by decide +kernel
theorem dX12_blow_44 : decode cX12_blow 44 = .ok (.invokestatic 168, 3) := by decide +kernel
theorem dX12_blow_47 : decode cX12_blow 47 = .ok (.ifCond .ne 5, 3) := by decide +kernel
theorem dX12_blow_50 : decode cX12_blow 50 = .ok (.iconst (-1), 1) := by decide +kernel
theorem dX12_blow_51 : decode cX12_blow 51 = .ok (.ireturn, 1) := by decide +kernel
theorem dX12_blow_52 : decode cX12_blow 52 = .ok (.aload_n 0, 1) := by decide +kernel
theorem dX12_blow_53 : decode cX12_blow 53 = .ok (.aload_n 0, 1) := by decide +kernel
theorem dX12_blow_54 : decode cX12_blow 54 = .ok (.iload_n 1, 1) := by decide +kernel
theorem dX12_blow_55 : decode cX12_blow 55 = .ok (.iload_n 2, 1) := by decide +kernel
theorem dX12_blow_56 : decode cX12_blow 56 = .ok (.invokevirtual 192, 3) := by decide +kernel
theorem dX12_blow_59 : decode cX12_blow 59 = .ok (.aload_n 0, 1) := by decide +kernel
theorem dX12_blow_60 : decode cX12_blow 60 = .ok (.iload_n 3, 1) := by decide +kernel
theorem dX12_blow_61 : decode cX12_blow 61 = .ok (.iload 4, 2) := by decide +kernel
theorem dX12_blow_63 : decode cX12_blow 63 = .ok (.aload_n 0, 1) := by decide +kernel
theorem dX12_blow_64 : decode cX12_blow 64 = .ok (.getfield 24, 3) := by decide +kernel
theorem dX12_blow_67 : decode cX12_blow 67 = .ok (.iload_n 1, 1) := by decide +kernel
theorem dX12_blow_68 : decode cX12_blow 68 = .ok (.iaload, 1) := by decide +kernel
theorem dX12_blow_69 : decode cX12_blow 69 = .ok (.iload 5, 2) := by decide +kernel
theorem dX12_blow_71 : decode cX12_blow 71 = .ok (.iload_n 2, 1) := by decide +kernel
theorem dX12_blow_72 : decode cX12_blow 72 = .ok (.bipush 100, 2) := by decide +kernel
theorem dX12_blow_74 : decode cX12_blow 74 = .ok (.idiv, 1) := by decide +kernel
theorem dX12_blow_75 : decode cX12_blow 75 = .ok (.invokevirtual 366, 3) := by decide +kernel
theorem dX12_blow_78 : decode cX12_blow 78 = .ok (.aload_n 0, 1) := by decide +kernel
theorem dX12_blow_79 : decode cX12_blow 79 = .ok (.getfield 24, 3) := by decide +kernel
theorem dX12_blow_82 : decode cX12_blow 82 = .ok (.iload_n 1, 1) := by decide +kernel
theorem dX12_blow_83 : decode cX12_blow 83 = .ok (.iaload, 1) := by decide +kernel
theorem dX12_blow_84 : decode cX12_blow 84 = .ok (.iload_n 2, 1) := by decide +kernel
theorem dX12_blow_85 : decode cX12_blow 85 = .ok (.bipush 100, 2) := by decide +kernel
theorem dX12_blow_87 : decode cX12_blow 87 = .ok (.idiv, 1) := by decide +kernel
theorem dX12_blow_88 : decode cX12_blow 88 = .ok (.iconst 0, 1) := by decide +kernel
theorem dX12_blow_89 : decode cX12_blow 89 = .ok (.invokevirtual 370, 3) := by decide +kernel
theorem dX12_blow_92 : decode cX12_blow 92 = .ok (.ireturn, 1) := by decide +kernel
theorem dX12_run_0 : decode cX12_run 0 = .ok (.aload_n 0, 1) := by decide +kernel
theorem dX12_run_1 : decode cX12_run 1 = .ok (.iload_n 1, 1) := by decide +kernel
theorem dX12_run_2 : decode cX12_run 2 = .ok (.invokevirtual 176, 3) := by decide +kernel
theorem dX12_run_5 : decode cX12_run 5 = .ok (.ifCond .eq 48, 3) := by decide +kernel
theorem dX12_run_8 : decode cX12_run 8 = .ok (.iload_n 2, 1) := by decide +kernel
theorem dX12_run_9 : decode cX12_run 9 = .ok (.iconst 0, 1) := by decide +kernel
theorem dX12_run_10 : decode cX12_run 10 = .ok (.sipush 999, 3) := by decide +kernel
theorem dX12_run_13 : decode cX12_run 13 = .ok (.invokestatic 168, 3) := by decide +kernel
theorem dX12_run_16 : decode cX12_run 16 = .ok (.ifCond .eq 37, 3) := by decide +kernel
theorem dX12_run_19 : decode cX12_run 19 = .ok (.iload_n 3, 1) := by decide +kernel
theorem dX12_run_20 : decode cX12_run 20 = .ok (.iconst 0, 1) := by decide +kernel
theorem dX12_run_21 : decode cX12_run 21 = .ok (.ldc_w 373, 3) := by decide +kernel
theorem dX12_run_24 : decode cX12_run 24 = .ok (.invokestatic 168, 3) := by decide +kernel
theorem dX12_run_27 : decode cX12_run 27 = .ok (.ifCond .eq 26, 3) := by decide +kernel
theorem dX12_run_30 : decode cX12_run 30 = .ok (.iload 4, 2) := by decide +kernel
theorem dX12_run_32 : decode cX12_run 32 = .ok (.iconst 1, 1) := by decide +kernel
theorem dX12_run_33 : decode cX12_run 33 = .ok (.sipush 1000, 3) := by decide +kernel
theorem dX12_run_36 : decode cX12_run 36 = .ok (.invokestatic 168, 3) := by decide +kernel
theorem dX12_run_39 : decode cX12_run 39 = .ok (.ifCond .eq 14, 3) := by decide +kernel
theorem dX12_run_42 : decode cX12_run 42 = .ok (.iload 5, 2) := by decide +kernel
theorem dX12_run_44 : decode cX12_run 44 = .ok (.iconst 0, 1) := by decide +kernel
theorem dX12_run_45 : decode cX12_run 45 = .ok (.bipush 12, 2) := by decide +kernel
theorem dX12_run_47 : decode cX12_run 47 = .ok (.invokestatic 168, 3) := by decide +kernel
theorem dX12_run_50 : decode cX12_run 50 = .ok (.ifCond .ne 5, 3) := by decide +kernel
theorem dX12_run_53 : decode cX12_run 53 = .ok (.iconst (-1), 1) := by decide +kernel
theorem dX12_run_54 : decode cX12_run 54 = .ok (.ireturn, 1) := by decide +kernel
theorem dX12_run_55 : decode cX12_run 55 = .ok (.iload_n 3, 1) := by decide +kernel
theorem dX12_run_56 : decode cX12_run 56 = .ok (.i2l, 1) := by decide +kernel
theorem dX12_run_57 : decode cX12_run 57 = .ok (.lstore 6, 2) := by decide +kernel
theorem dX12_run_59 : decode cX12_run 59 = .ok (.iconst 0, 1) := by decide +kernel
theorem dX12_run_60 : decode cX12_run 60 = .ok (.istore 8, 2) := by decide +kernel
theorem dX12_run_62 : decode cX12_run 62 = .ok (.iconst 0, 1) := by decide +kernel
theorem dX12_run_63 : decode cX12_run 63 = .ok (.istore 9, 2) := by decide +kernel
theorem dX12_run_65 : decode cX12_run 65 = .ok (.iload 9, 2) := by decide +kernel
theorem dX12_run_67 : decode cX12_run 67 = .ok (.iload 4, 2) := by decide +kernel
theorem dX12_run_69 : decode cX12_run 69 = .ok (.if_icmp .ge 54, 3) := by decide +kernel
theorem dX12_run_72 : decode cX12_run 72 = .ok (.lload 6, 2) := by decide +kernel
theorem dX12_run_74 : decode cX12_run 74 = .ok (.ldc2_w 374, 3) := by decide +kernel
theorem dX12_run_77 : decode cX12_run 77 = .ok (.lmul, 1) := by decide +kernel
theorem dX12_run_78 : decode cX12_run 78 = .ok (.ldc2_w 376, 3) := by decide +kernel
theorem dX12_run_81 : decode cX12_run 81 = .ok (.ladd, 1) := by decide +kernel
theorem dX12_run_82 : decode cX12_run 82 = .ok (.lstore 6, 2) := by decide +kernel
theorem dX12_run_84 : decode cX12_run 84 = .ok (.iload 8, 2) := by decide +kernel
theorem dX12_run_86 : decode cX12_run 86 = .ok (.aload_n 0, 1) := by decide +kernel
theorem dX12_run_87 : decode cX12_run 87 = .ok (.iload_n 1, 1) := by decide +kernel
theorem dX12_run_88 : decode cX12_run 88 = .ok (.iload_n 2, 1) := by decide +kernel
theorem dX12_run_89 : decode cX12_run 89 = .ok (.iconst 0, 1) := by decide +kernel
theorem dX12_run_90 : decode cX12_run 90 = .ok (.lload 6, 2) := by decide +kernel
theorem dX12_run_92 : decode cX12_run 92 = .ok (.bipush 33, 2) := by decide +kernel
theorem dX12_run_94 : decode cX12_run 94 = .ok (.lushr, 1) := by decide +kernel
theorem dX12_run_95 : decode cX12_run 95 = .ok (.ldc2_w 378, 3) := by decide +kernel
theorem dX12_run_98 : decode cX12_run 98 = .ok (.lrem, 1) := by decide +kernel
theorem dX12_run_99 : decode cX12_run 99 = .ok (.l2i, 1) := by decide +kernel
theorem dX12_run_100 : decode cX12_run 100 = .ok (.iconst 0, 1) := by decide +kernel
theorem dX12_run_101 : decode cX12_run 101 = .ok (.invokevirtual 380, 3) := by decide +kernel
theorem dX12_run_104 : decode cX12_run 104 = .ok (.iload 5, 2) := by decide +kernel
theorem dX12_run_106 : decode cX12_run 106 = .ok (.if_icmp .ne 7, 3) := by decide +kernel
theorem dX12_run_109 : decode cX12_run 109 = .ok (.iconst 1, 1) := by decide +kernel
theorem dX12_run_110 : decode cX12_run 110 = .ok (.goto 4, 3) := by decide +kernel
theorem dX12_run_113 : decode cX12_run 113 = .ok (.iconst 0, 1) := by decide +kernel
theorem dX12_run_114 : decode cX12_run 114 = .ok (.iadd, 1) := by decide +kernel
theorem dX12_run_115 : decode cX12_run 115 = .ok (.istore 8, 2) := by decide +kernel
theorem dX12_run_117 : decode cX12_run 117 = .ok (.iinc 9 1, 3) := by decide +kernel
theorem dX12_run_120 : decode cX12_run 120 = .ok (.goto (-55), 3) := by decide +kernel
theorem dX12_run_123 : decode cX12_run 123 = .ok (.iload 8, 2) := by decide +kernel
theorem dX12_run_125 : decode cX12_run 125 = .ok (.ireturn, 1) := by decide +kernel
theorem dX12_columns_0 : decode cX12_columns 0 = .ok (.iconst 0, 1) := by decide +kernel
theorem dX12_columns_1 : decode cX12_columns 1 = .ok (.istore 5, 2) := by decide +kernel
theorem dX12_columns_3 : decode cX12_columns 3 = .ok (.iload 5, 2) := by decide +kernel
theorem dX12_columns_5 : decode cX12_columns 5 = .ok (.bipush 13, 2) := by decide +kernel
theorem dX12_columns_7 : decode cX12_columns 7 = .ok (.if_icmp .ge 25, 3) := by decide +kernel
theorem dX12_columns_10 : decode cX12_columns 10 = .ok (.aload_n 0, 1) := by decide +kernel
theorem dX12_columns_11 : decode cX12_columns 11 = .ok (.getfield 106, 3) := by decide +kernel
theorem dX12_columns_14 : decode cX12_columns 14 = .ok (.iload 5, 2) := by decide +kernel
theorem dX12_columns_16 : decode cX12_columns 16 = .ok (.iconst (-1), 1) := by decide +kernel
theorem dX12_columns_17 : decode cX12_columns 17 = .ok (.iastore, 1) := by decide +kernel
theorem dX12_columns_18 : decode cX12_columns 18 = .ok (.aload_n 0, 1) := by decide +kernel
theorem dX12_columns_19 : decode cX12_columns 19 = .ok (.getfield 109, 3) := by decide +kernel
theorem dX12_columns_22 : decode cX12_columns 22 = .ok (.iload 5, 2) := by decide +kernel
theorem dX12_columns_24 : decode cX12_columns 24 = .ok (.iconst (-1), 1) := by decide +kernel
theorem dX12_columns_25 : decode cX12_columns 25 = .ok (.iastore, 1) := by decide +kernel
theorem dX12_columns_26 : decode cX12_columns 26 = .ok (.iinc 5 1, 3) := by decide +kernel
theorem dX12_columns_29 : decode cX12_columns 29 = .ok (.goto (-26), 3) := by decide +kernel
theorem dX12_columns_32 : decode cX12_columns 32 = .ok (.iconst 0, 1) := by decide +kernel
theorem dX12_columns_33 : decode cX12_columns 33 = .ok (.istore 5, 2) := by decide +kernel
theorem dX12_columns_35 : decode cX12_columns 35 = .ok (.iload 5, 2) := by decide +kernel
theorem dX12_columns_37 : decode cX12_columns 37 = .ok (.bipush 100, 2) := by decide +kernel
theorem dX12_columns_39 : decode cX12_columns 39 = .ok (.if_icmp .ge 50, 3) := by decide +kernel
theorem dX12_columns_42 : decode cX12_columns 42 = .ok (.aload_n 0, 1) := by decide +kernel
theorem dX12_columns_43 : decode cX12_columns 43 = .ok (.iload_n 2, 1) := by decide +kernel
theorem dX12_columns_44 : decode cX12_columns 44 = .ok (.iload 5, 2) := by decide +kernel
theorem dX12_columns_46 : decode cX12_columns 46 = .ok (.iload_n 3, 1) := by decide +kernel
theorem dX12_columns_47 : decode cX12_columns 47 = .ok (.iload 4, 2) := by decide +kernel
theorem dX12_columns_49 : decode cX12_columns 49 = .ok (.iload_n 1, 1) := by decide +kernel
theorem dX12_columns_50 : decode cX12_columns 50 = .ok (.invokevirtual 366, 3) := by decide +kernel
theorem dX12_columns_53 : decode cX12_columns 53 = .ok (.istore 6, 2) := by decide +kernel
theorem dX12_columns_55 : decode cX12_columns 55 = .ok (.aload_n 0, 1) := by decide +kernel
theorem dX12_columns_56 : decode cX12_columns 56 = .ok (.getfield 106, 3) := by decide +kernel
theorem dX12_columns_59 : decode cX12_columns 59 = .ok (.iload 6, 2) := by decide +kernel
theorem dX12_columns_61 : decode cX12_columns 61 = .ok (.iaload, 1) := by decide +kernel
theorem dX12_columns_62 : decode cX12_columns 62 = .ok (.ifCond .ge 12, 3) := by decide +kernel
theorem dX12_columns_65 : decode cX12_columns 65 = .ok (.aload_n 0, 1) := by decide +kernel
theorem dX12_columns_66 : decode cX12_columns 66 = .ok (.getfield 106, 3) := by decide +kernel
theorem dX12_columns_69 : decode cX12_columns 69 = .ok (.iload 6, 2) := by decide +kernel
theorem dX12_columns_71 : decode cX12_columns 71 = .ok (.iload 5, 2) := by decide +kernel
theorem dX12_columns_73 : decode cX12_columns 73 = .ok (.iastore, 1) := by decide +kernel
theorem dX12_columns_74 : decode cX12_columns 74 = .ok (.aload_n 0, 1) := by decide +kernel
theorem dX12_columns_75 : decode cX12_columns 75 = .ok (.getfield 109, 3) := by decide +kernel
theorem dX12_columns_78 : decode cX12_columns 78 = .ok (.iload 6, 2) := by decide +kernel
theorem dX12_columns_80 : decode cX12_columns 80 = .ok (.iload 5, 2) := by decide +kernel
theorem dX12_columns_82 : decode cX12_columns 82 = .ok (.iastore, 1) := by decide +kernel
theorem dX12_columns_83 : decode cX12_columns 83 = .ok (.iinc 5 1, 3) := by decide +kernel
theorem dX12_columns_86 : decode cX12_columns 86 = .ok (.goto (-51), 3) := by decide +kernel
theorem dX12_columns_89 : decode cX12_columns 89 = .ok (.return_, 1) := by decide +kernel
theorem dX12_column_0 : decode cX12_column 0 = .ok (.iload_n 1, 1) := by decide +kernel
theorem dX12_column_1 : decode cX12_column 1 = .ok (.iconst 0, 1) := by decide +kernel
theorem dX12_column_2 : decode cX12_column 2 = .ok (.bipush 9, 2) := by decide +kernel
theorem dX12_column_4 : decode cX12_column 4 = .ok (.invokestatic 168, 3) := by decide +kernel
theorem dX12_column_7 : decode cX12_column 7 = .ok (.ifCond .eq 43, 3) := by decide +kernel
theorem dX12_column_10 : decode cX12_column 10 = .ok (.iload_n 2, 1) := by decide +kernel
theorem dX12_column_11 : decode cX12_column 11 = .ok (.iconst 0, 1) := by decide +kernel
theorem dX12_column_12 : decode cX12_column 12 = .ok (.iconst 2, 1) := by decide +kernel
theorem dX12_column_13 : decode cX12_column 13 = .ok (.invokestatic 168, 3) := by decide +kernel
theorem dX12_column_16 : decode cX12_column 16 = .ok (.ifCond .eq 34, 3) := by decide +kernel
theorem dX12_column_19 : decode cX12_column 19 = .ok (.iload_n 3, 1) := by decide +kernel
theorem dX12_column_20 : decode cX12_column 20 = .ok (.iconst 0, 1) := by decide +kernel
theorem dX12_column_21 : decode cX12_column 21 = .ok (.bipush 39, 2) := by decide +kernel
theorem dX12_column_23 : decode cX12_column 23 = .ok (.invokestatic 168, 3) := by decide +kernel
theorem dX12_column_26 : decode cX12_column 26 = .ok (.ifCond .eq 24, 3) := by decide +kernel
theorem dX12_column_29 : decode cX12_column 29 = .ok (.iload 4, 2) := by decide +kernel
theorem dX12_column_31 : decode cX12_column 31 = .ok (.iconst 0, 1) := by decide +kernel
theorem dX12_column_32 : decode cX12_column 32 = .ok (.bipush 12, 2) := by decide +kernel
theorem dX12_column_34 : decode cX12_column 34 = .ok (.invokestatic 168, 3) := by decide +kernel
theorem dX12_column_37 : decode cX12_column 37 = .ok (.ifCond .eq 13, 3) := by decide +kernel
theorem dX12_column_40 : decode cX12_column 40 = .ok (.iload 5, 2) := by decide +kernel
theorem dX12_column_42 : decode cX12_column 42 = .ok (.iconst 0, 1) := by decide +kernel
theorem dX12_column_43 : decode cX12_column 43 = .ok (.iconst 1, 1) := by decide +kernel
theorem dX12_column_44 : decode cX12_column 44 = .ok (.invokestatic 168, 3) := by decide +kernel
theorem dX12_column_47 : decode cX12_column 47 = .ok (.ifCond .ne 5, 3) := by decide +kernel
theorem dX12_column_50 : decode cX12_column 50 = .ok (.iconst (-1), 1) := by decide +kernel
theorem dX12_column_51 : decode cX12_column 51 = .ok (.ireturn, 1) := by decide +kernel
theorem dX12_column_52 : decode cX12_column 52 = .ok (.aload_n 0, 1) := by decide +kernel
theorem dX12_column_53 : decode cX12_column 53 = .ok (.iload_n 1, 1) := by decide +kernel
theorem dX12_column_54 : decode cX12_column 54 = .ok (.iload_n 2, 1) := by decide +kernel
theorem dX12_column_55 : decode cX12_column 55 = .ok (.iload_n 3, 1) := by decide +kernel
theorem dX12_column_56 : decode cX12_column 56 = .ok (.bipush 10, 2) := by decide +kernel
theorem dX12_column_58 : decode cX12_column 58 = .ok (.idiv, 1) := by decide +kernel
theorem dX12_column_59 : decode cX12_column 59 = .ok (.iload_n 3, 1) := by decide +kernel
theorem dX12_column_60 : decode cX12_column 60 = .ok (.bipush 10, 2) := by decide +kernel
theorem dX12_column_62 : decode cX12_column 62 = .ok (.irem, 1) := by decide +kernel
theorem dX12_column_63 : decode cX12_column 63 = .ok (.invokevirtual 383, 3) := by decide +kernel
theorem dX12_column_66 : decode cX12_column 66 = .ok (.iload 5, 2) := by decide +kernel
theorem dX12_column_68 : decode cX12_column 68 = .ok (.ifCond .ne 13, 3) := by decide +kernel
theorem dX12_column_71 : decode cX12_column 71 = .ok (.aload_n 0, 1) := by decide +kernel
theorem dX12_column_72 : decode cX12_column 72 = .ok (.getfield 106, 3) := by decide +kernel
theorem dX12_column_75 : decode cX12_column 75 = .ok (.iload 4, 2) := by decide +kernel
theorem dX12_column_77 : decode cX12_column 77 = .ok (.iaload, 1) := by decide +kernel
theorem dX12_column_78 : decode cX12_column 78 = .ok (.goto 10, 3) := by decide +kernel
theorem dX12_column_81 : decode cX12_column 81 = .ok (.aload_n 0, 1) := by decide +kernel
theorem dX12_column_82 : decode cX12_column 82 = .ok (.getfield 109, 3) := by decide +kernel
theorem dX12_column_85 : decode cX12_column 85 = .ok (.iload 4, 2) := by decide +kernel
theorem dX12_column_87 : decode cX12_column 87 = .ok (.iaload, 1) := by decide +kernel
theorem dX12_column_88 : decode cX12_column 88 = .ok (.ireturn, 1) := by decide +kernel
theorem dX12_turns_0 : decode cX12_turns 0 = .ok (.iconst 0, 1) := by decide +kernel
theorem dX12_turns_1 : decode cX12_turns 1 = .ok (.istore 6, 2) := by decide +kernel
theorem dX12_turns_3 : decode cX12_turns 3 = .ok (.iload 6, 2) := by decide +kernel
theorem dX12_turns_5 : decode cX12_turns 5 = .ok (.bipush 13, 2) := by decide +kernel
theorem dX12_turns_7 : decode cX12_turns 7 = .ok (.if_icmp .ge 17, 3) := by decide +kernel
theorem dX12_turns_10 : decode cX12_turns 10 = .ok (.aload_n 0, 1) := by decide +kernel
theorem dX12_turns_11 : decode cX12_turns 11 = .ok (.getfield 112, 3) := by decide +kernel
theorem dX12_turns_14 : decode cX12_turns 14 = .ok (.iload 6, 2) := by decide +kernel
theorem dX12_turns_16 : decode cX12_turns 16 = .ok (.iconst 0, 1) := by decide +kernel
theorem dX12_turns_17 : decode cX12_turns 17 = .ok (.iastore, 1) := by decide +kernel
theorem dX12_turns_18 : decode cX12_turns 18 = .ok (.iinc 6 1, 3) := by decide +kernel
theorem dX12_turns_21 : decode cX12_turns 21 = .ok (.goto (-18), 3) := by decide +kernel
theorem dX12_turns_24 : decode cX12_turns 24 = .ok (.aload_n 0, 1) := by decide +kernel
theorem dX12_turns_25 : decode cX12_turns 25 = .ok (.iconst 0, 1) := by decide +kernel
theorem dX12_turns_26 : decode cX12_turns 26 = .ok (.putfield 387, 3) := by decide +kernel
theorem dX12_turns_29 : decode cX12_turns 29 = .ok (.iconst 0, 1) := by decide +kernel
theorem dX12_turns_30 : decode cX12_turns 30 = .ok (.istore 6, 2) := by decide +kernel
theorem dX12_turns_32 : decode cX12_turns 32 = .ok (.iload 6, 2) := by decide +kernel
theorem dX12_turns_34 : decode cX12_turns 34 = .ok (.bipush 100, 2) := by decide +kernel
theorem dX12_turns_36 : decode cX12_turns 36 = .ok (.if_icmp .ge 58, 3) := by decide +kernel
theorem dX12_turns_39 : decode cX12_turns 39 = .ok (.aload_n 0, 1) := by decide +kernel
theorem dX12_turns_40 : decode cX12_turns 40 = .ok (.iload_n 1, 1) := by decide +kernel
theorem dX12_turns_41 : decode cX12_turns 41 = .ok (.iload 6, 2) := by decide +kernel
theorem dX12_turns_43 : decode cX12_turns 43 = .ok (.iconst 0, 1) := by decide +kernel
theorem dX12_turns_44 : decode cX12_turns 44 = .ok (.iconst 0, 1) := by decide +kernel
theorem dX12_turns_45 : decode cX12_turns 45 = .ok (.iload_n 2, 1) := by decide +kernel
theorem dX12_turns_46 : decode cX12_turns 46 = .ok (.invokevirtual 366, 3) := by decide +kernel
theorem dX12_turns_49 : decode cX12_turns 49 = .ok (.iload_n 3, 1) := by decide +kernel
theorem dX12_turns_50 : decode cX12_turns 50 = .ok (.if_icmp .eq 6, 3) := by decide +kernel
theorem dX12_turns_53 : decode cX12_turns 53 = .ok (.goto 35, 3) := by decide +kernel
theorem dX12_turns_56 : decode cX12_turns 56 = .ok (.aload_n 0, 1) := by decide +kernel
theorem dX12_turns_57 : decode cX12_turns 57 = .ok (.getfield 112, 3) := by decide +kernel
theorem dX12_turns_60 : decode cX12_turns 60 = .ok (.aload_n 0, 1) := by decide +kernel
theorem dX12_turns_61 : decode cX12_turns 61 = .ok (.iload 4, 2) := by decide +kernel
theorem dX12_turns_63 : decode cX12_turns 63 = .ok (.iload_n 1, 1) := by decide +kernel
theorem dX12_turns_64 : decode cX12_turns 64 = .ok (.iload 6, 2) := by decide +kernel
theorem dX12_turns_66 : decode cX12_turns 66 = .ok (.iconst 0, 1) := by decide +kernel
theorem dX12_turns_67 : decode cX12_turns 67 = .ok (.iconst 0, 1) := by decide +kernel
theorem dX12_turns_68 : decode cX12_turns 68 = .ok (.iload 5, 2) := by decide +kernel
theorem dX12_turns_70 : decode cX12_turns 70 = .ok (.invokevirtual 359, 3) := by decide +kernel
theorem dX12_turns_73 : decode cX12_turns 73 = .ok (.dup2, 1) := by decide +kernel
theorem dX12_turns_74 : decode cX12_turns 74 = .ok (.iaload, 1) := by decide +kernel
theorem dX12_turns_75 : decode cX12_turns 75 = .ok (.iconst 1, 1) := by decide +kernel
theorem dX12_turns_76 : decode cX12_turns 76 = .ok (.iadd, 1) := by decide +kernel
theorem dX12_turns_77 : decode cX12_turns 77 = .ok (.iastore, 1) := by decide +kernel
theorem dX12_turns_78 : decode cX12_turns 78 = .ok (.aload_n 0, 1) := by decide +kernel
theorem dX12_turns_79 : decode cX12_turns 79 = .ok (.dup, 1) := by decide +kernel
theorem dX12_turns_80 : decode cX12_turns 80 = .ok (.getfield 387, 3) := by decide +kernel
theorem dX12_turns_83 : decode cX12_turns 83 = .ok (.iconst 1, 1) := by decide +kernel
theorem dX12_turns_84 : decode cX12_turns 84 = .ok (.iadd, 1) := by decide +kernel
theorem dX12_turns_85 : decode cX12_turns 85 = .ok (.putfield 387, 3) := by decide +kernel
theorem dX12_turns_88 : decode cX12_turns 88 = .ok (.iinc 6 1, 3) := by decide +kernel
theorem dX12_turns_91 : decode cX12_turns 91 = .ok (.goto (-59), 3) := by decide +kernel
theorem dX12_turns_94 : decode cX12_turns 94 = .ok (.aload_n 0, 1) := by decide +kernel
theorem dX12_turns_95 : decode cX12_turns 95 = .ok (.iconst (-1), 1) := by decide +kernel
theorem dX12_turns_96 : decode cX12_turns 96 = .ok (.putfield 390, 3) := by decide +kernel
theorem dX12_turns_99 : decode cX12_turns 99 = .ok (.aload_n 0, 1) := by decide +kernel
theorem dX12_turns_100 : decode cX12_turns 100 = .ok (.iconst 0, 1) := by decide +kernel
theorem dX12_turns_101 : decode cX12_turns 101 = .ok (.putfield 393, 3) := by decide +kernel
theorem dX12_turns_104 : decode cX12_turns 104 = .ok (.iconst 0, 1) := by decide +kernel
theorem dX12_turns_105 : decode cX12_turns 105 = .ok (.istore 6, 2) := by decide +kernel
theorem dX12_turns_107 : decode cX12_turns 107 = .ok (.iload 6, 2) := by decide +kernel
theorem dX12_turns_109 : decode cX12_turns 109 = .ok (.bipush 13, 2) := by decide +kernel
theorem dX12_turns_111 : decode cX12_turns 111 = .ok (.if_icmp .ge 66, 3) := by decide +kernel
theorem dX12_turns_114 : decode cX12_turns 114 = .ok (.aload_n 0, 1) := by decide +kernel
theorem dX12_turns_115 : decode cX12_turns 115 = .ok (.getfield 112, 3) := by decide +kernel
theorem dX12_turns_118 : decode cX12_turns 118 = .ok (.iload 6, 2) := by decide +kernel
theorem dX12_turns_120 : decode cX12_turns 120 = .ok (.iaload, 1) := by decide +kernel
theorem dX12_turns_121 : decode cX12_turns 121 = .ok (.ifCond .ne 6, 3) := by decide +kernel
theorem dX12_turns_124 : decode cX12_turns 124 = .ok (.goto 47, 3) := by decide +kernel
theorem dX12_turns_127 : decode cX12_turns 127 = .ok (.aload_n 0, 1) := by decide +kernel
theorem dX12_turns_128 : decode cX12_turns 128 = .ok (.getfield 390, 3) := by decide +kernel
theorem dX12_turns_131 : decode cX12_turns 131 = .ok (.ifCond .ge 9, 3) := by decide +kernel
theorem dX12_turns_134 : decode cX12_turns 134 = .ok (.aload_n 0, 1) := by decide +kernel
theorem dX12_turns_135 : decode cX12_turns 135 = .ok (.iload 6, 2) := by decide +kernel
theorem dX12_turns_137 : decode cX12_turns 137 = .ok (.putfield 390, 3) := by decide +kernel
theorem dX12_turns_140 : decode cX12_turns 140 = .ok (.aload_n 0, 1) := by decide +kernel
theorem dX12_turns_141 : decode cX12_turns 141 = .ok (.iload 6, 2) := by decide +kernel
theorem dX12_turns_143 : decode cX12_turns 143 = .ok (.putfield 396, 3) := by decide +kernel
theorem dX12_turns_146 : decode cX12_turns 146 = .ok (.aload_n 0, 1) := by decide +kernel
theorem dX12_turns_147 : decode cX12_turns 147 = .ok (.getfield 112, 3) := by decide +kernel
theorem dX12_turns_150 : decode cX12_turns 150 = .ok (.iload 6, 2) := by decide +kernel
theorem dX12_turns_152 : decode cX12_turns 152 = .ok (.iaload, 1) := by decide +kernel
theorem dX12_turns_153 : decode cX12_turns 153 = .ok (.aload_n 0, 1) := by decide +kernel
theorem dX12_turns_154 : decode cX12_turns 154 = .ok (.getfield 112, 3) := by decide +kernel
theorem dX12_turns_157 : decode cX12_turns 157 = .ok (.aload_n 0, 1) := by decide +kernel
theorem dX12_turns_158 : decode cX12_turns 158 = .ok (.getfield 393, 3) := by decide +kernel
theorem dX12_turns_161 : decode cX12_turns 161 = .ok (.iaload, 1) := by decide +kernel
theorem dX12_turns_162 : decode cX12_turns 162 = .ok (.if_icmp .le 9, 3) := by decide +kernel
theorem dX12_turns_165 : decode cX12_turns 165 = .ok (.aload_n 0, 1) := by decide +kernel
theorem dX12_turns_166 : decode cX12_turns 166 = .ok (.iload 6, 2) := by decide +kernel
theorem dX12_turns_168 : decode cX12_turns 168 = .ok (.putfield 393, 3) := by decide +kernel
theorem dX12_turns_171 : decode cX12_turns 171 = .ok (.iinc 6 1, 3) := by decide +kernel
theorem dX12_turns_174 : decode cX12_turns 174 = .ok (.goto (-67), 3) := by decide +kernel
theorem dX12_turns_177 : decode cX12_turns 177 = .ok (.aload_n 0, 1) := by decide +kernel
theorem dX12_turns_178 : decode cX12_turns 178 = .ok (.getfield 387, 3) := by decide +kernel
theorem dX12_turns_181 : decode cX12_turns 181 = .ok (.ifCond .le 7, 3) := by decide +kernel
theorem dX12_turns_184 : decode cX12_turns 184 = .ok (.iconst 1, 1) := by decide +kernel
theorem dX12_turns_185 : decode cX12_turns 185 = .ok (.goto 4, 3) := by decide +kernel
theorem dX12_turns_188 : decode cX12_turns 188 = .ok (.iconst 0, 1) := by decide +kernel
theorem dX12_turns_189 : decode cX12_turns 189 = .ok (.ireturn, 1) := by decide +kernel
theorem dX12_turn_0 : decode cX12_turn 0 = .ok (.iload_n 1, 1) := by decide +kernel
theorem dX12_turn_1 : decode cX12_turn 1 = .ok (.iconst 0, 1) := by decide +kernel
theorem dX12_turn_2 : decode cX12_turn 2 = .ok (.iconst 2, 1) := by decide +kernel
theorem dX12_turn_3 : decode cX12_turn 3 = .ok (.invokestatic 168, 3) := by decide +kernel
theorem dX12_turn_6 : decode cX12_turn 6 = .ok (.ifCond .eq 44, 3) := by decide +kernel
theorem dX12_turn_9 : decode cX12_turn 9 = .ok (.iload_n 2, 1) := by decide +kernel
theorem dX12_turn_10 : decode cX12_turn 10 = .ok (.iconst 0, 1) := by decide +kernel
theorem dX12_turn_11 : decode cX12_turn 11 = .ok (.bipush 9, 2) := by decide +kernel
theorem dX12_turn_13 : decode cX12_turn 13 = .ok (.invokestatic 168, 3) := by decide +kernel
theorem dX12_turn_16 : decode cX12_turn 16 = .ok (.ifCond .eq 34, 3) := by decide +kernel
theorem dX12_turn_19 : decode cX12_turn 19 = .ok (.iload_n 3, 1) := by decide +kernel
theorem dX12_turn_20 : decode cX12_turn 20 = .ok (.iconst 0, 1) := by decide +kernel
theorem dX12_turn_21 : decode cX12_turn 21 = .ok (.bipush 12, 2) := by decide +kernel
theorem dX12_turn_23 : decode cX12_turn 23 = .ok (.invokestatic 168, 3) := by decide +kernel
theorem dX12_turn_26 : decode cX12_turn 26 = .ok (.ifCond .eq 24, 3) := by decide +kernel
theorem dX12_turn_29 : decode cX12_turn 29 = .ok (.iload 4, 2) := by decide +kernel
