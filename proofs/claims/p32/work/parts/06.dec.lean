theorem dX12_turn_31 : decode cX12_turn 31 = .ok (.iconst 0, 1) := by decide +kernel
theorem dX12_turn_32 : decode cX12_turn 32 = .ok (.bipush 9, 2) := by decide +kernel
theorem dX12_turn_34 : decode cX12_turn 34 = .ok (.invokestatic 168, 3) := by decide +kernel
theorem dX12_turn_37 : decode cX12_turn 37 = .ok (.ifCond .eq 13, 3) := by decide +kernel
theorem dX12_turn_40 : decode cX12_turn 40 = .ok (.iload 5, 2) := by decide +kernel
theorem dX12_turn_42 : decode cX12_turn 42 = .ok (.iconst 0, 1) := by decide +kernel
theorem dX12_turn_43 : decode cX12_turn 43 = .ok (.iconst 3, 1) := by decide +kernel
theorem dX12_turn_44 : decode cX12_turn 44 = .ok (.invokestatic 168, 3) := by decide +kernel
theorem dX12_turn_47 : decode cX12_turn 47 = .ok (.ifCond .ne 5, 3) := by decide +kernel
theorem dX12_turn_50 : decode cX12_turn 50 = .ok (.iconst (-1), 1) := by decide +kernel
theorem dX12_turn_51 : decode cX12_turn 51 = .ok (.ireturn, 1) := by decide +kernel
theorem dX12_turn_52 : decode cX12_turn 52 = .ok (.aload_n 0, 1) := by decide +kernel
theorem dX12_turn_53 : decode cX12_turn 53 = .ok (.iload_n 1, 1) := by decide +kernel
theorem dX12_turn_54 : decode cX12_turn 54 = .ok (.iload_n 2, 1) := by decide +kernel
theorem dX12_turn_55 : decode cX12_turn 55 = .ok (.iload_n 3, 1) := by decide +kernel
theorem dX12_turn_56 : decode cX12_turn 56 = .ok (.aload_n 0, 1) := by decide +kernel
theorem dX12_turn_57 : decode cX12_turn 57 = .ok (.iload 4, 2) := by decide +kernel
theorem dX12_turn_59 : decode cX12_turn 59 = .ok (.invokevirtual 356, 3) := by decide +kernel
theorem dX12_turn_62 : decode cX12_turn 62 = .ok (.iload 4, 2) := by decide +kernel
theorem dX12_turn_64 : decode cX12_turn 64 = .ok (.invokevirtual 399, 3) := by decide +kernel
theorem dX12_turn_67 : decode cX12_turn 67 = .ok (.ifCond .ne 5, 3) := by decide +kernel
theorem dX12_turn_70 : decode cX12_turn 70 = .ok (.iconst (-1), 1) := by decide +kernel
theorem dX12_turn_71 : decode cX12_turn 71 = .ok (.ireturn, 1) := by decide +kernel
theorem dX12_turn_72 : decode cX12_turn 72 = .ok (.iload 5, 2) := by decide +kernel
theorem dX12_turn_74 : decode cX12_turn 74 = .ok (.ifCond .ne 10, 3) := by decide +kernel
theorem dX12_turn_77 : decode cX12_turn 77 = .ok (.aload_n 0, 1) := by decide +kernel
theorem dX12_turn_78 : decode cX12_turn 78 = .ok (.getfield 390, 3) := by decide +kernel
theorem dX12_turn_81 : decode cX12_turn 81 = .ok (.goto 43, 3) := by decide +kernel
theorem dX12_turn_84 : decode cX12_turn 84 = .ok (.iload 5, 2) := by decide +kernel
theorem dX12_turn_86 : decode cX12_turn 86 = .ok (.iconst 1, 1) := by decide +kernel
theorem dX12_turn_87 : decode cX12_turn 87 = .ok (.if_icmp .ne 10, 3) := by decide +kernel
theorem dX12_turn_90 : decode cX12_turn 90 = .ok (.aload_n 0, 1) := by decide +kernel
theorem dX12_turn_91 : decode cX12_turn 91 = .ok (.getfield 396, 3) := by decide +kernel
theorem dX12_turn_94 : decode cX12_turn 94 = .ok (.goto 30, 3) := by decide +kernel
theorem dX12_turn_97 : decode cX12_turn 97 = .ok (.iload 5, 2) := by decide +kernel
theorem dX12_turn_99 : decode cX12_turn 99 = .ok (.iconst 2, 1) := by decide +kernel
theorem dX12_turn_100 : decode cX12_turn 100 = .ok (.if_icmp .ne 10, 3) := by decide +kernel
theorem dX12_turn_103 : decode cX12_turn 103 = .ok (.aload_n 0, 1) := by decide +kernel
theorem dX12_turn_104 : decode cX12_turn 104 = .ok (.getfield 393, 3) := by decide +kernel
theorem dX12_turn_107 : decode cX12_turn 107 = .ok (.goto 17, 3) := by decide +kernel
theorem dX12_turn_110 : decode cX12_turn 110 = .ok (.aload_n 0, 1) := by decide +kernel
theorem dX12_turn_111 : decode cX12_turn 111 = .ok (.getfield 387, 3) := by decide +kernel
theorem dX12_turn_114 : decode cX12_turn 114 = .ok (.aload_n 0, 1) := by decide +kernel
theorem dX12_turn_115 : decode cX12_turn 115 = .ok (.getfield 112, 3) := by decide +kernel
theorem dX12_turn_118 : decode cX12_turn 118 = .ok (.aload_n 0, 1) := by decide +kernel
theorem dX12_turn_119 : decode cX12_turn 119 = .ok (.getfield 393, 3) := by decide +kernel
theorem dX12_turn_122 : decode cX12_turn 122 = .ok (.iaload, 1) := by decide +kernel
theorem dX12_turn_123 : decode cX12_turn 123 = .ok (.isub, 1) := by decide +kernel
theorem dX12_turn_124 : decode cX12_turn 124 = .ok (.ireturn, 1) := by decide +kernel
theorem dX12_binds_0 : decode cX12_binds 0 = .ok (.iload_n 3, 1) := by decide +kernel
theorem dX12_binds_1 : decode cX12_binds 1 = .ok (.aload_n 0, 1) := by decide +kernel
theorem dX12_binds_2 : decode cX12_binds 2 = .ok (.getfield 115, 3) := by decide +kernel
theorem dX12_binds_5 : decode cX12_binds 5 = .ok (.bipush 17, 2) := by decide +kernel
theorem dX12_binds_7 : decode cX12_binds 7 = .ok (.iload_n 1, 1) := by decide +kernel
theorem dX12_binds_8 : decode cX12_binds 8 = .ok (.imul, 1) := by decide +kernel
theorem dX12_binds_9 : decode cX12_binds 9 = .ok (.iload_n 2, 1) := by decide +kernel
theorem dX12_binds_10 : decode cX12_binds 10 = .ok (.iadd, 1) := by decide +kernel
theorem dX12_binds_11 : decode cX12_binds 11 = .ok (.iaload, 1) := by decide +kernel
theorem dX12_binds_12 : decode cX12_binds 12 = .ok (.if_icmp .ge 15, 3) := by decide +kernel
theorem dX12_binds_15 : decode cX12_binds 15 = .ok (.aload_n 0, 1) := by decide +kernel
theorem dX12_binds_16 : decode cX12_binds 16 = .ok (.getfield 115, 3) := by decide +kernel
theorem dX12_binds_19 : decode cX12_binds 19 = .ok (.bipush 17, 2) := by decide +kernel
theorem dX12_binds_21 : decode cX12_binds 21 = .ok (.iload_n 1, 1) := by decide +kernel
theorem dX12_binds_22 : decode cX12_binds 22 = .ok (.imul, 1) := by decide +kernel
theorem dX12_binds_23 : decode cX12_binds 23 = .ok (.iload_n 2, 1) := by decide +kernel
theorem dX12_binds_24 : decode cX12_binds 24 = .ok (.iadd, 1) := by decide +kernel
theorem dX12_binds_25 : decode cX12_binds 25 = .ok (.iload_n 3, 1) := by decide +kernel
theorem dX12_binds_26 : decode cX12_binds 26 = .ok (.iastore, 1) := by decide +kernel
theorem dX12_binds_27 : decode cX12_binds 27 = .ok (.return_, 1) := by decide +kernel
theorem dX12_findLeans_0 : decode cX12_findLeans 0 = .ok (.iconst 0, 1) := by decide +kernel
theorem dX12_findLeans_1 : decode cX12_findLeans 1 = .ok (.istore_n 1, 1) := by decide +kernel
theorem dX12_findLeans_2 : decode cX12_findLeans 2 = .ok (.iload_n 1, 1) := by decide +kernel
theorem dX12_findLeans_3 : decode cX12_findLeans 3 = .ok (.sipush 289, 3) := by decide +kernel
theorem dX12_findLeans_6 : decode cX12_findLeans 6 = .ok (.if_icmp .ge 29, 3) := by decide +kernel
theorem dX12_findLeans_9 : decode cX12_findLeans 9 = .ok (.aload_n 0, 1) := by decide +kernel
theorem dX12_findLeans_10 : decode cX12_findLeans 10 = .ok (.getfield 115, 3) := by decide +kernel
theorem dX12_findLeans_13 : decode cX12_findLeans 13 = .ok (.iload_n 1, 1) := by decide +kernel
theorem dX12_findLeans_14 : decode cX12_findLeans 14 = .ok (.iload_n 1, 1) := by decide +kernel
theorem dX12_findLeans_15 : decode cX12_findLeans 15 = .ok (.bipush 18, 2) := by decide +kernel
theorem dX12_findLeans_17 : decode cX12_findLeans 17 = .ok (.irem, 1) := by decide +kernel
theorem dX12_findLeans_18 : decode cX12_findLeans 18 = .ok (.ifCond .ne 7, 3) := by decide +kernel
theorem dX12_findLeans_21 : decode cX12_findLeans 21 = .ok (.iconst 0, 1) := by decide +kernel
theorem dX12_findLeans_22 : decode cX12_findLeans 22 = .ok (.goto 6, 3) := by decide +kernel
theorem dX12_findLeans_25 : decode cX12_findLeans 25 = .ok (.ldc_w 403, 3) := by decide +kernel
theorem dX12_findLeans_28 : decode cX12_findLeans 28 = .ok (.iastore, 1) := by decide +kernel
theorem dX12_findLeans_29 : decode cX12_findLeans 29 = .ok (.iinc 1 1, 3) := by decide +kernel
theorem dX12_findLeans_32 : decode cX12_findLeans 32 = .ok (.goto (-30), 3) := by decide +kernel
theorem dX12_findLeans_35 : decode cX12_findLeans 35 = .ok (.iconst 0, 1) := by decide +kernel
theorem dX12_findLeans_36 : decode cX12_findLeans 36 = .ok (.istore_n 1, 1) := by decide +kernel
theorem dX12_findLeans_37 : decode cX12_findLeans 37 = .ok (.iload_n 1, 1) := by decide +kernel
theorem dX12_findLeans_38 : decode cX12_findLeans 38 = .ok (.aload_n 0, 1) := by decide +kernel
theorem dX12_findLeans_39 : decode cX12_findLeans 39 = .ok (.getfield 182, 3) := by decide +kernel
theorem dX12_findLeans_42 : decode cX12_findLeans 42 = .ok (.if_icmp .ge 59, 3) := by decide +kernel
theorem dX12_findLeans_45 : decode cX12_findLeans 45 = .ok (.aload_n 0, 1) := by decide +kernel
theorem dX12_findLeans_46 : decode cX12_findLeans 46 = .ok (.iload_n 1, 1) := by decide +kernel
theorem dX12_findLeans_47 : decode cX12_findLeans 47 = .ok (.invokevirtual 404, 3) := by decide +kernel
theorem dX12_findLeans_50 : decode cX12_findLeans 50 = .ok (.ifCond .eq 45, 3) := by decide +kernel
theorem dX12_findLeans_53 : decode cX12_findLeans 53 = .ok (.aload_n 0, 1) := by decide +kernel
theorem dX12_findLeans_54 : decode cX12_findLeans 54 = .ok (.iload_n 1, 1) := by decide +kernel
theorem dX12_findLeans_55 : decode cX12_findLeans 55 = .ok (.invokevirtual 407, 3) := by decide +kernel
theorem dX12_findLeans_58 : decode cX12_findLeans 58 = .ok (.ifCond .ne 6, 3) := by decide +kernel
theorem dX12_findLeans_61 : decode cX12_findLeans 61 = .ok (.goto 34, 3) := by decide +kernel
theorem dX12_findLeans_64 : decode cX12_findLeans 64 = .ok (.iconst 0, 1) := by decide +kernel
theorem dX12_findLeans_65 : decode cX12_findLeans 65 = .ok (.istore_n 2, 1) := by decide +kernel
theorem dX12_findLeans_66 : decode cX12_findLeans 66 = .ok (.iload_n 2, 1) := by decide +kernel
theorem dX12_findLeans_67 : decode cX12_findLeans 67 = .ok (.aload_n 0, 1) := by decide +kernel
theorem dX12_findLeans_68 : decode cX12_findLeans 68 = .ok (.getfield 182, 3) := by decide +kernel
theorem dX12_findLeans_71 : decode cX12_findLeans 71 = .ok (.if_icmp .ge 24, 3) := by decide +kernel
theorem dX12_findLeans_74 : decode cX12_findLeans 74 = .ok (.aload_n 0, 1) := by decide +kernel
theorem dX12_findLeans_75 : decode cX12_findLeans 75 = .ok (.iload_n 1, 1) := by decide +kernel
theorem dX12_findLeans_76 : decode cX12_findLeans 76 = .ok (.iload_n 2, 1) := by decide +kernel
theorem dX12_findLeans_77 : decode cX12_findLeans 77 = .ok (.invokevirtual 410, 3) := by decide +kernel
theorem dX12_findLeans_80 : decode cX12_findLeans 80 = .ok (.ifCond .eq 9, 3) := by decide +kernel
theorem dX12_findLeans_83 : decode cX12_findLeans 83 = .ok (.aload_n 0, 1) := by decide +kernel
theorem dX12_findLeans_84 : decode cX12_findLeans 84 = .ok (.iload_n 1, 1) := by decide +kernel
theorem dX12_findLeans_85 : decode cX12_findLeans 85 = .ok (.iload_n 2, 1) := by decide +kernel
theorem dX12_findLeans_86 : decode cX12_findLeans 86 = .ok (.invokevirtual 413, 3) := by decide +kernel
theorem dX12_findLeans_89 : decode cX12_findLeans 89 = .ok (.iinc 2 1, 3) := by decide +kernel
theorem dX12_findLeans_92 : decode cX12_findLeans 92 = .ok (.goto (-26), 3) := by decide +kernel
theorem dX12_findLeans_95 : decode cX12_findLeans 95 = .ok (.iinc 1 1, 3) := by decide +kernel
theorem dX12_findLeans_98 : decode cX12_findLeans 98 = .ok (.goto (-61), 3) := by decide +kernel
theorem dX12_findLeans_101 : decode cX12_findLeans 101 = .ok (.iconst 0, 1) := by decide +kernel
theorem dX12_findLeans_102 : decode cX12_findLeans 102 = .ok (.istore_n 1, 1) := by decide +kernel
theorem dX12_findLeans_103 : decode cX12_findLeans 103 = .ok (.iload_n 1, 1) := by decide +kernel
theorem dX12_findLeans_104 : decode cX12_findLeans 104 = .ok (.bipush 17, 2) := by decide +kernel
theorem dX12_findLeans_106 : decode cX12_findLeans 106 = .ok (.if_icmp .ge 139, 3) := by decide +kernel
theorem dX12_findLeans_109 : decode cX12_findLeans 109 = .ok (.iconst 0, 1) := by decide +kernel
theorem dX12_findLeans_110 : decode cX12_findLeans 110 = .ok (.istore_n 2, 1) := by decide +kernel
theorem dX12_findLeans_111 : decode cX12_findLeans 111 = .ok (.iload_n 2, 1) := by decide +kernel
theorem dX12_findLeans_112 : decode cX12_findLeans 112 = .ok (.bipush 17, 2) := by decide +kernel
theorem dX12_findLeans_114 : decode cX12_findLeans 114 = .ok (.if_icmp .ge 125, 3) := by decide +kernel
theorem dX12_findLeans_117 : decode cX12_findLeans 117 = .ok (.iconst 0, 1) := by decide +kernel
theorem dX12_findLeans_118 : decode cX12_findLeans 118 = .ok (.istore_n 3, 1) := by decide +kernel
theorem dX12_findLeans_119 : decode cX12_findLeans 119 = .ok (.iload_n 3, 1) := by decide +kernel
theorem dX12_findLeans_120 : decode cX12_findLeans 120 = .ok (.bipush 17, 2) := by decide +kernel
theorem dX12_findLeans_122 : decode cX12_findLeans 122 = .ok (.if_icmp .ge 111, 3) := by decide +kernel
theorem dX12_findLeans_125 : decode cX12_findLeans 125 = .ok (.aload_n 0, 1) := by decide +kernel
theorem dX12_findLeans_126 : decode cX12_findLeans 126 = .ok (.getfield 115, 3) := by decide +kernel
theorem dX12_findLeans_129 : decode cX12_findLeans 129 = .ok (.bipush 17, 2) := by decide +kernel
theorem dX12_findLeans_131 : decode cX12_findLeans 131 = .ok (.iload_n 2, 1) := by decide +kernel
theorem dX12_findLeans_132 : decode cX12_findLeans 132 = .ok (.imul, 1) := by decide +kernel
theorem dX12_findLeans_133 : decode cX12_findLeans 133 = .ok (.iload_n 1, 1) := by decide +kernel
theorem dX12_findLeans_134 : decode cX12_findLeans 134 = .ok (.iadd, 1) := by decide +kernel
theorem dX12_findLeans_135 : decode cX12_findLeans 135 = .ok (.iaload, 1) := by decide +kernel
theorem dX12_findLeans_136 : decode cX12_findLeans 136 = .ok (.aload_n 0, 1) := by decide +kernel
theorem dX12_findLeans_137 : decode cX12_findLeans 137 = .ok (.getfield 115, 3) := by decide +kernel
theorem dX12_findLeans_140 : decode cX12_findLeans 140 = .ok (.bipush 17, 2) := by decide +kernel
theorem dX12_findLeans_142 : decode cX12_findLeans 142 = .ok (.iload_n 1, 1) := by decide +kernel
theorem dX12_findLeans_143 : decode cX12_findLeans 143 = .ok (.imul, 1) := by decide +kernel
theorem dX12_findLeans_144 : decode cX12_findLeans 144 = .ok (.iload_n 3, 1) := by decide +kernel
theorem dX12_findLeans_145 : decode cX12_findLeans 145 = .ok (.iadd, 1) := by decide +kernel
theorem dX12_findLeans_146 : decode cX12_findLeans 146 = .ok (.iaload, 1) := by decide +kernel
theorem dX12_findLeans_147 : decode cX12_findLeans 147 = .ok (.iadd, 1) := by decide +kernel
theorem dX12_findLeans_148 : decode cX12_findLeans 148 = .ok (.istore 4, 2) := by decide +kernel
theorem dX12_findLeans_150 : decode cX12_findLeans 150 = .ok (.aload_n 0, 1) := by decide +kernel
theorem dX12_findLeans_151 : decode cX12_findLeans 151 = .ok (.getfield 115, 3) := by decide +kernel
theorem dX12_findLeans_154 : decode cX12_findLeans 154 = .ok (.bipush 17, 2) := by decide +kernel
theorem dX12_findLeans_156 : decode cX12_findLeans 156 = .ok (.iload_n 2, 1) := by decide +kernel
theorem dX12_findLeans_157 : decode cX12_findLeans 157 = .ok (.imul, 1) := by decide +kernel
theorem dX12_findLeans_158 : decode cX12_findLeans 158 = .ok (.iload_n 1, 1) := by decide +kernel
theorem dX12_findLeans_159 : decode cX12_findLeans 159 = .ok (.iadd, 1) := by decide +kernel
theorem dX12_findLeans_160 : decode cX12_findLeans 160 = .ok (.iaload, 1) := by decide +kernel
theorem dX12_findLeans_161 : decode cX12_findLeans 161 = .ok (.ldc_w 403, 3) := by decide +kernel
theorem dX12_findLeans_164 : decode cX12_findLeans 164 = .ok (.if_icmp .ge 63, 3) := by decide +kernel
theorem dX12_findLeans_167 : decode cX12_findLeans 167 = .ok (.aload_n 0, 1) := by decide +kernel
theorem dX12_findLeans_168 : decode cX12_findLeans 168 = .ok (.getfield 115, 3) := by decide +kernel
theorem dX12_findLeans_171 : decode cX12_findLeans 171 = .ok (.bipush 17, 2) := by decide +kernel
theorem dX12_findLeans_173 : decode cX12_findLeans 173 = .ok (.iload_n 1, 1) := by decide +kernel
theorem dX12_findLeans_174 : decode cX12_findLeans 174 = .ok (.imul, 1) := by decide +kernel
theorem dX12_findLeans_175 : decode cX12_findLeans 175 = .ok (.iload_n 3, 1) := by decide +kernel
theorem dX12_findLeans_176 : decode cX12_findLeans 176 = .ok (.iadd, 1) := by decide +kernel
theorem dX12_findLeans_177 : decode cX12_findLeans 177 = .ok (.iaload, 1) := by decide +kernel
theorem dX12_findLeans_178 : decode cX12_findLeans 178 = .ok (.ldc_w 403, 3) := by decide +kernel
theorem dX12_findLeans_181 : decode cX12_findLeans 181 = .ok (.if_icmp .ge 46, 3) := by decide +kernel
theorem dX12_findLeans_184 : decode cX12_findLeans 184 = .ok (.iload 4, 2) := by decide +kernel
theorem dX12_findLeans_186 : decode cX12_findLeans 186 = .ok (.aload_n 0, 1) := by decide +kernel
theorem dX12_findLeans_187 : decode cX12_findLeans 187 = .ok (.getfield 115, 3) := by decide +kernel
theorem dX12_findLeans_190 : decode cX12_findLeans 190 = .ok (.bipush 17, 2) := by decide +kernel
theorem dX12_findLeans_192 : decode cX12_findLeans 192 = .ok (.iload_n 2, 1) := by decide +kernel
theorem dX12_findLeans_193 : decode cX12_findLeans 193 = .ok (.imul, 1) := by decide +kernel
theorem dX12_findLeans_194 : decode cX12_findLeans 194 = .ok (.iload_n 3, 1) := by decide +kernel
theorem dX12_findLeans_195 : decode cX12_findLeans 195 = .ok (.iadd, 1) := by decide +kernel
theorem dX12_findLeans_196 : decode cX12_findLeans 196 = .ok (.iaload, 1) := by decide +kernel
theorem dX12_findLeans_197 : decode cX12_findLeans 197 = .ok (.if_icmp .ge 30, 3) := by decide +kernel
theorem dX12_findLeans_200 : decode cX12_findLeans 200 = .ok (.aload_n 0, 1) := by decide +kernel
theorem dX12_findLeans_201 : decode cX12_findLeans 201 = .ok (.getfield 115, 3) := by decide +kernel
theorem dX12_findLeans_204 : decode cX12_findLeans 204 = .ok (.bipush 17, 2) := by decide +kernel
theorem dX12_findLeans_206 : decode cX12_findLeans 206 = .ok (.iload_n 2, 1) := by decide +kernel
theorem dX12_findLeans_207 : decode cX12_findLeans 207 = .ok (.imul, 1) := by decide +kernel
theorem dX12_findLeans_208 : decode cX12_findLeans 208 = .ok (.iload_n 3, 1) := by decide +kernel
theorem dX12_findLeans_209 : decode cX12_findLeans 209 = .ok (.iadd, 1) := by decide +kernel
theorem dX12_findLeans_210 : decode cX12_findLeans 210 = .ok (.iload 4, 2) := by decide +kernel
theorem dX12_findLeans_212 : decode cX12_findLeans 212 = .ok (.ldc_w 416, 3) := by decide +kernel
theorem dX12_findLeans_215 : decode cX12_findLeans 215 = .ok (.if_icmp .ge 9, 3) := by decide +kernel
theorem dX12_findLeans_218 : decode cX12_findLeans 218 = .ok (.ldc_w 416, 3) := by decide +kernel
theorem dX12_findLeans_221 : decode cX12_findLeans 221 = .ok (.goto 5, 3) := by decide +kernel
theorem dX12_findLeans_224 : decode cX12_findLeans 224 = .ok (.iload 4, 2) := by decide +kernel
theorem dX12_findLeans_226 : decode cX12_findLeans 226 = .ok (.iastore, 1) := by decide +kernel
theorem dX12_findLeans_227 : decode cX12_findLeans 227 = .ok (.iinc 3 1, 3) := by decide +kernel
theorem dX12_findLeans_230 : decode cX12_findLeans 230 = .ok (.goto (-111), 3) := by decide +kernel
theorem dX12_findLeans_233 : decode cX12_findLeans 233 = .ok (.iinc 2 1, 3) := by decide +kernel
theorem dX12_findLeans_236 : decode cX12_findLeans 236 = .ok (.goto (-125), 3) := by decide +kernel
theorem dX12_findLeans_239 : decode cX12_findLeans 239 = .ok (.iinc 1 1, 3) := by decide +kernel
theorem dX12_findLeans_242 : decode cX12_findLeans 242 = .ok (.goto (-139), 3) := by decide +kernel
theorem dX12_findLeans_245 : decode cX12_findLeans 245 = .ok (.aload_n 0, 1) := by decide +kernel
theorem dX12_findLeans_246 : decode cX12_findLeans 246 = .ok (.iconst 1, 1) := by decide +kernel
theorem dX12_findLeans_247 : decode cX12_findLeans 247 = .ok (.putfield 417, 3) := by decide +kernel
theorem dX12_findLeans_250 : decode cX12_findLeans 250 = .ok (.iconst 0, 1) := by decide +kernel
theorem dX12_findLeans_251 : decode cX12_findLeans 251 = .ok (.istore_n 1, 1) := by decide +kernel
theorem dX12_findLeans_252 : decode cX12_findLeans 252 = .ok (.iload_n 1, 1) := by decide +kernel
theorem dX12_findLeans_253 : decode cX12_findLeans 253 = .ok (.bipush 17, 2) := by decide +kernel
theorem dX12_findLeans_255 : decode cX12_findLeans 255 = .ok (.if_icmp .ge 37, 3) := by decide +kernel
theorem dX12_findLeans_258 : decode cX12_findLeans 258 = .ok (.aload_n 0, 1) := by decide +kernel
theorem dX12_findLeans_259 : decode cX12_findLeans 259 = .ok (.aload_n 0, 1) := by decide +kernel
theorem dX12_findLeans_260 : decode cX12_findLeans 260 = .ok (.getfield 417, 3) := by decide +kernel
theorem dX12_findLeans_263 : decode cX12_findLeans 263 = .ok (.ifCond .eq 19, 3) := by decide +kernel
theorem dX12_findLeans_266 : decode cX12_findLeans 266 = .ok (.aload_n 0, 1) := by decide +kernel
theorem dX12_findLeans_267 : decode cX12_findLeans 267 = .ok (.getfield 115, 3) := by decide +kernel
theorem dX12_findLeans_270 : decode cX12_findLeans 270 = .ok (.bipush 18, 2) := by decide +kernel
theorem dX12_findLeans_272 : decode cX12_findLeans 272 = .ok (.iload_n 1, 1) := by decide +kernel
theorem dX12_findLeans_273 : decode cX12_findLeans 273 = .ok (.imul, 1) := by decide +kernel
theorem dX12_findLeans_274 : decode cX12_findLeans 274 = .ok (.iaload, 1) := by decide +kernel
theorem dX12_findLeans_275 : decode cX12_findLeans 275 = .ok (.ifCond .lt 7, 3) := by decide +kernel
theorem dX12_findLeans_278 : decode cX12_findLeans 278 = .ok (.iconst 1, 1) := by decide +kernel
theorem dX12_findLeans_279 : decode cX12_findLeans 279 = .ok (.goto 4, 3) := by decide +kernel
theorem dX12_findLeans_282 : decode cX12_findLeans 282 = .ok (.iconst 0, 1) := by decide +kernel
theorem dX12_findLeans_283 : decode cX12_findLeans 283 = .ok (.putfield 417, 3) := by decide +kernel
theorem dX12_findLeans_286 : decode cX12_findLeans 286 = .ok (.iinc 1 1, 3) := by decide +kernel
theorem dX12_findLeans_289 : decode cX12_findLeans 289 = .ok (.goto (-37), 3) := by decide +kernel
theorem dX12_findLeans_292 : decode cX12_findLeans 292 = .ok (.return_, 1) := by decide +kernel
theorem dX12_bindsBy_0 : decode cX12_bindsBy 0 = .ok (.aload_n 0, 1) := by decide +kernel
theorem dX12_bindsBy_1 : decode cX12_bindsBy 1 = .ok (.iload_n 1, 1) := by decide +kernel
theorem dX12_bindsBy_2 : decode cX12_bindsBy 2 = .ok (.invokevirtual 195, 3) := by decide +kernel
theorem dX12_bindsBy_5 : decode cX12_bindsBy 5 = .ok (.istore_n 3, 1) := by decide +kernel
theorem dX12_bindsBy_6 : decode cX12_bindsBy 6 = .ok (.aload_n 0, 1) := by decide +kernel
theorem dX12_bindsBy_7 : decode cX12_bindsBy 7 = .ok (.iload_n 2, 1) := by decide +kernel
theorem dX12_bindsBy_8 : decode cX12_bindsBy 8 = .ok (.invokevirtual 404, 3) := by decide +kernel
theorem dX12_bindsBy_11 : decode cX12_bindsBy 11 = .ok (.ifCond .eq 71, 3) := by decide +kernel
theorem dX12_bindsBy_14 : decode cX12_bindsBy 14 = .ok (.aload_n 0, 1) := by decide +kernel
theorem dX12_bindsBy_15 : decode cX12_bindsBy 15 = .ok (.iload_n 2, 1) := by decide +kernel
theorem dX12_bindsBy_16 : decode cX12_bindsBy 16 = .ok (.invokevirtual 195, 3) := by decide +kernel
theorem dX12_bindsBy_19 : decode cX12_bindsBy 19 = .ok (.istore 4, 2) := by decide +kernel
theorem dX12_bindsBy_21 : decode cX12_bindsBy 21 = .ok (.iload 4, 2) := by decide +kernel
theorem dX12_bindsBy_23 : decode cX12_bindsBy 23 = .ok (.iload_n 3, 1) := by decide +kernel
theorem dX12_bindsBy_24 : decode cX12_bindsBy 24 = .ok (.if_icmp .eq 13, 3) := by decide +kernel
theorem dX12_bindsBy_27 : decode cX12_bindsBy 27 = .ok (.aload_n 0, 1) := by decide +kernel
theorem dX12_bindsBy_28 : decode cX12_bindsBy 28 = .ok (.getfield 20, 3) := by decide +kernel
theorem dX12_bindsBy_31 : decode cX12_bindsBy 31 = .ok (.iload 4, 2) := by decide +kernel
theorem dX12_bindsBy_33 : decode cX12_bindsBy 33 = .ok (.baload, 1) := by decide +kernel
theorem dX12_bindsBy_34 : decode cX12_bindsBy 34 = .ok (.ifCond .ne 4, 3) := by decide +kernel
theorem dX12_bindsBy_37 : decode cX12_bindsBy 37 = .ok (.return_, 1) := by decide +kernel
theorem dX12_bindsBy_38 : decode cX12_bindsBy 38 = .ok (.aload_n 0, 1) := by decide +kernel
theorem dX12_bindsBy_39 : decode cX12_bindsBy 39 = .ok (.getfield 54, 3) := by decide +kernel
theorem dX12_bindsBy_42 : decode cX12_bindsBy 42 = .ok (.iload_n 1, 1) := by decide +kernel
theorem dX12_bindsBy_43 : decode cX12_bindsBy 43 = .ok (.iaload, 1) := by decide +kernel
theorem dX12_bindsBy_44 : decode cX12_bindsBy 44 = .ok (.aload_n 0, 1) := by decide +kernel
theorem dX12_bindsBy_45 : decode cX12_bindsBy 45 = .ok (.getfield 54, 3) := by decide +kernel
theorem dX12_bindsBy_48 : decode cX12_bindsBy 48 = .ok (.iload_n 2, 1) := by decide +kernel
theorem dX12_bindsBy_49 : decode cX12_bindsBy 49 = .ok (.iaload, 1) := by decide +kernel
theorem dX12_bindsBy_50 : decode cX12_bindsBy 50 = .ok (.isub, 1) := by decide +kernel
theorem dX12_bindsBy_51 : decode cX12_bindsBy 51 = .ok (.istore 5, 2) := by decide +kernel
theorem dX12_bindsBy_53 : decode cX12_bindsBy 53 = .ok (.aload_n 0, 1) := by decide +kernel
theorem dX12_bindsBy_54 : decode cX12_bindsBy 54 = .ok (.iload_n 3, 1) := by decide +kernel
theorem dX12_bindsBy_55 : decode cX12_bindsBy 55 = .ok (.iload 4, 2) := by decide +kernel
theorem dX12_bindsBy_57 : decode cX12_bindsBy 57 = .ok (.iload 5, 2) := by decide +kernel
theorem dX12_bindsBy_59 : decode cX12_bindsBy 59 = .ok (.aload_n 0, 1) := by decide +kernel
theorem dX12_bindsBy_60 : decode cX12_bindsBy 60 = .ok (.getfield 17, 3) := by decide +kernel
theorem dX12_bindsBy_63 : decode cX12_bindsBy 63 = .ok (.iadd, 1) := by decide +kernel
theorem dX12_bindsBy_64 : decode cX12_bindsBy 64 = .ok (.invokevirtual 420, 3) := by decide +kernel
theorem dX12_bindsBy_67 : decode cX12_bindsBy 67 = .ok (.aload_n 0, 1) := by decide +kernel
theorem dX12_bindsBy_68 : decode cX12_bindsBy 68 = .ok (.iload 4, 2) := by decide +kernel
theorem dX12_bindsBy_70 : decode cX12_bindsBy 70 = .ok (.iload_n 3, 1) := by decide +kernel
theorem dX12_bindsBy_71 : decode cX12_bindsBy 71 = .ok (.aload_n 0, 1) := by decide +kernel
theorem dX12_bindsBy_72 : decode cX12_bindsBy 72 = .ok (.getfield 17, 3) := by decide +kernel
theorem dX12_bindsBy_75 : decode cX12_bindsBy 75 = .ok (.iload 5, 2) := by decide +kernel
theorem dX12_bindsBy_77 : decode cX12_bindsBy 77 = .ok (.isub, 1) := by decide +kernel
theorem dX12_bindsBy_78 : decode cX12_bindsBy 78 = .ok (.invokevirtual 420, 3) := by decide +kernel
theorem dX12_bindsBy_81 : decode cX12_bindsBy 81 = .ok (.return_, 1) := by decide +kernel
theorem dX12_bindsBy_82 : decode cX12_bindsBy 82 = .ok (.aload_n 0, 1) := by decide +kernel
theorem dX12_bindsBy_83 : decode cX12_bindsBy 83 = .ok (.getfield 54, 3) := by decide +kernel
theorem dX12_bindsBy_86 : decode cX12_bindsBy 86 = .ok (.iload_n 1, 1) := by decide +kernel
theorem dX12_bindsBy_87 : decode cX12_bindsBy 87 = .ok (.iaload, 1) := by decide +kernel
theorem dX12_bindsBy_88 : decode cX12_bindsBy 88 = .ok (.aload_n 0, 1) := by decide +kernel
theorem dX12_bindsBy_89 : decode cX12_bindsBy 89 = .ok (.aload_n 0, 1) := by decide +kernel
theorem dX12_bindsBy_90 : decode cX12_bindsBy 90 = .ok (.getfield 51, 3) := by decide +kernel
theorem dX12_bindsBy_93 : decode cX12_bindsBy 93 = .ok (.iload_n 1, 1) := by decide +kernel
theorem dX12_bindsBy_94 : decode cX12_bindsBy 94 = .ok (.iaload, 1) := by decide +kernel
theorem dX12_bindsBy_95 : decode cX12_bindsBy 95 = .ok (.aload_n 0, 1) := by decide +kernel
theorem dX12_bindsBy_96 : decode cX12_bindsBy 96 = .ok (.getfield 54, 3) := by decide +kernel
theorem dX12_bindsBy_99 : decode cX12_bindsBy 99 = .ok (.iload_n 2, 1) := by decide +kernel
theorem dX12_bindsBy_100 : decode cX12_bindsBy 100 = .ok (.iaload, 1) := by decide +kernel
theorem dX12_bindsBy_101 : decode cX12_bindsBy 101 = .ok (.aload_n 0, 1) := by decide +kernel
theorem dX12_bindsBy_102 : decode cX12_bindsBy 102 = .ok (.getfield 24, 3) := by decide +kernel
theorem dX12_bindsBy_105 : decode cX12_bindsBy 105 = .ok (.aload_n 0, 1) := by decide +kernel
theorem dX12_bindsBy_106 : decode cX12_bindsBy 106 = .ok (.getfield 42, 3) := by decide +kernel
theorem dX12_bindsBy_109 : decode cX12_bindsBy 109 = .ok (.iload_n 1, 1) := by decide +kernel
theorem dX12_bindsBy_110 : decode cX12_bindsBy 110 = .ok (.iaload, 1) := by decide +kernel
theorem dX12_bindsBy_111 : decode cX12_bindsBy 111 = .ok (.iaload, 1) := by decide +kernel
theorem dX12_bindsBy_112 : decode cX12_bindsBy 112 = .ok (.aload_n 0, 1) := by decide +kernel
theorem dX12_bindsBy_113 : decode cX12_bindsBy 113 = .ok (.getfield 57, 3) := by decide +kernel
theorem dX12_bindsBy_116 : decode cX12_bindsBy 116 = .ok (.iload_n 1, 1) := by decide +kernel
theorem dX12_bindsBy_117 : decode cX12_bindsBy 117 = .ok (.iaload, 1) := by decide +kernel
theorem dX12_bindsBy_118 : decode cX12_bindsBy 118 = .ok (.aload_n 0, 1) := by decide +kernel
theorem dX12_bindsBy_119 : decode cX12_bindsBy 119 = .ok (.iload_n 1, 1) := by decide +kernel
theorem dX12_bindsBy_120 : decode cX12_bindsBy 120 = .ok (.invokevirtual 424, 3) := by decide +kernel
theorem dX12_bindsBy_123 : decode cX12_bindsBy 123 = .ok (.invokevirtual 366, 3) := by decide +kernel
theorem dX12_bindsBy_126 : decode cX12_bindsBy 126 = .ok (.isub, 1) := by decide +kernel
theorem dX12_bindsBy_127 : decode cX12_bindsBy 127 = .ok (.istore 4, 2) := by decide +kernel
theorem dX12_bindsBy_129 : decode cX12_bindsBy 129 = .ok (.aload_n 0, 1) := by decide +kernel
theorem dX12_bindsBy_130 : decode cX12_bindsBy 130 = .ok (.iload_n 3, 1) := by decide +kernel
theorem dX12_bindsBy_131 : decode cX12_bindsBy 131 = .ok (.bipush 16, 2) := by decide +kernel
theorem dX12_bindsBy_133 : decode cX12_bindsBy 133 = .ok (.iload 4, 2) := by decide +kernel
theorem dX12_bindsBy_135 : decode cX12_bindsBy 135 = .ok (.aload_n 0, 1) := by decide +kernel
theorem dX12_bindsBy_136 : decode cX12_bindsBy 136 = .ok (.getfield 17, 3) := by decide +kernel
theorem dX12_bindsBy_139 : decode cX12_bindsBy 139 = .ok (.iadd, 1) := by decide +kernel
theorem dX12_bindsBy_140 : decode cX12_bindsBy 140 = .ok (.invokevirtual 420, 3) := by decide +kernel
theorem dX12_bindsBy_143 : decode cX12_bindsBy 143 = .ok (.aload_n 0, 1) := by decide +kernel
theorem dX12_bindsBy_144 : decode cX12_bindsBy 144 = .ok (.bipush 16, 2) := by decide +kernel
theorem dX12_bindsBy_146 : decode cX12_bindsBy 146 = .ok (.iload_n 3, 1) := by decide +kernel
theorem dX12_bindsBy_147 : decode cX12_bindsBy 147 = .ok (.aload_n 0, 1) := by decide +kernel
theorem dX12_bindsBy_148 : decode cX12_bindsBy 148 = .ok (.getfield 17, 3) := by decide +kernel
theorem dX12_bindsBy_151 : decode cX12_bindsBy 151 = .ok (.iload 4, 2) := by decide +kernel
theorem dX12_bindsBy_153 : decode cX12_bindsBy 153 = .ok (.isub, 1) := by decide +kernel
theorem dX12_bindsBy_154 : decode cX12_bindsBy 154 = .ok (.invokevirtual 420, 3) := by decide +kernel
theorem dX12_bindsBy_157 : decode cX12_bindsBy 157 = .ok (.return_, 1) := by decide +kernel
theorem dX12_tight_0 : decode cX12_tight 0 = .ok (.aload_n 0, 1) := by decide +kernel
theorem dX12_tight_1 : decode cX12_tight 1 = .ok (.invokevirtual 427, 3) := by decide +kernel
theorem dX12_tight_4 : decode cX12_tight 4 = .ok (.aload_n 0, 1) := by decide +kernel
theorem dX12_tight_5 : decode cX12_tight 5 = .ok (.getfield 417, 3) := by decide +kernel
theorem dX12_tight_8 : decode cX12_tight 8 = .ok (.ifCond .eq 7, 3) := by decide +kernel
theorem dX12_tight_11 : decode cX12_tight 11 = .ok (.iconst 1, 1) := by decide +kernel
theorem dX12_tight_12 : decode cX12_tight 12 = .ok (.goto 4, 3) := by decide +kernel
theorem dX12_tight_15 : decode cX12_tight 15 = .ok (.iconst 0, 1) := by decide +kernel
theorem dX12_tight_16 : decode cX12_tight 16 = .ok (.ireturn, 1) := by decide +kernel
theorem dX12_leanLeast_0 : decode cX12_leanLeast 0 = .ok (.aload_n 0, 1) := by decide +kernel
theorem dX12_leanLeast_1 : decode cX12_leanLeast 1 = .ok (.getfield 115, 3) := by decide +kernel
theorem dX12_leanLeast_4 : decode cX12_leanLeast 4 = .ok (.sipush 272, 3) := by decide +kernel
theorem dX12_leanLeast_7 : decode cX12_leanLeast 7 = .ok (.iload_n 1, 1) := by decide +kernel
theorem dX12_leanLeast_8 : decode cX12_leanLeast 8 = .ok (.iadd, 1) := by decide +kernel
theorem dX12_leanLeast_9 : decode cX12_leanLeast 9 = .ok (.iaload, 1) := by decide +kernel
theorem dX12_leanLeast_10 : decode cX12_leanLeast 10 = .ok (.ldc_w 403, 3) := by decide +kernel
theorem dX12_leanLeast_13 : decode cX12_leanLeast 13 = .ok (.if_icmp .lt 9, 3) := by decide +kernel
theorem dX12_leanLeast_16 : decode cX12_leanLeast 16 = .ok (.sipush (-1000), 3) := by decide +kernel
theorem dX12_leanLeast_19 : decode cX12_leanLeast 19 = .ok (.goto 14, 3) := by decide +kernel
theorem dX12_leanLeast_22 : decode cX12_leanLeast 22 = .ok (.aload_n 0, 1) := by decide +kernel
theorem dX12_leanLeast_23 : decode cX12_leanLeast 23 = .ok (.getfield 115, 3) := by decide +kernel
theorem dX12_leanLeast_26 : decode cX12_leanLeast 26 = .ok (.sipush 272, 3) := by decide +kernel
theorem dX12_leanLeast_29 : decode cX12_leanLeast 29 = .ok (.iload_n 1, 1) := by decide +kernel
theorem dX12_leanLeast_30 : decode cX12_leanLeast 30 = .ok (.iadd, 1) := by decide +kernel
theorem dX12_leanLeast_31 : decode cX12_leanLeast 31 = .ok (.iaload, 1) := by decide +kernel
theorem dX12_leanLeast_32 : decode cX12_leanLeast 32 = .ok (.ineg, 1) := by decide +kernel
theorem dX12_leanLeast_33 : decode cX12_leanLeast 33 = .ok (.ireturn, 1) := by decide +kernel
theorem dX12_leanMost_0 : decode cX12_leanMost 0 = .ok (.aload_n 0, 1) := by decide +kernel
theorem dX12_leanMost_1 : decode cX12_leanMost 1 = .ok (.getfield 115, 3) := by decide +kernel
theorem dX12_leanMost_4 : decode cX12_leanMost 4 = .ok (.bipush 17, 2) := by decide +kernel
theorem dX12_leanMost_6 : decode cX12_leanMost 6 = .ok (.iload_n 1, 1) := by decide +kernel
theorem dX12_leanMost_7 : decode cX12_leanMost 7 = .ok (.imul, 1) := by decide +kernel
theorem dX12_leanMost_8 : decode cX12_leanMost 8 = .ok (.bipush 16, 2) := by decide +kernel
theorem dX12_leanMost_10 : decode cX12_leanMost 10 = .ok (.iadd, 1) := by decide +kernel
theorem dX12_leanMost_11 : decode cX12_leanMost 11 = .ok (.iaload, 1) := by decide +kernel
theorem dX12_leanMost_12 : decode cX12_leanMost 12 = .ok (.ldc_w 403, 3) := by decide +kernel
theorem dX12_leanMost_15 : decode cX12_leanMost 15 = .ok (.if_icmp .lt 9, 3) := by decide +kernel
theorem dX12_leanMost_18 : decode cX12_leanMost 18 = .ok (.sipush 1000, 3) := by decide +kernel
theorem dX12_leanMost_21 : decode cX12_leanMost 21 = .ok (.goto 15, 3) := by decide +kernel
theorem dX12_leanMost_24 : decode cX12_leanMost 24 = .ok (.aload_n 0, 1) := by decide +kernel
theorem dX12_leanMost_25 : decode cX12_leanMost 25 = .ok (.getfield 115, 3) := by decide +kernel
theorem dX12_leanMost_28 : decode cX12_leanMost 28 = .ok (.bipush 17, 2) := by decide +kernel
theorem dX12_leanMost_30 : decode cX12_leanMost 30 = .ok (.iload_n 1, 1) := by decide +kernel
theorem dX12_leanMost_31 : decode cX12_leanMost 31 = .ok (.imul, 1) := by decide +kernel
theorem dX12_leanMost_32 : decode cX12_leanMost 32 = .ok (.bipush 16, 2) := by decide +kernel
theorem dX12_leanMost_34 : decode cX12_leanMost 34 = .ok (.iadd, 1) := by decide +kernel
theorem dX12_leanMost_35 : decode cX12_leanMost 35 = .ok (.iaload, 1) := by decide +kernel
theorem dX12_leanMost_36 : decode cX12_leanMost 36 = .ok (.ireturn, 1) := by decide +kernel
theorem dX12_lean_0 : decode cX12_lean 0 = .ok (.aload_n 0, 1) := by decide +kernel
theorem dX12_lean_1 : decode cX12_lean 1 = .ok (.iload_n 1, 1) := by decide +kernel
theorem dX12_lean_2 : decode cX12_lean 2 = .ok (.invokevirtual 172, 3) := by decide +kernel
theorem dX12_lean_5 : decode cX12_lean 5 = .ok (.ifCond .eq 12, 3) := by decide +kernel
theorem dX12_lean_8 : decode cX12_lean 8 = .ok (.iload_n 2, 1) := by decide +kernel
theorem dX12_lean_9 : decode cX12_lean 9 = .ok (.iconst 0, 1) := by decide +kernel
theorem dX12_lean_10 : decode cX12_lean 10 = .ok (.iconst 1, 1) := by decide +kernel
theorem dX12_lean_11 : decode cX12_lean 11 = .ok (.invokestatic 168, 3) := by decide +kernel
theorem dX12_lean_14 : decode cX12_lean 14 = .ok (.ifCond .ne 7, 3) := by decide +kernel
theorem dX12_lean_17 : decode cX12_lean 17 = .ok (.sipush (-2000), 3) := by decide +kernel
theorem dX12_lean_20 : decode cX12_lean 20 = .ok (.ireturn, 1) := by decide +kernel
theorem dX12_lean_21 : decode cX12_lean 21 = .ok (.aload_n 0, 1) := by decide +kernel
theorem dX12_lean_22 : decode cX12_lean 22 = .ok (.invokevirtual 427, 3) := by decide +kernel
theorem dX12_lean_25 : decode cX12_lean 25 = .ok (.aload_n 0, 1) := by decide +kernel
theorem dX12_lean_26 : decode cX12_lean 26 = .ok (.getfield 417, 3) := by decide +kernel
theorem dX12_lean_29 : decode cX12_lean 29 = .ok (.ifCond .ne 7, 3) := by decide +kernel
theorem dX12_lean_32 : decode cX12_lean 32 = .ok (.sipush (-2000), 3) := by decide +kernel
theorem dX12_lean_35 : decode cX12_lean 35 = .ok (.ireturn, 1) := by decide +kernel
theorem dX12_lean_36 : decode cX12_lean 36 = .ok (.iload_n 2, 1) := by decide +kernel
theorem dX12_lean_37 : decode cX12_lean 37 = .ok (.ifCond .ne 11, 3) := by decide +kernel
theorem dX12_lean_40 : decode cX12_lean 40 = .ok (.aload_n 0, 1) := by decide +kernel
theorem dX12_lean_41 : decode cX12_lean 41 = .ok (.iload_n 1, 1) := by decide +kernel
theorem dX12_lean_42 : decode cX12_lean 42 = .ok (.invokevirtual 430, 3) := by decide +kernel
theorem dX12_lean_45 : decode cX12_lean 45 = .ok (.goto 8, 3) := by decide +kernel
theorem dX12_lean_48 : decode cX12_lean 48 = .ok (.aload_n 0, 1) := by decide +kernel
theorem dX12_lean_49 : decode cX12_lean 49 = .ok (.iload_n 1, 1) := by decide +kernel
theorem dX12_lean_50 : decode cX12_lean 50 = .ok (.invokevirtual 433, 3) := by decide +kernel
theorem dX12_lean_53 : decode cX12_lean 53 = .ok (.ireturn, 1) := by decide +kernel
theorem dX12_withNumber_0 : decode cX12_withNumber 0 = .ok (.iconst 0, 1) := by decide +kernel
theorem dX12_withNumber_1 : decode cX12_withNumber 1 = .ok (.istore_n 3, 1) := by decide +kernel
theorem dX12_withNumber_2 : decode cX12_withNumber 2 = .ok (.iconst 0, 1) := by decide +kernel
theorem dX12_withNumber_3 : decode cX12_withNumber 3 = .ok (.istore 4, 2) := by decide +kernel
theorem dX12_withNumber_5 : decode cX12_withNumber 5 = .ok (.iload 4, 2) := by decide +kernel
theorem dX12_withNumber_7 : decode cX12_withNumber 7 = .ok (.aload_n 0, 1) := by decide +kernel
theorem dX12_withNumber_8 : decode cX12_withNumber 8 = .ok (.getfield 182, 3) := by decide +kernel
theorem dX12_withNumber_11 : decode cX12_withNumber 11 = .ok (.if_icmp .ge 51, 3) := by decide +kernel
theorem dX12_withNumber_14 : decode cX12_withNumber 14 = .ok (.iload_n 3, 1) := by decide +kernel
theorem dX12_withNumber_15 : decode cX12_withNumber 15 = .ok (.aload_n 0, 1) := by decide +kernel
theorem dX12_withNumber_16 : decode cX12_withNumber 16 = .ok (.iload 4, 2) := by decide +kernel
theorem dX12_withNumber_18 : decode cX12_withNumber 18 = .ok (.invokevirtual 404, 3) := by decide +kernel
theorem dX12_withNumber_21 : decode cX12_withNumber 21 = .ok (.ifCond .eq 32, 3) := by decide +kernel
theorem dX12_withNumber_24 : decode cX12_withNumber 24 = .ok (.aload_n 0, 1) := by decide +kernel
theorem dX12_withNumber_25 : decode cX12_withNumber 25 = .ok (.iload 4, 2) := by decide +kernel
theorem dX12_withNumber_27 : decode cX12_withNumber 27 = .ok (.invokevirtual 195, 3) := by decide +kernel
theorem dX12_withNumber_30 : decode cX12_withNumber 30 = .ok (.iload_n 1, 1) := by decide +kernel
theorem dX12_withNumber_31 : decode cX12_withNumber 31 = .ok (.if_icmp .ne 22, 3) := by decide +kernel
theorem dX12_withNumber_34 : decode cX12_withNumber 34 = .ok (.iload_n 2, 1) := by decide +kernel
theorem dX12_withNumber_35 : decode cX12_withNumber 35 = .ok (.ifCond .lt 14, 3) := by decide +kernel
theorem dX12_withNumber_38 : decode cX12_withNumber 38 = .ok (.aload_n 0, 1) := by decide +kernel
theorem dX12_withNumber_39 : decode cX12_withNumber 39 = .ok (.getfield 54, 3) := by decide +kernel
theorem dX12_withNumber_42 : decode cX12_withNumber 42 = .ok (.iload 4, 2) := by decide +kernel
theorem dX12_withNumber_44 : decode cX12_withNumber 44 = .ok (.iaload, 1) := by decide +kernel
theorem dX12_withNumber_45 : decode cX12_withNumber 45 = .ok (.iload_n 2, 1) := by decide +kernel
theorem dX12_withNumber_46 : decode cX12_withNumber 46 = .ok (.if_icmp .ne 7, 3) := by decide +kernel
theorem dX12_withNumber_49 : decode cX12_withNumber 49 = .ok (.iconst 1, 1) := by decide +kernel
theorem dX12_withNumber_50 : decode cX12_withNumber 50 = .ok (.goto 4, 3) := by decide +kernel
theorem dX12_withNumber_53 : decode cX12_withNumber 53 = .ok (.iconst 0, 1) := by decide +kernel
theorem dX12_withNumber_54 : decode cX12_withNumber 54 = .ok (.iadd, 1) := by decide +kernel
theorem dX12_withNumber_55 : decode cX12_withNumber 55 = .ok (.istore_n 3, 1) := by decide +kernel
theorem dX12_withNumber_56 : decode cX12_withNumber 56 = .ok (.iinc 4 1, 3) := by decide +kernel
theorem dX12_withNumber_59 : decode cX12_withNumber 59 = .ok (.goto (-54), 3) := by decide +kernel
theorem dX12_withNumber_62 : decode cX12_withNumber 62 = .ok (.iload_n 3, 1) := by decide +kernel
theorem dX12_withNumber_63 : decode cX12_withNumber 63 = .ok (.ireturn, 1) := by decide +kernel
theorem dX12_liked_0 : decode cX12_liked 0 = .ok (.aload_n 0, 1) := by decide +kernel
theorem dX12_liked_1 : decode cX12_liked 1 = .ok (.iload_n 1, 1) := by decide +kernel
theorem dX12_liked_2 : decode cX12_liked 2 = .ok (.invokevirtual 172, 3) := by decide +kernel
theorem dX12_liked_5 : decode cX12_liked 5 = .ok (.ifCond .eq 22, 3) := by decide +kernel
theorem dX12_liked_8 : decode cX12_liked 8 = .ok (.iload_n 2, 1) := by decide +kernel
theorem dX12_liked_9 : decode cX12_liked 9 = .ok (.iconst 1, 1) := by decide +kernel
theorem dX12_liked_10 : decode cX12_liked 10 = .ok (.bipush 11, 2) := by decide +kernel
theorem dX12_liked_12 : decode cX12_liked 12 = .ok (.invokestatic 168, 3) := by decide +kernel
theorem dX12_liked_15 : decode cX12_liked 15 = .ok (.ifCond .eq 12, 3) := by decide +kernel
theorem dX12_liked_18 : decode cX12_liked 18 = .ok (.iload_n 3, 1) := by decide +kernel
theorem dX12_liked_19 : decode cX12_liked 19 = .ok (.iconst 0, 1) := by decide +kernel
theorem dX12_liked_20 : decode cX12_liked 20 = .ok (.iconst 3, 1) := by decide +kernel
theorem dX12_liked_21 : decode cX12_liked 21 = .ok (.invokestatic 168, 3) := by decide +kernel
theorem dX12_liked_24 : decode cX12_liked 24 = .ok (.ifCond .ne 7, 3) := by decide +kernel
theorem dX12_liked_27 : decode cX12_liked 27 = .ok (.sipush (-200), 3) := by decide +kernel
theorem dX12_liked_30 : decode cX12_liked 30 = .ok (.ireturn, 1) := by decide +kernel
theorem dX12_liked_31 : decode cX12_liked 31 = .ok (.aload_n 0, 1) := by decide +kernel
theorem dX12_liked_32 : decode cX12_liked 32 = .ok (.iload_n 1, 1) := by decide +kernel
theorem dX12_liked_33 : decode cX12_liked 33 = .ok (.iload_n 2, 1) := by decide +kernel
theorem dX12_liked_34 : decode cX12_liked 34 = .ok (.invokevirtual 436, 3) := by decide +kernel
theorem dX12_liked_37 : decode cX12_liked 37 = .ok (.istore 4, 2) := by decide +kernel
theorem dX12_liked_39 : decode cX12_liked 39 = .ok (.aload_n 0, 1) := by decide +kernel
theorem dX12_liked_40 : decode cX12_liked 40 = .ok (.iload_n 1, 1) := by decide +kernel
theorem dX12_liked_41 : decode cX12_liked 41 = .ok (.iload_n 2, 1) := by decide +kernel
theorem dX12_liked_42 : decode cX12_liked 42 = .ok (.iconst 1, 1) := by decide +kernel
theorem dX12_liked_43 : decode cX12_liked 43 = .ok (.isub, 1) := by decide +kernel
theorem dX12_liked_44 : decode cX12_liked 44 = .ok (.invokevirtual 436, 3) := by decide +kernel
theorem dX12_liked_47 : decode cX12_liked 47 = .ok (.aload_n 0, 1) := by decide +kernel
theorem dX12_liked_48 : decode cX12_liked 48 = .ok (.iload_n 1, 1) := by decide +kernel
theorem dX12_liked_49 : decode cX12_liked 49 = .ok (.iload_n 2, 1) := by decide +kernel
theorem dX12_liked_50 : decode cX12_liked 50 = .ok (.iconst 1, 1) := by decide +kernel
theorem dX12_liked_51 : decode cX12_liked 51 = .ok (.iadd, 1) := by decide +kernel
theorem dX12_liked_52 : decode cX12_liked 52 = .ok (.invokevirtual 436, 3) := by decide +kernel
theorem dX12_liked_55 : decode cX12_liked 55 = .ok (.iadd, 1) := by decide +kernel
theorem dX12_liked_56 : decode cX12_liked 56 = .ok (.istore 5, 2) := by decide +kernel
theorem dX12_liked_58 : decode cX12_liked 58 = .ok (.iload_n 3, 1) := by decide +kernel
theorem dX12_liked_59 : decode cX12_liked 59 = .ok (.iconst 2, 1) := by decide +kernel
theorem dX12_liked_60 : decode cX12_liked 60 = .ok (.if_icmp .ge 15, 3) := by decide +kernel
theorem dX12_liked_63 : decode cX12_liked 63 = .ok (.iload_n 3, 1) := by decide +kernel
theorem dX12_liked_64 : decode cX12_liked 64 = .ok (.ifCond .ne 8, 3) := by decide +kernel
theorem dX12_liked_67 : decode cX12_liked 67 = .ok (.iload 4, 2) := by decide +kernel
theorem dX12_liked_69 : decode cX12_liked 69 = .ok (.goto 5, 3) := by decide +kernel
theorem dX12_liked_72 : decode cX12_liked 72 = .ok (.iload 5, 2) := by decide +kernel
theorem dX12_liked_74 : decode cX12_liked 74 = .ok (.ireturn, 1) := by decide +kernel
theorem dX12_liked_75 : decode cX12_liked 75 = .ok (.iload_n 3, 1) := by decide +kernel
theorem dX12_liked_76 : decode cX12_liked 76 = .ok (.iconst 2, 1) := by decide +kernel
theorem dX12_liked_77 : decode cX12_liked 77 = .ok (.if_icmp .ne 29, 3) := by decide +kernel
theorem dX12_liked_80 : decode cX12_liked 80 = .ok (.iconst 4, 1) := by decide +kernel
theorem dX12_liked_81 : decode cX12_liked 81 = .ok (.iload 4, 2) := by decide +kernel
theorem dX12_liked_83 : decode cX12_liked 83 = .ok (.imul, 1) := by decide +kernel
theorem dX12_liked_84 : decode cX12_liked 84 = .ok (.iload 5, 2) := by decide +kernel
theorem dX12_liked_86 : decode cX12_liked 86 = .ok (.if_icmp .ge 7, 3) := by decide +kernel
theorem dX12_liked_89 : decode cX12_liked 89 = .ok (.iconst (-1), 1) := by decide +kernel
theorem dX12_liked_90 : decode cX12_liked 90 = .ok (.goto 15, 3) := by decide +kernel
theorem dX12_liked_93 : decode cX12_liked 93 = .ok (.iload 4, 2) := by decide +kernel
theorem dX12_liked_95 : decode cX12_liked 95 = .ok (.iload 5, 2) := by decide +kernel
theorem dX12_liked_97 : decode cX12_liked 97 = .ok (.if_icmp .le 7, 3) := by decide +kernel
theorem dX12_liked_100 : decode cX12_liked 100 = .ok (.iconst 1, 1) := by decide +kernel
theorem dX12_liked_101 : decode cX12_liked 101 = .ok (.goto 4, 3) := by decide +kernel
theorem dX12_liked_104 : decode cX12_liked 104 = .ok (.iconst 0, 1) := by decide +kernel
theorem dX12_liked_105 : decode cX12_liked 105 = .ok (.ireturn, 1) := by decide +kernel
theorem dX12_liked_106 : decode cX12_liked 106 = .ok (.aload_n 0, 1) := by decide +kernel
theorem dX12_liked_107 : decode cX12_liked 107 = .ok (.iload_n 1, 1) := by decide +kernel
theorem dX12_liked_108 : decode cX12_liked 108 = .ok (.iconst (-1), 1) := by decide +kernel
theorem dX12_liked_109 : decode cX12_liked 109 = .ok (.invokevirtual 436, 3) := by decide +kernel
theorem dX12_liked_112 : decode cX12_liked 112 = .ok (.istore 6, 2) := by decide +kernel
theorem dX12_liked_114 : decode cX12_liked 114 = .ok (.iload 4, 2) := by decide +kernel
theorem dX12_liked_116 : decode cX12_liked 116 = .ok (.ifCond .gt 8, 3) := by decide +kernel
theorem dX12_liked_119 : decode cX12_liked 119 = .ok (.iload 6, 2) := by decide +kernel
theorem dX12_liked_121 : decode cX12_liked 121 = .ok (.ifCond .ne 5, 3) := by decide +kernel
theorem dX12_liked_124 : decode cX12_liked 124 = .ok (.iconst (-1), 1) := by decide +kernel
theorem dX12_liked_125 : decode cX12_liked 125 = .ok (.ireturn, 1) := by decide +kernel
theorem dX12_liked_126 : decode cX12_liked 126 = .ok (.ldc2_w 439, 3) := by decide +kernel
theorem dX12_liked_129 : decode cX12_liked 129 = .ok (.lstore 7, 2) := by decide +kernel
theorem dX12_liked_131 : decode cX12_liked 131 = .ok (.iconst 0, 1) := by decide +kernel
theorem dX12_liked_132 : decode cX12_liked 132 = .ok (.istore 9, 2) := by decide +kernel
theorem dX12_liked_134 : decode cX12_liked 134 = .ok (.iload 9, 2) := by decide +kernel
theorem dX12_liked_136 : decode cX12_liked 136 = .ok (.iload 6, 2) := by decide +kernel
theorem dX12_liked_138 : decode cX12_liked 138 = .ok (.if_icmp .ge 28, 3) := by decide +kernel
theorem dX12_liked_141 : decode cX12_liked 141 = .ok (.lload 7, 2) := by decide +kernel
theorem dX12_liked_143 : decode cX12_liked 143 = .ok (.iconst 2, 1) := by decide +kernel
theorem dX12_liked_144 : decode cX12_liked 144 = .ok (.iload 6, 2) := by decide +kernel
theorem dX12_liked_146 : decode cX12_liked 146 = .ok (.imul, 1) := by decide +kernel
theorem dX12_liked_147 : decode cX12_liked 147 = .ok (.iload 5, 2) := by decide +kernel
theorem dX12_liked_149 : decode cX12_liked 149 = .ok (.isub, 1) := by decide +kernel
theorem dX12_liked_150 : decode cX12_liked 150 = .ok (.i2l, 1) := by decide +kernel
theorem dX12_liked_151 : decode cX12_liked 151 = .ok (.lmul, 1) := by decide +kernel
theorem dX12_liked_152 : decode cX12_liked 152 = .ok (.iconst 2, 1) := by decide +kernel
theorem dX12_liked_153 : decode cX12_liked 153 = .ok (.iload 6, 2) := by decide +kernel
theorem dX12_liked_155 : decode cX12_liked 155 = .ok (.imul, 1) := by decide +kernel
theorem dX12_liked_156 : decode cX12_liked 156 = .ok (.i2l, 1) := by decide +kernel
theorem dX12_liked_157 : decode cX12_liked 157 = .ok (.ldiv, 1) := by decide +kernel
theorem dX12_liked_158 : decode cX12_liked 158 = .ok (.lstore 7, 2) := by decide +kernel
theorem dX12_liked_160 : decode cX12_liked 160 = .ok (.iinc 9 1, 3) := by decide +kernel
theorem dX12_liked_163 : decode cX12_liked 163 = .ok (.goto (-29), 3) := by decide +kernel
theorem dX12_liked_166 : decode cX12_liked 166 = .ok (.lload 7, 2) := by decide +kernel
theorem dX12_liked_168 : decode cX12_liked 168 = .ok (.l2i, 1) := by decide +kernel
theorem dX12_liked_169 : decode cX12_liked 169 = .ok (.ireturn, 1) := by decide +kernel
theorem dX12_windOf_0 : decode cX12_windOf 0 = .ok (.aload_n 0, 1) := by decide +kernel
theorem dX12_windOf_1 : decode cX12_windOf 1 = .ok (.iload_n 1, 1) := by decide +kernel
theorem dX12_windOf_2 : decode cX12_windOf 2 = .ok (.invokevirtual 195, 3) := by decide +kernel
theorem dX12_windOf_5 : decode cX12_windOf 5 = .ok (.istore_n 2, 1) := by decide +kernel
theorem dX12_windOf_6 : decode cX12_windOf 6 = .ok (.aload_n 0, 1) := by decide +kernel
theorem dX12_windOf_7 : decode cX12_windOf 7 = .ok (.iload_n 2, 1) := by decide +kernel
theorem dX12_windOf_8 : decode cX12_windOf 8 = .ok (.invokevirtual 430, 3) := by decide +kernel
theorem dX12_windOf_11 : decode cX12_windOf 11 = .ok (.istore_n 3, 1) := by decide +kernel
theorem dX12_windOf_12 : decode cX12_windOf 12 = .ok (.aload_n 0, 1) := by decide +kernel
theorem dX12_windOf_13 : decode cX12_windOf 13 = .ok (.iload_n 2, 1) := by decide +kernel
theorem dX12_windOf_14 : decode cX12_windOf 14 = .ok (.invokevirtual 433, 3) := by decide +kernel
theorem dX12_windOf_17 : decode cX12_windOf 17 = .ok (.istore 4, 2) := by decide +kernel
theorem dX12_windOf_19 : decode cX12_windOf 19 = .ok (.iload_n 3, 1) := by decide +kernel
theorem dX12_windOf_20 : decode cX12_windOf 20 = .ok (.sipush (-1000), 3) := by decide +kernel
theorem dX12_windOf_23 : decode cX12_windOf 23 = .ok (.if_icmp .le 11, 3) := by decide +kernel
theorem dX12_windOf_26 : decode cX12_windOf 26 = .ok (.iload 4, 2) := by decide +kernel
theorem dX12_windOf_28 : decode cX12_windOf 28 = .ok (.sipush 1000, 3) := by decide +kernel
theorem dX12_windOf_31 : decode cX12_windOf 31 = .ok (.if_icmp .lt 4, 3) := by decide +kernel
theorem dX12_windOf_34 : decode cX12_windOf 34 = .ok (.return_, 1) := by decide +kernel
theorem dX12_windOf_35 : decode cX12_windOf 35 = .ok (.aload_n 0, 1) := by decide +kernel
theorem dX12_windOf_36 : decode cX12_windOf 36 = .ok (.aload_n 0, 1) := by decide +kernel
theorem dX12_windOf_37 : decode cX12_windOf 37 = .ok (.iload_n 1, 1) := by decide +kernel
theorem dX12_windOf_38 : decode cX12_windOf 38 = .ok (.invokevirtual 424, 3) := by decide +kernel
theorem dX12_windOf_41 : decode cX12_windOf 41 = .ok (.aload_n 0, 1) := by decide +kernel
theorem dX12_windOf_42 : decode cX12_windOf 42 = .ok (.getfield 51, 3) := by decide +kernel
theorem dX12_windOf_45 : decode cX12_windOf 45 = .ok (.iload_n 1, 1) := by decide +kernel
theorem dX12_windOf_46 : decode cX12_windOf 46 = .ok (.iaload, 1) := by decide +kernel
theorem dX12_windOf_47 : decode cX12_windOf 47 = .ok (.aload_n 0, 1) := by decide +kernel
theorem dX12_windOf_48 : decode cX12_windOf 48 = .ok (.getfield 24, 3) := by decide +kernel
theorem dX12_windOf_51 : decode cX12_windOf 51 = .ok (.aload_n 0, 1) := by decide +kernel
theorem dX12_windOf_52 : decode cX12_windOf 52 = .ok (.getfield 42, 3) := by decide +kernel
theorem dX12_windOf_55 : decode cX12_windOf 55 = .ok (.iload_n 1, 1) := by decide +kernel
theorem dX12_windOf_56 : decode cX12_windOf 56 = .ok (.iaload, 1) := by decide +kernel
theorem dX12_windOf_57 : decode cX12_windOf 57 = .ok (.iaload, 1) := by decide +kernel
theorem dX12_windOf_58 : decode cX12_windOf 58 = .ok (.aload_n 0, 1) := by decide +kernel
theorem dX12_windOf_59 : decode cX12_windOf 59 = .ok (.getfield 57, 3) := by decide +kernel
theorem dX12_windOf_62 : decode cX12_windOf 62 = .ok (.iload_n 1, 1) := by decide +kernel
theorem dX12_windOf_63 : decode cX12_windOf 63 = .ok (.iaload, 1) := by decide +kernel
theorem dX12_windOf_64 : decode cX12_windOf 64 = .ok (.invokevirtual 383, 3) := by decide +kernel
theorem dX12_windOf_67 : decode cX12_windOf 67 = .ok (.iconst (-1), 1) := by decide +kernel
theorem dX12_windOf_68 : decode cX12_windOf 68 = .ok (.istore 5, 2) := by decide +kernel
theorem dX12_windOf_70 : decode cX12_windOf 70 = .ok (.iconst (-1), 1) := by decide +kernel
theorem dX12_windOf_71 : decode cX12_windOf 71 = .ok (.istore 6, 2) := by decide +kernel
theorem dX12_windOf_73 : decode cX12_windOf 73 = .ok (.aload_n 0, 1) := by decide +kernel
theorem dX12_windOf_74 : decode cX12_windOf 74 = .ok (.getfield 54, 3) := by decide +kernel
theorem dX12_windOf_77 : decode cX12_windOf 77 = .ok (.iload_n 1, 1) := by decide +kernel
theorem dX12_windOf_78 : decode cX12_windOf 78 = .ok (.iaload, 1) := by decide +kernel
theorem dX12_windOf_79 : decode cX12_windOf 79 = .ok (.iload 4, 2) := by decide +kernel
theorem dX12_windOf_81 : decode cX12_windOf 81 = .ok (.isub, 1) := by decide +kernel
theorem dX12_windOf_82 : decode cX12_windOf 82 = .ok (.invokestatic 363, 3) := by decide +kernel
theorem dX12_windOf_85 : decode cX12_windOf 85 = .ok (.istore 7, 2) := by decide +kernel
theorem dX12_windOf_87 : decode cX12_windOf 87 = .ok (.iload 7, 2) := by decide +kernel
theorem dX12_windOf_89 : decode cX12_windOf 89 = .ok (.aload_n 0, 1) := by decide +kernel
theorem dX12_windOf_90 : decode cX12_windOf 90 = .ok (.getfield 54, 3) := by decide +kernel
theorem dX12_windOf_93 : decode cX12_windOf 93 = .ok (.iload_n 1, 1) := by decide +kernel
theorem dX12_windOf_94 : decode cX12_windOf 94 = .ok (.iaload, 1) := by decide +kernel
theorem dX12_windOf_95 : decode cX12_windOf 95 = .ok (.iload_n 3, 1) := by decide +kernel
theorem dX12_windOf_96 : decode cX12_windOf 96 = .ok (.isub, 1) := by decide +kernel
theorem dX12_windOf_97 : decode cX12_windOf 97 = .ok (.invokestatic 363, 3) := by decide +kernel
theorem dX12_windOf_100 : decode cX12_windOf 100 = .ok (.if_icmp .gt 79, 3) := by decide +kernel
theorem dX12_windOf_103 : decode cX12_windOf 103 = .ok (.aload_n 0, 1) := by decide +kernel
theorem dX12_windOf_104 : decode cX12_windOf 104 = .ok (.getfield 106, 3) := by decide +kernel
theorem dX12_windOf_107 : decode cX12_windOf 107 = .ok (.iload 7, 2) := by decide +kernel
theorem dX12_windOf_109 : decode cX12_windOf 109 = .ok (.iaload, 1) := by decide +kernel
theorem dX12_windOf_110 : decode cX12_windOf 110 = .ok (.ifCond .ge 6, 3) := by decide +kernel
theorem dX12_windOf_113 : decode cX12_windOf 113 = .ok (.goto 60, 3) := by decide +kernel
theorem dX12_windOf_116 : decode cX12_windOf 116 = .ok (.iload 5, 2) := by decide +kernel
theorem dX12_windOf_118 : decode cX12_windOf 118 = .ok (.ifCond .lt 15, 3) := by decide +kernel
theorem dX12_windOf_121 : decode cX12_windOf 121 = .ok (.aload_n 0, 1) := by decide +kernel
theorem dX12_windOf_122 : decode cX12_windOf 122 = .ok (.getfield 106, 3) := by decide +kernel
theorem dX12_windOf_125 : decode cX12_windOf 125 = .ok (.iload 7, 2) := by decide +kernel
theorem dX12_windOf_127 : decode cX12_windOf 127 = .ok (.iaload, 1) := by decide +kernel
theorem dX12_windOf_128 : decode cX12_windOf 128 = .ok (.iload 5, 2) := by decide +kernel
theorem dX12_windOf_130 : decode cX12_windOf 130 = .ok (.if_icmp .ge 13, 3) := by decide +kernel
theorem dX12_windOf_133 : decode cX12_windOf 133 = .ok (.aload_n 0, 1) := by decide +kernel
theorem dX12_windOf_134 : decode cX12_windOf 134 = .ok (.getfield 106, 3) := by decide +kernel
theorem dX12_windOf_137 : decode cX12_windOf 137 = .ok (.iload 7, 2) := by decide +kernel
theorem dX12_windOf_139 : decode cX12_windOf 139 = .ok (.iaload, 1) := by decide +kernel
theorem dX12_windOf_140 : decode cX12_windOf 140 = .ok (.goto 5, 3) := by decide +kernel
theorem dX12_windOf_143 : decode cX12_windOf 143 = .ok (.iload 5, 2) := by decide +kernel
theorem dX12_windOf_145 : decode cX12_windOf 145 = .ok (.istore 5, 2) := by decide +kernel
theorem dX12_windOf_147 : decode cX12_windOf 147 = .ok (.aload_n 0, 1) := by decide +kernel
theorem dX12_windOf_148 : decode cX12_windOf 148 = .ok (.getfield 109, 3) := by decide +kernel
theorem dX12_windOf_151 : decode cX12_windOf 151 = .ok (.iload 7, 2) := by decide +kernel
theorem dX12_windOf_153 : decode cX12_windOf 153 = .ok (.iaload, 1) := by decide +kernel
theorem dX12_windOf_154 : decode cX12_windOf 154 = .ok (.iload 6, 2) := by decide +kernel
theorem dX12_windOf_156 : decode cX12_windOf 156 = .ok (.if_icmp .le 13, 3) := by decide +kernel
theorem dX12_windOf_159 : decode cX12_windOf 159 = .ok (.aload_n 0, 1) := by decide +kernel
theorem dX12_windOf_160 : decode cX12_windOf 160 = .ok (.getfield 109, 3) := by decide +kernel
theorem dX12_windOf_163 : decode cX12_windOf 163 = .ok (.iload 7, 2) := by decide +kernel
theorem dX12_windOf_165 : decode cX12_windOf 165 = .ok (.iaload, 1) := by decide +kernel
theorem dX12_windOf_166 : decode cX12_windOf 166 = .ok (.goto 5, 3) := by decide +kernel
theorem dX12_windOf_169 : decode cX12_windOf 169 = .ok (.iload 6, 2) := by decide +kernel
theorem dX12_windOf_171 : decode cX12_windOf 171 = .ok (.istore 6, 2) := by decide +kernel
theorem dX12_windOf_173 : decode cX12_windOf 173 = .ok (.iinc 7 1, 3) := by decide +kernel
theorem dX12_windOf_176 : decode cX12_windOf 176 = .ok (.goto (-89), 3) := by decide +kernel
theorem dX12_windOf_179 : decode cX12_windOf 179 = .ok (.iload 5, 2) := by decide +kernel
theorem dX12_windOf_181 : decode cX12_windOf 181 = .ok (.ifCond .ge 4, 3) := by decide +kernel
theorem dX12_windOf_184 : decode cX12_windOf 184 = .ok (.return_, 1) := by decide +kernel
theorem dX12_windOf_185 : decode cX12_windOf 185 = .ok (.aload_n 0, 1) := by decide +kernel
theorem dX12_windOf_186 : decode cX12_windOf 186 = .ok (.dup, 1) := by decide +kernel
theorem dX12_windOf_187 : decode cX12_windOf 187 = .ok (.getfield 441, 3) := by decide +kernel
theorem dX12_windOf_190 : decode cX12_windOf 190 = .ok (.iconst 1, 1) := by decide +kernel
theorem dX12_windOf_191 : decode cX12_windOf 191 = .ok (.iadd, 1) := by decide +kernel
theorem dX12_windOf_192 : decode cX12_windOf 192 = .ok (.putfield 441, 3) := by decide +kernel
theorem dX12_windOf_195 : decode cX12_windOf 195 = .ok (.aload_n 0, 1) := by decide +kernel
theorem dX12_windOf_196 : decode cX12_windOf 196 = .ok (.dup, 1) := by decide +kernel
theorem dX12_windOf_197 : decode cX12_windOf 197 = .ok (.getfield 444, 3) := by decide +kernel
theorem dX12_windOf_200 : decode cX12_windOf 200 = .ok (.iload 5, 2) := by decide +kernel
theorem dX12_windOf_202 : decode cX12_windOf 202 = .ok (.iadd, 1) := by decide +kernel
theorem dX12_windOf_203 : decode cX12_windOf 203 = .ok (.putfield 444, 3) := by decide +kernel
theorem dX12_windOf_206 : decode cX12_windOf 206 = .ok (.aload_n 0, 1) := by decide +kernel
theorem dX12_windOf_207 : decode cX12_windOf 207 = .ok (.dup, 1) := by decide +kernel
theorem dX12_windOf_208 : decode cX12_windOf 208 = .ok (.getfield 447, 3) := by decide +kernel
theorem dX12_windOf_211 : decode cX12_windOf 211 = .ok (.iload 6, 2) := by decide +kernel
theorem dX12_windOf_213 : decode cX12_windOf 213 = .ok (.iadd, 1) := by decide +kernel
theorem dX12_windOf_214 : decode cX12_windOf 214 = .ok (.putfield 447, 3) := by decide +kernel
theorem dX12_windOf_217 : decode cX12_windOf 217 = .ok (.return_, 1) := by decide +kernel
theorem dX12_sumsOf_0 : decode cX12_sumsOf 0 = .ok (.aload_n 0, 1) := by decide +kernel
theorem dX12_sumsOf_1 : decode cX12_sumsOf 1 = .ok (.iconst 0, 1) := by decide +kernel
theorem dX12_sumsOf_2 : decode cX12_sumsOf 2 = .ok (.putfield 441, 3) := by decide +kernel
theorem dX12_sumsOf_5 : decode cX12_sumsOf 5 = .ok (.aload_n 0, 1) := by decide +kernel
theorem dX12_sumsOf_6 : decode cX12_sumsOf 6 = .ok (.iconst 0, 1) := by decide +kernel
theorem dX12_sumsOf_7 : decode cX12_sumsOf 7 = .ok (.putfield 444, 3) := by decide +kernel
theorem dX12_sumsOf_10 : decode cX12_sumsOf 10 = .ok (.aload_n 0, 1) := by decide +kernel
theorem dX12_sumsOf_11 : decode cX12_sumsOf 11 = .ok (.iconst 0, 1) := by decide +kernel
theorem dX12_sumsOf_12 : decode cX12_sumsOf 12 = .ok (.putfield 447, 3) := by decide +kernel
theorem dX12_sumsOf_15 : decode cX12_sumsOf 15 = .ok (.iconst 0, 1) := by decide +kernel
theorem dX12_sumsOf_16 : decode cX12_sumsOf 16 = .ok (.istore_n 2, 1) := by decide +kernel
theorem dX12_sumsOf_17 : decode cX12_sumsOf 17 = .ok (.iload_n 2, 1) := by decide +kernel
theorem dX12_sumsOf_18 : decode cX12_sumsOf 18 = .ok (.aload_n 0, 1) := by decide +kernel
theorem dX12_sumsOf_19 : decode cX12_sumsOf 19 = .ok (.getfield 182, 3) := by decide +kernel
theorem dX12_sumsOf_22 : decode cX12_sumsOf 22 = .ok (.if_icmp .ge 39, 3) := by decide +kernel
theorem dX12_sumsOf_25 : decode cX12_sumsOf 25 = .ok (.aload_n 0, 1) := by decide +kernel
theorem dX12_sumsOf_26 : decode cX12_sumsOf 26 = .ok (.iload_n 2, 1) := by decide +kernel
theorem dX12_sumsOf_27 : decode cX12_sumsOf 27 = .ok (.invokevirtual 404, 3) := by decide +kernel
theorem dX12_sumsOf_30 : decode cX12_sumsOf 30 = .ok (.ifCond .eq 25, 3) := by decide +kernel
theorem dX12_sumsOf_33 : decode cX12_sumsOf 33 = .ok (.aload_n 0, 1) := by decide +kernel
theorem dX12_sumsOf_34 : decode cX12_sumsOf 34 = .ok (.iload_n 2, 1) := by decide +kernel
theorem dX12_sumsOf_35 : decode cX12_sumsOf 35 = .ok (.invokevirtual 424, 3) := by decide +kernel
theorem dX12_sumsOf_38 : decode cX12_sumsOf 38 = .ok (.iload_n 1, 1) := by decide +kernel
theorem dX12_sumsOf_39 : decode cX12_sumsOf 39 = .ok (.if_icmp .ne 16, 3) := by decide +kernel
theorem dX12_sumsOf_42 : decode cX12_sumsOf 42 = .ok (.aload_n 0, 1) := by decide +kernel
theorem dX12_sumsOf_43 : decode cX12_sumsOf 43 = .ok (.iload_n 2, 1) := by decide +kernel
theorem dX12_sumsOf_44 : decode cX12_sumsOf 44 = .ok (.invokevirtual 407, 3) := by decide +kernel
theorem dX12_sumsOf_47 : decode cX12_sumsOf 47 = .ok (.ifCond .eq 8, 3) := by decide +kernel
theorem dX12_sumsOf_50 : decode cX12_sumsOf 50 = .ok (.aload_n 0, 1) := by decide +kernel
theorem dX12_sumsOf_51 : decode cX12_sumsOf 51 = .ok (.iload_n 2, 1) := by decide +kernel
theorem dX12_sumsOf_52 : decode cX12_sumsOf 52 = .ok (.invokevirtual 450, 3) := by decide +kernel
theorem dX12_sumsOf_55 : decode cX12_sumsOf 55 = .ok (.iinc 2 1, 3) := by decide +kernel
theorem dX12_sumsOf_58 : decode cX12_sumsOf 58 = .ok (.goto (-41), 3) := by decide +kernel
theorem dX12_sumsOf_61 : decode cX12_sumsOf 61 = .ok (.return_, 1) := by decide +kernel
theorem dX12_wind_0 : decode cX12_wind 0 = .ok (.iload_n 1, 1) := by decide +kernel
theorem dX12_wind_1 : decode cX12_wind 1 = .ok (.iconst 0, 1) := by decide +kernel
theorem dX12_wind_2 : decode cX12_wind 2 = .ok (.bipush 9, 2) := by decide +kernel
theorem dX12_wind_4 : decode cX12_wind 4 = .ok (.invokestatic 168, 3) := by decide +kernel
theorem dX12_wind_7 : decode cX12_wind 7 = .ok (.ifCond .eq 12, 3) := by decide +kernel
theorem dX12_wind_10 : decode cX12_wind 10 = .ok (.iload_n 2, 1) := by decide +kernel
theorem dX12_wind_11 : decode cX12_wind 11 = .ok (.iconst 0, 1) := by decide +kernel
theorem dX12_wind_12 : decode cX12_wind 12 = .ok (.iconst 2, 1) := by decide +kernel
theorem dX12_wind_13 : decode cX12_wind 13 = .ok (.invokestatic 168, 3) := by decide +kernel
theorem dX12_wind_16 : decode cX12_wind 16 = .ok (.ifCond .ne 5, 3) := by decide +kernel
theorem dX12_wind_19 : decode cX12_wind 19 = .ok (.iconst (-1), 1) := by decide +kernel
theorem dX12_wind_20 : decode cX12_wind 20 = .ok (.ireturn, 1) := by decide +kernel
theorem dX12_wind_21 : decode cX12_wind 21 = .ok (.aload_n 0, 1) := by decide +kernel
theorem dX12_wind_22 : decode cX12_wind 22 = .ok (.invokevirtual 427, 3) := by decide +kernel
theorem dX12_wind_25 : decode cX12_wind 25 = .ok (.aload_n 0, 1) := by decide +kernel
theorem dX12_wind_26 : decode cX12_wind 26 = .ok (.getfield 417, 3) := by decide +kernel
theorem dX12_wind_29 : decode cX12_wind 29 = .ok (.ifCond .ne 5, 3) := by decide +kernel
theorem dX12_wind_32 : decode cX12_wind 32 = .ok (.iconst (-1), 1) := by decide +kernel
theorem dX12_wind_33 : decode cX12_wind 33 = .ok (.ireturn, 1) := by decide +kernel
theorem dX12_wind_34 : decode cX12_wind 34 = .ok (.aload_n 0, 1) := by decide +kernel
theorem dX12_wind_35 : decode cX12_wind 35 = .ok (.iload_n 1, 1) := by decide +kernel
theorem dX12_wind_36 : decode cX12_wind 36 = .ok (.invokevirtual 453, 3) := by decide +kernel
theorem dX12_wind_39 : decode cX12_wind 39 = .ok (.iload_n 2, 1) := by decide +kernel
theorem dX12_wind_40 : decode cX12_wind 40 = .ok (.ifCond .ne 8, 3) := by decide +kernel
theorem dX12_wind_43 : decode cX12_wind 43 = .ok (.aload_n 0, 1) := by decide +kernel
theorem dX12_wind_44 : decode cX12_wind 44 = .ok (.getfield 441, 3) := by decide +kernel
theorem dX12_wind_47 : decode cX12_wind 47 = .ok (.ireturn, 1) := by decide +kernel
theorem dX12_wind_48 : decode cX12_wind 48 = .ok (.aload_n 0, 1) := by decide +kernel
theorem dX12_wind_49 : decode cX12_wind 49 = .ok (.getfield 441, 3) := by decide +kernel
theorem dX12_wind_52 : decode cX12_wind 52 = .ok (.ifCond .ne 7, 3) := by decide +kernel
theorem dX12_wind_55 : decode cX12_wind 55 = .ok (.iconst (-1), 1) := by decide +kernel
theorem dX12_wind_56 : decode cX12_wind 56 = .ok (.goto 24, 3) := by decide +kernel
theorem dX12_wind_59 : decode cX12_wind 59 = .ok (.iload_n 2, 1) := by decide +kernel
theorem dX12_wind_60 : decode cX12_wind 60 = .ok (.iconst 1, 1) := by decide +kernel
theorem dX12_wind_61 : decode cX12_wind 61 = .ok (.if_icmp .ne 10, 3) := by decide +kernel
theorem dX12_wind_64 : decode cX12_wind 64 = .ok (.aload_n 0, 1) := by decide +kernel
theorem dX12_wind_65 : decode cX12_wind 65 = .ok (.getfield 444, 3) := by decide +kernel
theorem dX12_wind_68 : decode cX12_wind 68 = .ok (.goto 7, 3) := by decide +kernel
theorem dX12_wind_71 : decode cX12_wind 71 = .ok (.aload_n 0, 1) := by decide +kernel
theorem dX12_wind_72 : decode cX12_wind 72 = .ok (.getfield 447, 3) := by decide +kernel
theorem dX12_wind_75 : decode cX12_wind 75 = .ok (.aload_n 0, 1) := by decide +kernel
theorem dX12_wind_76 : decode cX12_wind 76 = .ok (.getfield 441, 3) := by decide +kernel
theorem dX12_wind_79 : decode cX12_wind 79 = .ok (.idiv, 1) := by decide +kernel
theorem dX12_wind_80 : decode cX12_wind 80 = .ok (.ireturn, 1) := by decide +kernel
theorem dX12_ordersWith_0 : decode cX12_ordersWith 0 = .ok (.iconst 0, 1) := by decide +kernel
theorem dX12_ordersWith_1 : decode cX12_ordersWith 1 = .ok (.istore_n 3, 1) := by decide +kernel
theorem dX12_ordersWith_2 : decode cX12_ordersWith 2 = .ok (.iload_n 3, 1) := by decide +kernel
theorem dX12_ordersWith_3 : decode cX12_ordersWith 3 = .ok (.bipush 50, 2) := by decide +kernel
theorem dX12_ordersWith_5 : decode cX12_ordersWith 5 = .ok (.if_icmp .ge 24, 3) := by decide +kernel
theorem dX12_ordersWith_8 : decode cX12_ordersWith 8 = .ok (.aload_n 0, 1) := by decide +kernel
theorem dX12_ordersWith_9 : decode cX12_ordersWith 9 = .ok (.getfield 118, 3) := by decide +kernel
theorem dX12_ordersWith_12 : decode cX12_ordersWith 12 = .ok (.iload_n 3, 1) := by decide +kernel
theorem dX12_ordersWith_13 : decode cX12_ordersWith 13 = .ok (.iload_n 3, 1) := by decide +kernel
theorem dX12_ordersWith_14 : decode cX12_ordersWith 14 = .ok (.ifCond .ne 7, 3) := by decide +kernel
theorem dX12_ordersWith_17 : decode cX12_ordersWith 17 = .ok (.lconst 1, 1) := by decide +kernel
theorem dX12_ordersWith_18 : decode cX12_ordersWith 18 = .ok (.goto 4, 3) := by decide +kernel
theorem dX12_ordersWith_21 : decode cX12_ordersWith 21 = .ok (.lconst 0, 1) := by decide +kernel
theorem dX12_ordersWith_22 : decode cX12_ordersWith 22 = .ok (.lastore, 1) := by decide +kernel
theorem dX12_ordersWith_23 : decode cX12_ordersWith 23 = .ok (.iinc 3 1, 3) := by decide +kernel
theorem dX12_ordersWith_26 : decode cX12_ordersWith 26 = .ok (.goto (-24), 3) := by decide +kernel
theorem dX12_ordersWith_29 : decode cX12_ordersWith 29 = .ok (.iconst 2, 1) := by decide +kernel
theorem dX12_ordersWith_30 : decode cX12_ordersWith 30 = .ok (.istore_n 3, 1) := by decide +kernel
theorem dX12_ordersWith_31 : decode cX12_ordersWith 31 = .ok (.iload_n 3, 1) := by decide +kernel
theorem dX12_ordersWith_32 : decode cX12_ordersWith 32 = .ok (.iload_n 1, 1) := by decide +kernel
theorem dX12_ordersWith_33 : decode cX12_ordersWith 33 = .ok (.if_icmp .gt 105, 3) := by decide +kernel
theorem dX12_ordersWith_36 : decode cX12_ordersWith 36 = .ok (.iconst 0, 1) := by decide +kernel
theorem dX12_ordersWith_37 : decode cX12_ordersWith 37 = .ok (.istore 4, 2) := by decide +kernel
theorem dX12_ordersWith_39 : decode cX12_ordersWith 39 = .ok (.iload 4, 2) := by decide +kernel
theorem dX12_ordersWith_41 : decode cX12_ordersWith 41 = .ok (.bipush 50, 2) := by decide +kernel
theorem dX12_ordersWith_43 : decode cX12_ordersWith 43 = .ok (.if_icmp .ge 31, 3) := by decide +kernel
theorem dX12_ordersWith_46 : decode cX12_ordersWith 46 = .ok (.aload_n 0, 1) := by decide +kernel
theorem dX12_ordersWith_47 : decode cX12_ordersWith 47 = .ok (.getfield 122, 3) := by decide +kernel
theorem dX12_ordersWith_50 : decode cX12_ordersWith 50 = .ok (.iload 4, 2) := by decide +kernel
theorem dX12_ordersWith_52 : decode cX12_ordersWith 52 = .ok (.aload_n 0, 1) := by decide +kernel
theorem dX12_ordersWith_53 : decode cX12_ordersWith 53 = .ok (.getfield 118, 3) := by decide +kernel
theorem dX12_ordersWith_56 : decode cX12_ordersWith 56 = .ok (.iload 4, 2) := by decide +kernel
theorem dX12_ordersWith_58 : decode cX12_ordersWith 58 = .ok (.laload, 1) := by decide +kernel
theorem dX12_ordersWith_59 : decode cX12_ordersWith 59 = .ok (.lastore, 1) := by decide +kernel
theorem dX12_ordersWith_60 : decode cX12_ordersWith 60 = .ok (.aload_n 0, 1) := by decide +kernel
theorem dX12_ordersWith_61 : decode cX12_ordersWith 61 = .ok (.getfield 118, 3) := by decide +kernel
theorem dX12_ordersWith_64 : decode cX12_ordersWith 64 = .ok (.iload 4, 2) := by decide +kernel
theorem dX12_ordersWith_66 : decode cX12_ordersWith 66 = .ok (.lconst 0, 1) := by decide +kernel
theorem dX12_ordersWith_67 : decode cX12_ordersWith 67 = .ok (.lastore, 1) := by decide +kernel
theorem dX12_ordersWith_68 : decode cX12_ordersWith 68 = .ok (.iinc 4 1, 3) := by decide +kernel
theorem dX12_ordersWith_71 : decode cX12_ordersWith 71 = .ok (.goto (-32), 3) := by decide +kernel
theorem dX12_ordersWith_74 : decode cX12_ordersWith 74 = .ok (.iconst 0, 1) := by decide +kernel
theorem dX12_ordersWith_75 : decode cX12_ordersWith 75 = .ok (.istore 4, 2) := by decide +kernel
theorem dX12_ordersWith_77 : decode cX12_ordersWith 77 = .ok (.iload 4, 2) := by decide +kernel
theorem dX12_ordersWith_79 : decode cX12_ordersWith 79 = .ok (.bipush 50, 2) := by decide +kernel
theorem dX12_ordersWith_81 : decode cX12_ordersWith 81 = .ok (.if_icmp .ge 51, 3) := by decide +kernel
theorem dX12_ordersWith_84 : decode cX12_ordersWith 84 = .ok (.iconst 0, 1) := by decide +kernel
theorem dX12_ordersWith_85 : decode cX12_ordersWith 85 = .ok (.istore 5, 2) := by decide +kernel
theorem dX12_ordersWith_87 : decode cX12_ordersWith 87 = .ok (.iload 5, 2) := by decide +kernel
theorem dX12_ordersWith_89 : decode cX12_ordersWith 89 = .ok (.iload_n 3, 1) := by decide +kernel
theorem dX12_ordersWith_90 : decode cX12_ordersWith 90 = .ok (.if_icmp .ge 36, 3) := by decide +kernel
theorem dX12_ordersWith_93 : decode cX12_ordersWith 93 = .ok (.iload 5, 2) := by decide +kernel
theorem dX12_ordersWith_95 : decode cX12_ordersWith 95 = .ok (.iload 4, 2) := by decide +kernel
theorem dX12_ordersWith_97 : decode cX12_ordersWith 97 = .ok (.if_icmp .gt 29, 3) := by decide +kernel
theorem dX12_ordersWith_100 : decode cX12_ordersWith 100 = .ok (.aload_n 0, 1) := by decide +kernel
theorem dX12_ordersWith_101 : decode cX12_ordersWith 101 = .ok (.getfield 118, 3) := by decide +kernel
theorem dX12_ordersWith_104 : decode cX12_ordersWith 104 = .ok (.iload 4, 2) := by decide +kernel
theorem dX12_ordersWith_106 : decode cX12_ordersWith 106 = .ok (.dup2, 1) := by decide +kernel
theorem dX12_ordersWith_107 : decode cX12_ordersWith 107 = .ok (.laload, 1) := by decide +kernel
theorem dX12_ordersWith_108 : decode cX12_ordersWith 108 = .ok (.aload_n 0, 1) := by decide +kernel
theorem dX12_ordersWith_109 : decode cX12_ordersWith 109 = .ok (.getfield 122, 3) := by decide +kernel
theorem dX12_ordersWith_112 : decode cX12_ordersWith 112 = .ok (.iload 4, 2) := by decide +kernel
theorem dX12_ordersWith_114 : decode cX12_ordersWith 114 = .ok (.iload 5, 2) := by decide +kernel
theorem dX12_ordersWith_116 : decode cX12_ordersWith 116 = .ok (.isub, 1) := by decide +kernel
theorem dX12_ordersWith_117 : decode cX12_ordersWith 117 = .ok (.laload, 1) := by decide +kernel
theorem dX12_ordersWith_118 : decode cX12_ordersWith 118 = .ok (.ladd, 1) := by decide +kernel
theorem dX12_ordersWith_119 : decode cX12_ordersWith 119 = .ok (.lastore, 1) := by decide +kernel
theorem dX12_ordersWith_120 : decode cX12_ordersWith 120 = .ok (.iinc 5 1, 3) := by decide +kernel
theorem dX12_ordersWith_123 : decode cX12_ordersWith 123 = .ok (.goto (-36), 3) := by decide +kernel
theorem dX12_ordersWith_126 : decode cX12_ordersWith 126 = .ok (.iinc 4 1, 3) := by decide +kernel
theorem dX12_ordersWith_129 : decode cX12_ordersWith 129 = .ok (.goto (-52), 3) := by decide +kernel
theorem dX12_ordersWith_132 : decode cX12_ordersWith 132 = .ok (.iinc 3 1, 3) := by decide +kernel
theorem dX12_ordersWith_135 : decode cX12_ordersWith 135 = .ok (.goto (-104), 3) := by decide +kernel
theorem dX12_ordersWith_138 : decode cX12_ordersWith 138 = .ok (.lconst 0, 1) := by decide +kernel
theorem dX12_ordersWith_139 : decode cX12_ordersWith 139 = .ok (.lstore_n 3, 1) := by decide +kernel
theorem dX12_ordersWith_140 : decode cX12_ordersWith 140 = .ok (.iload_n 2, 1) := by decide +kernel
theorem dX12_ordersWith_141 : decode cX12_ordersWith 141 = .ok (.istore 5, 2) := by decide +kernel
theorem dX12_ordersWith_143 : decode cX12_ordersWith 143 = .ok (.iload 5, 2) := by decide +kernel
theorem dX12_ordersWith_145 : decode cX12_ordersWith 145 = .ok (.bipush 50, 2) := by decide +kernel
theorem dX12_ordersWith_147 : decode cX12_ordersWith 147 = .ok (.if_icmp .ge 19, 3) := by decide +kernel
theorem dX12_ordersWith_150 : decode cX12_ordersWith 150 = .ok (.lload_n 3, 1) := by decide +kernel
theorem dX12_ordersWith_151 : decode cX12_ordersWith 151 = .ok (.aload_n 0, 1) := by decide +kernel
theorem dX12_ordersWith_152 : decode cX12_ordersWith 152 = .ok (.getfield 118, 3) := by decide +kernel
theorem dX12_ordersWith_155 : decode cX12_ordersWith 155 = .ok (.iload 5, 2) := by decide +kernel
theorem dX12_ordersWith_157 : decode cX12_ordersWith 157 = .ok (.laload, 1) := by decide +kernel
theorem dX12_ordersWith_158 : decode cX12_ordersWith 158 = .ok (.ladd, 1) := by decide +kernel
theorem dX12_ordersWith_159 : decode cX12_ordersWith 159 = .ok (.lstore_n 3, 1) := by decide +kernel
theorem dX12_ordersWith_160 : decode cX12_ordersWith 160 = .ok (.iinc 5 1, 3) := by decide +kernel
theorem dX12_ordersWith_163 : decode cX12_ordersWith 163 = .ok (.goto (-20), 3) := by decide +kernel
theorem dX12_ordersWith_166 : decode cX12_ordersWith 166 = .ok (.lload_n 3, 1) := by decide +kernel
theorem dX12_ordersWith_167 : decode cX12_ordersWith 167 = .ok (.lreturn, 1) := by decide +kernel
theorem dX12_grew_0 : decode cX12_grew 0 = .ok (.iload_n 1, 1) := by decide +kernel
theorem dX12_grew_1 : decode cX12_grew 1 = .ok (.iconst 0, 1) := by decide +kernel
theorem dX12_grew_2 : decode cX12_grew 2 = .ok (.iconst 3, 1) := by decide +kernel
theorem dX12_grew_3 : decode cX12_grew 3 = .ok (.invokestatic 168, 3) := by decide +kernel
theorem dX12_grew_6 : decode cX12_grew 6 = .ok (.ifCond .ne 5, 3) := by decide +kernel
theorem dX12_grew_9 : decode cX12_grew 9 = .ok (.iconst (-1), 1) := by decide +kernel
theorem dX12_grew_10 : decode cX12_grew 10 = .ok (.ireturn, 1) := by decide +kernel
theorem dX12_grew_11 : decode cX12_grew 11 = .ok (.aload_n 0, 1) := by decide +kernel
theorem dX12_grew_12 : decode cX12_grew 12 = .ok (.invokevirtual 427, 3) := by decide +kernel
theorem dX12_grew_15 : decode cX12_grew 15 = .ok (.aload_n 0, 1) := by decide +kernel
theorem dX12_grew_16 : decode cX12_grew 16 = .ok (.getfield 417, 3) := by decide +kernel
theorem dX12_grew_19 : decode cX12_grew 19 = .ok (.ifCond .ne 5, 3) := by decide +kernel
theorem dX12_grew_22 : decode cX12_grew 22 = .ok (.iconst (-1), 1) := by decide +kernel
theorem dX12_grew_23 : decode cX12_grew 23 = .ok (.ireturn, 1) := by decide +kernel
theorem dX12_grew_24 : decode cX12_grew 24 = .ok (.iconst 0, 1) := by decide +kernel
theorem dX12_grew_25 : decode cX12_grew 25 = .ok (.istore_n 2, 1) := by decide +kernel
theorem dX12_grew_26 : decode cX12_grew 26 = .ok (.iconst 0, 1) := by decide +kernel
theorem dX12_grew_27 : decode cX12_grew 27 = .ok (.istore_n 3, 1) := by decide +kernel
theorem dX12_grew_28 : decode cX12_grew 28 = .ok (.iload_n 3, 1) := by decide +kernel
theorem dX12_grew_29 : decode cX12_grew 29 = .ok (.bipush 10, 2) := by decide +kernel
theorem dX12_grew_31 : decode cX12_grew 31 = .ok (.if_icmp .ge 53, 3) := by decide +kernel
theorem dX12_grew_34 : decode cX12_grew 34 = .ok (.aload_n 0, 1) := by decide +kernel
theorem dX12_grew_35 : decode cX12_grew 35 = .ok (.iload_n 3, 1) := by decide +kernel
theorem dX12_grew_36 : decode cX12_grew 36 = .ok (.invokevirtual 453, 3) := by decide +kernel
theorem dX12_grew_39 : decode cX12_grew 39 = .ok (.aload_n 0, 1) := by decide +kernel
theorem dX12_grew_40 : decode cX12_grew 40 = .ok (.getfield 441, 3) := by decide +kernel
theorem dX12_grew_43 : decode cX12_grew 43 = .ok (.ifCond .ne 6, 3) := by decide +kernel
theorem dX12_grew_46 : decode cX12_grew 46 = .ok (.goto 32, 3) := by decide +kernel
theorem dX12_grew_49 : decode cX12_grew 49 = .ok (.aload_n 0, 1) := by decide +kernel
theorem dX12_grew_50 : decode cX12_grew 50 = .ok (.getfield 125, 3) := by decide +kernel
theorem dX12_grew_53 : decode cX12_grew 53 = .ok (.iload_n 2, 1) := by decide +kernel
theorem dX12_grew_54 : decode cX12_grew 54 = .ok (.aload_n 0, 1) := by decide +kernel
theorem dX12_grew_55 : decode cX12_grew 55 = .ok (.getfield 444, 3) := by decide +kernel
theorem dX12_grew_58 : decode cX12_grew 58 = .ok (.aload_n 0, 1) := by decide +kernel
theorem dX12_grew_59 : decode cX12_grew 59 = .ok (.getfield 447, 3) := by decide +kernel
theorem dX12_grew_62 : decode cX12_grew 62 = .ok (.iadd, 1) := by decide +kernel
theorem dX12_grew_63 : decode cX12_grew 63 = .ok (.sipush 1000, 3) := by decide +kernel
theorem dX12_grew_66 : decode cX12_grew 66 = .ok (.imul, 1) := by decide +kernel
theorem dX12_grew_67 : decode cX12_grew 67 = .ok (.iconst 2, 1) := by decide +kernel
theorem dX12_grew_68 : decode cX12_grew 68 = .ok (.aload_n 0, 1) := by decide +kernel
theorem dX12_grew_69 : decode cX12_grew 69 = .ok (.getfield 441, 3) := by decide +kernel
theorem dX12_grew_72 : decode cX12_grew 72 = .ok (.imul, 1) := by decide +kernel
theorem dX12_grew_73 : decode cX12_grew 73 = .ok (.idiv, 1) := by decide +kernel
theorem dX12_grew_74 : decode cX12_grew 74 = .ok (.iastore, 1) := by decide +kernel
theorem dX12_grew_75 : decode cX12_grew 75 = .ok (.iinc 2 1, 3) := by decide +kernel
theorem dX12_grew_78 : decode cX12_grew 78 = .ok (.iinc 3 1, 3) := by decide +kernel
theorem dX12_grew_81 : decode cX12_grew 81 = .ok (.goto (-53), 3) := by decide +kernel
theorem dX12_grew_84 : decode cX12_grew 84 = .ok (.iconst 0, 1) := by decide +kernel
theorem dX12_grew_85 : decode cX12_grew 85 = .ok (.istore_n 3, 1) := by decide +kernel
theorem dX12_grew_86 : decode cX12_grew 86 = .ok (.iconst 0, 1) := by decide +kernel
theorem dX12_grew_87 : decode cX12_grew 87 = .ok (.istore 4, 2) := by decide +kernel
theorem dX12_grew_89 : decode cX12_grew 89 = .ok (.iload 4, 2) := by decide +kernel
theorem dX12_grew_91 : decode cX12_grew 91 = .ok (.iload_n 2, 1) := by decide +kernel
theorem dX12_grew_92 : decode cX12_grew 92 = .ok (.if_icmp .ge 52, 3) := by decide +kernel
theorem dX12_grew_95 : decode cX12_grew 95 = .ok (.iload 4, 2) := by decide +kernel
theorem dX12_grew_97 : decode cX12_grew 97 = .ok (.iconst 1, 1) := by decide +kernel
theorem dX12_grew_98 : decode cX12_grew 98 = .ok (.iadd, 1) := by decide +kernel
theorem dX12_grew_99 : decode cX12_grew 99 = .ok (.istore 5, 2) := by decide +kernel
theorem dX12_grew_101 : decode cX12_grew 101 = .ok (.iload 5, 2) := by decide +kernel
theorem dX12_grew_103 : decode cX12_grew 103 = .ok (.iload_n 2, 1) := by decide +kernel
theorem dX12_grew_104 : decode cX12_grew 104 = .ok (.if_icmp .ge 34, 3) := by decide +kernel
theorem dX12_grew_107 : decode cX12_grew 107 = .ok (.iload_n 3, 1) := by decide +kernel
theorem dX12_grew_108 : decode cX12_grew 108 = .ok (.aload_n 0, 1) := by decide +kernel
theorem dX12_grew_109 : decode cX12_grew 109 = .ok (.getfield 125, 3) := by decide +kernel
theorem dX12_grew_112 : decode cX12_grew 112 = .ok (.iload 5, 2) := by decide +kernel
theorem dX12_grew_114 : decode cX12_grew 114 = .ok (.iaload, 1) := by decide +kernel
theorem dX12_grew_115 : decode cX12_grew 115 = .ok (.aload_n 0, 1) := by decide +kernel
theorem dX12_grew_116 : decode cX12_grew 116 = .ok (.getfield 125, 3) := by decide +kernel
theorem dX12_grew_119 : decode cX12_grew 119 = .ok (.iload 4, 2) := by decide +kernel
theorem dX12_grew_121 : decode cX12_grew 121 = .ok (.iaload, 1) := by decide +kernel
theorem dX12_grew_122 : decode cX12_grew 122 = .ok (.if_icmp .le 7, 3) := by decide +kernel
theorem dX12_grew_125 : decode cX12_grew 125 = .ok (.iconst 1, 1) := by decide +kernel
theorem dX12_grew_126 : decode cX12_grew 126 = .ok (.goto 4, 3) := by decide +kernel
theorem dX12_grew_129 : decode cX12_grew 129 = .ok (.iconst 0, 1) := by decide +kernel
theorem dX12_grew_130 : decode cX12_grew 130 = .ok (.iadd, 1) := by decide +kernel
theorem dX12_grew_131 : decode cX12_grew 131 = .ok (.istore_n 3, 1) := by decide +kernel
theorem dX12_grew_132 : decode cX12_grew 132 = .ok (.iinc 5 1, 3) := by decide +kernel
theorem dX12_grew_135 : decode cX12_grew 135 = .ok (.goto (-34), 3) := by decide +kernel
theorem dX12_grew_138 : decode cX12_grew 138 = .ok (.iinc 4 1, 3) := by decide +kernel
theorem dX12_grew_141 : decode cX12_grew 141 = .ok (.goto (-52), 3) := by decide +kernel
theorem dX12_grew_144 : decode cX12_grew 144 = .ok (.iload_n 1, 1) := by decide +kernel
theorem dX12_grew_145 : decode cX12_grew 145 = .ok (.ifCond .ne 7, 3) := by decide +kernel
theorem dX12_grew_148 : decode cX12_grew 148 = .ok (.iload_n 3, 1) := by decide +kernel
theorem dX12_grew_149 : decode cX12_grew 149 = .ok (.goto 28, 3) := by decide +kernel
theorem dX12_grew_152 : decode cX12_grew 152 = .ok (.iload_n 1, 1) := by decide +kernel
theorem dX12_grew_153 : decode cX12_grew 153 = .ok (.iconst 3, 1) := by decide +kernel
theorem dX12_grew_154 : decode cX12_grew 154 = .ok (.if_icmp .ne 7, 3) := by decide +kernel
theorem dX12_grew_157 : decode cX12_grew 157 = .ok (.iload_n 2, 1) := by decide +kernel
theorem dX12_grew_158 : decode cX12_grew 158 = .ok (.goto 19, 3) := by decide +kernel
theorem dX12_grew_161 : decode cX12_grew 161 = .ok (.aload_n 0, 1) := by decide +kernel
theorem dX12_grew_162 : decode cX12_grew 162 = .ok (.iload_n 2, 1) := by decide +kernel
theorem dX12_grew_163 : decode cX12_grew 163 = .ok (.iload_n 1, 1) := by decide +kernel
theorem dX12_grew_164 : decode cX12_grew 164 = .ok (.iconst 1, 1) := by decide +kernel
theorem dX12_grew_165 : decode cX12_grew 165 = .ok (.if_icmp .ne 7, 3) := by decide +kernel
theorem dX12_grew_168 : decode cX12_grew 168 = .ok (.iload_n 3, 1) := by decide +kernel
theorem dX12_grew_169 : decode cX12_grew 169 = .ok (.goto 4, 3) := by decide +kernel
theorem dX12_grew_172 : decode cX12_grew 172 = .ok (.iconst 0, 1) := by decide +kernel
theorem dX12_grew_173 : decode cX12_grew 173 = .ok (.invokevirtual 456, 3) := by decide +kernel
theorem dX12_grew_176 : decode cX12_grew 176 = .ok (.l2i, 1) := by decide +kernel
theorem dX12_grew_177 : decode cX12_grew 177 = .ok (.ireturn, 1) := by decide +kernel
theorem dX12_lateBy_0 : decode cX12_lateBy 0 = .ok (.aload_n 0, 1) := by decide +kernel
theorem dX12_lateBy_1 : decode cX12_lateBy 1 = .ok (.iconst 0, 1) := by decide +kernel
theorem dX12_lateBy_2 : decode cX12_lateBy 2 = .ok (.putfield 460, 3) := by decide +kernel
theorem dX12_lateBy_5 : decode cX12_lateBy 5 = .ok (.aload_n 0, 1) := by decide +kernel
theorem dX12_lateBy_6 : decode cX12_lateBy 6 = .ok (.iconst 0, 1) := by decide +kernel
theorem dX12_lateBy_7 : decode cX12_lateBy 7 = .ok (.putfield 463, 3) := by decide +kernel
theorem dX12_lateBy_10 : decode cX12_lateBy 10 = .ok (.iconst 0, 1) := by decide +kernel
theorem dX12_lateBy_11 : decode cX12_lateBy 11 = .ok (.istore_n 2, 1) := by decide +kernel
theorem dX12_lateBy_12 : decode cX12_lateBy 12 = .ok (.iload_n 2, 1) := by decide +kernel
theorem dX12_lateBy_13 : decode cX12_lateBy 13 = .ok (.aload_n 0, 1) := by decide +kernel
theorem dX12_lateBy_14 : decode cX12_lateBy 14 = .ok (.getfield 182, 3) := by decide +kernel
theorem dX12_lateBy_17 : decode cX12_lateBy 17 = .ok (.if_icmp .ge 153, 3) := by decide +kernel
theorem dX12_lateBy_20 : decode cX12_lateBy 20 = .ok (.aload_n 0, 1) := by decide +kernel
theorem dX12_lateBy_21 : decode cX12_lateBy 21 = .ok (.getfield 51, 3) := by decide +kernel
theorem dX12_lateBy_24 : decode cX12_lateBy 24 = .ok (.iload_n 2, 1) := by decide +kernel
theorem dX12_lateBy_25 : decode cX12_lateBy 25 = .ok (.iaload, 1) := by decide +kernel
theorem dX12_lateBy_26 : decode cX12_lateBy 26 = .ok (.iconst 1, 1) := by decide +kernel
theorem dX12_lateBy_27 : decode cX12_lateBy 27 = .ok (.if_icmp .ne 137, 3) := by decide +kernel
theorem dX12_lateBy_30 : decode cX12_lateBy 30 = .ok (.aload_n 0, 1) := by decide +kernel
theorem dX12_lateBy_31 : decode cX12_lateBy 31 = .ok (.iload_n 2, 1) := by decide +kernel
theorem dX12_lateBy_32 : decode cX12_lateBy 32 = .ok (.invokevirtual 407, 3) := by decide +kernel
theorem dX12_lateBy_35 : decode cX12_lateBy 35 = .ok (.ifCond .ne 6, 3) := by decide +kernel
theorem dX12_lateBy_38 : decode cX12_lateBy 38 = .ok (.goto 126, 3) := by decide +kernel
theorem dX12_lateBy_41 : decode cX12_lateBy 41 = .ok (.iconst 0, 1) := by decide +kernel
theorem dX12_lateBy_42 : decode cX12_lateBy 42 = .ok (.istore_n 3, 1) := by decide +kernel
theorem dX12_lateBy_43 : decode cX12_lateBy 43 = .ok (.iload_n 3, 1) := by decide +kernel
theorem dX12_lateBy_44 : decode cX12_lateBy 44 = .ok (.aload_n 0, 1) := by decide +kernel
theorem dX12_lateBy_45 : decode cX12_lateBy 45 = .ok (.getfield 182, 3) := by decide +kernel
theorem dX12_lateBy_48 : decode cX12_lateBy 48 = .ok (.if_icmp .ge 116, 3) := by decide +kernel
theorem dX12_lateBy_51 : decode cX12_lateBy 51 = .ok (.aload_n 0, 1) := by decide +kernel
theorem dX12_lateBy_52 : decode cX12_lateBy 52 = .ok (.getfield 51, 3) := by decide +kernel
theorem dX12_lateBy_55 : decode cX12_lateBy 55 = .ok (.iload_n 3, 1) := by decide +kernel
theorem dX12_lateBy_56 : decode cX12_lateBy 56 = .ok (.iaload, 1) := by decide +kernel
theorem dX12_lateBy_57 : decode cX12_lateBy 57 = .ok (.iconst 3, 1) := by decide +kernel
theorem dX12_lateBy_58 : decode cX12_lateBy 58 = .ok (.if_icmp .ne 100, 3) := by decide +kernel
theorem dX12_lateBy_61 : decode cX12_lateBy 61 = .ok (.aload_n 0, 1) := by decide +kernel
theorem dX12_lateBy_62 : decode cX12_lateBy 62 = .ok (.getfield 48, 3) := by decide +kernel
theorem dX12_lateBy_65 : decode cX12_lateBy 65 = .ok (.iload_n 3, 1) := by decide +kernel
theorem dX12_lateBy_66 : decode cX12_lateBy 66 = .ok (.iaload, 1) := by decide +kernel
theorem dX12_lateBy_67 : decode cX12_lateBy 67 = .ok (.aload_n 0, 1) := by decide +kernel
theorem dX12_lateBy_68 : decode cX12_lateBy 68 = .ok (.getfield 48, 3) := by decide +kernel
theorem dX12_lateBy_71 : decode cX12_lateBy 71 = .ok (.iload_n 2, 1) := by decide +kernel
theorem dX12_lateBy_72 : decode cX12_lateBy 72 = .ok (.iaload, 1) := by decide +kernel
theorem dX12_lateBy_73 : decode cX12_lateBy 73 = .ok (.if_icmp .ne 85, 3) := by decide +kernel
theorem dX12_lateBy_76 : decode cX12_lateBy 76 = .ok (.aload_n 0, 1) := by decide +kernel
theorem dX12_lateBy_77 : decode cX12_lateBy 77 = .ok (.getfield 45, 3) := by decide +kernel
theorem dX12_lateBy_80 : decode cX12_lateBy 80 = .ok (.iload_n 3, 1) := by decide +kernel
theorem dX12_lateBy_81 : decode cX12_lateBy 81 = .ok (.iaload, 1) := by decide +kernel
theorem dX12_lateBy_82 : decode cX12_lateBy 82 = .ok (.aload_n 0, 1) := by decide +kernel
theorem dX12_lateBy_83 : decode cX12_lateBy 83 = .ok (.getfield 45, 3) := by decide +kernel
theorem dX12_lateBy_86 : decode cX12_lateBy 86 = .ok (.iload_n 2, 1) := by decide +kernel
theorem dX12_lateBy_87 : decode cX12_lateBy 87 = .ok (.iaload, 1) := by decide +kernel
theorem dX12_lateBy_88 : decode cX12_lateBy 88 = .ok (.iload_n 1, 1) := by decide +kernel
theorem dX12_lateBy_89 : decode cX12_lateBy 89 = .ok (.isub, 1) := by decide +kernel
theorem dX12_lateBy_90 : decode cX12_lateBy 90 = .ok (.if_icmp .eq 6, 3) := by decide +kernel
theorem dX12_lateBy_93 : decode cX12_lateBy 93 = .ok (.goto 65, 3) := by decide +kernel
theorem dX12_lateBy_96 : decode cX12_lateBy 96 = .ok (.aload_n 0, 1) := by decide +kernel
theorem dX12_lateBy_97 : decode cX12_lateBy 97 = .ok (.dup, 1) := by decide +kernel
theorem dX12_lateBy_98 : decode cX12_lateBy 98 = .ok (.getfield 460, 3) := by decide +kernel
theorem dX12_lateBy_101 : decode cX12_lateBy 101 = .ok (.aload_n 0, 1) := by decide +kernel
theorem dX12_lateBy_102 : decode cX12_lateBy 102 = .ok (.getfield 54, 3) := by decide +kernel
theorem dX12_lateBy_105 : decode cX12_lateBy 105 = .ok (.iload_n 2, 1) := by decide +kernel
theorem dX12_lateBy_106 : decode cX12_lateBy 106 = .ok (.iaload, 1) := by decide +kernel
theorem dX12_lateBy_107 : decode cX12_lateBy 107 = .ok (.aload_n 0, 1) := by decide +kernel
theorem dX12_lateBy_108 : decode cX12_lateBy 108 = .ok (.iconst 1, 1) := by decide +kernel
theorem dX12_lateBy_109 : decode cX12_lateBy 109 = .ok (.aload_n 0, 1) := by decide +kernel
theorem dX12_lateBy_110 : decode cX12_lateBy 110 = .ok (.getfield 54, 3) := by decide +kernel
theorem dX12_lateBy_113 : decode cX12_lateBy 113 = .ok (.iload_n 3, 1) := by decide +kernel
theorem dX12_lateBy_114 : decode cX12_lateBy 114 = .ok (.iaload, 1) := by decide +kernel
theorem dX12_lateBy_115 : decode cX12_lateBy 115 = .ok (.aload_n 0, 1) := by decide +kernel
theorem dX12_lateBy_116 : decode cX12_lateBy 116 = .ok (.getfield 24, 3) := by decide +kernel
theorem dX12_lateBy_119 : decode cX12_lateBy 119 = .ok (.aload_n 0, 1) := by decide +kernel
theorem dX12_lateBy_120 : decode cX12_lateBy 120 = .ok (.getfield 42, 3) := by decide +kernel
theorem dX12_lateBy_123 : decode cX12_lateBy 123 = .ok (.iload_n 2, 1) := by decide +kernel
theorem dX12_lateBy_124 : decode cX12_lateBy 124 = .ok (.iaload, 1) := by decide +kernel
theorem dX12_lateBy_125 : decode cX12_lateBy 125 = .ok (.iaload, 1) := by decide +kernel
theorem dX12_lateBy_126 : decode cX12_lateBy 126 = .ok (.aload_n 0, 1) := by decide +kernel
theorem dX12_lateBy_127 : decode cX12_lateBy 127 = .ok (.getfield 57, 3) := by decide +kernel
theorem dX12_lateBy_130 : decode cX12_lateBy 130 = .ok (.iload_n 2, 1) := by decide +kernel
theorem dX12_lateBy_131 : decode cX12_lateBy 131 = .ok (.iaload, 1) := by decide +kernel
theorem dX12_lateBy_132 : decode cX12_lateBy 132 = .ok (.aload_n 0, 1) := by decide +kernel
theorem dX12_lateBy_133 : decode cX12_lateBy 133 = .ok (.iload_n 2, 1) := by decide +kernel
theorem dX12_lateBy_134 : decode cX12_lateBy 134 = .ok (.invokevirtual 424, 3) := by decide +kernel
theorem dX12_lateBy_137 : decode cX12_lateBy 137 = .ok (.invokevirtual 366, 3) := by decide +kernel
theorem dX12_lateBy_140 : decode cX12_lateBy 140 = .ok (.isub, 1) := by decide +kernel
theorem dX12_lateBy_141 : decode cX12_lateBy 141 = .ok (.invokestatic 189, 3) := by decide +kernel
theorem dX12_lateBy_144 : decode cX12_lateBy 144 = .ok (.iadd, 1) := by decide +kernel
theorem dX12_lateBy_145 : decode cX12_lateBy 145 = .ok (.putfield 460, 3) := by decide +kernel
theorem dX12_lateBy_148 : decode cX12_lateBy 148 = .ok (.aload_n 0, 1) := by decide +kernel
theorem dX12_lateBy_149 : decode cX12_lateBy 149 = .ok (.dup, 1) := by decide +kernel
theorem dX12_lateBy_150 : decode cX12_lateBy 150 = .ok (.getfield 463, 3) := by decide +kernel
theorem dX12_lateBy_153 : decode cX12_lateBy 153 = .ok (.iconst 1, 1) := by decide +kernel
theorem dX12_lateBy_154 : decode cX12_lateBy 154 = .ok (.iadd, 1) := by decide +kernel
theorem dX12_lateBy_155 : decode cX12_lateBy 155 = .ok (.putfield 463, 3) := by decide +kernel
theorem dX12_lateBy_158 : decode cX12_lateBy 158 = .ok (.iinc 3 1, 3) := by decide +kernel
theorem dX12_lateBy_161 : decode cX12_lateBy 161 = .ok (.goto (-118), 3) := by decide +kernel
theorem dX12_lateBy_164 : decode cX12_lateBy 164 = .ok (.iinc 2 1, 3) := by decide +kernel
theorem dX12_lateBy_167 : decode cX12_lateBy 167 = .ok (.goto (-155), 3) := by decide +kernel
theorem dX12_lateBy_170 : decode cX12_lateBy 170 = .ok (.return_, 1) := by decide +kernel
theorem dX12_late_0 : decode cX12_late 0 = .ok (.iload_n 1, 1) := by decide +kernel
theorem dX12_late_1 : decode cX12_late 1 = .ok (.bipush 10, 2) := by decide +kernel
theorem dX12_late_3 : decode cX12_late 3 = .ok (.bipush 19, 2) := by decide +kernel
theorem dX12_late_5 : decode cX12_late 5 = .ok (.invokestatic 168, 3) := by decide +kernel
theorem dX12_late_8 : decode cX12_late 8 = .ok (.ifCond .ne 14, 3) := by decide +kernel
theorem dX12_late_11 : decode cX12_late 11 = .ok (.iload_n 1, 1) := by decide +kernel
theorem dX12_late_12 : decode cX12_late 12 = .ok (.bipush 20, 2) := by decide +kernel
theorem dX12_late_14 : decode cX12_late 14 = .ok (.bipush 29, 2) := by decide +kernel
theorem dX12_late_16 : decode cX12_late 16 = .ok (.invokestatic 168, 3) := by decide +kernel
theorem dX12_late_19 : decode cX12_late 19 = .ok (.ifCond .eq 29, 3) := by decide +kernel
theorem dX12_late_22 : decode cX12_late 22 = .ok (.aload_n 0, 1) := by decide +kernel
theorem dX12_late_23 : decode cX12_late 23 = .ok (.iload_n 1, 1) := by decide +kernel
theorem dX12_late_24 : decode cX12_late 24 = .ok (.bipush 10, 2) := by decide +kernel
theorem dX12_late_26 : decode cX12_late 26 = .ok (.irem, 1) := by decide +kernel
theorem dX12_late_27 : decode cX12_late 27 = .ok (.invokevirtual 466, 3) := by decide +kernel
theorem dX12_late_30 : decode cX12_late 30 = .ok (.iload_n 1, 1) := by decide +kernel
theorem dX12_late_31 : decode cX12_late 31 = .ok (.bipush 20, 2) := by decide +kernel
theorem dX12_late_33 : decode cX12_late 33 = .ok (.if_icmp .ge 10, 3) := by decide +kernel
theorem dX12_late_36 : decode cX12_late 36 = .ok (.aload_n 0, 1) := by decide +kernel
theorem dX12_late_37 : decode cX12_late 37 = .ok (.getfield 460, 3) := by decide +kernel
theorem dX12_late_40 : decode cX12_late 40 = .ok (.goto 7, 3) := by decide +kernel
theorem dX12_late_43 : decode cX12_late 43 = .ok (.aload_n 0, 1) := by decide +kernel
theorem dX12_late_44 : decode cX12_late 44 = .ok (.getfield 463, 3) := by decide +kernel
theorem dX12_late_47 : decode cX12_late 47 = .ok (.ireturn, 1) := by decide +kernel
theorem dX12_late_48 : decode cX12_late 48 = .ok (.iload_n 1, 1) := by decide +kernel
theorem dX12_late_49 : decode cX12_late 49 = .ok (.iconst 0, 1) := by decide +kernel
theorem dX12_late_50 : decode cX12_late 50 = .ok (.iconst 2, 1) := by decide +kernel
theorem dX12_late_51 : decode cX12_late 51 = .ok (.invokestatic 168, 3) := by decide +kernel
theorem dX12_late_54 : decode cX12_late 54 = .ok (.ifCond .ne 5, 3) := by decide +kernel
theorem dX12_late_57 : decode cX12_late 57 = .ok (.iconst (-1), 1) := by decide +kernel
theorem dX12_late_58 : decode cX12_late 58 = .ok (.ireturn, 1) := by decide +kernel
theorem dX12_late_59 : decode cX12_late 59 = .ok (.iconst (-1), 1) := by decide +kernel
theorem dX12_late_60 : decode cX12_late 60 = .ok (.istore_n 2, 1) := by decide +kernel
theorem dX12_late_61 : decode cX12_late 61 = .ok (.iconst 0, 1) := by decide +kernel
theorem dX12_late_62 : decode cX12_late 62 = .ok (.istore_n 3, 1) := by decide +kernel
theorem dX12_late_63 : decode cX12_late 63 = .ok (.iconst 0, 1) := by decide +kernel
theorem dX12_late_64 : decode cX12_late 64 = .ok (.istore 4, 2) := by decide +kernel
theorem dX12_late_66 : decode cX12_late 66 = .ok (.iconst 0, 1) := by decide +kernel
theorem dX12_late_67 : decode cX12_late 67 = .ok (.istore 5, 2) := by decide +kernel
theorem dX12_late_69 : decode cX12_late 69 = .ok (.iload 5, 2) := by decide +kernel
theorem dX12_late_71 : decode cX12_late 71 = .ok (.bipush 10, 2) := by decide +kernel
theorem dX12_late_73 : decode cX12_late 73 = .ok (.if_icmp .ge 64, 3) := by decide +kernel
theorem dX12_late_76 : decode cX12_late 76 = .ok (.aload_n 0, 1) := by decide +kernel
theorem dX12_late_77 : decode cX12_late 77 = .ok (.iload 5, 2) := by decide +kernel
theorem dX12_late_79 : decode cX12_late 79 = .ok (.invokevirtual 466, 3) := by decide +kernel
theorem dX12_late_82 : decode cX12_late 82 = .ok (.aload_n 0, 1) := by decide +kernel
theorem dX12_late_83 : decode cX12_late 83 = .ok (.getfield 463, 3) := by decide +kernel
theorem dX12_late_86 : decode cX12_late 86 = .ok (.ifCond .eq 45, 3) := by decide +kernel
theorem dX12_late_89 : decode cX12_late 89 = .ok (.iload_n 2, 1) := by decide +kernel
theorem dX12_late_90 : decode cX12_late 90 = .ok (.ifCond .lt 27, 3) := by decide +kernel
theorem dX12_late_93 : decode cX12_late 93 = .ok (.aload_n 0, 1) := by decide +kernel
theorem dX12_late_94 : decode cX12_late 94 = .ok (.getfield 460, 3) := by decide +kernel
theorem dX12_late_97 : decode cX12_late 97 = .ok (.i2l, 1) := by decide +kernel
theorem dX12_late_98 : decode cX12_late 98 = .ok (.iload 4, 2) := by decide +kernel
theorem dX12_late_100 : decode cX12_late 100 = .ok (.i2l, 1) := by decide +kernel
theorem dX12_late_101 : decode cX12_late 101 = .ok (.lmul, 1) := by decide +kernel
theorem dX12_late_102 : decode cX12_late 102 = .ok (.iload_n 3, 1) := by decide +kernel
theorem dX12_late_103 : decode cX12_late 103 = .ok (.i2l, 1) := by decide +kernel
theorem dX12_late_104 : decode cX12_late 104 = .ok (.aload_n 0, 1) := by decide +kernel
theorem dX12_late_105 : decode cX12_late 105 = .ok (.getfield 463, 3) := by decide +kernel
theorem dX12_late_108 : decode cX12_late 108 = .ok (.i2l, 1) := by decide +kernel
theorem dX12_late_109 : decode cX12_late 109 = .ok (.lmul, 1) := by decide +kernel
theorem dX12_late_110 : decode cX12_late 110 = .ok (.lcmp, 1) := by decide +kernel
theorem dX12_late_111 : decode cX12_late 111 = .ok (.ifCond .lt 6, 3) := by decide +kernel
theorem dX12_late_114 : decode cX12_late 114 = .ok (.goto 17, 3) := by decide +kernel
theorem dX12_late_117 : decode cX12_late 117 = .ok (.iload 5, 2) := by decide +kernel
theorem dX12_late_119 : decode cX12_late 119 = .ok (.istore_n 2, 1) := by decide +kernel
theorem dX12_late_120 : decode cX12_late 120 = .ok (.aload_n 0, 1) := by decide +kernel
theorem dX12_late_121 : decode cX12_late 121 = .ok (.getfield 460, 3) := by decide +kernel
theorem dX12_late_124 : decode cX12_late 124 = .ok (.istore_n 3, 1) := by decide +kernel
theorem dX12_late_125 : decode cX12_late 125 = .ok (.aload_n 0, 1) := by decide +kernel
theorem dX12_late_126 : decode cX12_late 126 = .ok (.getfield 463, 3) := by decide +kernel
theorem dX12_late_129 : decode cX12_late 129 = .ok (.istore 4, 2) := by decide +kernel
theorem dX12_late_131 : decode cX12_late 131 = .ok (.iinc 5 1, 3) := by decide +kernel
theorem dX12_late_134 : decode cX12_late 134 = .ok (.goto (-65), 3) := by decide +kernel
theorem dX12_late_137 : decode cX12_late 137 = .ok (.iload_n 2, 1) := by decide +kernel
theorem dX12_late_138 : decode cX12_late 138 = .ok (.ifCond .ge 7, 3) := by decide +kernel
theorem dX12_late_141 : decode cX12_late 141 = .ok (.iconst (-1), 1) := by decide +kernel
theorem dX12_late_142 : decode cX12_late 142 = .ok (.goto 22, 3) := by decide +kernel
theorem dX12_late_145 : decode cX12_late 145 = .ok (.iload_n 1, 1) := by decide +kernel
theorem dX12_late_146 : decode cX12_late 146 = .ok (.ifCond .ne 7, 3) := by decide +kernel
theorem dX12_late_149 : decode cX12_late 149 = .ok (.iload_n 2, 1) := by decide +kernel
theorem dX12_late_150 : decode cX12_late 150 = .ok (.goto 14, 3) := by decide +kernel
theorem dX12_late_153 : decode cX12_late 153 = .ok (.iload_n 1, 1) := by decide +kernel
theorem dX12_late_154 : decode cX12_late 154 = .ok (.iconst 1, 1) := by decide +kernel
theorem dX12_late_155 : decode cX12_late 155 = .ok (.if_icmp .ne 7, 3) := by decide +kernel
theorem dX12_late_158 : decode cX12_late 158 = .ok (.iload_n 3, 1) := by decide +kernel
theorem dX12_late_159 : decode cX12_late 159 = .ok (.goto 5, 3) := by decide +kernel
theorem dX12_late_162 : decode cX12_late 162 = .ok (.iload 4, 2) := by decide +kernel
theorem dX12_late_164 : decode cX12_late 164 = .ok (.ireturn, 1) := by decide +kernel
theorem dX12_followed_0 : decode cX12_followed 0 = .ok (.aload_n 0, 1) := by decide +kernel
theorem dX12_followed_1 : decode cX12_followed 1 = .ok (.iload_n 1, 1) := by decide +kernel
theorem dX12_followed_2 : decode cX12_followed 2 = .ok (.invokevirtual 404, 3) := by decide +kernel
theorem dX12_followed_5 : decode cX12_followed 5 = .ok (.ifCond .eq 24, 3) := by decide +kernel
theorem dX12_followed_8 : decode cX12_followed 8 = .ok (.aload_n 0, 1) := by decide +kernel
theorem dX12_followed_9 : decode cX12_followed 9 = .ok (.aload_n 0, 1) := by decide +kernel
theorem dX12_followed_10 : decode cX12_followed 10 = .ok (.getfield 42, 3) := by decide +kernel
theorem dX12_followed_13 : decode cX12_followed 13 = .ok (.iload_n 1, 1) := by decide +kernel
theorem dX12_followed_14 : decode cX12_followed 14 = .ok (.iaload, 1) := by decide +kernel
theorem dX12_followed_15 : decode cX12_followed 15 = .ok (.aload_n 0, 1) := by decide +kernel
theorem dX12_followed_16 : decode cX12_followed 16 = .ok (.getfield 45, 3) := by decide +kernel
theorem dX12_followed_19 : decode cX12_followed 19 = .ok (.iload_n 1, 1) := by decide +kernel
theorem dX12_followed_20 : decode cX12_followed 20 = .ok (.iaload, 1) := by decide +kernel
theorem dX12_followed_21 : decode cX12_followed 21 = .ok (.iconst 1, 1) := by decide +kernel
theorem dX12_followed_22 : decode cX12_followed 22 = .ok (.isub, 1) := by decide +kernel
theorem dX12_followed_23 : decode cX12_followed 23 = .ok (.invokevirtual 185, 3) := by decide +kernel
theorem dX12_followed_26 : decode cX12_followed 26 = .ok (.goto 4, 3) := by decide +kernel
theorem dX12_followed_29 : decode cX12_followed 29 = .ok (.iconst (-1), 1) := by decide +kernel
theorem dX12_followed_30 : decode cX12_followed 30 = .ok (.istore_n 2, 1) := by decide +kernel
theorem dX12_followed_31 : decode cX12_followed 31 = .ok (.iload_n 2, 1) := by decide +kernel
theorem dX12_followed_32 : decode cX12_followed 32 = .ok (.ifCond .lt 28, 3) := by decide +kernel
theorem dX12_followed_35 : decode cX12_followed 35 = .ok (.aload_n 0, 1) := by decide +kernel
theorem dX12_followed_36 : decode cX12_followed 36 = .ok (.iload_n 2, 1) := by decide +kernel
theorem dX12_followed_37 : decode cX12_followed 37 = .ok (.invokevirtual 404, 3) := by decide +kernel
theorem dX12_followed_40 : decode cX12_followed 40 = .ok (.ifCond .eq 20, 3) := by decide +kernel
theorem dX12_followed_43 : decode cX12_followed 43 = .ok (.aload_n 0, 1) := by decide +kernel
theorem dX12_followed_44 : decode cX12_followed 44 = .ok (.iload_n 2, 1) := by decide +kernel
theorem dX12_followed_45 : decode cX12_followed 45 = .ok (.invokevirtual 195, 3) := by decide +kernel
theorem dX12_followed_48 : decode cX12_followed 48 = .ok (.aload_n 0, 1) := by decide +kernel
theorem dX12_followed_49 : decode cX12_followed 49 = .ok (.iload_n 1, 1) := by decide +kernel
theorem dX12_followed_50 : decode cX12_followed 50 = .ok (.invokevirtual 195, 3) := by decide +kernel
theorem dX12_followed_53 : decode cX12_followed 53 = .ok (.if_icmp .ne 7, 3) := by decide +kernel
theorem dX12_followed_56 : decode cX12_followed 56 = .ok (.iload_n 2, 1) := by decide +kernel
theorem dX12_followed_57 : decode cX12_followed 57 = .ok (.goto 4, 3) := by decide +kernel
theorem dX12_followed_60 : decode cX12_followed 60 = .ok (.iconst (-1), 1) := by decide +kernel
theorem dX12_followed_61 : decode cX12_followed 61 = .ok (.ireturn, 1) := by decide +kernel
theorem dX12_isCopied_0 : decode cX12_isCopied 0 = .ok (.aload_n 0, 1) := by decide +kernel
theorem dX12_isCopied_1 : decode cX12_isCopied 1 = .ok (.iload_n 1, 1) := by decide +kernel
theorem dX12_isCopied_2 : decode cX12_isCopied 2 = .ok (.invokevirtual 469, 3) := by decide +kernel
theorem dX12_isCopied_5 : decode cX12_isCopied 5 = .ok (.istore_n 2, 1) := by decide +kernel
theorem dX12_isCopied_6 : decode cX12_isCopied 6 = .ok (.iload_n 2, 1) := by decide +kernel
theorem dX12_isCopied_7 : decode cX12_isCopied 7 = .ok (.ifCond .lt 18, 3) := by decide +kernel
theorem dX12_isCopied_10 : decode cX12_isCopied 10 = .ok (.aload_n 0, 1) := by decide +kernel
theorem dX12_isCopied_11 : decode cX12_isCopied 11 = .ok (.getfield 54, 3) := by decide +kernel
theorem dX12_isCopied_14 : decode cX12_isCopied 14 = .ok (.iload_n 2, 1) := by decide +kernel
theorem dX12_isCopied_15 : decode cX12_isCopied 15 = .ok (.iaload, 1) := by decide +kernel
theorem dX12_isCopied_16 : decode cX12_isCopied 16 = .ok (.aload_n 0, 1) := by decide +kernel
theorem dX12_isCopied_17 : decode cX12_isCopied 17 = .ok (.getfield 54, 3) := by decide +kernel
theorem dX12_isCopied_20 : decode cX12_isCopied 20 = .ok (.iload_n 1, 1) := by decide +kernel
theorem dX12_isCopied_21 : decode cX12_isCopied 21 = .ok (.iaload, 1) := by decide +kernel
theorem dX12_isCopied_22 : decode cX12_isCopied 22 = .ok (.if_icmp .eq 5, 3) := by decide +kernel
theorem dX12_isCopied_25 : decode cX12_isCopied 25 = .ok (.iconst 0, 1) := by decide +kernel
theorem dX12_isCopied_26 : decode cX12_isCopied 26 = .ok (.ireturn, 1) := by decide +kernel
theorem dX12_isCopied_27 : decode cX12_isCopied 27 = .ok (.iconst 0, 1) := by decide +kernel
theorem dX12_isCopied_28 : decode cX12_isCopied 28 = .ok (.istore_n 3, 1) := by decide +kernel
theorem dX12_isCopied_29 : decode cX12_isCopied 29 = .ok (.iconst 0, 1) := by decide +kernel
theorem dX12_isCopied_30 : decode cX12_isCopied 30 = .ok (.istore 4, 2) := by decide +kernel
theorem dX12_isCopied_32 : decode cX12_isCopied 32 = .ok (.iload 4, 2) := by decide +kernel
theorem dX12_isCopied_34 : decode cX12_isCopied 34 = .ok (.aload_n 0, 1) := by decide +kernel
theorem dX12_isCopied_35 : decode cX12_isCopied 35 = .ok (.getfield 165, 3) := by decide +kernel
theorem dX12_isCopied_38 : decode cX12_isCopied 38 = .ok (.if_icmp .ge 120, 3) := by decide +kernel
theorem dX12_isCopied_41 : decode cX12_isCopied 41 = .ok (.aload_n 0, 1) := by decide +kernel
theorem dX12_isCopied_42 : decode cX12_isCopied 42 = .ok (.iload 4, 2) := by decide +kernel
theorem dX12_isCopied_44 : decode cX12_isCopied 44 = .ok (.aload_n 0, 1) := by decide +kernel
theorem dX12_isCopied_45 : decode cX12_isCopied 45 = .ok (.getfield 45, 3) := by decide +kernel
theorem dX12_isCopied_48 : decode cX12_isCopied 48 = .ok (.iload_n 2, 1) := by decide +kernel
theorem dX12_isCopied_49 : decode cX12_isCopied 49 = .ok (.iaload, 1) := by decide +kernel
theorem dX12_isCopied_50 : decode cX12_isCopied 50 = .ok (.invokevirtual 185, 3) := by decide +kernel
theorem dX12_isCopied_53 : decode cX12_isCopied 53 = .ok (.istore 5, 2) := by decide +kernel
theorem dX12_isCopied_55 : decode cX12_isCopied 55 = .ok (.aload_n 0, 1) := by decide +kernel
theorem dX12_isCopied_56 : decode cX12_isCopied 56 = .ok (.iload 4, 2) := by decide +kernel
theorem dX12_isCopied_58 : decode cX12_isCopied 58 = .ok (.aload_n 0, 1) := by decide +kernel
theorem dX12_isCopied_59 : decode cX12_isCopied 59 = .ok (.getfield 45, 3) := by decide +kernel
theorem dX12_isCopied_62 : decode cX12_isCopied 62 = .ok (.iload_n 1, 1) := by decide +kernel
theorem dX12_isCopied_63 : decode cX12_isCopied 63 = .ok (.iaload, 1) := by decide +kernel
theorem dX12_isCopied_64 : decode cX12_isCopied 64 = .ok (.invokevirtual 185, 3) := by decide +kernel
theorem dX12_isCopied_67 : decode cX12_isCopied 67 = .ok (.istore 6, 2) := by decide +kernel
theorem dX12_isCopied_69 : decode cX12_isCopied 69 = .ok (.iload 5, 2) := by decide +kernel
theorem dX12_isCopied_71 : decode cX12_isCopied 71 = .ok (.ifCond .lt 81, 3) := by decide +kernel
theorem dX12_isCopied_74 : decode cX12_isCopied 74 = .ok (.iload 6, 2) := by decide +kernel
theorem dX12_isCopied_76 : decode cX12_isCopied 76 = .ok (.ifCond .lt 76, 3) := by decide +kernel
theorem dX12_isCopied_79 : decode cX12_isCopied 79 = .ok (.aload_n 0, 1) := by decide +kernel
theorem dX12_isCopied_80 : decode cX12_isCopied 80 = .ok (.iload 5, 2) := by decide +kernel
theorem dX12_isCopied_82 : decode cX12_isCopied 82 = .ok (.invokevirtual 404, 3) := by decide +kernel
theorem dX12_isCopied_85 : decode cX12_isCopied 85 = .ok (.ifCond .eq 67, 3) := by decide +kernel
theorem dX12_isCopied_88 : decode cX12_isCopied 88 = .ok (.aload_n 0, 1) := by decide +kernel
theorem dX12_isCopied_89 : decode cX12_isCopied 89 = .ok (.iload 6, 2) := by decide +kernel
theorem dX12_isCopied_91 : decode cX12_isCopied 91 = .ok (.invokevirtual 404, 3) := by decide +kernel
theorem dX12_isCopied_94 : decode cX12_isCopied 94 = .ok (.ifCond .eq 58, 3) := by decide +kernel
theorem dX12_isCopied_97 : decode cX12_isCopied 97 = .ok (.aload_n 0, 1) := by decide +kernel
theorem dX12_isCopied_98 : decode cX12_isCopied 98 = .ok (.iload 5, 2) := by decide +kernel
theorem dX12_isCopied_100 : decode cX12_isCopied 100 = .ok (.iload_n 2, 1) := by decide +kernel
theorem dX12_isCopied_101 : decode cX12_isCopied 101 = .ok (.invokevirtual 410, 3) := by decide +kernel
theorem dX12_isCopied_104 : decode cX12_isCopied 104 = .ok (.ifCond .eq 48, 3) := by decide +kernel
theorem dX12_isCopied_107 : decode cX12_isCopied 107 = .ok (.aload_n 0, 1) := by decide +kernel
theorem dX12_isCopied_108 : decode cX12_isCopied 108 = .ok (.iload 6, 2) := by decide +kernel
theorem dX12_isCopied_110 : decode cX12_isCopied 110 = .ok (.iload_n 1, 1) := by decide +kernel
theorem dX12_isCopied_111 : decode cX12_isCopied 111 = .ok (.invokevirtual 410, 3) := by decide +kernel
theorem dX12_isCopied_114 : decode cX12_isCopied 114 = .ok (.ifCond .ne 6, 3) := by decide +kernel
theorem dX12_isCopied_117 : decode cX12_isCopied 117 = .ok (.goto 35, 3) := by decide +kernel
theorem dX12_isCopied_120 : decode cX12_isCopied 120 = .ok (.iload_n 3, 1) := by decide +kernel
theorem dX12_isCopied_121 : decode cX12_isCopied 121 = .ok (.ifCond .ne 25, 3) := by decide +kernel
theorem dX12_isCopied_124 : decode cX12_isCopied 124 = .ok (.aload_n 0, 1) := by decide +kernel
theorem dX12_isCopied_125 : decode cX12_isCopied 125 = .ok (.getfield 54, 3) := by decide +kernel
theorem dX12_isCopied_128 : decode cX12_isCopied 128 = .ok (.iload 5, 2) := by decide +kernel
theorem dX12_isCopied_130 : decode cX12_isCopied 130 = .ok (.iaload, 1) := by decide +kernel
theorem dX12_isCopied_131 : decode cX12_isCopied 131 = .ok (.aload_n 0, 1) := by decide +kernel
theorem dX12_isCopied_132 : decode cX12_isCopied 132 = .ok (.getfield 54, 3) := by decide +kernel
theorem dX12_isCopied_135 : decode cX12_isCopied 135 = .ok (.iload 6, 2) := by decide +kernel
theorem dX12_isCopied_137 : decode cX12_isCopied 137 = .ok (.iaload, 1) := by decide +kernel
theorem dX12_isCopied_138 : decode cX12_isCopied 138 = .ok (.isub, 1) := by decide +kernel
theorem dX12_isCopied_139 : decode cX12_isCopied 139 = .ok (.invokestatic 189, 3) := by decide +kernel
theorem dX12_isCopied_142 : decode cX12_isCopied 142 = .ok (.iconst 2, 1) := by decide +kernel
theorem dX12_isCopied_143 : decode cX12_isCopied 143 = .ok (.if_icmp .lt 7, 3) := by decide +kernel
theorem dX12_isCopied_146 : decode cX12_isCopied 146 = .ok (.iconst 1, 1) := by decide +kernel
theorem dX12_isCopied_147 : decode cX12_isCopied 147 = .ok (.goto 4, 3) := by decide +kernel
theorem dX12_isCopied_150 : decode cX12_isCopied 150 = .ok (.iconst 0, 1) := by decide +kernel
theorem dX12_isCopied_151 : decode cX12_isCopied 151 = .ok (.istore_n 3, 1) := by decide +kernel
theorem dX12_isCopied_152 : decode cX12_isCopied 152 = .ok (.iinc 4 1, 3) := by decide +kernel
theorem dX12_isCopied_155 : decode cX12_isCopied 155 = .ok (.goto (-123), 3) := by decide +kernel
theorem dX12_isCopied_158 : decode cX12_isCopied 158 = .ok (.iload_n 3, 1) := by decide +kernel
theorem dX12_isCopied_159 : decode cX12_isCopied 159 = .ok (.ireturn, 1) := by decide +kernel
theorem dX12_reading_0 : decode cX12_reading 0 = .ok (.iload_n 1, 1) := by decide +kernel
theorem dX12_reading_1 : decode cX12_reading 1 = .ok (.iconst 0, 1) := by decide +kernel
theorem dX12_reading_2 : decode cX12_reading 2 = .ok (.aload_n 0, 1) := by decide +kernel
theorem dX12_reading_3 : decode cX12_reading 3 = .ok (.getfield 182, 3) := by decide +kernel
theorem dX12_reading_6 : decode cX12_reading 6 = .ok (.iconst 1, 1) := by decide +kernel
theorem dX12_reading_7 : decode cX12_reading 7 = .ok (.isub, 1) := by decide +kernel
theorem dX12_reading_8 : decode cX12_reading 8 = .ok (.invokestatic 168, 3) := by decide +kernel
theorem dX12_reading_11 : decode cX12_reading 11 = .ok (.ifCond .eq 13, 3) := by decide +kernel
theorem dX12_reading_14 : decode cX12_reading 14 = .ok (.iload_n 2, 1) := by decide +kernel
theorem dX12_reading_15 : decode cX12_reading 15 = .ok (.iconst 0, 1) := by decide +kernel
theorem dX12_reading_16 : decode cX12_reading 16 = .ok (.bipush 8, 2) := by decide +kernel
theorem dX12_reading_18 : decode cX12_reading 18 = .ok (.invokestatic 168, 3) := by decide +kernel
theorem dX12_reading_21 : decode cX12_reading 21 = .ok (.ifCond .ne 5, 3) := by decide +kernel
theorem dX12_reading_24 : decode cX12_reading 24 = .ok (.iconst (-1), 1) := by decide +kernel
theorem dX12_reading_25 : decode cX12_reading 25 = .ok (.ireturn, 1) := by decide +kernel
theorem dX12_reading_26 : decode cX12_reading 26 = .ok (.iload_n 2, 1) := by decide +kernel
theorem dX12_reading_27 : decode cX12_reading 27 = .ok (.tableswitch 100 0 7 #[45, 52, 59, 66, 73, 80, 87, 94], 45) := by decide +kernel
theorem dX12_reading_72 : decode cX12_reading 72 = .ok (.aload_n 0, 1) := by decide +kernel
theorem dX12_reading_73 : decode cX12_reading 73 = .ok (.getfield 42, 3) := by decide +kernel
theorem dX12_reading_76 : decode cX12_reading 76 = .ok (.iload_n 1, 1) := by decide +kernel
theorem dX12_reading_77 : decode cX12_reading 77 = .ok (.iaload, 1) := by decide +kernel
theorem dX12_reading_78 : decode cX12_reading 78 = .ok (.ireturn, 1) := by decide +kernel
theorem dX12_reading_79 : decode cX12_reading 79 = .ok (.aload_n 0, 1) := by decide +kernel
theorem dX12_reading_80 : decode cX12_reading 80 = .ok (.getfield 45, 3) := by decide +kernel
theorem dX12_reading_83 : decode cX12_reading 83 = .ok (.iload_n 1, 1) := by decide +kernel
theorem dX12_reading_84 : decode cX12_reading 84 = .ok (.iaload, 1) := by decide +kernel
theorem dX12_reading_85 : decode cX12_reading 85 = .ok (.ireturn, 1) := by decide +kernel
theorem dX12_reading_86 : decode cX12_reading 86 = .ok (.aload_n 0, 1) := by decide +kernel
theorem dX12_reading_87 : decode cX12_reading 87 = .ok (.getfield 48, 3) := by decide +kernel
theorem dX12_reading_90 : decode cX12_reading 90 = .ok (.iload_n 1, 1) := by decide +kernel
theorem dX12_reading_91 : decode cX12_reading 91 = .ok (.iaload, 1) := by decide +kernel
theorem dX12_reading_92 : decode cX12_reading 92 = .ok (.ireturn, 1) := by decide +kernel
theorem dX12_reading_93 : decode cX12_reading 93 = .ok (.aload_n 0, 1) := by decide +kernel
theorem dX12_reading_94 : decode cX12_reading 94 = .ok (.getfield 51, 3) := by decide +kernel
theorem dX12_reading_97 : decode cX12_reading 97 = .ok (.iload_n 1, 1) := by decide +kernel
theorem dX12_reading_98 : decode cX12_reading 98 = .ok (.iaload, 1) := by decide +kernel
theorem dX12_reading_99 : decode cX12_reading 99 = .ok (.ireturn, 1) := by decide +kernel
theorem dX12_reading_100 : decode cX12_reading 100 = .ok (.aload_n 0, 1) := by decide +kernel
theorem dX12_reading_101 : decode cX12_reading 101 = .ok (.getfield 54, 3) := by decide +kernel
theorem dX12_reading_104 : decode cX12_reading 104 = .ok (.iload_n 1, 1) := by decide +kernel
theorem dX12_reading_105 : decode cX12_reading 105 = .ok (.iaload, 1) := by decide +kernel
theorem dX12_reading_106 : decode cX12_reading 106 = .ok (.ireturn, 1) := by decide +kernel
theorem dX12_reading_107 : decode cX12_reading 107 = .ok (.aload_n 0, 1) := by decide +kernel
theorem dX12_reading_108 : decode cX12_reading 108 = .ok (.getfield 57, 3) := by decide +kernel
theorem dX12_reading_111 : decode cX12_reading 111 = .ok (.iload_n 1, 1) := by decide +kernel
theorem dX12_reading_112 : decode cX12_reading 112 = .ok (.iaload, 1) := by decide +kernel
theorem dX12_reading_113 : decode cX12_reading 113 = .ok (.ireturn, 1) := by decide +kernel
theorem dX12_reading_114 : decode cX12_reading 114 = .ok (.aload_n 0, 1) := by decide +kernel
theorem dX12_reading_115 : decode cX12_reading 115 = .ok (.getfield 60, 3) := by decide +kernel
theorem dX12_reading_118 : decode cX12_reading 118 = .ok (.iload_n 1, 1) := by decide +kernel
theorem dX12_reading_119 : decode cX12_reading 119 = .ok (.iaload, 1) := by decide +kernel
theorem dX12_reading_120 : decode cX12_reading 120 = .ok (.ireturn, 1) := by decide +kernel
theorem dX12_reading_121 : decode cX12_reading 121 = .ok (.aload_n 0, 1) := by decide +kernel
theorem dX12_reading_122 : decode cX12_reading 122 = .ok (.iload_n 1, 1) := by decide +kernel
theorem dX12_reading_123 : decode cX12_reading 123 = .ok (.invokevirtual 195, 3) := by decide +kernel
theorem dX12_reading_126 : decode cX12_reading 126 = .ok (.ireturn, 1) := by decide +kernel
theorem dX12_reading_127 : decode cX12_reading 127 = .ok (.aload_n 0, 1) := by decide +kernel
theorem dX12_reading_128 : decode cX12_reading 128 = .ok (.iload_n 1, 1) := by decide +kernel
theorem dX12_reading_129 : decode cX12_reading 129 = .ok (.invokevirtual 472, 3) := by decide +kernel
theorem dX12_reading_132 : decode cX12_reading 132 = .ok (.ifCond .eq 7, 3) := by decide +kernel
theorem dX12_reading_135 : decode cX12_reading 135 = .ok (.iconst 1, 1) := by decide +kernel
theorem dX12_reading_136 : decode cX12_reading 136 = .ok (.goto 4, 3) := by decide +kernel
theorem dX12_reading_139 : decode cX12_reading 139 = .ok (.iconst 0, 1) := by decide +kernel
theorem dX12_reading_140 : decode cX12_reading 140 = .ok (.ireturn, 1) := by decide +kernel
theorem dX12_copied_0 : decode cX12_copied 0 = .ok (.aload_n 0, 1) := by decide +kernel
theorem dX12_copied_1 : decode cX12_copied 1 = .ok (.iload_n 1, 1) := by decide +kernel
theorem dX12_copied_2 : decode cX12_copied 2 = .ok (.invokevirtual 176, 3) := by decide +kernel
theorem dX12_copied_5 : decode cX12_copied 5 = .ok (.ifCond .eq 12, 3) := by decide +kernel
theorem dX12_copied_8 : decode cX12_copied 8 = .ok (.iload_n 2, 1) := by decide +kernel
theorem dX12_copied_9 : decode cX12_copied 9 = .ok (.iconst 0, 1) := by decide +kernel
theorem dX12_copied_10 : decode cX12_copied 10 = .ok (.iconst 2, 1) := by decide +kernel
theorem dX12_copied_11 : decode cX12_copied 11 = .ok (.invokestatic 168, 3) := by decide +kernel
theorem dX12_copied_14 : decode cX12_copied 14 = .ok (.ifCond .ne 5, 3) := by decide +kernel
theorem dX12_copied_17 : decode cX12_copied 17 = .ok (.iconst (-1), 1) := by decide +kernel
theorem dX12_copied_18 : decode cX12_copied 18 = .ok (.ireturn, 1) := by decide +kernel
theorem dX12_copied_19 : decode cX12_copied 19 = .ok (.iconst 0, 1) := by decide +kernel
theorem dX12_copied_20 : decode cX12_copied 20 = .ok (.istore_n 3, 1) := by decide +kernel
theorem dX12_copied_21 : decode cX12_copied 21 = .ok (.iconst 0, 1) := by decide +kernel
theorem dX12_copied_22 : decode cX12_copied 22 = .ok (.istore 4, 2) := by decide +kernel
theorem dX12_copied_24 : decode cX12_copied 24 = .ok (.iload 4, 2) := by decide +kernel
theorem dX12_copied_26 : decode cX12_copied 26 = .ok (.aload_n 0, 1) := by decide +kernel
theorem dX12_copied_27 : decode cX12_copied 27 = .ok (.getfield 182, 3) := by decide +kernel
theorem dX12_copied_30 : decode cX12_copied 30 = .ok (.if_icmp .ge 88, 3) := by decide +kernel
theorem dX12_copied_33 : decode cX12_copied 33 = .ok (.aload_n 0, 1) := by decide +kernel
theorem dX12_copied_34 : decode cX12_copied 34 = .ok (.getfield 42, 3) := by decide +kernel
theorem dX12_copied_37 : decode cX12_copied 37 = .ok (.iload 4, 2) := by decide +kernel
theorem dX12_copied_39 : decode cX12_copied 39 = .ok (.iaload, 1) := by decide +kernel
theorem dX12_copied_40 : decode cX12_copied 40 = .ok (.iload_n 1, 1) := by decide +kernel
theorem dX12_copied_41 : decode cX12_copied 41 = .ok (.if_icmp .ne 12, 3) := by decide +kernel
theorem dX12_copied_44 : decode cX12_copied 44 = .ok (.aload_n 0, 1) := by decide +kernel
theorem dX12_copied_45 : decode cX12_copied 45 = .ok (.iload 4, 2) := by decide +kernel
theorem dX12_copied_47 : decode cX12_copied 47 = .ok (.invokevirtual 469, 3) := by decide +kernel
theorem dX12_copied_50 : decode cX12_copied 50 = .ok (.goto 4, 3) := by decide +kernel
theorem dX12_copied_53 : decode cX12_copied 53 = .ok (.iconst (-1), 1) := by decide +kernel
theorem dX12_copied_54 : decode cX12_copied 54 = .ok (.istore 5, 2) := by decide +kernel
theorem dX12_copied_56 : decode cX12_copied 56 = .ok (.iload 5, 2) := by decide +kernel
theorem dX12_copied_58 : decode cX12_copied 58 = .ok (.ifCond .ge 6, 3) := by decide +kernel
theorem dX12_copied_61 : decode cX12_copied 61 = .ok (.goto 51, 3) := by decide +kernel
theorem dX12_copied_64 : decode cX12_copied 64 = .ok (.iload_n 3, 1) := by decide +kernel
theorem dX12_copied_65 : decode cX12_copied 65 = .ok (.iload_n 2, 1) := by decide +kernel
theorem dX12_copied_66 : decode cX12_copied 66 = .ok (.ifCond .eq 39, 3) := by decide +kernel
theorem dX12_copied_69 : decode cX12_copied 69 = .ok (.iload_n 2, 1) := by decide +kernel
theorem dX12_copied_70 : decode cX12_copied 70 = .ok (.iconst 1, 1) := by decide +kernel
theorem dX12_copied_71 : decode cX12_copied 71 = .ok (.if_icmp .ne 20, 3) := by decide +kernel
theorem dX12_copied_74 : decode cX12_copied 74 = .ok (.aload_n 0, 1) := by decide +kernel
theorem dX12_copied_75 : decode cX12_copied 75 = .ok (.getfield 54, 3) := by decide +kernel
theorem dX12_copied_78 : decode cX12_copied 78 = .ok (.iload 5, 2) := by decide +kernel
theorem dX12_copied_80 : decode cX12_copied 80 = .ok (.iaload, 1) := by decide +kernel
theorem dX12_copied_81 : decode cX12_copied 81 = .ok (.aload_n 0, 1) := by decide +kernel
theorem dX12_copied_82 : decode cX12_copied 82 = .ok (.getfield 54, 3) := by decide +kernel
theorem dX12_copied_85 : decode cX12_copied 85 = .ok (.iload 4, 2) := by decide +kernel
theorem dX12_copied_87 : decode cX12_copied 87 = .ok (.iaload, 1) := by decide +kernel
theorem dX12_copied_88 : decode cX12_copied 88 = .ok (.if_icmp .eq 17, 3) := by decide +kernel
theorem dX12_copied_91 : decode cX12_copied 91 = .ok (.iload_n 2, 1) := by decide +kernel
theorem dX12_copied_92 : decode cX12_copied 92 = .ok (.iconst 2, 1) := by decide +kernel
theorem dX12_copied_93 : decode cX12_copied 93 = .ok (.if_icmp .ne 16, 3) := by decide +kernel
theorem dX12_copied_96 : decode cX12_copied 96 = .ok (.aload_n 0, 1) := by decide +kernel
theorem dX12_copied_97 : decode cX12_copied 97 = .ok (.iload 4, 2) := by decide +kernel
theorem dX12_copied_99 : decode cX12_copied 99 = .ok (.invokevirtual 472, 3) := by decide +kernel
theorem dX12_copied_102 : decode cX12_copied 102 = .ok (.ifCond .eq 7, 3) := by decide +kernel
theorem dX12_copied_105 : decode cX12_copied 105 = .ok (.iconst 1, 1) := by decide +kernel
theorem dX12_copied_106 : decode cX12_copied 106 = .ok (.goto 4, 3) := by decide +kernel
theorem dX12_copied_109 : decode cX12_copied 109 = .ok (.iconst 0, 1) := by decide +kernel
theorem dX12_copied_110 : decode cX12_copied 110 = .ok (.iadd, 1) := by decide +kernel
theorem dX12_copied_111 : decode cX12_copied 111 = .ok (.istore_n 3, 1) := by decide +kernel
theorem dX12_copied_112 : decode cX12_copied 112 = .ok (.iinc 4 1, 3) := by decide +kernel
theorem dX12_copied_115 : decode cX12_copied 115 = .ok (.goto (-91), 3) := by decide +kernel
theorem dX12_copied_118 : decode cX12_copied 118 = .ok (.iload_n 3, 1) := by decide +kernel
theorem dX12_copied_119 : decode cX12_copied 119 = .ok (.ireturn, 1) := by decide +kernel
theorem dX12_find_0 : decode cX12_find 0 = .ok (.iload_n 1, 1) := by decide +kernel
theorem dX12_find_1 : decode cX12_find 1 = .ok (.ifCond .ge 5, 3) := by decide +kernel
theorem dX12_find_4 : decode cX12_find 4 = .ok (.iconst (-1), 1) := by decide +kernel
theorem dX12_find_5 : decode cX12_find 5 = .ok (.ireturn, 1) := by decide +kernel
theorem dX12_find_6 : decode cX12_find 6 = .ok (.iload_n 1, 1) := by decide +kernel
theorem dX12_find_7 : decode cX12_find 7 = .ok (.istore_n 2, 1) := by decide +kernel
theorem dX12_find_8 : decode cX12_find 8 = .ok (.iconst 0, 1) := by decide +kernel
theorem dX12_find_9 : decode cX12_find 9 = .ok (.istore_n 3, 1) := by decide +kernel
theorem dX12_find_10 : decode cX12_find 10 = .ok (.iload_n 3, 1) := by decide +kernel
theorem dX12_find_11 : decode cX12_find 11 = .ok (.aload_n 0, 1) := by decide +kernel
theorem dX12_find_12 : decode cX12_find 12 = .ok (.getfield 182, 3) := by decide +kernel
theorem dX12_find_15 : decode cX12_find 15 = .ok (.if_icmp .ge 29, 3) := by decide +kernel
theorem dX12_find_18 : decode cX12_find 18 = .ok (.aload_n 0, 1) := by decide +kernel
theorem dX12_find_19 : decode cX12_find 19 = .ok (.iload_n 3, 1) := by decide +kernel
theorem dX12_find_20 : decode cX12_find 20 = .ok (.invokevirtual 472, 3) := by decide +kernel
theorem dX12_find_23 : decode cX12_find 23 = .ok (.ifCond .ne 6, 3) := by decide +kernel
theorem dX12_find_26 : decode cX12_find 26 = .ok (.goto 12, 3) := by decide +kernel
theorem dX12_find_29 : decode cX12_find 29 = .ok (.iload_n 2, 1) := by decide +kernel
theorem dX12_find_30 : decode cX12_find 30 = .ok (.ifCond .ne 5, 3) := by decide +kernel
theorem dX12_find_33 : decode cX12_find 33 = .ok (.iload_n 3, 1) := by decide +kernel
theorem dX12_find_34 : decode cX12_find 34 = .ok (.ireturn, 1) := by decide +kernel
theorem dX12_find_35 : decode cX12_find 35 = .ok (.iinc 2 (-1), 3) := by decide +kernel
theorem dX12_find_38 : decode cX12_find 38 = .ok (.iinc 3 1, 3) := by decide +kernel
theorem dX12_find_41 : decode cX12_find 41 = .ok (.goto (-31), 3) := by decide +kernel
theorem dX12_find_44 : decode cX12_find 44 = .ok (.iconst (-1), 1) := by decide +kernel
theorem dX12_find_45 : decode cX12_find 45 = .ok (.ireturn, 1) := by decide +kernel
theorem dX12_beside_0 : decode cX12_beside 0 = .ok (.iconst 0, 1) := by decide +kernel
theorem dX12_beside_1 : decode cX12_beside 1 = .ok (.istore_n 2, 1) := by decide +kernel
theorem dX12_beside_2 : decode cX12_beside 2 = .ok (.iload_n 2, 1) := by decide +kernel
theorem dX12_beside_3 : decode cX12_beside 3 = .ok (.aload_n 0, 1) := by decide +kernel
theorem dX12_beside_4 : decode cX12_beside 4 = .ok (.getfield 182, 3) := by decide +kernel
theorem dX12_beside_7 : decode cX12_beside 7 = .ok (.if_icmp .ge 28, 3) := by decide +kernel
theorem dX12_beside_10 : decode cX12_beside 10 = .ok (.aload_n 0, 1) := by decide +kernel
theorem dX12_beside_11 : decode cX12_beside 11 = .ok (.iload_n 2, 1) := by decide +kernel
theorem dX12_beside_12 : decode cX12_beside 12 = .ok (.invokevirtual 404, 3) := by decide +kernel
theorem dX12_beside_15 : decode cX12_beside 15 = .ok (.ifCond .eq 14, 3) := by decide +kernel
theorem dX12_beside_18 : decode cX12_beside 18 = .ok (.aload_n 0, 1) := by decide +kernel
theorem dX12_beside_19 : decode cX12_beside 19 = .ok (.iload_n 1, 1) := by decide +kernel
theorem dX12_beside_20 : decode cX12_beside 20 = .ok (.iload_n 2, 1) := by decide +kernel
theorem dX12_beside_21 : decode cX12_beside 21 = .ok (.invokevirtual 410, 3) := by decide +kernel
theorem dX12_beside_24 : decode cX12_beside 24 = .ok (.ifCond .eq 5, 3) := by decide +kernel
theorem dX12_beside_27 : decode cX12_beside 27 = .ok (.iload_n 2, 1) := by decide +kernel
theorem dX12_beside_28 : decode cX12_beside 28 = .ok (.ireturn, 1) := by decide +kernel
theorem dX12_beside_29 : decode cX12_beside 29 = .ok (.iinc 2 1, 3) := by decide +kernel
theorem dX12_beside_32 : decode cX12_beside 32 = .ok (.goto (-30), 3) := by decide +kernel
theorem dX12_beside_35 : decode cX12_beside 35 = .ok (.iconst (-1), 1) := by decide +kernel
theorem dX12_beside_36 : decode cX12_beside 36 = .ok (.ireturn, 1) := by decide +kernel
theorem dX12_lead_0 : decode cX12_lead 0 = .ok (.iload_n 0, 1) := by decide +kernel
theorem dX12_lead_1 : decode cX12_lead 1 = .ok (.iload_n 3, 1) := by decide +kernel
theorem dX12_lead_2 : decode cX12_lead 2 = .ok (.iload_n 1, 1) := by decide +kernel
theorem dX12_lead_3 : decode cX12_lead 3 = .ok (.isub, 1) := by decide +kernel
theorem dX12_lead_4 : decode cX12_lead 4 = .ok (.imul, 1) := by decide +kernel
theorem dX12_lead_5 : decode cX12_lead 5 = .ok (.iload_n 2, 1) := by decide +kernel
theorem dX12_lead_6 : decode cX12_lead 6 = .ok (.iload_n 0, 1) := by decide +kernel
theorem dX12_lead_7 : decode cX12_lead 7 = .ok (.isub, 1) := by decide +kernel
theorem dX12_lead_8 : decode cX12_lead 8 = .ok (.iload_n 1, 1) := by decide +kernel
theorem dX12_lead_9 : decode cX12_lead 9 = .ok (.imul, 1) := by decide +kernel
theorem dX12_lead_10 : decode cX12_lead 10 = .ok (.isub, 1) := by decide +kernel
theorem dX12_lead_11 : decode cX12_lead 11 = .ok (.ireturn, 1) := by decide +kernel
theorem dX12_bitsOf_0 : decode cX12_bitsOf 0 = .ok (.iconst 0, 1) := by decide +kernel
theorem dX12_bitsOf_1 : decode cX12_bitsOf 1 = .ok (.istore_n 1, 1) := by decide +kernel
theorem dX12_bitsOf_2 : decode cX12_bitsOf 2 = .ok (.iconst 0, 1) := by decide +kernel
theorem dX12_bitsOf_3 : decode cX12_bitsOf 3 = .ok (.istore_n 2, 1) := by decide +kernel
theorem dX12_bitsOf_4 : decode cX12_bitsOf 4 = .ok (.iload_n 2, 1) := by decide +kernel
theorem dX12_bitsOf_5 : decode cX12_bitsOf 5 = .ok (.bipush 12, 2) := by decide +kernel
theorem dX12_bitsOf_7 : decode cX12_bitsOf 7 = .ok (.if_icmp .ge 17, 3) := by decide +kernel
theorem dX12_bitsOf_10 : decode cX12_bitsOf 10 = .ok (.iload_n 1, 1) := by decide +kernel
theorem dX12_bitsOf_11 : decode cX12_bitsOf 11 = .ok (.iload_n 0, 1) := by decide +kernel
theorem dX12_bitsOf_12 : decode cX12_bitsOf 12 = .ok (.iload_n 2, 1) := by decide +kernel
theorem dX12_bitsOf_13 : decode cX12_bitsOf 13 = .ok (.ishr, 1) := by decide +kernel
theorem dX12_bitsOf_14 : decode cX12_bitsOf 14 = .ok (.iconst 1, 1) := by decide +kernel
theorem dX12_bitsOf_15 : decode cX12_bitsOf 15 = .ok (.iand, 1) := by decide +kernel
theorem dX12_bitsOf_16 : decode cX12_bitsOf 16 = .ok (.iadd, 1) := by decide +kernel
theorem dX12_bitsOf_17 : decode cX12_bitsOf 17 = .ok (.istore_n 1, 1) := by decide +kernel
theorem dX12_bitsOf_18 : decode cX12_bitsOf 18 = .ok (.iinc 2 1, 3) := by decide +kernel
theorem dX12_bitsOf_21 : decode cX12_bitsOf 21 = .ok (.goto (-17), 3) := by decide +kernel
theorem dX12_bitsOf_24 : decode cX12_bitsOf 24 = .ok (.iload_n 1, 1) := by decide +kernel
theorem dX12_bitsOf_25 : decode cX12_bitsOf 25 = .ok (.ireturn, 1) := by decide +kernel
theorem dX12_wished_0 : decode cX12_wished 0 = .ok (.aload_n 0, 1) := by decide +kernel
theorem dX12_wished_1 : decode cX12_wished 1 = .ok (.iload_n 1, 1) := by decide +kernel
theorem dX12_wished_2 : decode cX12_wished 2 = .ok (.invokevirtual 172, 3) := by decide +kernel
theorem dX12_wished_5 : decode cX12_wished 5 = .ok (.ifCond .eq 12, 3) := by decide +kernel
theorem dX12_wished_8 : decode cX12_wished 8 = .ok (.iload_n 2, 1) := by decide +kernel
theorem dX12_wished_9 : decode cX12_wished 9 = .ok (.iconst 0, 1) := by decide +kernel
theorem dX12_wished_10 : decode cX12_wished 10 = .ok (.iconst 3, 1) := by decide +kernel
theorem dX12_wished_11 : decode cX12_wished 11 = .ok (.invokestatic 168, 3) := by decide +kernel
theorem dX12_wished_14 : decode cX12_wished 14 = .ok (.ifCond .ne 7, 3) := by decide +kernel
theorem dX12_wished_17 : decode cX12_wished 17 = .ok (.ldc_w 475, 3) := by decide +kernel
theorem dX12_wished_20 : decode cX12_wished 20 = .ok (.ireturn, 1) := by decide +kernel
theorem dX12_wished_21 : decode cX12_wished 21 = .ok (.iconst 0, 1) := by decide +kernel
theorem dX12_wished_22 : decode cX12_wished 22 = .ok (.istore_n 3, 1) := by decide +kernel
theorem dX12_wished_23 : decode cX12_wished 23 = .ok (.iconst 0, 1) := by decide +kernel
theorem dX12_wished_24 : decode cX12_wished 24 = .ok (.istore 4, 2) := by decide +kernel
theorem dX12_wished_26 : decode cX12_wished 26 = .ok (.iconst 0, 1) := by decide +kernel
theorem dX12_wished_27 : decode cX12_wished 27 = .ok (.istore 5, 2) := by decide +kernel
theorem dX12_wished_29 : decode cX12_wished 29 = .ok (.iconst 0, 1) := by decide +kernel
theorem dX12_wished_30 : decode cX12_wished 30 = .ok (.istore 6, 2) := by decide +kernel
theorem dX12_wished_32 : decode cX12_wished 32 = .ok (.iconst 0, 1) := by decide +kernel
theorem dX12_wished_33 : decode cX12_wished 33 = .ok (.istore 7, 2) := by decide +kernel
theorem dX12_wished_35 : decode cX12_wished 35 = .ok (.iload 7, 2) := by decide +kernel
theorem dX12_wished_37 : decode cX12_wished 37 = .ok (.aload_n 0, 1) := by decide +kernel
theorem dX12_wished_38 : decode cX12_wished 38 = .ok (.getfield 182, 3) := by decide +kernel
theorem dX12_wished_41 : decode cX12_wished 41 = .ok (.if_icmp .ge 133, 3) := by decide +kernel
theorem dX12_wished_44 : decode cX12_wished 44 = .ok (.iload_n 3, 1) := by decide +kernel
theorem dX12_wished_45 : decode cX12_wished 45 = .ok (.bipush 12, 2) := by decide +kernel
theorem dX12_wished_47 : decode cX12_wished 47 = .ok (.if_icmp .ge 127, 3) := by decide +kernel
theorem dX12_wished_50 : decode cX12_wished 50 = .ok (.aload_n 0, 1) := by decide +kernel
theorem dX12_wished_51 : decode cX12_wished 51 = .ok (.iload 7, 2) := by decide +kernel
theorem dX12_wished_53 : decode cX12_wished 53 = .ok (.invokevirtual 404, 3) := by decide +kernel
theorem dX12_wished_56 : decode cX12_wished 56 = .ok (.ifCond .eq 22, 3) := by decide +kernel
theorem dX12_wished_59 : decode cX12_wished 59 = .ok (.aload_n 0, 1) := by decide +kernel
theorem dX12_wished_60 : decode cX12_wished 60 = .ok (.iload 7, 2) := by decide +kernel
theorem dX12_wished_62 : decode cX12_wished 62 = .ok (.invokevirtual 195, 3) := by decide +kernel
theorem dX12_wished_65 : decode cX12_wished 65 = .ok (.iload_n 1, 1) := by decide +kernel
theorem dX12_wished_66 : decode cX12_wished 66 = .ok (.if_icmp .ne 12, 3) := by decide +kernel
theorem dX12_wished_69 : decode cX12_wished 69 = .ok (.aload_n 0, 1) := by decide +kernel
theorem dX12_wished_70 : decode cX12_wished 70 = .ok (.iload 7, 2) := by decide +kernel
theorem dX12_wished_72 : decode cX12_wished 72 = .ok (.invokevirtual 476, 3) := by decide +kernel
theorem dX12_wished_75 : decode cX12_wished 75 = .ok (.goto 4, 3) := by decide +kernel
theorem dX12_wished_78 : decode cX12_wished 78 = .ok (.iconst (-1), 1) := by decide +kernel
theorem dX12_wished_79 : decode cX12_wished 79 = .ok (.istore 8, 2) := by decide +kernel
theorem dX12_wished_81 : decode cX12_wished 81 = .ok (.iload 8, 2) := by decide +kernel
theorem dX12_wished_83 : decode cX12_wished 83 = .ok (.ifCond .ge 6, 3) := by decide +kernel
theorem dX12_wished_86 : decode cX12_wished 86 = .ok (.goto 82, 3) := by decide +kernel
theorem dX12_wished_89 : decode cX12_wished 89 = .ok (.aload_n 0, 1) := by decide +kernel
theorem dX12_wished_90 : decode cX12_wished 90 = .ok (.getfield 128, 3) := by decide +kernel
theorem dX12_wished_93 : decode cX12_wished 93 = .ok (.iload_n 3, 1) := by decide +kernel
theorem dX12_wished_94 : decode cX12_wished 94 = .ok (.aload_n 0, 1) := by decide +kernel
theorem dX12_wished_95 : decode cX12_wished 95 = .ok (.getfield 54, 3) := by decide +kernel
theorem dX12_wished_98 : decode cX12_wished 98 = .ok (.iload 7, 2) := by decide +kernel
theorem dX12_wished_100 : decode cX12_wished 100 = .ok (.iaload, 1) := by decide +kernel
theorem dX12_wished_101 : decode cX12_wished 101 = .ok (.aload_n 0, 1) := by decide +kernel
theorem dX12_wished_102 : decode cX12_wished 102 = .ok (.getfield 54, 3) := by decide +kernel
theorem dX12_wished_105 : decode cX12_wished 105 = .ok (.iload 8, 2) := by decide +kernel
theorem dX12_wished_107 : decode cX12_wished 107 = .ok (.iaload, 1) := by decide +kernel
theorem dX12_wished_108 : decode cX12_wished 108 = .ok (.isub, 1) := by decide +kernel
theorem dX12_wished_109 : decode cX12_wished 109 = .ok (.iastore, 1) := by decide +kernel
theorem dX12_wished_110 : decode cX12_wished 110 = .ok (.aload_n 0, 1) := by decide +kernel
theorem dX12_wished_111 : decode cX12_wished 111 = .ok (.getfield 131, 3) := by decide +kernel
theorem dX12_wished_114 : decode cX12_wished 114 = .ok (.iload_n 3, 1) := by decide +kernel
theorem dX12_wished_115 : decode cX12_wished 115 = .ok (.aload_n 0, 1) := by decide +kernel
theorem dX12_wished_116 : decode cX12_wished 116 = .ok (.getfield 60, 3) := by decide +kernel
theorem dX12_wished_119 : decode cX12_wished 119 = .ok (.iload 7, 2) := by decide +kernel
theorem dX12_wished_121 : decode cX12_wished 121 = .ok (.iaload, 1) := by decide +kernel
theorem dX12_wished_122 : decode cX12_wished 122 = .ok (.ifCond .le 7, 3) := by decide +kernel
theorem dX12_wished_125 : decode cX12_wished 125 = .ok (.iconst 1, 1) := by decide +kernel
theorem dX12_wished_126 : decode cX12_wished 126 = .ok (.goto 4, 3) := by decide +kernel
theorem dX12_wished_129 : decode cX12_wished 129 = .ok (.iconst 0, 1) := by decide +kernel
theorem dX12_wished_130 : decode cX12_wished 130 = .ok (.bastore, 1) := by decide +kernel
theorem dX12_wished_131 : decode cX12_wished 131 = .ok (.iload 5, 2) := by decide +kernel
theorem dX12_wished_133 : decode cX12_wished 133 = .ok (.aload_n 0, 1) := by decide +kernel
theorem dX12_wished_134 : decode cX12_wished 134 = .ok (.getfield 128, 3) := by decide +kernel
theorem dX12_wished_137 : decode cX12_wished 137 = .ok (.iload_n 3, 1) := by decide +kernel
theorem dX12_wished_138 : decode cX12_wished 138 = .ok (.iaload, 1) := by decide +kernel
theorem dX12_wished_139 : decode cX12_wished 139 = .ok (.iadd, 1) := by decide +kernel
theorem dX12_wished_140 : decode cX12_wished 140 = .ok (.istore 5, 2) := by decide +kernel
theorem dX12_wished_142 : decode cX12_wished 142 = .ok (.aload_n 0, 1) := by decide +kernel
theorem dX12_wished_143 : decode cX12_wished 143 = .ok (.getfield 131, 3) := by decide +kernel
theorem dX12_wished_146 : decode cX12_wished 146 = .ok (.iload_n 3, 1) := by decide +kernel
theorem dX12_wished_147 : decode cX12_wished 147 = .ok (.baload, 1) := by decide +kernel
theorem dX12_wished_148 : decode cX12_wished 148 = .ok (.ifCond .eq 17, 3) := by decide +kernel
theorem dX12_wished_151 : decode cX12_wished 151 = .ok (.iinc 4 1, 3) := by decide +kernel
theorem dX12_wished_154 : decode cX12_wished 154 = .ok (.iload 6, 2) := by decide +kernel
theorem dX12_wished_156 : decode cX12_wished 156 = .ok (.aload_n 0, 1) := by decide +kernel
theorem dX12_wished_157 : decode cX12_wished 157 = .ok (.getfield 128, 3) := by decide +kernel
theorem dX12_wished_160 : decode cX12_wished 160 = .ok (.iload_n 3, 1) := by decide +kernel
theorem dX12_wished_161 : decode cX12_wished 161 = .ok (.iaload, 1) := by decide +kernel
theorem dX12_wished_162 : decode cX12_wished 162 = .ok (.iadd, 1) := by decide +kernel
theorem dX12_wished_163 : decode cX12_wished 163 = .ok (.istore 6, 2) := by decide +kernel
theorem dX12_wished_165 : decode cX12_wished 165 = .ok (.iinc 3 1, 3) := by decide +kernel
theorem dX12_wished_168 : decode cX12_wished 168 = .ok (.iinc 7 1, 3) := by decide +kernel
theorem dX12_wished_171 : decode cX12_wished 171 = .ok (.goto (-136), 3) := by decide +kernel
theorem dX12_wished_174 : decode cX12_wished 174 = .ok (.iload 6, 2) := by decide +kernel
theorem dX12_wished_176 : decode cX12_wished 176 = .ok (.iload 4, 2) := by decide +kernel
theorem dX12_wished_178 : decode cX12_wished 178 = .ok (.iload 5, 2) := by decide +kernel
theorem dX12_wished_180 : decode cX12_wished 180 = .ok (.iload_n 3, 1) := by decide +kernel
theorem dX12_wished_181 : decode cX12_wished 181 = .ok (.invokestatic 479, 3) := by decide +kernel
theorem dX12_wished_184 : decode cX12_wished 184 = .ok (.istore 7, 2) := by decide +kernel
theorem dX12_wished_186 : decode cX12_wished 186 = .ok (.iload_n 2, 1) := by decide +kernel
theorem dX12_wished_187 : decode cX12_wished 187 = .ok (.iconst 1, 1) := by decide +kernel
theorem dX12_wished_188 : decode cX12_wished 188 = .ok (.if_icmp .le 15, 3) := by decide +kernel
theorem dX12_wished_191 : decode cX12_wished 191 = .ok (.iload_n 2, 1) := by decide +kernel
theorem dX12_wished_192 : decode cX12_wished 192 = .ok (.iconst 2, 1) := by decide +kernel
theorem dX12_wished_193 : decode cX12_wished 193 = .ok (.if_icmp .ne 8, 3) := by decide +kernel
theorem dX12_wished_196 : decode cX12_wished 196 = .ok (.iload 7, 2) := by decide +kernel
theorem dX12_wished_198 : decode cX12_wished 198 = .ok (.goto 4, 3) := by decide +kernel
theorem dX12_wished_201 : decode cX12_wished 201 = .ok (.iload_n 3, 1) := by decide +kernel
theorem dX12_wished_202 : decode cX12_wished 202 = .ok (.ireturn, 1) := by decide +kernel
theorem dX12_wished_203 : decode cX12_wished 203 = .ok (.iconst 0, 1) := by decide +kernel
theorem dX12_wished_204 : decode cX12_wished 204 = .ok (.istore 8, 2) := by decide +kernel
theorem dX12_wished_206 : decode cX12_wished 206 = .ok (.iconst 0, 1) := by decide +kernel
theorem dX12_wished_207 : decode cX12_wished 207 = .ok (.istore 9, 2) := by decide +kernel
theorem dX12_wished_209 : decode cX12_wished 209 = .ok (.iload 9, 2) := by decide +kernel
theorem dX12_wished_211 : decode cX12_wished 211 = .ok (.iconst 1, 1) := by decide +kernel
theorem dX12_wished_212 : decode cX12_wished 212 = .ok (.iload_n 3, 1) := by decide +kernel
theorem dX12_wished_213 : decode cX12_wished 213 = .ok (.ishl, 1) := by decide +kernel
theorem dX12_wished_214 : decode cX12_wished 214 = .ok (.if_icmp .ge 97, 3) := by decide +kernel
theorem dX12_wished_217 : decode cX12_wished 217 = .ok (.iload 9, 2) := by decide +kernel
theorem dX12_wished_219 : decode cX12_wished 219 = .ok (.invokestatic 483, 3) := by decide +kernel
theorem dX12_wished_222 : decode cX12_wished 222 = .ok (.iload 4, 2) := by decide +kernel
theorem dX12_wished_224 : decode cX12_wished 224 = .ok (.if_icmp .eq 6, 3) := by decide +kernel
theorem dX12_wished_227 : decode cX12_wished 227 = .ok (.goto 78, 3) := by decide +kernel
theorem dX12_wished_230 : decode cX12_wished 230 = .ok (.iconst 0, 1) := by decide +kernel
theorem dX12_wished_231 : decode cX12_wished 231 = .ok (.istore 10, 2) := by decide +kernel
theorem dX12_wished_233 : decode cX12_wished 233 = .ok (.iconst 0, 1) := by decide +kernel
theorem dX12_wished_234 : decode cX12_wished 234 = .ok (.istore 11, 2) := by decide +kernel
theorem dX12_wished_236 : decode cX12_wished 236 = .ok (.iload 11, 2) := by decide +kernel
theorem dX12_wished_238 : decode cX12_wished 238 = .ok (.iload_n 3, 1) := by decide +kernel
theorem dX12_wished_239 : decode cX12_wished 239 = .ok (.if_icmp .ge 36, 3) := by decide +kernel
theorem dX12_wished_242 : decode cX12_wished 242 = .ok (.iload 10, 2) := by decide +kernel
theorem dX12_wished_244 : decode cX12_wished 244 = .ok (.iload 9, 2) := by decide +kernel
theorem dX12_wished_246 : decode cX12_wished 246 = .ok (.iload 11, 2) := by decide +kernel
theorem dX12_wished_248 : decode cX12_wished 248 = .ok (.ishr, 1) := by decide +kernel
theorem dX12_wished_249 : decode cX12_wished 249 = .ok (.iconst 1, 1) := by decide +kernel
theorem dX12_wished_250 : decode cX12_wished 250 = .ok (.iand, 1) := by decide +kernel
theorem dX12_wished_251 : decode cX12_wished 251 = .ok (.iconst 1, 1) := by decide +kernel
theorem dX12_wished_252 : decode cX12_wished 252 = .ok (.if_icmp .ne 13, 3) := by decide +kernel
theorem dX12_wished_255 : decode cX12_wished 255 = .ok (.aload_n 0, 1) := by decide +kernel
theorem dX12_wished_256 : decode cX12_wished 256 = .ok (.getfield 128, 3) := by decide +kernel
theorem dX12_wished_259 : decode cX12_wished 259 = .ok (.iload 11, 2) := by decide +kernel
theorem dX12_wished_261 : decode cX12_wished 261 = .ok (.iaload, 1) := by decide +kernel
theorem dX12_wished_262 : decode cX12_wished 262 = .ok (.goto 4, 3) := by decide +kernel
theorem dX12_wished_265 : decode cX12_wished 265 = .ok (.iconst 0, 1) := by decide +kernel
theorem dX12_wished_266 : decode cX12_wished 266 = .ok (.iadd, 1) := by decide +kernel
theorem dX12_wished_267 : decode cX12_wished 267 = .ok (.istore 10, 2) := by decide +kernel
theorem dX12_wished_269 : decode cX12_wished 269 = .ok (.iinc 11 1, 3) := by decide +kernel
theorem dX12_wished_272 : decode cX12_wished 272 = .ok (.goto (-36), 3) := by decide +kernel
theorem dX12_wished_275 : decode cX12_wished 275 = .ok (.iload 8, 2) := by decide +kernel
theorem dX12_wished_277 : decode cX12_wished 277 = .ok (.iload_n 2, 1) := by decide +kernel
theorem dX12_wished_278 : decode cX12_wished 278 = .ok (.iconst 1, 1) := by decide +kernel
theorem dX12_wished_279 : decode cX12_wished 279 = .ok (.if_icmp .eq 18, 3) := by decide +kernel
theorem dX12_wished_282 : decode cX12_wished 282 = .ok (.iload 10, 2) := by decide +kernel
theorem dX12_wished_284 : decode cX12_wished 284 = .ok (.iload 4, 2) := by decide +kernel
theorem dX12_wished_286 : decode cX12_wished 286 = .ok (.iload 5, 2) := by decide +kernel
theorem dX12_wished_288 : decode cX12_wished 288 = .ok (.iload_n 3, 1) := by decide +kernel
theorem dX12_wished_289 : decode cX12_wished 289 = .ok (.invokestatic 479, 3) := by decide +kernel
theorem dX12_wished_292 : decode cX12_wished 292 = .ok (.iload 7, 2) := by decide +kernel
theorem dX12_wished_294 : decode cX12_wished 294 = .ok (.if_icmp .lt 7, 3) := by decide +kernel
theorem dX12_wished_297 : decode cX12_wished 297 = .ok (.iconst 1, 1) := by decide +kernel
theorem dX12_wished_298 : decode cX12_wished 298 = .ok (.goto 4, 3) := by decide +kernel
theorem dX12_wished_301 : decode cX12_wished 301 = .ok (.iconst 0, 1) := by decide +kernel
theorem dX12_wished_302 : decode cX12_wished 302 = .ok (.iadd, 1) := by decide +kernel
theorem dX12_wished_303 : decode cX12_wished 303 = .ok (.istore 8, 2) := by decide +kernel
theorem dX12_wished_305 : decode cX12_wished 305 = .ok (.iinc 9 1, 3) := by decide +kernel
theorem dX12_wished_308 : decode cX12_wished 308 = .ok (.goto (-99), 3) := by decide +kernel
theorem dX12_wished_311 : decode cX12_wished 311 = .ok (.iload 8, 2) := by decide +kernel
theorem dX12_wished_313 : decode cX12_wished 313 = .ok (.ireturn, 1) := by decide +kernel
theorem dX12_eight_0 : decode cX12_eight 0 = .ok (.iload_n 1, 1) := by decide +kernel
theorem dX12_eight_1 : decode cX12_eight 1 = .ok (.iconst 0, 1) := by decide +kernel
theorem dX12_eight_2 : decode cX12_eight 2 = .ok (.bipush 12, 2) := by decide +kernel
theorem dX12_eight_4 : decode cX12_eight 4 = .ok (.invokestatic 168, 3) := by decide +kernel
theorem dX12_eight_7 : decode cX12_eight 7 = .ok (.ifCond .eq 34, 3) := by decide +kernel
theorem dX12_eight_10 : decode cX12_eight 10 = .ok (.iload_n 2, 1) := by decide +kernel
theorem dX12_eight_11 : decode cX12_eight 11 = .ok (.iconst 0, 1) := by decide +kernel
theorem dX12_eight_12 : decode cX12_eight 12 = .ok (.bipush 99, 2) := by decide +kernel
theorem dX12_eight_14 : decode cX12_eight 14 = .ok (.invokestatic 168, 3) := by decide +kernel
theorem dX12_eight_17 : decode cX12_eight 17 = .ok (.ifCond .eq 24, 3) := by decide +kernel
theorem dX12_eight_20 : decode cX12_eight 20 = .ok (.iload_n 3, 1) := by decide +kernel
theorem dX12_eight_21 : decode cX12_eight 21 = .ok (.iconst 0, 1) := by decide +kernel
theorem dX12_eight_22 : decode cX12_eight 22 = .ok (.sipush 9999, 3) := by decide +kernel
theorem dX12_eight_25 : decode cX12_eight 25 = .ok (.invokestatic 168, 3) := by decide +kernel
theorem dX12_eight_28 : decode cX12_eight 28 = .ok (.ifCond .eq 13, 3) := by decide +kernel
theorem dX12_eight_31 : decode cX12_eight 31 = .ok (.iload 4, 2) := by decide +kernel
theorem dX12_eight_33 : decode cX12_eight 33 = .ok (.iconst 0, 1) := by decide +kernel
theorem dX12_eight_34 : decode cX12_eight 34 = .ok (.iconst 3, 1) := by decide +kernel
theorem dX12_eight_35 : decode cX12_eight 35 = .ok (.invokestatic 168, 3) := by decide +kernel
theorem dX12_eight_38 : decode cX12_eight 38 = .ok (.ifCond .ne 7, 3) := by decide +kernel
theorem dX12_eight_41 : decode cX12_eight 41 = .ok (.ldc_w 486, 3) := by decide +kernel
theorem dX12_eight_44 : decode cX12_eight 44 = .ok (.ireturn, 1) := by decide +kernel
theorem dX12_eight_45 : decode cX12_eight 45 = .ok (.iconst 0, 1) := by decide +kernel
theorem dX12_eight_46 : decode cX12_eight 46 = .ok (.istore 5, 2) := by decide +kernel
theorem dX12_eight_48 : decode cX12_eight 48 = .ok (.iconst 0, 1) := by decide +kernel
theorem dX12_eight_49 : decode cX12_eight 49 = .ok (.istore 6, 2) := by decide +kernel
theorem dX12_eight_51 : decode cX12_eight 51 = .ok (.iconst 0, 1) := by decide +kernel
theorem dX12_eight_52 : decode cX12_eight 52 = .ok (.istore 7, 2) := by decide +kernel
theorem dX12_eight_54 : decode cX12_eight 54 = .ok (.iconst 0, 1) := by decide +kernel
theorem dX12_eight_55 : decode cX12_eight 55 = .ok (.istore 8, 2) := by decide +kernel
theorem dX12_eight_57 : decode cX12_eight 57 = .ok (.iload 8, 2) := by decide +kernel
theorem dX12_eight_59 : decode cX12_eight 59 = .ok (.aload_n 0, 1) := by decide +kernel
theorem dX12_eight_60 : decode cX12_eight 60 = .ok (.getfield 182, 3) := by decide +kernel
theorem dX12_eight_63 : decode cX12_eight 63 = .ok (.if_icmp .ge 104, 3) := by decide +kernel
theorem dX12_eight_66 : decode cX12_eight 66 = .ok (.iconst 0, 1) := by decide +kernel
theorem dX12_eight_67 : decode cX12_eight 67 = .ok (.istore 9, 2) := by decide +kernel
theorem dX12_eight_69 : decode cX12_eight 69 = .ok (.iload 9, 2) := by decide +kernel
theorem dX12_eight_71 : decode cX12_eight 71 = .ok (.aload_n 0, 1) := by decide +kernel
theorem dX12_eight_72 : decode cX12_eight 72 = .ok (.getfield 182, 3) := by decide +kernel
theorem dX12_eight_75 : decode cX12_eight 75 = .ok (.if_icmp .ge 86, 3) := by decide +kernel
theorem dX12_eight_78 : decode cX12_eight 78 = .ok (.aload_n 0, 1) := by decide +kernel
theorem dX12_eight_79 : decode cX12_eight 79 = .ok (.iload 8, 2) := by decide +kernel
theorem dX12_eight_81 : decode cX12_eight 81 = .ok (.invokevirtual 404, 3) := by decide +kernel
theorem dX12_eight_84 : decode cX12_eight 84 = .ok (.ifCond .eq 71, 3) := by decide +kernel
theorem dX12_eight_87 : decode cX12_eight 87 = .ok (.aload_n 0, 1) := by decide +kernel
theorem dX12_eight_88 : decode cX12_eight 88 = .ok (.iload 9, 2) := by decide +kernel
theorem dX12_eight_90 : decode cX12_eight 90 = .ok (.invokevirtual 404, 3) := by decide +kernel
theorem dX12_eight_93 : decode cX12_eight 93 = .ok (.ifCond .ne 62, 3) := by decide +kernel
theorem dX12_eight_96 : decode cX12_eight 96 = .ok (.aload_n 0, 1) := by decide +kernel
theorem dX12_eight_97 : decode cX12_eight 97 = .ok (.iload 8, 2) := by decide +kernel
theorem dX12_eight_99 : decode cX12_eight 99 = .ok (.iload 9, 2) := by decide +kernel
theorem dX12_eight_101 : decode cX12_eight 101 = .ok (.invokevirtual 410, 3) := by decide +kernel
theorem dX12_eight_104 : decode cX12_eight 104 = .ok (.ifCond .ne 6, 3) := by decide +kernel
theorem dX12_eight_107 : decode cX12_eight 107 = .ok (.goto 48, 3) := by decide +kernel
theorem dX12_eight_110 : decode cX12_eight 110 = .ok (.iinc 5 1, 3) := by decide +kernel
theorem dX12_eight_113 : decode cX12_eight 113 = .ok (.iload 6, 2) := by decide +kernel
theorem dX12_eight_115 : decode cX12_eight 115 = .ok (.aload_n 0, 1) := by decide +kernel
theorem dX12_eight_116 : decode cX12_eight 116 = .ok (.getfield 54, 3) := by decide +kernel
theorem dX12_eight_119 : decode cX12_eight 119 = .ok (.iload 8, 2) := by decide +kernel
theorem dX12_eight_121 : decode cX12_eight 121 = .ok (.iaload, 1) := by decide +kernel
theorem dX12_eight_122 : decode cX12_eight 122 = .ok (.iload_n 1, 1) := by decide +kernel
theorem dX12_eight_123 : decode cX12_eight 123 = .ok (.if_icmp .lt 7, 3) := by decide +kernel
theorem dX12_eight_126 : decode cX12_eight 126 = .ok (.iconst 1, 1) := by decide +kernel
theorem dX12_eight_127 : decode cX12_eight 127 = .ok (.goto 4, 3) := by decide +kernel
theorem dX12_eight_130 : decode cX12_eight 130 = .ok (.iconst 0, 1) := by decide +kernel
theorem dX12_eight_131 : decode cX12_eight 131 = .ok (.iadd, 1) := by decide +kernel
theorem dX12_eight_132 : decode cX12_eight 132 = .ok (.istore 6, 2) := by decide +kernel
theorem dX12_eight_134 : decode cX12_eight 134 = .ok (.iload 7, 2) := by decide +kernel
theorem dX12_eight_136 : decode cX12_eight 136 = .ok (.aload_n 0, 1) := by decide +kernel
theorem dX12_eight_137 : decode cX12_eight 137 = .ok (.getfield 54, 3) := by decide +kernel
theorem dX12_eight_140 : decode cX12_eight 140 = .ok (.iload 9, 2) := by decide +kernel
theorem dX12_eight_142 : decode cX12_eight 142 = .ok (.iaload, 1) := by decide +kernel
theorem dX12_eight_143 : decode cX12_eight 143 = .ok (.iload_n 2, 1) := by decide +kernel
theorem dX12_eight_144 : decode cX12_eight 144 = .ok (.if_icmp .lt 7, 3) := by decide +kernel
theorem dX12_eight_147 : decode cX12_eight 147 = .ok (.iconst 1, 1) := by decide +kernel
theorem dX12_eight_148 : decode cX12_eight 148 = .ok (.goto 4, 3) := by decide +kernel
theorem dX12_eight_151 : decode cX12_eight 151 = .ok (.iconst 0, 1) := by decide +kernel
theorem dX12_eight_152 : decode cX12_eight 152 = .ok (.iadd, 1) := by decide +kernel
theorem dX12_eight_153 : decode cX12_eight 153 = .ok (.istore 7, 2) := by decide +kernel
theorem dX12_eight_155 : decode cX12_eight 155 = .ok (.iinc 9 1, 3) := by decide +kernel
theorem dX12_eight_158 : decode cX12_eight 158 = .ok (.goto (-89), 3) := by decide +kernel
theorem dX12_eight_161 : decode cX12_eight 161 = .ok (.iinc 8 1, 3) := by decide +kernel
theorem dX12_eight_164 : decode cX12_eight 164 = .ok (.goto (-107), 3) := by decide +kernel
theorem dX12_eight_167 : decode cX12_eight 167 = .ok (.iload 4, 2) := by decide +kernel
theorem dX12_eight_169 : decode cX12_eight 169 = .ok (.ifCond .ne 8, 3) := by decide +kernel
theorem dX12_eight_172 : decode cX12_eight 172 = .ok (.iload 5, 2) := by decide +kernel
theorem dX12_eight_174 : decode cX12_eight 174 = .ok (.goto 32, 3) := by decide +kernel
theorem dX12_eight_177 : decode cX12_eight 177 = .ok (.iload 4, 2) := by decide +kernel
theorem dX12_eight_179 : decode cX12_eight 179 = .ok (.iconst 1, 1) := by decide +kernel
theorem dX12_eight_180 : decode cX12_eight 180 = .ok (.if_icmp .ne 8, 3) := by decide +kernel
theorem dX12_eight_183 : decode cX12_eight 183 = .ok (.iload 6, 2) := by decide +kernel
theorem dX12_eight_185 : decode cX12_eight 185 = .ok (.goto 21, 3) := by decide +kernel
theorem dX12_eight_188 : decode cX12_eight 188 = .ok (.iload 4, 2) := by decide +kernel
theorem dX12_eight_190 : decode cX12_eight 190 = .ok (.iconst 2, 1) := by decide +kernel
theorem dX12_eight_191 : decode cX12_eight 191 = .ok (.if_icmp .ne 8, 3) := by decide +kernel
theorem dX12_eight_194 : decode cX12_eight 194 = .ok (.iload 7, 2) := by decide +kernel
theorem dX12_eight_196 : decode cX12_eight 196 = .ok (.goto 10, 3) := by decide +kernel
theorem dX12_eight_199 : decode cX12_eight 199 = .ok (.iload_n 3, 1) := by decide +kernel
theorem dX12_eight_200 : decode cX12_eight 200 = .ok (.iload 6, 2) := by decide +kernel
theorem dX12_eight_202 : decode cX12_eight 202 = .ok (.iload 7, 2) := by decide +kernel
theorem dX12_eight_204 : decode cX12_eight 204 = .ok (.isub, 1) := by decide +kernel
theorem dX12_eight_205 : decode cX12_eight 205 = .ok (.imul, 1) := by decide +kernel
theorem dX12_eight_206 : decode cX12_eight 206 = .ok (.ireturn, 1) := by decide +kernel
theorem dX12_unlikeBy_0 : decode cX12_unlikeBy 0 = .ok (.iconst 0, 1) := by decide +kernel
theorem dX12_unlikeBy_1 : decode cX12_unlikeBy 1 = .ok (.istore_n 2, 1) := by decide +kernel
theorem dX12_unlikeBy_2 : decode cX12_unlikeBy 2 = .ok (.iload_n 2, 1) := by decide +kernel
theorem dX12_unlikeBy_3 : decode cX12_unlikeBy 3 = .ok (.aload_n 0, 1) := by decide +kernel
theorem dX12_unlikeBy_4 : decode cX12_unlikeBy 4 = .ok (.getfield 182, 3) := by decide +kernel
theorem dX12_unlikeBy_7 : decode cX12_unlikeBy 7 = .ok (.if_icmp .ge 61, 3) := by decide +kernel
theorem dX12_unlikeBy_10 : decode cX12_unlikeBy 10 = .ok (.aload_n 0, 1) := by decide +kernel
theorem dX12_unlikeBy_11 : decode cX12_unlikeBy 11 = .ok (.getfield 134, 3) := by decide +kernel
theorem dX12_unlikeBy_14 : decode cX12_unlikeBy 14 = .ok (.iload_n 2, 1) := by decide +kernel
theorem dX12_unlikeBy_15 : decode cX12_unlikeBy 15 = .ok (.aload_n 0, 1) := by decide +kernel
theorem dX12_unlikeBy_16 : decode cX12_unlikeBy 16 = .ok (.iload_n 2, 1) := by decide +kernel
theorem dX12_unlikeBy_17 : decode cX12_unlikeBy 17 = .ok (.invokevirtual 404, 3) := by decide +kernel
theorem dX12_unlikeBy_20 : decode cX12_unlikeBy 20 = .ok (.ifCond .eq 40, 3) := by decide +kernel
theorem dX12_unlikeBy_23 : decode cX12_unlikeBy 23 = .ok (.aload_n 0, 1) := by decide +kernel
theorem dX12_unlikeBy_24 : decode cX12_unlikeBy 24 = .ok (.aload_n 0, 1) := by decide +kernel
theorem dX12_unlikeBy_25 : decode cX12_unlikeBy 25 = .ok (.getfield 51, 3) := by decide +kernel
theorem dX12_unlikeBy_28 : decode cX12_unlikeBy 28 = .ok (.iload_n 2, 1) := by decide +kernel
theorem dX12_unlikeBy_29 : decode cX12_unlikeBy 29 = .ok (.iaload, 1) := by decide +kernel
theorem dX12_unlikeBy_30 : decode cX12_unlikeBy 30 = .ok (.aload_n 0, 1) := by decide +kernel
theorem dX12_unlikeBy_31 : decode cX12_unlikeBy 31 = .ok (.iload_n 2, 1) := by decide +kernel
theorem dX12_unlikeBy_32 : decode cX12_unlikeBy 32 = .ok (.invokevirtual 424, 3) := by decide +kernel
theorem dX12_unlikeBy_35 : decode cX12_unlikeBy 35 = .ok (.aload_n 0, 1) := by decide +kernel
theorem dX12_unlikeBy_36 : decode cX12_unlikeBy 36 = .ok (.getfield 54, 3) := by decide +kernel
theorem dX12_unlikeBy_39 : decode cX12_unlikeBy 39 = .ok (.iload_n 2, 1) := by decide +kernel
theorem dX12_unlikeBy_40 : decode cX12_unlikeBy 40 = .ok (.iaload, 1) := by decide +kernel
theorem dX12_unlikeBy_41 : decode cX12_unlikeBy 41 = .ok (.iload_n 1, 1) := by decide +kernel
theorem dX12_unlikeBy_42 : decode cX12_unlikeBy 42 = .ok (.aload_n 0, 1) := by decide +kernel
theorem dX12_unlikeBy_43 : decode cX12_unlikeBy 43 = .ok (.iload_n 2, 1) := by decide +kernel
theorem dX12_unlikeBy_44 : decode cX12_unlikeBy 44 = .ok (.invokevirtual 424, 3) := by decide +kernel
theorem dX12_unlikeBy_47 : decode cX12_unlikeBy 47 = .ok (.invokevirtual 399, 3) := by decide +kernel
theorem dX12_unlikeBy_50 : decode cX12_unlikeBy 50 = .ok (.ifCond .eq 10, 3) := by decide +kernel
theorem dX12_unlikeBy_53 : decode cX12_unlikeBy 53 = .ok (.aload_n 0, 1) := by decide +kernel
theorem dX12_unlikeBy_54 : decode cX12_unlikeBy 54 = .ok (.getfield 393, 3) := by decide +kernel
theorem dX12_unlikeBy_57 : decode cX12_unlikeBy 57 = .ok (.goto 4, 3) := by decide +kernel
theorem dX12_unlikeBy_60 : decode cX12_unlikeBy 60 = .ok (.iconst (-1), 1) := by decide +kernel
theorem dX12_unlikeBy_61 : decode cX12_unlikeBy 61 = .ok (.iastore, 1) := by decide +kernel
theorem dX12_unlikeBy_62 : decode cX12_unlikeBy 62 = .ok (.iinc 2 1, 3) := by decide +kernel
theorem dX12_unlikeBy_65 : decode cX12_unlikeBy 65 = .ok (.goto (-63), 3) := by decide +kernel
theorem dX12_unlikeBy_68 : decode cX12_unlikeBy 68 = .ok (.iconst 0, 1) := by decide +kernel
theorem dX12_unlikeBy_69 : decode cX12_unlikeBy 69 = .ok (.istore_n 2, 1) := by decide +kernel
theorem dX12_unlikeBy_70 : decode cX12_unlikeBy 70 = .ok (.iconst 0, 1) := by decide +kernel
theorem dX12_unlikeBy_71 : decode cX12_unlikeBy 71 = .ok (.istore_n 3, 1) := by decide +kernel
theorem dX12_unlikeBy_72 : decode cX12_unlikeBy 72 = .ok (.iload_n 3, 1) := by decide +kernel
theorem dX12_unlikeBy_73 : decode cX12_unlikeBy 73 = .ok (.aload_n 0, 1) := by decide +kernel
theorem dX12_unlikeBy_74 : decode cX12_unlikeBy 74 = .ok (.getfield 182, 3) := by decide +kernel
theorem dX12_unlikeBy_77 : decode cX12_unlikeBy 77 = .ok (.if_icmp .ge 78, 3) := by decide +kernel
theorem dX12_unlikeBy_80 : decode cX12_unlikeBy 80 = .ok (.iload_n 3, 1) := by decide +kernel
theorem dX12_unlikeBy_81 : decode cX12_unlikeBy 81 = .ok (.iconst 1, 1) := by decide +kernel
theorem dX12_unlikeBy_82 : decode cX12_unlikeBy 82 = .ok (.iadd, 1) := by decide +kernel
theorem dX12_unlikeBy_83 : decode cX12_unlikeBy 83 = .ok (.istore 4, 2) := by decide +kernel
theorem dX12_unlikeBy_85 : decode cX12_unlikeBy 85 = .ok (.iload 4, 2) := by decide +kernel
theorem dX12_unlikeBy_87 : decode cX12_unlikeBy 87 = .ok (.aload_n 0, 1) := by decide +kernel
theorem dX12_unlikeBy_88 : decode cX12_unlikeBy 88 = .ok (.getfield 182, 3) := by decide +kernel
theorem dX12_unlikeBy_91 : decode cX12_unlikeBy 91 = .ok (.if_icmp .ge 58, 3) := by decide +kernel
theorem dX12_unlikeBy_94 : decode cX12_unlikeBy 94 = .ok (.aload_n 0, 1) := by decide +kernel
theorem dX12_unlikeBy_95 : decode cX12_unlikeBy 95 = .ok (.getfield 134, 3) := by decide +kernel
theorem dX12_unlikeBy_98 : decode cX12_unlikeBy 98 = .ok (.iload_n 3, 1) := by decide +kernel
theorem dX12_unlikeBy_99 : decode cX12_unlikeBy 99 = .ok (.iaload, 1) := by decide +kernel
theorem dX12_unlikeBy_100 : decode cX12_unlikeBy 100 = .ok (.ifCond .lt 43, 3) := by decide +kernel
theorem dX12_unlikeBy_103 : decode cX12_unlikeBy 103 = .ok (.aload_n 0, 1) := by decide +kernel
theorem dX12_unlikeBy_104 : decode cX12_unlikeBy 104 = .ok (.getfield 134, 3) := by decide +kernel
theorem dX12_unlikeBy_107 : decode cX12_unlikeBy 107 = .ok (.iload 4, 2) := by decide +kernel
theorem dX12_unlikeBy_109 : decode cX12_unlikeBy 109 = .ok (.iaload, 1) := by decide +kernel
theorem dX12_unlikeBy_110 : decode cX12_unlikeBy 110 = .ok (.ifCond .lt 33, 3) := by decide +kernel
theorem dX12_unlikeBy_113 : decode cX12_unlikeBy 113 = .ok (.aload_n 0, 1) := by decide +kernel
theorem dX12_unlikeBy_114 : decode cX12_unlikeBy 114 = .ok (.iload_n 3, 1) := by decide +kernel
theorem dX12_unlikeBy_115 : decode cX12_unlikeBy 115 = .ok (.iload 4, 2) := by decide +kernel
theorem dX12_unlikeBy_117 : decode cX12_unlikeBy 117 = .ok (.invokevirtual 410, 3) := by decide +kernel
theorem dX12_unlikeBy_120 : decode cX12_unlikeBy 120 = .ok (.ifCond .eq 23, 3) := by decide +kernel
theorem dX12_unlikeBy_123 : decode cX12_unlikeBy 123 = .ok (.iload_n 2, 1) := by decide +kernel
theorem dX12_unlikeBy_124 : decode cX12_unlikeBy 124 = .ok (.aload_n 0, 1) := by decide +kernel
theorem dX12_unlikeBy_125 : decode cX12_unlikeBy 125 = .ok (.getfield 134, 3) := by decide +kernel
theorem dX12_unlikeBy_128 : decode cX12_unlikeBy 128 = .ok (.iload_n 3, 1) := by decide +kernel
theorem dX12_unlikeBy_129 : decode cX12_unlikeBy 129 = .ok (.iaload, 1) := by decide +kernel
theorem dX12_unlikeBy_130 : decode cX12_unlikeBy 130 = .ok (.aload_n 0, 1) := by decide +kernel
theorem dX12_unlikeBy_131 : decode cX12_unlikeBy 131 = .ok (.getfield 134, 3) := by decide +kernel
theorem dX12_unlikeBy_134 : decode cX12_unlikeBy 134 = .ok (.iload 4, 2) := by decide +kernel
theorem dX12_unlikeBy_136 : decode cX12_unlikeBy 136 = .ok (.iaload, 1) := by decide +kernel
theorem dX12_unlikeBy_137 : decode cX12_unlikeBy 137 = .ok (.isub, 1) := by decide +kernel
theorem dX12_unlikeBy_138 : decode cX12_unlikeBy 138 = .ok (.invokestatic 189, 3) := by decide +kernel
theorem dX12_unlikeBy_141 : decode cX12_unlikeBy 141 = .ok (.iadd, 1) := by decide +kernel
theorem dX12_unlikeBy_142 : decode cX12_unlikeBy 142 = .ok (.istore_n 2, 1) := by decide +kernel
theorem dX12_unlikeBy_143 : decode cX12_unlikeBy 143 = .ok (.iinc 4 1, 3) := by decide +kernel
theorem dX12_unlikeBy_146 : decode cX12_unlikeBy 146 = .ok (.goto (-61), 3) := by decide +kernel
theorem dX12_unlikeBy_149 : decode cX12_unlikeBy 149 = .ok (.iinc 3 1, 3) := by decide +kernel
theorem dX12_unlikeBy_152 : decode cX12_unlikeBy 152 = .ok (.goto (-80), 3) := by decide +kernel
theorem dX12_unlikeBy_155 : decode cX12_unlikeBy 155 = .ok (.iload_n 2, 1) := by decide +kernel
theorem dX12_unlikeBy_156 : decode cX12_unlikeBy 156 = .ok (.ireturn, 1) := by decide +kernel
theorem dX12_alike_0 : decode cX12_alike 0 = .ok (.iload_n 1, 1) := by decide +kernel
theorem dX12_alike_1 : decode cX12_alike 1 = .ok (.iconst 0, 1) := by decide +kernel
theorem dX12_alike_2 : decode cX12_alike 2 = .ok (.aload_n 0, 1) := by decide +kernel
theorem dX12_alike_3 : decode cX12_alike 3 = .ok (.getfield 345, 3) := by decide +kernel
theorem dX12_alike_6 : decode cX12_alike 6 = .ok (.iconst 1, 1) := by decide +kernel
theorem dX12_alike_7 : decode cX12_alike 7 = .ok (.isub, 1) := by decide +kernel
theorem dX12_alike_8 : decode cX12_alike 8 = .ok (.invokestatic 168, 3) := by decide +kernel
theorem dX12_alike_11 : decode cX12_alike 11 = .ok (.ifCond .eq 9, 3) := by decide +kernel
theorem dX12_alike_14 : decode cX12_alike 14 = .ok (.aload_n 0, 1) := by decide +kernel
theorem dX12_alike_15 : decode cX12_alike 15 = .ok (.iload_n 1, 1) := by decide +kernel
theorem dX12_alike_16 : decode cX12_alike 16 = .ok (.invokevirtual 487, 3) := by decide +kernel
theorem dX12_alike_19 : decode cX12_alike 19 = .ok (.ireturn, 1) := by decide +kernel
theorem dX12_alike_20 : decode cX12_alike 20 = .ok (.iload_n 1, 1) := by decide +kernel
theorem dX12_alike_21 : decode cX12_alike 21 = .ok (.iconst (-1), 1) := by decide +kernel
theorem dX12_alike_22 : decode cX12_alike 22 = .ok (.if_icmp .eq 5, 3) := by decide +kernel
theorem dX12_alike_25 : decode cX12_alike 25 = .ok (.iconst (-1), 1) := by decide +kernel
theorem dX12_alike_26 : decode cX12_alike 26 = .ok (.ireturn, 1) := by decide +kernel
theorem dX12_alike_27 : decode cX12_alike 27 = .ok (.iconst (-1), 1) := by decide +kernel
theorem dX12_alike_28 : decode cX12_alike 28 = .ok (.istore_n 2, 1) := by decide +kernel
theorem dX12_alike_29 : decode cX12_alike 29 = .ok (.iconst 0, 1) := by decide +kernel
theorem dX12_alike_30 : decode cX12_alike 30 = .ok (.istore_n 3, 1) := by decide +kernel
theorem dX12_alike_31 : decode cX12_alike 31 = .ok (.iconst 0, 1) := by decide +kernel
theorem dX12_alike_32 : decode cX12_alike 32 = .ok (.istore 4, 2) := by decide +kernel
theorem dX12_alike_34 : decode cX12_alike 34 = .ok (.iload 4, 2) := by decide +kernel
theorem dX12_alike_36 : decode cX12_alike 36 = .ok (.aload_n 0, 1) := by decide +kernel
theorem dX12_alike_37 : decode cX12_alike 37 = .ok (.getfield 345, 3) := by decide +kernel
theorem dX12_alike_40 : decode cX12_alike 40 = .ok (.if_icmp .ge 36, 3) := by decide +kernel
theorem dX12_alike_43 : decode cX12_alike 43 = .ok (.aload_n 0, 1) := by decide +kernel
theorem dX12_alike_44 : decode cX12_alike 44 = .ok (.iload 4, 2) := by decide +kernel
theorem dX12_alike_46 : decode cX12_alike 46 = .ok (.invokevirtual 487, 3) := by decide +kernel
theorem dX12_alike_49 : decode cX12_alike 49 = .ok (.istore 5, 2) := by decide +kernel
theorem dX12_alike_51 : decode cX12_alike 51 = .ok (.iload_n 2, 1) := by decide +kernel
theorem dX12_alike_52 : decode cX12_alike 52 = .ok (.ifCond .lt 12, 3) := by decide +kernel
theorem dX12_alike_55 : decode cX12_alike 55 = .ok (.iload 5, 2) := by decide +kernel
theorem dX12_alike_57 : decode cX12_alike 57 = .ok (.iload_n 3, 1) := by decide +kernel
theorem dX12_alike_58 : decode cX12_alike 58 = .ok (.if_icmp .lt 6, 3) := by decide +kernel
theorem dX12_alike_61 : decode cX12_alike 61 = .ok (.goto 9, 3) := by decide +kernel
theorem dX12_alike_64 : decode cX12_alike 64 = .ok (.iload 4, 2) := by decide +kernel
theorem dX12_alike_66 : decode cX12_alike 66 = .ok (.istore_n 2, 1) := by decide +kernel
theorem dX12_alike_67 : decode cX12_alike 67 = .ok (.iload 5, 2) := by decide +kernel
theorem dX12_alike_69 : decode cX12_alike 69 = .ok (.istore_n 3, 1) := by decide +kernel
theorem dX12_alike_70 : decode cX12_alike 70 = .ok (.iinc 4 1, 3) := by decide +kernel
theorem dX12_alike_73 : decode cX12_alike 73 = .ok (.goto (-39), 3) := by decide +kernel
theorem dX12_alike_76 : decode cX12_alike 76 = .ok (.iload_n 2, 1) := by decide +kernel
theorem dX12_alike_77 : decode cX12_alike 77 = .ok (.ireturn, 1) := by decide +kernel
theorem dX12_agrees_0 : decode cX12_agrees 0 = .ok (.iconst 1, 1) := by decide +kernel
theorem dX12_agrees_1 : decode cX12_agrees 1 = .ok (.istore_n 3, 1) := by decide +kernel
theorem dX12_agrees_2 : decode cX12_agrees 2 = .ok (.iconst 0, 1) := by decide +kernel
theorem dX12_agrees_3 : decode cX12_agrees 3 = .ok (.istore 4, 2) := by decide +kernel
theorem dX12_agrees_5 : decode cX12_agrees 5 = .ok (.iload 4, 2) := by decide +kernel
theorem dX12_agrees_7 : decode cX12_agrees 7 = .ok (.aload_n 0, 1) := by decide +kernel
theorem dX12_agrees_8 : decode cX12_agrees 8 = .ok (.getfield 182, 3) := by decide +kernel
theorem dX12_agrees_11 : decode cX12_agrees 11 = .ok (.if_icmp .ge 96, 3) := by decide +kernel
theorem dX12_agrees_14 : decode cX12_agrees 14 = .ok (.aload_n 0, 1) := by decide +kernel
theorem dX12_agrees_15 : decode cX12_agrees 15 = .ok (.getfield 45, 3) := by decide +kernel
theorem dX12_agrees_18 : decode cX12_agrees 18 = .ok (.iload 4, 2) := by decide +kernel
theorem dX12_agrees_20 : decode cX12_agrees 20 = .ok (.iaload, 1) := by decide +kernel
theorem dX12_agrees_21 : decode cX12_agrees 21 = .ok (.iload_n 1, 1) := by decide +kernel
theorem dX12_agrees_22 : decode cX12_agrees 22 = .ok (.if_icmp .ne 79, 3) := by decide +kernel
theorem dX12_agrees_25 : decode cX12_agrees 25 = .ok (.aload_n 0, 1) := by decide +kernel
theorem dX12_agrees_26 : decode cX12_agrees 26 = .ok (.iload 4, 2) := by decide +kernel
theorem dX12_agrees_28 : decode cX12_agrees 28 = .ok (.invokevirtual 404, 3) := by decide +kernel
theorem dX12_agrees_31 : decode cX12_agrees 31 = .ok (.ifCond .eq 70, 3) := by decide +kernel
theorem dX12_agrees_34 : decode cX12_agrees 34 = .ok (.aload_n 0, 1) := by decide +kernel
theorem dX12_agrees_35 : decode cX12_agrees 35 = .ok (.iload 4, 2) := by decide +kernel
theorem dX12_agrees_37 : decode cX12_agrees 37 = .ok (.invokevirtual 407, 3) := by decide +kernel
theorem dX12_agrees_40 : decode cX12_agrees 40 = .ok (.ifCond .ne 6, 3) := by decide +kernel
theorem dX12_agrees_43 : decode cX12_agrees 43 = .ok (.goto 58, 3) := by decide +kernel
theorem dX12_agrees_46 : decode cX12_agrees 46 = .ok (.iload_n 3, 1) := by decide +kernel
theorem dX12_agrees_47 : decode cX12_agrees 47 = .ok (.ifCond .eq 52, 3) := by decide +kernel
theorem dX12_agrees_50 : decode cX12_agrees 50 = .ok (.aload_n 0, 1) := by decide +kernel
theorem dX12_agrees_51 : decode cX12_agrees 51 = .ok (.getfield 48, 3) := by decide +kernel
theorem dX12_agrees_54 : decode cX12_agrees 54 = .ok (.iload 4, 2) := by decide +kernel
theorem dX12_agrees_56 : decode cX12_agrees 56 = .ok (.iaload, 1) := by decide +kernel
theorem dX12_agrees_57 : decode cX12_agrees 57 = .ok (.iload_n 2, 1) := by decide +kernel
theorem dX12_agrees_58 : decode cX12_agrees 58 = .ok (.invokestatic 198, 3) := by decide +kernel
theorem dX12_agrees_61 : decode cX12_agrees 61 = .ok (.aload_n 0, 1) := by decide +kernel
theorem dX12_agrees_62 : decode cX12_agrees 62 = .ok (.getfield 490, 3) := by decide +kernel
theorem dX12_agrees_65 : decode cX12_agrees 65 = .ok (.if_icmp .gt 7, 3) := by decide +kernel
theorem dX12_agrees_68 : decode cX12_agrees 68 = .ok (.iconst 1, 1) := by decide +kernel
theorem dX12_agrees_69 : decode cX12_agrees 69 = .ok (.goto 4, 3) := by decide +kernel
theorem dX12_agrees_72 : decode cX12_agrees 72 = .ok (.iconst 0, 1) := by decide +kernel
theorem dX12_agrees_73 : decode cX12_agrees 73 = .ok (.aload_n 0, 1) := by decide +kernel
theorem dX12_agrees_74 : decode cX12_agrees 74 = .ok (.getfield 54, 3) := by decide +kernel
theorem dX12_agrees_77 : decode cX12_agrees 77 = .ok (.iload 4, 2) := by decide +kernel
theorem dX12_agrees_79 : decode cX12_agrees 79 = .ok (.iaload, 1) := by decide +kernel
theorem dX12_agrees_80 : decode cX12_agrees 80 = .ok (.aload_n 0, 1) := by decide +kernel
theorem dX12_agrees_81 : decode cX12_agrees 81 = .ok (.getfield 493, 3) := by decide +kernel
theorem dX12_agrees_84 : decode cX12_agrees 84 = .ok (.if_icmp .lt 7, 3) := by decide +kernel
theorem dX12_agrees_87 : decode cX12_agrees 87 = .ok (.iconst 1, 1) := by decide +kernel
theorem dX12_agrees_88 : decode cX12_agrees 88 = .ok (.goto 4, 3) := by decide +kernel
theorem dX12_agrees_91 : decode cX12_agrees 91 = .ok (.iconst 0, 1) := by decide +kernel
theorem dX12_agrees_92 : decode cX12_agrees 92 = .ok (.if_icmp .ne 7, 3) := by decide +kernel
theorem dX12_agrees_95 : decode cX12_agrees 95 = .ok (.iconst 1, 1) := by decide +kernel
theorem dX12_agrees_96 : decode cX12_agrees 96 = .ok (.goto 4, 3) := by decide +kernel
theorem dX12_agrees_99 : decode cX12_agrees 99 = .ok (.iconst 0, 1) := by decide +kernel
theorem dX12_agrees_100 : decode cX12_agrees 100 = .ok (.istore_n 3, 1) := by decide +kernel
theorem dX12_agrees_101 : decode cX12_agrees 101 = .ok (.iinc 4 1, 3) := by decide +kernel
theorem dX12_agrees_104 : decode cX12_agrees 104 = .ok (.goto (-99), 3) := by decide +kernel
theorem dX12_agrees_107 : decode cX12_agrees 107 = .ok (.iload_n 3, 1) := by decide +kernel
theorem dX12_agrees_108 : decode cX12_agrees 108 = .ok (.ireturn, 1) := by decide +kernel
theorem dX12_isNear_0 : decode cX12_isNear 0 = .ok (.iconst 0, 1) := by decide +kernel
theorem dX12_isNear_1 : decode cX12_isNear 1 = .ok (.istore_n 3, 1) := by decide +kernel
theorem dX12_isNear_2 : decode cX12_isNear 2 = .ok (.iconst 0, 1) := by decide +kernel
theorem dX12_isNear_3 : decode cX12_isNear 3 = .ok (.istore 4, 2) := by decide +kernel
theorem dX12_isNear_5 : decode cX12_isNear 5 = .ok (.iload 4, 2) := by decide +kernel
theorem dX12_isNear_7 : decode cX12_isNear 7 = .ok (.bipush 64, 2) := by decide +kernel
theorem dX12_isNear_9 : decode cX12_isNear 9 = .ok (.if_icmp .ge 49, 3) := by decide +kernel
theorem dX12_isNear_12 : decode cX12_isNear 12 = .ok (.iload_n 3, 1) := by decide +kernel
theorem dX12_isNear_13 : decode cX12_isNear 13 = .ok (.ifCond .ne 33, 3) := by decide +kernel
theorem dX12_isNear_16 : decode cX12_isNear 16 = .ok (.iload 4, 2) := by decide +kernel
theorem dX12_isNear_18 : decode cX12_isNear 18 = .ok (.iload_n 2, 1) := by decide +kernel
theorem dX12_isNear_19 : decode cX12_isNear 19 = .ok (.invokestatic 198, 3) := by decide +kernel
theorem dX12_isNear_22 : decode cX12_isNear 22 = .ok (.iconst 1, 1) := by decide +kernel
theorem dX12_isNear_23 : decode cX12_isNear 23 = .ok (.if_icmp .gt 27, 3) := by decide +kernel
theorem dX12_isNear_26 : decode cX12_isNear 26 = .ok (.aload_n 0, 1) := by decide +kernel
theorem dX12_isNear_27 : decode cX12_isNear 27 = .ok (.getfield 140, 3) := by decide +kernel
theorem dX12_isNear_30 : decode cX12_isNear 30 = .ok (.bipush 64, 2) := by decide +kernel
theorem dX12_isNear_32 : decode cX12_isNear 32 = .ok (.iload_n 1, 1) := by decide +kernel
theorem dX12_isNear_33 : decode cX12_isNear 33 = .ok (.aload_n 0, 1) := by decide +kernel
theorem dX12_isNear_34 : decode cX12_isNear 34 = .ok (.getfield 137, 3) := by decide +kernel
theorem dX12_isNear_37 : decode cX12_isNear 37 = .ok (.isub, 1) := by decide +kernel
theorem dX12_isNear_38 : decode cX12_isNear 38 = .ok (.imul, 1) := by decide +kernel
theorem dX12_isNear_39 : decode cX12_isNear 39 = .ok (.iload 4, 2) := by decide +kernel
theorem dX12_isNear_41 : decode cX12_isNear 41 = .ok (.iadd, 1) := by decide +kernel
theorem dX12_isNear_42 : decode cX12_isNear 42 = .ok (.baload, 1) := by decide +kernel
theorem dX12_isNear_43 : decode cX12_isNear 43 = .ok (.ifCond .eq 7, 3) := by decide +kernel
theorem dX12_isNear_46 : decode cX12_isNear 46 = .ok (.iconst 1, 1) := by decide +kernel
theorem dX12_isNear_47 : decode cX12_isNear 47 = .ok (.goto 4, 3) := by decide +kernel
theorem dX12_isNear_50 : decode cX12_isNear 50 = .ok (.iconst 0, 1) := by decide +kernel
theorem dX12_isNear_51 : decode cX12_isNear 51 = .ok (.istore_n 3, 1) := by decide +kernel
theorem dX12_isNear_52 : decode cX12_isNear 52 = .ok (.iinc 4 1, 3) := by decide +kernel
theorem dX12_isNear_55 : decode cX12_isNear 55 = .ok (.goto (-50), 3) := by decide +kernel
theorem dX12_isNear_58 : decode cX12_isNear 58 = .ok (.iload_n 3, 1) := by decide +kernel
theorem dX12_isNear_59 : decode cX12_isNear 59 = .ok (.ireturn, 1) := by decide +kernel
theorem dX12_findWays_0 : decode cX12_findWays 0 = .ok (.aload_n 0, 1) := by decide +kernel
theorem dX12_findWays_1 : decode cX12_findWays 1 = .ok (.getfield 137, 3) := by decide +kernel
theorem dX12_findWays_4 : decode cX12_findWays 4 = .ok (.istore_n 1, 1) := by decide +kernel
theorem dX12_findWays_5 : decode cX12_findWays 5 = .ok (.iload_n 1, 1) := by decide +kernel
theorem dX12_findWays_6 : decode cX12_findWays 6 = .ok (.aload_n 0, 1) := by decide +kernel
theorem dX12_findWays_7 : decode cX12_findWays 7 = .ok (.getfield 496, 3) := by decide +kernel
theorem dX12_findWays_10 : decode cX12_findWays 10 = .ok (.if_icmp .gt 72, 3) := by decide +kernel
theorem dX12_findWays_13 : decode cX12_findWays 13 = .ok (.iconst 0, 1) := by decide +kernel
theorem dX12_findWays_14 : decode cX12_findWays 14 = .ok (.istore_n 2, 1) := by decide +kernel
theorem dX12_findWays_15 : decode cX12_findWays 15 = .ok (.iload_n 2, 1) := by decide +kernel
theorem dX12_findWays_16 : decode cX12_findWays 16 = .ok (.bipush 64, 2) := by decide +kernel
theorem dX12_findWays_18 : decode cX12_findWays 18 = .ok (.if_icmp .ge 58, 3) := by decide +kernel
theorem dX12_findWays_21 : decode cX12_findWays 21 = .ok (.aload_n 0, 1) := by decide +kernel
theorem dX12_findWays_22 : decode cX12_findWays 22 = .ok (.getfield 140, 3) := by decide +kernel
theorem dX12_findWays_25 : decode cX12_findWays 25 = .ok (.bipush 64, 2) := by decide +kernel
theorem dX12_findWays_27 : decode cX12_findWays 27 = .ok (.iload_n 1, 1) := by decide +kernel
theorem dX12_findWays_28 : decode cX12_findWays 28 = .ok (.aload_n 0, 1) := by decide +kernel
theorem dX12_findWays_29 : decode cX12_findWays 29 = .ok (.getfield 137, 3) := by decide +kernel
theorem dX12_findWays_32 : decode cX12_findWays 32 = .ok (.isub, 1) := by decide +kernel
theorem dX12_findWays_33 : decode cX12_findWays 33 = .ok (.imul, 1) := by decide +kernel
theorem dX12_findWays_34 : decode cX12_findWays 34 = .ok (.iload_n 2, 1) := by decide +kernel
theorem dX12_findWays_35 : decode cX12_findWays 35 = .ok (.iadd, 1) := by decide +kernel
theorem dX12_findWays_36 : decode cX12_findWays 36 = .ok (.aload_n 0, 1) := by decide +kernel
theorem dX12_findWays_37 : decode cX12_findWays 37 = .ok (.iload_n 1, 1) := by decide +kernel
theorem dX12_findWays_38 : decode cX12_findWays 38 = .ok (.iload_n 2, 1) := by decide +kernel
theorem dX12_findWays_39 : decode cX12_findWays 39 = .ok (.invokevirtual 499, 3) := by decide +kernel
theorem dX12_findWays_42 : decode cX12_findWays 42 = .ok (.ifCond .eq 26, 3) := by decide +kernel
theorem dX12_findWays_45 : decode cX12_findWays 45 = .ok (.iload_n 1, 1) := by decide +kernel
theorem dX12_findWays_46 : decode cX12_findWays 46 = .ok (.aload_n 0, 1) := by decide +kernel
theorem dX12_findWays_47 : decode cX12_findWays 47 = .ok (.getfield 137, 3) := by decide +kernel
theorem dX12_findWays_50 : decode cX12_findWays 50 = .ok (.if_icmp .eq 14, 3) := by decide +kernel
theorem dX12_findWays_53 : decode cX12_findWays 53 = .ok (.aload_n 0, 1) := by decide +kernel
theorem dX12_findWays_54 : decode cX12_findWays 54 = .ok (.iload_n 1, 1) := by decide +kernel
theorem dX12_findWays_55 : decode cX12_findWays 55 = .ok (.iconst 1, 1) := by decide +kernel
theorem dX12_findWays_56 : decode cX12_findWays 56 = .ok (.isub, 1) := by decide +kernel
theorem dX12_findWays_57 : decode cX12_findWays 57 = .ok (.iload_n 2, 1) := by decide +kernel
theorem dX12_findWays_58 : decode cX12_findWays 58 = .ok (.invokevirtual 502, 3) := by decide +kernel
theorem dX12_findWays_61 : decode cX12_findWays 61 = .ok (.ifCond .eq 7, 3) := by decide +kernel
theorem dX12_findWays_64 : decode cX12_findWays 64 = .ok (.iconst 1, 1) := by decide +kernel
theorem dX12_findWays_65 : decode cX12_findWays 65 = .ok (.goto 4, 3) := by decide +kernel
theorem dX12_findWays_68 : decode cX12_findWays 68 = .ok (.iconst 0, 1) := by decide +kernel
theorem dX12_findWays_69 : decode cX12_findWays 69 = .ok (.bastore, 1) := by decide +kernel
theorem dX12_findWays_70 : decode cX12_findWays 70 = .ok (.iinc 2 1, 3) := by decide +kernel
theorem dX12_findWays_73 : decode cX12_findWays 73 = .ok (.goto (-58), 3) := by decide +kernel
theorem dX12_findWays_76 : decode cX12_findWays 76 = .ok (.iinc 1 1, 3) := by decide +kernel
theorem dX12_findWays_79 : decode cX12_findWays 79 = .ok (.goto (-74), 3) := by decide +kernel
theorem dX12_findWays_82 : decode cX12_findWays 82 = .ok (.aload_n 0, 1) := by decide +kernel
theorem dX12_findWays_83 : decode cX12_findWays 83 = .ok (.getfield 496, 3) := by decide +kernel
theorem dX12_findWays_86 : decode cX12_findWays 86 = .ok (.iconst 1, 1) := by decide +kernel
theorem dX12_findWays_87 : decode cX12_findWays 87 = .ok (.isub, 1) := by decide +kernel
theorem dX12_findWays_88 : decode cX12_findWays 88 = .ok (.istore_n 1, 1) := by decide +kernel
theorem dX12_findWays_89 : decode cX12_findWays 89 = .ok (.iload_n 1, 1) := by decide +kernel
theorem dX12_findWays_90 : decode cX12_findWays 90 = .ok (.aload_n 0, 1) := by decide +kernel
theorem dX12_findWays_91 : decode cX12_findWays 91 = .ok (.getfield 137, 3) := by decide +kernel
theorem dX12_findWays_94 : decode cX12_findWays 94 = .ok (.if_icmp .lt 74, 3) := by decide +kernel
theorem dX12_findWays_97 : decode cX12_findWays 97 = .ok (.iconst 0, 1) := by decide +kernel
theorem dX12_findWays_98 : decode cX12_findWays 98 = .ok (.istore_n 2, 1) := by decide +kernel
theorem dX12_findWays_99 : decode cX12_findWays 99 = .ok (.iload_n 2, 1) := by decide +kernel
theorem dX12_findWays_100 : decode cX12_findWays 100 = .ok (.bipush 64, 2) := by decide +kernel
theorem dX12_findWays_102 : decode cX12_findWays 102 = .ok (.if_icmp .ge 60, 3) := by decide +kernel
theorem dX12_findWays_105 : decode cX12_findWays 105 = .ok (.aload_n 0, 1) := by decide +kernel
theorem dX12_findWays_106 : decode cX12_findWays 106 = .ok (.getfield 140, 3) := by decide +kernel
theorem dX12_findWays_109 : decode cX12_findWays 109 = .ok (.bipush 64, 2) := by decide +kernel
theorem dX12_findWays_111 : decode cX12_findWays 111 = .ok (.iload_n 1, 1) := by decide +kernel
theorem dX12_findWays_112 : decode cX12_findWays 112 = .ok (.aload_n 0, 1) := by decide +kernel
theorem dX12_findWays_113 : decode cX12_findWays 113 = .ok (.getfield 137, 3) := by decide +kernel
theorem dX12_findWays_116 : decode cX12_findWays 116 = .ok (.isub, 1) := by decide +kernel
theorem dX12_findWays_117 : decode cX12_findWays 117 = .ok (.imul, 1) := by decide +kernel
theorem dX12_findWays_118 : decode cX12_findWays 118 = .ok (.iload_n 2, 1) := by decide +kernel
theorem dX12_findWays_119 : decode cX12_findWays 119 = .ok (.iadd, 1) := by decide +kernel
theorem dX12_findWays_120 : decode cX12_findWays 120 = .ok (.aload_n 0, 1) := by decide +kernel
theorem dX12_findWays_121 : decode cX12_findWays 121 = .ok (.getfield 140, 3) := by decide +kernel
theorem dX12_findWays_124 : decode cX12_findWays 124 = .ok (.bipush 64, 2) := by decide +kernel
theorem dX12_findWays_126 : decode cX12_findWays 126 = .ok (.iload_n 1, 1) := by decide +kernel
theorem dX12_findWays_127 : decode cX12_findWays 127 = .ok (.aload_n 0, 1) := by decide +kernel
theorem dX12_findWays_128 : decode cX12_findWays 128 = .ok (.getfield 137, 3) := by decide +kernel
theorem dX12_findWays_131 : decode cX12_findWays 131 = .ok (.isub, 1) := by decide +kernel
theorem dX12_findWays_132 : decode cX12_findWays 132 = .ok (.imul, 1) := by decide +kernel
theorem dX12_findWays_133 : decode cX12_findWays 133 = .ok (.iload_n 2, 1) := by decide +kernel
theorem dX12_findWays_134 : decode cX12_findWays 134 = .ok (.iadd, 1) := by decide +kernel
theorem dX12_findWays_135 : decode cX12_findWays 135 = .ok (.baload, 1) := by decide +kernel
theorem dX12_findWays_136 : decode cX12_findWays 136 = .ok (.ifCond .eq 18, 3) := by decide +kernel
theorem dX12_findWays_139 : decode cX12_findWays 139 = .ok (.aload_n 0, 1) := by decide +kernel
theorem dX12_findWays_140 : decode cX12_findWays 140 = .ok (.iload_n 1, 1) := by decide +kernel
theorem dX12_findWays_141 : decode cX12_findWays 141 = .ok (.iconst 1, 1) := by decide +kernel
theorem dX12_findWays_142 : decode cX12_findWays 142 = .ok (.iadd, 1) := by decide +kernel
theorem dX12_findWays_143 : decode cX12_findWays 143 = .ok (.iload_n 2, 1) := by decide +kernel
theorem dX12_findWays_144 : decode cX12_findWays 144 = .ok (.invokevirtual 502, 3) := by decide +kernel
theorem dX12_findWays_147 : decode cX12_findWays 147 = .ok (.ifCond .eq 7, 3) := by decide +kernel
theorem dX12_findWays_150 : decode cX12_findWays 150 = .ok (.iconst 1, 1) := by decide +kernel
theorem dX12_findWays_151 : decode cX12_findWays 151 = .ok (.goto 4, 3) := by decide +kernel
theorem dX12_findWays_154 : decode cX12_findWays 154 = .ok (.iconst 0, 1) := by decide +kernel
theorem dX12_findWays_155 : decode cX12_findWays 155 = .ok (.bastore, 1) := by decide +kernel
theorem dX12_findWays_156 : decode cX12_findWays 156 = .ok (.iinc 2 1, 3) := by decide +kernel
theorem dX12_findWays_159 : decode cX12_findWays 159 = .ok (.goto (-60), 3) := by decide +kernel
theorem dX12_findWays_162 : decode cX12_findWays 162 = .ok (.iinc 1 (-1), 3) := by decide +kernel
theorem dX12_findWays_165 : decode cX12_findWays 165 = .ok (.goto (-76), 3) := by decide +kernel
theorem dX12_findWays_168 : decode cX12_findWays 168 = .ok (.return_, 1) := by decide +kernel
theorem dX12_cellsOn_0 : decode cX12_cellsOn 0 = .ok (.iconst 0, 1) := by decide +kernel
theorem dX12_cellsOn_1 : decode cX12_cellsOn 1 = .ok (.istore_n 2, 1) := by decide +kernel
theorem dX12_cellsOn_2 : decode cX12_cellsOn 2 = .ok (.iconst 0, 1) := by decide +kernel
theorem dX12_cellsOn_3 : decode cX12_cellsOn 3 = .ok (.istore_n 3, 1) := by decide +kernel
theorem dX12_cellsOn_4 : decode cX12_cellsOn 4 = .ok (.iload_n 3, 1) := by decide +kernel
theorem dX12_cellsOn_5 : decode cX12_cellsOn 5 = .ok (.bipush 64, 2) := by decide +kernel
theorem dX12_cellsOn_7 : decode cX12_cellsOn 7 = .ok (.if_icmp .ge 36, 3) := by decide +kernel
theorem dX12_cellsOn_10 : decode cX12_cellsOn 10 = .ok (.iload_n 2, 1) := by decide +kernel
theorem dX12_cellsOn_11 : decode cX12_cellsOn 11 = .ok (.aload_n 0, 1) := by decide +kernel
theorem dX12_cellsOn_12 : decode cX12_cellsOn 12 = .ok (.getfield 140, 3) := by decide +kernel
theorem dX12_cellsOn_15 : decode cX12_cellsOn 15 = .ok (.bipush 64, 2) := by decide +kernel
theorem dX12_cellsOn_17 : decode cX12_cellsOn 17 = .ok (.iload_n 1, 1) := by decide +kernel
theorem dX12_cellsOn_18 : decode cX12_cellsOn 18 = .ok (.aload_n 0, 1) := by decide +kernel
theorem dX12_cellsOn_19 : decode cX12_cellsOn 19 = .ok (.getfield 137, 3) := by decide +kernel
theorem dX12_cellsOn_22 : decode cX12_cellsOn 22 = .ok (.isub, 1) := by decide +kernel
theorem dX12_cellsOn_23 : decode cX12_cellsOn 23 = .ok (.imul, 1) := by decide +kernel
theorem dX12_cellsOn_24 : decode cX12_cellsOn 24 = .ok (.iload_n 3, 1) := by decide +kernel
theorem dX12_cellsOn_25 : decode cX12_cellsOn 25 = .ok (.iadd, 1) := by decide +kernel
theorem dX12_cellsOn_26 : decode cX12_cellsOn 26 = .ok (.baload, 1) := by decide +kernel
theorem dX12_cellsOn_27 : decode cX12_cellsOn 27 = .ok (.ifCond .eq 7, 3) := by decide +kernel
theorem dX12_cellsOn_30 : decode cX12_cellsOn 30 = .ok (.iconst 1, 1) := by decide +kernel
theorem dX12_cellsOn_31 : decode cX12_cellsOn 31 = .ok (.goto 4, 3) := by decide +kernel
theorem dX12_cellsOn_34 : decode cX12_cellsOn 34 = .ok (.iconst 0, 1) := by decide +kernel
theorem dX12_cellsOn_35 : decode cX12_cellsOn 35 = .ok (.iadd, 1) := by decide +kernel
theorem dX12_cellsOn_36 : decode cX12_cellsOn 36 = .ok (.istore_n 2, 1) := by decide +kernel
theorem dX12_cellsOn_37 : decode cX12_cellsOn 37 = .ok (.iinc 3 1, 3) := by decide +kernel
theorem dX12_cellsOn_40 : decode cX12_cellsOn 40 = .ok (.goto (-36), 3) := by decide +kernel
theorem dX12_cellsOn_43 : decode cX12_cellsOn 43 = .ok (.iload_n 2, 1) := by decide +kernel
theorem dX12_cellsOn_44 : decode cX12_cellsOn 44 = .ok (.ireturn, 1) := by decide +kernel
theorem dX12_storm_0 : decode cX12_storm 0 = .ok (.iload_n 1, 1) := by decide +kernel
theorem dX12_storm_1 : decode cX12_storm 1 = .ok (.iconst 0, 1) := by decide +kernel
theorem dX12_storm_2 : decode cX12_storm 2 = .ok (.sipush 999, 3) := by decide +kernel
theorem dX12_storm_5 : decode cX12_storm 5 = .ok (.invokestatic 168, 3) := by decide +kernel
theorem dX12_storm_8 : decode cX12_storm 8 = .ok (.ifCond .eq 48, 3) := by decide +kernel
theorem dX12_storm_11 : decode cX12_storm 11 = .ok (.iload_n 2, 1) := by decide +kernel
theorem dX12_storm_12 : decode cX12_storm 12 = .ok (.iconst 0, 1) := by decide +kernel
theorem dX12_storm_13 : decode cX12_storm 13 = .ok (.sipush 999, 3) := by decide +kernel
theorem dX12_storm_16 : decode cX12_storm 16 = .ok (.invokestatic 168, 3) := by decide +kernel
theorem dX12_storm_19 : decode cX12_storm 19 = .ok (.ifCond .eq 37, 3) := by decide +kernel
theorem dX12_storm_22 : decode cX12_storm 22 = .ok (.iload_n 2, 1) := by decide +kernel
theorem dX12_storm_23 : decode cX12_storm 23 = .ok (.iload_n 1, 1) := by decide +kernel
theorem dX12_storm_24 : decode cX12_storm 24 = .ok (.if_icmp .lt 32, 3) := by decide +kernel
theorem dX12_storm_27 : decode cX12_storm 27 = .ok (.iload_n 2, 1) := by decide +kernel
theorem dX12_storm_28 : decode cX12_storm 28 = .ok (.iload_n 1, 1) := by decide +kernel
theorem dX12_storm_29 : decode cX12_storm 29 = .ok (.isub, 1) := by decide +kernel
theorem dX12_storm_30 : decode cX12_storm 30 = .ok (.bipush 59, 2) := by decide +kernel
theorem dX12_storm_32 : decode cX12_storm 32 = .ok (.if_icmp .gt 24, 3) := by decide +kernel
theorem dX12_storm_35 : decode cX12_storm 35 = .ok (.iload_n 3, 1) := by decide +kernel
theorem dX12_storm_36 : decode cX12_storm 36 = .ok (.iconst 0, 1) := by decide +kernel
theorem dX12_storm_37 : decode cX12_storm 37 = .ok (.bipush 7, 2) := by decide +kernel
theorem dX12_storm_39 : decode cX12_storm 39 = .ok (.invokestatic 168, 3) := by decide +kernel
theorem dX12_storm_42 : decode cX12_storm 42 = .ok (.ifCond .eq 14, 3) := by decide +kernel
theorem dX12_storm_45 : decode cX12_storm 45 = .ok (.iload 4, 2) := by decide +kernel
theorem dX12_storm_47 : decode cX12_storm 47 = .ok (.iconst 0, 1) := by decide +kernel
theorem dX12_storm_48 : decode cX12_storm 48 = .ok (.bipush 12, 2) := by decide +kernel
theorem dX12_storm_50 : decode cX12_storm 50 = .ok (.invokestatic 168, 3) := by decide +kernel
theorem dX12_storm_53 : decode cX12_storm 53 = .ok (.ifCond .ne 5, 3) := by decide +kernel
theorem dX12_storm_56 : decode cX12_storm 56 = .ok (.iconst (-1), 1) := by decide +kernel
theorem dX12_storm_57 : decode cX12_storm 57 = .ok (.ireturn, 1) := by decide +kernel
theorem dX12_storm_58 : decode cX12_storm 58 = .ok (.aload_n 0, 1) := by decide +kernel
theorem dX12_storm_59 : decode cX12_storm 59 = .ok (.iload_n 1, 1) := by decide +kernel
theorem dX12_storm_60 : decode cX12_storm 60 = .ok (.putfield 137, 3) := by decide +kernel
theorem dX12_storm_63 : decode cX12_storm 63 = .ok (.aload_n 0, 1) := by decide +kernel
theorem dX12_storm_64 : decode cX12_storm 64 = .ok (.iload_n 2, 1) := by decide +kernel
theorem dX12_storm_65 : decode cX12_storm 65 = .ok (.putfield 496, 3) := by decide +kernel
theorem dX12_storm_68 : decode cX12_storm 68 = .ok (.aload_n 0, 1) := by decide +kernel
theorem dX12_storm_69 : decode cX12_storm 69 = .ok (.iload_n 3, 1) := by decide +kernel
theorem dX12_storm_70 : decode cX12_storm 70 = .ok (.putfield 490, 3) := by decide +kernel
theorem dX12_storm_73 : decode cX12_storm 73 = .ok (.aload_n 0, 1) := by decide +kernel
theorem dX12_storm_74 : decode cX12_storm 74 = .ok (.iload 4, 2) := by decide +kernel
theorem dX12_storm_76 : decode cX12_storm 76 = .ok (.putfield 493, 3) := by decide +kernel
theorem dX12_storm_79 : decode cX12_storm 79 = .ok (.aload_n 0, 1) := by decide +kernel
theorem dX12_storm_80 : decode cX12_storm 80 = .ok (.invokevirtual 505, 3) := by decide +kernel
theorem dX12_storm_83 : decode cX12_storm 83 = .ok (.aload_n 0, 1) := by decide +kernel
theorem dX12_storm_84 : decode cX12_storm 84 = .ok (.aload_n 0, 1) := by decide +kernel
theorem dX12_storm_85 : decode cX12_storm 85 = .ok (.getfield 137, 3) := by decide +kernel
theorem dX12_storm_88 : decode cX12_storm 88 = .ok (.invokevirtual 508, 3) := by decide +kernel
theorem dX12_storm_91 : decode cX12_storm 91 = .ok (.ifCond .le 7, 3) := by decide +kernel
theorem dX12_storm_94 : decode cX12_storm 94 = .ok (.iconst 1, 1) := by decide +kernel
theorem dX12_storm_95 : decode cX12_storm 95 = .ok (.goto 4, 3) := by decide +kernel
theorem dX12_storm_98 : decode cX12_storm 98 = .ok (.iconst 0, 1) := by decide +kernel
theorem dX12_storm_99 : decode cX12_storm 99 = .ok (.ireturn, 1) := by decide +kernel
theorem dX12_way_0 : decode cX12_way 0 = .ok (.aload_n 0, 1) := by decide +kernel
theorem dX12_way_1 : decode cX12_way 1 = .ok (.getfield 137, 3) := by decide +kernel
theorem dX12_way_4 : decode cX12_way 4 = .ok (.ifCond .lt 28, 3) := by decide +kernel
theorem dX12_way_7 : decode cX12_way 7 = .ok (.iload_n 1, 1) := by decide +kernel
theorem dX12_way_8 : decode cX12_way 8 = .ok (.aload_n 0, 1) := by decide +kernel
theorem dX12_way_9 : decode cX12_way 9 = .ok (.getfield 137, 3) := by decide +kernel
theorem dX12_way_12 : decode cX12_way 12 = .ok (.aload_n 0, 1) := by decide +kernel
theorem dX12_way_13 : decode cX12_way 13 = .ok (.getfield 496, 3) := by decide +kernel
theorem dX12_way_16 : decode cX12_way 16 = .ok (.invokestatic 168, 3) := by decide +kernel
theorem dX12_way_19 : decode cX12_way 19 = .ok (.ifCond .eq 13, 3) := by decide +kernel
theorem dX12_way_22 : decode cX12_way 22 = .ok (.iload_n 2, 1) := by decide +kernel
theorem dX12_way_23 : decode cX12_way 23 = .ok (.iconst (-1), 1) := by decide +kernel
theorem dX12_way_24 : decode cX12_way 24 = .ok (.bipush 63, 2) := by decide +kernel
theorem dX12_way_26 : decode cX12_way 26 = .ok (.invokestatic 168, 3) := by decide +kernel
theorem dX12_way_29 : decode cX12_way 29 = .ok (.ifCond .ne 5, 3) := by decide +kernel
theorem dX12_way_32 : decode cX12_way 32 = .ok (.iconst (-1), 1) := by decide +kernel
theorem dX12_way_33 : decode cX12_way 33 = .ok (.ireturn, 1) := by decide +kernel
theorem dX12_way_34 : decode cX12_way 34 = .ok (.aload_n 0, 1) := by decide +kernel
theorem dX12_way_35 : decode cX12_way 35 = .ok (.invokevirtual 505, 3) := by decide +kernel
theorem dX12_way_38 : decode cX12_way 38 = .ok (.iload_n 2, 1) := by decide +kernel
theorem dX12_way_39 : decode cX12_way 39 = .ok (.iconst (-1), 1) := by decide +kernel
theorem dX12_way_40 : decode cX12_way 40 = .ok (.if_icmp .ne 11, 3) := by decide +kernel
theorem dX12_way_43 : decode cX12_way 43 = .ok (.aload_n 0, 1) := by decide +kernel
theorem dX12_way_44 : decode cX12_way 44 = .ok (.iload_n 1, 1) := by decide +kernel
theorem dX12_way_45 : decode cX12_way 45 = .ok (.invokevirtual 508, 3) := by decide +kernel
theorem dX12_way_48 : decode cX12_way 48 = .ok (.goto 27, 3) := by decide +kernel
theorem dX12_way_51 : decode cX12_way 51 = .ok (.aload_n 0, 1) := by decide +kernel
theorem dX12_way_52 : decode cX12_way 52 = .ok (.getfield 140, 3) := by decide +kernel
theorem dX12_way_55 : decode cX12_way 55 = .ok (.bipush 64, 2) := by decide +kernel
theorem dX12_way_57 : decode cX12_way 57 = .ok (.iload_n 1, 1) := by decide +kernel
theorem dX12_way_58 : decode cX12_way 58 = .ok (.aload_n 0, 1) := by decide +kernel
theorem dX12_way_59 : decode cX12_way 59 = .ok (.getfield 137, 3) := by decide +kernel
theorem dX12_way_62 : decode cX12_way 62 = .ok (.isub, 1) := by decide +kernel
theorem dX12_way_63 : decode cX12_way 63 = .ok (.imul, 1) := by decide +kernel
theorem dX12_way_64 : decode cX12_way 64 = .ok (.iload_n 2, 1) := by decide +kernel
theorem dX12_way_65 : decode cX12_way 65 = .ok (.iadd, 1) := by decide +kernel
theorem dX12_way_66 : decode cX12_way 66 = .ok (.baload, 1) := by decide +kernel
theorem dX12_way_67 : decode cX12_way 67 = .ok (.ifCond .eq 7, 3) := by decide +kernel
theorem dX12_way_70 : decode cX12_way 70 = .ok (.iconst 1, 1) := by decide +kernel
theorem dX12_way_71 : decode cX12_way 71 = .ok (.goto 4, 3) := by decide +kernel
theorem dX12_way_74 : decode cX12_way 74 = .ok (.iconst 0, 1) := by decide +kernel
theorem dX12_way_75 : decode cX12_way 75 = .ok (.ireturn, 1) := by decide +kernel
theorem dX12_image_0 : decode cX12_image 0 = .ok (.aload_n 0, 1) := by decide +kernel
theorem dX12_image_1 : decode cX12_image 1 = .ok (.getfield 511, 3) := by decide +kernel
theorem dX12_image_4 : decode cX12_image 4 = .ok (.iconst 4, 1) := by decide +kernel
theorem dX12_image_5 : decode cX12_image 5 = .ok (.if_icmp .ne 9, 3) := by decide +kernel
theorem dX12_image_8 : decode cX12_image 8 = .ok (.aload_n 0, 1) := by decide +kernel
theorem dX12_image_9 : decode cX12_image 9 = .ok (.iconst 1, 1) := by decide +kernel
theorem dX12_image_10 : decode cX12_image 10 = .ok (.invokevirtual 161, 3) := by decide +kernel
theorem dX12_image_13 : decode cX12_image 13 = .ok (.ireturn, 1) := by decide +kernel
theorem dX12_image_14 : decode cX12_image 14 = .ok (.aload_n 0, 1) := by decide +kernel
theorem dX12_image_15 : decode cX12_image 15 = .ok (.getfield 143, 3) := by decide +kernel
theorem dX12_image_18 : decode cX12_image 18 = .ok (.aload_n 0, 1) := by decide +kernel
theorem dX12_image_19 : decode cX12_image 19 = .ok (.getfield 511, 3) := by decide +kernel
theorem dX12_image_22 : decode cX12_image 22 = .ok (.aload_n 0, 1) := by decide +kernel
theorem dX12_image_23 : decode cX12_image 23 = .ok (.getfield 182, 3) := by decide +kernel
theorem dX12_image_26 : decode cX12_image 26 = .ok (.iastore, 1) := by decide +kernel
theorem dX12_image_27 : decode cX12_image 27 = .ok (.aload_n 0, 1) := by decide +kernel
theorem dX12_image_28 : decode cX12_image 28 = .ok (.getfield 146, 3) := by decide +kernel
theorem dX12_image_31 : decode cX12_image 31 = .ok (.aload_n 0, 1) := by decide +kernel
theorem dX12_image_32 : decode cX12_image 32 = .ok (.getfield 511, 3) := by decide +kernel
theorem dX12_image_35 : decode cX12_image 35 = .ok (.aload_n 0, 1) := by decide +kernel
theorem dX12_image_36 : decode cX12_image 36 = .ok (.getfield 158, 3) := by decide +kernel
theorem dX12_image_39 : decode cX12_image 39 = .ok (.iastore, 1) := by decide +kernel
theorem dX12_image_40 : decode cX12_image 40 = .ok (.aload_n 0, 1) := by decide +kernel
theorem dX12_image_41 : decode cX12_image 41 = .ok (.getfield 149, 3) := by decide +kernel
theorem dX12_image_44 : decode cX12_image 44 = .ok (.aload_n 0, 1) := by decide +kernel
theorem dX12_image_45 : decode cX12_image 45 = .ok (.getfield 511, 3) := by decide +kernel
theorem dX12_image_48 : decode cX12_image 48 = .ok (.aload_n 0, 1) := by decide +kernel
theorem dX12_image_49 : decode cX12_image 49 = .ok (.getfield 13, 3) := by decide +kernel
theorem dX12_image_52 : decode cX12_image 52 = .ok (.iastore, 1) := by decide +kernel
theorem dX12_image_53 : decode cX12_image 53 = .ok (.aload_n 0, 1) := by decide +kernel
theorem dX12_image_54 : decode cX12_image 54 = .ok (.getfield 152, 3) := by decide +kernel
theorem dX12_image_57 : decode cX12_image 57 = .ok (.aload_n 0, 1) := by decide +kernel
theorem dX12_image_58 : decode cX12_image 58 = .ok (.getfield 511, 3) := by decide +kernel
theorem dX12_image_61 : decode cX12_image 61 = .ok (.aload_n 0, 1) := by decide +kernel
theorem dX12_image_62 : decode cX12_image 62 = .ok (.getfield 17, 3) := by decide +kernel
theorem dX12_image_65 : decode cX12_image 65 = .ok (.iastore, 1) := by decide +kernel
theorem dX12_image_66 : decode cX12_image 66 = .ok (.iconst 0, 1) := by decide +kernel
theorem dX12_image_67 : decode cX12_image 67 = .ok (.istore_n 1, 1) := by decide +kernel
theorem dX12_image_68 : decode cX12_image 68 = .ok (.iload_n 1, 1) := by decide +kernel
theorem dX12_image_69 : decode cX12_image 69 = .ok (.aload_n 0, 1) := by decide +kernel
theorem dX12_image_70 : decode cX12_image 70 = .ok (.getfield 158, 3) := by decide +kernel
theorem dX12_image_73 : decode cX12_image 73 = .ok (.if_icmp .ge 29, 3) := by decide +kernel
theorem dX12_image_76 : decode cX12_image 76 = .ok (.aload_n 0, 1) := by decide +kernel
theorem dX12_image_77 : decode cX12_image 77 = .ok (.getfield 155, 3) := by decide +kernel
theorem dX12_image_80 : decode cX12_image 80 = .ok (.bipush 16, 2) := by decide +kernel
theorem dX12_image_82 : decode cX12_image 82 = .ok (.aload_n 0, 1) := by decide +kernel
theorem dX12_image_83 : decode cX12_image 83 = .ok (.getfield 511, 3) := by decide +kernel
theorem dX12_image_86 : decode cX12_image 86 = .ok (.imul, 1) := by decide +kernel
theorem dX12_image_87 : decode cX12_image 87 = .ok (.iload_n 1, 1) := by decide +kernel
theorem dX12_image_88 : decode cX12_image 88 = .ok (.iadd, 1) := by decide +kernel
theorem dX12_image_89 : decode cX12_image 89 = .ok (.aload_n 0, 1) := by decide +kernel
theorem dX12_image_90 : decode cX12_image 90 = .ok (.getfield 20, 3) := by decide +kernel
theorem dX12_image_93 : decode cX12_image 93 = .ok (.iload_n 1, 1) := by decide +kernel
theorem dX12_image_94 : decode cX12_image 94 = .ok (.baload, 1) := by decide +kernel
theorem dX12_image_95 : decode cX12_image 95 = .ok (.bastore, 1) := by decide +kernel
theorem dX12_image_96 : decode cX12_image 96 = .ok (.iinc 1 1, 3) := by decide +kernel
theorem dX12_image_99 : decode cX12_image 99 = .ok (.goto (-31), 3) := by decide +kernel
theorem dX12_image_102 : decode cX12_image 102 = .ok (.aload_n 0, 1) := by decide +kernel
theorem dX12_image_103 : decode cX12_image 103 = .ok (.dup, 1) := by decide +kernel
theorem dX12_image_104 : decode cX12_image 104 = .ok (.getfield 511, 3) := by decide +kernel
theorem dX12_image_107 : decode cX12_image 107 = .ok (.iconst 1, 1) := by decide +kernel
theorem dX12_image_108 : decode cX12_image 108 = .ok (.iadd, 1) := by decide +kernel
theorem dX12_image_109 : decode cX12_image 109 = .ok (.putfield 511, 3) := by decide +kernel
theorem dX12_image_112 : decode cX12_image 112 = .ok (.aload_n 0, 1) := by decide +kernel
theorem dX12_image_113 : decode cX12_image 113 = .ok (.getfield 511, 3) := by decide +kernel
theorem dX12_image_116 : decode cX12_image 116 = .ok (.iconst 1, 1) := by decide +kernel
theorem dX12_image_117 : decode cX12_image 117 = .ok (.isub, 1) := by decide +kernel
theorem dX12_image_118 : decode cX12_image 118 = .ok (.ireturn, 1) := by decide +kernel
theorem dX12_back_0 : decode cX12_back 0 = .ok (.iload_n 1, 1) := by decide +kernel
theorem dX12_back_1 : decode cX12_back 1 = .ok (.iconst 0, 1) := by decide +kernel
theorem dX12_back_2 : decode cX12_back 2 = .ok (.aload_n 0, 1) := by decide +kernel
theorem dX12_back_3 : decode cX12_back 3 = .ok (.getfield 511, 3) := by decide +kernel
theorem dX12_back_6 : decode cX12_back 6 = .ok (.iconst 1, 1) := by decide +kernel
theorem dX12_back_7 : decode cX12_back 7 = .ok (.isub, 1) := by decide +kernel
theorem dX12_back_8 : decode cX12_back 8 = .ok (.invokestatic 168, 3) := by decide +kernel
theorem dX12_back_11 : decode cX12_back 11 = .ok (.ifCond .eq 16, 3) := by decide +kernel
theorem dX12_back_14 : decode cX12_back 14 = .ok (.aload_n 0, 1) := by decide +kernel
theorem dX12_back_15 : decode cX12_back 15 = .ok (.getfield 182, 3) := by decide +kernel
theorem dX12_back_18 : decode cX12_back 18 = .ok (.aload_n 0, 1) := by decide +kernel
theorem dX12_back_19 : decode cX12_back 19 = .ok (.getfield 143, 3) := by decide +kernel
theorem dX12_back_22 : decode cX12_back 22 = .ok (.iload_n 1, 1) := by decide +kernel
theorem dX12_back_23 : decode cX12_back 23 = .ok (.iaload, 1) := by decide +kernel
theorem dX12_back_24 : decode cX12_back 24 = .ok (.if_icmp .ge 9, 3) := by decide +kernel
theorem dX12_back_27 : decode cX12_back 27 = .ok (.aload_n 0, 1) := by decide +kernel
theorem dX12_back_28 : decode cX12_back 28 = .ok (.iconst 0, 1) := by decide +kernel
theorem dX12_back_29 : decode cX12_back 29 = .ok (.invokevirtual 161, 3) := by decide +kernel
theorem dX12_back_32 : decode cX12_back 32 = .ok (.ireturn, 1) := by decide +kernel
theorem dX12_back_33 : decode cX12_back 33 = .ok (.aload_n 0, 1) := by decide +kernel
theorem dX12_back_34 : decode cX12_back 34 = .ok (.getfield 182, 3) := by decide +kernel
theorem dX12_back_37 : decode cX12_back 37 = .ok (.aload_n 0, 1) := by decide +kernel
theorem dX12_back_38 : decode cX12_back 38 = .ok (.getfield 143, 3) := by decide +kernel
theorem dX12_back_41 : decode cX12_back 41 = .ok (.iload_n 1, 1) := by decide +kernel
theorem dX12_back_42 : decode cX12_back 42 = .ok (.iaload, 1) := by decide +kernel
theorem dX12_back_43 : decode cX12_back 43 = .ok (.isub, 1) := by decide +kernel
theorem dX12_back_44 : decode cX12_back 44 = .ok (.istore_n 2, 1) := by decide +kernel
theorem dX12_back_45 : decode cX12_back 45 = .ok (.aload_n 0, 1) := by decide +kernel
theorem dX12_back_46 : decode cX12_back 46 = .ok (.aload_n 0, 1) := by decide +kernel
theorem dX12_back_47 : decode cX12_back 47 = .ok (.getfield 143, 3) := by decide +kernel
theorem dX12_back_50 : decode cX12_back 50 = .ok (.iload_n 1, 1) := by decide +kernel
theorem dX12_back_51 : decode cX12_back 51 = .ok (.iaload, 1) := by decide +kernel
theorem dX12_back_52 : decode cX12_back 52 = .ok (.putfield 182, 3) := by decide +kernel
theorem dX12_back_55 : decode cX12_back 55 = .ok (.iconst 0, 1) := by decide +kernel
theorem dX12_back_56 : decode cX12_back 56 = .ok (.istore_n 3, 1) := by decide +kernel
theorem dX12_back_57 : decode cX12_back 57 = .ok (.iload_n 3, 1) := by decide +kernel
theorem dX12_back_58 : decode cX12_back 58 = .ok (.aload_n 0, 1) := by decide +kernel
theorem dX12_back_59 : decode cX12_back 59 = .ok (.getfield 158, 3) := by decide +kernel
theorem dX12_back_62 : decode cX12_back 62 = .ok (.if_icmp .ge 44, 3) := by decide +kernel
theorem dX12_back_65 : decode cX12_back 65 = .ok (.aload_n 0, 1) := by decide +kernel
theorem dX12_back_66 : decode cX12_back 66 = .ok (.getfield 20, 3) := by decide +kernel
theorem dX12_back_69 : decode cX12_back 69 = .ok (.iload_n 3, 1) := by decide +kernel
theorem dX12_back_70 : decode cX12_back 70 = .ok (.iload_n 3, 1) := by decide +kernel
theorem dX12_back_71 : decode cX12_back 71 = .ok (.aload_n 0, 1) := by decide +kernel
theorem dX12_back_72 : decode cX12_back 72 = .ok (.getfield 146, 3) := by decide +kernel
theorem dX12_back_75 : decode cX12_back 75 = .ok (.iload_n 1, 1) := by decide +kernel
theorem dX12_back_76 : decode cX12_back 76 = .ok (.iaload, 1) := by decide +kernel
theorem dX12_back_77 : decode cX12_back 77 = .ok (.if_icmp .ge 17, 3) := by decide +kernel
theorem dX12_back_80 : decode cX12_back 80 = .ok (.aload_n 0, 1) := by decide +kernel
theorem dX12_back_81 : decode cX12_back 81 = .ok (.getfield 155, 3) := by decide +kernel
theorem dX12_back_84 : decode cX12_back 84 = .ok (.bipush 16, 2) := by decide +kernel
theorem dX12_back_86 : decode cX12_back 86 = .ok (.iload_n 1, 1) := by decide +kernel
theorem dX12_back_87 : decode cX12_back 87 = .ok (.imul, 1) := by decide +kernel
theorem dX12_back_88 : decode cX12_back 88 = .ok (.iload_n 3, 1) := by decide +kernel
theorem dX12_back_89 : decode cX12_back 89 = .ok (.iadd, 1) := by decide +kernel
theorem dX12_back_90 : decode cX12_back 90 = .ok (.baload, 1) := by decide +kernel
theorem dX12_back_91 : decode cX12_back 91 = .ok (.ifCond .eq 7, 3) := by decide +kernel
theorem dX12_back_94 : decode cX12_back 94 = .ok (.iconst 1, 1) := by decide +kernel
theorem dX12_back_95 : decode cX12_back 95 = .ok (.goto 4, 3) := by decide +kernel
theorem dX12_back_98 : decode cX12_back 98 = .ok (.iconst 0, 1) := by decide +kernel
theorem dX12_back_99 : decode cX12_back 99 = .ok (.bastore, 1) := by decide +kernel
theorem dX12_back_100 : decode cX12_back 100 = .ok (.iinc 3 1, 3) := by decide +kernel
theorem dX12_back_103 : decode cX12_back 103 = .ok (.goto (-46), 3) := by decide +kernel
theorem dX12_back_106 : decode cX12_back 106 = .ok (.aload_n 0, 1) := by decide +kernel
theorem dX12_back_107 : decode cX12_back 107 = .ok (.aload_n 0, 1) := by decide +kernel
theorem dX12_back_108 : decode cX12_back 108 = .ok (.getfield 149, 3) := by decide +kernel
theorem dX12_back_111 : decode cX12_back 111 = .ok (.iload_n 1, 1) := by decide +kernel
theorem dX12_back_112 : decode cX12_back 112 = .ok (.iaload, 1) := by decide +kernel
theorem dX12_back_113 : decode cX12_back 113 = .ok (.putfield 13, 3) := by decide +kernel
theorem dX12_back_116 : decode cX12_back 116 = .ok (.aload_n 0, 1) := by decide +kernel
theorem dX12_back_117 : decode cX12_back 117 = .ok (.aload_n 0, 1) := by decide +kernel
theorem dX12_back_118 : decode cX12_back 118 = .ok (.getfield 152, 3) := by decide +kernel
theorem dX12_back_121 : decode cX12_back 121 = .ok (.iload_n 1, 1) := by decide +kernel
theorem dX12_back_122 : decode cX12_back 122 = .ok (.iaload, 1) := by decide +kernel
theorem dX12_back_123 : decode cX12_back 123 = .ok (.putfield 17, 3) := by decide +kernel
theorem dX12_back_126 : decode cX12_back 126 = .ok (.iload_n 2, 1) := by decide +kernel
theorem dX12_back_127 : decode cX12_back 127 = .ok (.ireturn, 1) := by decide +kernel
theorem dX12_trusted_0 : decode cX12_trusted 0 = .ok (.iconst 0, 1) := by decide +kernel
theorem dX12_trusted_1 : decode cX12_trusted 1 = .ok (.istore_n 1, 1) := by decide +kernel
theorem dX12_trusted_2 : decode cX12_trusted 2 = .ok (.iconst 0, 1) := by decide +kernel
theorem dX12_trusted_3 : decode cX12_trusted 3 = .ok (.istore_n 2, 1) := by decide +kernel
theorem dX12_trusted_4 : decode cX12_trusted 4 = .ok (.iload_n 2, 1) := by decide +kernel
theorem dX12_trusted_5 : decode cX12_trusted 5 = .ok (.aload_n 0, 1) := by decide +kernel
theorem dX12_trusted_6 : decode cX12_trusted 6 = .ok (.getfield 158, 3) := by decide +kernel
theorem dX12_trusted_9 : decode cX12_trusted 9 = .ok (.if_icmp .ge 26, 3) := by decide +kernel
theorem dX12_trusted_12 : decode cX12_trusted 12 = .ok (.iload_n 1, 1) := by decide +kernel
theorem dX12_trusted_13 : decode cX12_trusted 13 = .ok (.aload_n 0, 1) := by decide +kernel
theorem dX12_trusted_14 : decode cX12_trusted 14 = .ok (.getfield 20, 3) := by decide +kernel
theorem dX12_trusted_17 : decode cX12_trusted 17 = .ok (.iload_n 2, 1) := by decide +kernel
theorem dX12_trusted_18 : decode cX12_trusted 18 = .ok (.baload, 1) := by decide +kernel
theorem dX12_trusted_19 : decode cX12_trusted 19 = .ok (.ifCond .eq 7, 3) := by decide +kernel
theorem dX12_trusted_22 : decode cX12_trusted 22 = .ok (.iconst 1, 1) := by decide +kernel
theorem dX12_trusted_23 : decode cX12_trusted 23 = .ok (.goto 4, 3) := by decide +kernel
theorem dX12_trusted_26 : decode cX12_trusted 26 = .ok (.iconst 0, 1) := by decide +kernel
theorem dX12_trusted_27 : decode cX12_trusted 27 = .ok (.iadd, 1) := by decide +kernel
theorem dX12_trusted_28 : decode cX12_trusted 28 = .ok (.istore_n 1, 1) := by decide +kernel
theorem dX12_trusted_29 : decode cX12_trusted 29 = .ok (.iinc 2 1, 3) := by decide +kernel
theorem dX12_trusted_32 : decode cX12_trusted 32 = .ok (.goto (-28), 3) := by decide +kernel
theorem dX12_trusted_35 : decode cX12_trusted 35 = .ok (.iload_n 1, 1) := by decide +kernel
theorem dX12_trusted_36 : decode cX12_trusted 36 = .ok (.ireturn, 1) := by decide +kernel
theorem dX12_habitsInAll_0 : decode cX12_habitsInAll 0 = .ok (.iconst 0, 1) := by decide +kernel
theorem dX12_habitsInAll_1 : decode cX12_habitsInAll 1 = .ok (.istore_n 1, 1) := by decide +kernel
theorem dX12_habitsInAll_2 : decode cX12_habitsInAll 2 = .ok (.iconst 0, 1) := by decide +kernel
theorem dX12_habitsInAll_3 : decode cX12_habitsInAll 3 = .ok (.istore_n 2, 1) := by decide +kernel
theorem dX12_habitsInAll_4 : decode cX12_habitsInAll 4 = .ok (.iload_n 2, 1) := by decide +kernel
theorem dX12_habitsInAll_5 : decode cX12_habitsInAll 5 = .ok (.aload_n 0, 1) := by decide +kernel
theorem dX12_habitsInAll_6 : decode cX12_habitsInAll 6 = .ok (.getfield 158, 3) := by decide +kernel
theorem dX12_habitsInAll_9 : decode cX12_habitsInAll 9 = .ok (.if_icmp .ge 21, 3) := by decide +kernel
theorem dX12_habitsInAll_12 : decode cX12_habitsInAll 12 = .ok (.iload_n 1, 1) := by decide +kernel
theorem dX12_habitsInAll_13 : decode cX12_habitsInAll 13 = .ok (.aload_n 0, 1) := by decide +kernel
theorem dX12_habitsInAll_14 : decode cX12_habitsInAll 14 = .ok (.getfield 63, 3) := by decide +kernel
theorem dX12_habitsInAll_17 : decode cX12_habitsInAll 17 = .ok (.bipush 8, 2) := by decide +kernel
theorem dX12_habitsInAll_19 : decode cX12_habitsInAll 19 = .ok (.iload_n 2, 1) := by decide +kernel
theorem dX12_habitsInAll_20 : decode cX12_habitsInAll 20 = .ok (.iadd, 1) := by decide +kernel
theorem dX12_habitsInAll_21 : decode cX12_habitsInAll 21 = .ok (.iaload, 1) := by decide +kernel
theorem dX12_habitsInAll_22 : decode cX12_habitsInAll 22 = .ok (.iadd, 1) := by decide +kernel
theorem dX12_habitsInAll_23 : decode cX12_habitsInAll 23 = .ok (.istore_n 1, 1) := by decide +kernel
theorem dX12_habitsInAll_24 : decode cX12_habitsInAll 24 = .ok (.iinc 2 1, 3) := by decide +kernel
theorem dX12_habitsInAll_27 : decode cX12_habitsInAll 27 = .ok (.goto (-23), 3) := by decide +kernel
theorem dX12_habitsInAll_30 : decode cX12_habitsInAll 30 = .ok (.iload_n 1, 1) := by decide +kernel
theorem dX12_habitsInAll_31 : decode cX12_habitsInAll 31 = .ok (.ireturn, 1) := by decide +kernel
theorem dX12_count_0 : decode cX12_count 0 = .ok (.iload_n 1, 1) := by decide +kernel
theorem dX12_count_1 : decode cX12_count 1 = .ok (.tableswitch 147 0 13 #[71, 76, 81, 86, 91, 96, 101, 106, 111, 118, 125, 132, 137, 142], 71) := by decide +kernel
theorem dX12_count_72 : decode cX12_count 72 = .ok (.aload_n 0, 1) := by decide +kernel
theorem dX12_count_73 : decode cX12_count 73 = .ok (.getfield 158, 3) := by decide +kernel
theorem dX12_count_76 : decode cX12_count 76 = .ok (.ireturn, 1) := by decide +kernel
theorem dX12_count_77 : decode cX12_count 77 = .ok (.aload_n 0, 1) := by decide +kernel
theorem dX12_count_78 : decode cX12_count 78 = .ok (.getfield 165, 3) := by decide +kernel
theorem dX12_count_81 : decode cX12_count 81 = .ok (.ireturn, 1) := by decide +kernel
theorem dX12_count_82 : decode cX12_count 82 = .ok (.aload_n 0, 1) := by decide +kernel
theorem dX12_count_83 : decode cX12_count 83 = .ok (.getfield 182, 3) := by decide +kernel
theorem dX12_count_86 : decode cX12_count 86 = .ok (.ireturn, 1) := by decide +kernel
theorem dX12_count_87 : decode cX12_count 87 = .ok (.aload_n 0, 1) := by decide +kernel
theorem dX12_count_88 : decode cX12_count 88 = .ok (.getfield 345, 3) := by decide +kernel
theorem dX12_count_91 : decode cX12_count 91 = .ok (.ireturn, 1) := by decide +kernel
theorem dX12_count_92 : decode cX12_count 92 = .ok (.aload_n 0, 1) := by decide +kernel
theorem dX12_count_93 : decode cX12_count 93 = .ok (.getfield 13, 3) := by decide +kernel
theorem dX12_count_96 : decode cX12_count 96 = .ok (.ireturn, 1) := by decide +kernel
theorem dX12_count_97 : decode cX12_count 97 = .ok (.aload_n 0, 1) := by decide +kernel
theorem dX12_count_98 : decode cX12_count 98 = .ok (.getfield 17, 3) := by decide +kernel
theorem dX12_count_101 : decode cX12_count 101 = .ok (.ireturn, 1) := by decide +kernel
theorem dX12_count_102 : decode cX12_count 102 = .ok (.aload_n 0, 1) := by decide +kernel
theorem dX12_count_103 : decode cX12_count 103 = .ok (.getfield 179, 3) := by decide +kernel
theorem dX12_count_106 : decode cX12_count 106 = .ok (.ireturn, 1) := by decide +kernel
theorem dX12_count_107 : decode cX12_count 107 = .ok (.aload_n 0, 1) := by decide +kernel
theorem dX12_count_108 : decode cX12_count 108 = .ok (.invokevirtual 514, 3) := by decide +kernel
theorem dX12_count_111 : decode cX12_count 111 = .ok (.ireturn, 1) := by decide +kernel
theorem dX12_count_112 : decode cX12_count 112 = .ok (.aload_n 0, 1) := by decide +kernel
theorem dX12_count_113 : decode cX12_count 113 = .ok (.getfield 7, 3) := by decide +kernel
theorem dX12_count_116 : decode cX12_count 116 = .ok (.iconst 0, 1) := by decide +kernel
theorem dX12_count_117 : decode cX12_count 117 = .ok (.iaload, 1) := by decide +kernel
theorem dX12_count_118 : decode cX12_count 118 = .ok (.ireturn, 1) := by decide +kernel
theorem dX12_count_119 : decode cX12_count 119 = .ok (.aload_n 0, 1) := by decide +kernel
theorem dX12_count_120 : decode cX12_count 120 = .ok (.getfield 7, 3) := by decide +kernel
theorem dX12_count_123 : decode cX12_count 123 = .ok (.iconst 1, 1) := by decide +kernel
theorem dX12_count_124 : decode cX12_count 124 = .ok (.iaload, 1) := by decide +kernel
theorem dX12_count_125 : decode cX12_count 125 = .ok (.ireturn, 1) := by decide +kernel
theorem dX12_count_126 : decode cX12_count 126 = .ok (.aload_n 0, 1) := by decide +kernel
theorem dX12_count_127 : decode cX12_count 127 = .ok (.getfield 7, 3) := by decide +kernel
theorem dX12_count_130 : decode cX12_count 130 = .ok (.iconst 2, 1) := by decide +kernel
theorem dX12_count_131 : decode cX12_count 131 = .ok (.iaload, 1) := by decide +kernel
theorem dX12_count_132 : decode cX12_count 132 = .ok (.ireturn, 1) := by decide +kernel
theorem dX12_count_133 : decode cX12_count 133 = .ok (.aload_n 0, 1) := by decide +kernel
theorem dX12_count_134 : decode cX12_count 134 = .ok (.getfield 511, 3) := by decide +kernel
theorem dX12_count_137 : decode cX12_count 137 = .ok (.ireturn, 1) := by decide +kernel
theorem dX12_count_138 : decode cX12_count 138 = .ok (.aload_n 0, 1) := by decide +kernel
theorem dX12_count_139 : decode cX12_count 139 = .ok (.getfield 201, 3) := by decide +kernel
theorem dX12_count_142 : decode cX12_count 142 = .ok (.ireturn, 1) := by decide +kernel
theorem dX12_count_143 : decode cX12_count 143 = .ok (.aload_n 0, 1) := by decide +kernel
theorem dX12_count_144 : decode cX12_count 144 = .ok (.invokevirtual 517, 3) := by decide +kernel
theorem dX12_count_147 : decode cX12_count 147 = .ok (.ireturn, 1) := by decide +kernel
theorem dX12_count_148 : decode cX12_count 148 = .ok (.iconst (-1), 1) := by decide +kernel
theorem dX12_count_149 : decode cX12_count 149 = .ok (.ireturn, 1) := by decide +kernel
theorem dL_law_0 : decode cL_law 0 = .ok (.new 7, 3) := by decide +kernel
theorem dL_law_3 : decode cL_law 3 = .ok (.dup, 1) := by decide +kernel
theorem dL_law_4 : decode cL_law 4 = .ok (.invokespecial 9, 3) := by decide +kernel
theorem dL_law_7 : decode cL_law 7 = .ok (.astore_n 1, 1) := by decide +kernel
theorem dL_law_8 : decode cL_law 8 = .ok (.new 10, 3) := by decide +kernel
theorem dL_law_11 : decode cL_law 11 = .ok (.dup, 1) := by decide +kernel
theorem dL_law_12 : decode cL_law 12 = .ok (.invokespecial 12, 3) := by decide +kernel
theorem dL_law_15 : decode cL_law 15 = .ok (.astore_n 2, 1) := by decide +kernel
theorem dL_law_16 : decode cL_law 16 = .ok (.iconst 0, 1) := by decide +kernel
theorem dL_law_17 : decode cL_law 17 = .ok (.istore_n 3, 1) := by decide +kernel
theorem dL_law_18 : decode cL_law 18 = .ok (.iload_n 3, 1) := by decide +kernel
theorem dL_law_19 : decode cL_law 19 = .ok (.aload_n 0, 1) := by decide +kernel
theorem dL_law_20 : decode cL_law 20 = .ok (.arraylength, 1) := by decide +kernel
theorem dL_law_21 : decode cL_law 21 = .ok (.bipush 6, 2) := by decide +kernel
theorem dL_law_23 : decode cL_law 23 = .ok (.isub, 1) := by decide +kernel
theorem dL_law_24 : decode cL_law 24 = .ok (.if_icmp .gt 1350, 3) := by decide +kernel
theorem dL_law_27 : decode cL_law 27 = .ok (.aload_n 0, 1) := by decide +kernel
theorem dL_law_28 : decode cL_law 28 = .ok (.iload_n 3, 1) := by decide +kernel
theorem dL_law_29 : decode cL_law 29 = .ok (.iaload, 1) := by decide +kernel
theorem dL_law_30 : decode cL_law 30 = .ok (.bipush 31, 2) := by decide +kernel
theorem dL_law_32 : decode cL_law 32 = .ok (.iand, 1) := by decide +kernel
theorem dL_law_33 : decode cL_law 33 = .ok (.tableswitch 1335 0 31 #[143, 156, 189, 232, 281, 314, 377, 440, 473, 506, 519, 552, 605, 668, 731, 794, 857, 870, 903, 946, 979, 1002, 1025, 1058, 1081, 1114, 1167, 1190, 1243, 1276, 1289, 1312], 143) := by decide +kernel
theorem dL_law_176 : decode cL_law 176 = .ok (.aload_n 1, 1) := by decide +kernel
theorem dL_law_177 : decode cL_law 177 = .ok (.invokevirtual 13, 3) := by decide +kernel
theorem dL_law_180 : decode cL_law 180 = .ok (.pop, 1) := by decide +kernel
theorem dL_law_181 : decode cL_law 181 = .ok (.aload_n 2, 1) := by decide +kernel
theorem dL_law_182 : decode cL_law 182 = .ok (.invokevirtual 17, 3) := by decide +kernel
theorem dL_law_185 : decode cL_law 185 = .ok (.pop, 1) := by decide +kernel
theorem dL_law_186 : decode cL_law 186 = .ok (.goto 1182, 3) := by decide +kernel
theorem dL_law_189 : decode cL_law 189 = .ok (.aload_n 1, 1) := by decide +kernel
theorem dL_law_190 : decode cL_law 190 = .ok (.aload_n 0, 1) := by decide +kernel
theorem dL_law_191 : decode cL_law 191 = .ok (.iload_n 3, 1) := by decide +kernel
theorem dL_law_192 : decode cL_law 192 = .ok (.iconst 1, 1) := by decide +kernel
theorem dL_law_193 : decode cL_law 193 = .ok (.iadd, 1) := by decide +kernel
theorem dL_law_194 : decode cL_law 194 = .ok (.iaload, 1) := by decide +kernel
theorem dL_law_195 : decode cL_law 195 = .ok (.aload_n 0, 1) := by decide +kernel
theorem dL_law_196 : decode cL_law 196 = .ok (.iload_n 3, 1) := by decide +kernel
theorem dL_law_197 : decode cL_law 197 = .ok (.iconst 2, 1) := by decide +kernel
theorem dL_law_198 : decode cL_law 198 = .ok (.iadd, 1) := by decide +kernel
theorem dL_law_199 : decode cL_law 199 = .ok (.iaload, 1) := by decide +kernel
theorem dL_law_200 : decode cL_law 200 = .ok (.invokevirtual 18, 3) := by decide +kernel
theorem dL_law_203 : decode cL_law 203 = .ok (.pop, 1) := by decide +kernel
theorem dL_law_204 : decode cL_law 204 = .ok (.aload_n 2, 1) := by decide +kernel
theorem dL_law_205 : decode cL_law 205 = .ok (.aload_n 0, 1) := by decide +kernel
theorem dL_law_206 : decode cL_law 206 = .ok (.iload_n 3, 1) := by decide +kernel
theorem dL_law_207 : decode cL_law 207 = .ok (.iconst 1, 1) := by decide +kernel
theorem dL_law_208 : decode cL_law 208 = .ok (.iadd, 1) := by decide +kernel
theorem dL_law_209 : decode cL_law 209 = .ok (.iaload, 1) := by decide +kernel
theorem dL_law_210 : decode cL_law 210 = .ok (.aload_n 0, 1) := by decide +kernel
theorem dL_law_211 : decode cL_law 211 = .ok (.iload_n 3, 1) := by decide +kernel
theorem dL_law_212 : decode cL_law 212 = .ok (.iconst 2, 1) := by decide +kernel
theorem dL_law_213 : decode cL_law 213 = .ok (.iadd, 1) := by decide +kernel
theorem dL_law_214 : decode cL_law 214 = .ok (.iaload, 1) := by decide +kernel
theorem dL_law_215 : decode cL_law 215 = .ok (.invokevirtual 22, 3) := by decide +kernel
theorem dL_law_218 : decode cL_law 218 = .ok (.pop, 1) := by decide +kernel
theorem dL_law_219 : decode cL_law 219 = .ok (.goto 1149, 3) := by decide +kernel
theorem dL_law_222 : decode cL_law 222 = .ok (.aload_n 1, 1) := by decide +kernel
theorem dL_law_223 : decode cL_law 223 = .ok (.aload_n 0, 1) := by decide +kernel
theorem dL_law_224 : decode cL_law 224 = .ok (.iload_n 3, 1) := by decide +kernel
theorem dL_law_225 : decode cL_law 225 = .ok (.iconst 1, 1) := by decide +kernel
theorem dL_law_226 : decode cL_law 226 = .ok (.iadd, 1) := by decide +kernel
theorem dL_law_227 : decode cL_law 227 = .ok (.iaload, 1) := by decide +kernel
theorem dL_law_228 : decode cL_law 228 = .ok (.aload_n 0, 1) := by decide +kernel
theorem dL_law_229 : decode cL_law 229 = .ok (.iload_n 3, 1) := by decide +kernel
theorem dL_law_230 : decode cL_law 230 = .ok (.iconst 2, 1) := by decide +kernel
theorem dL_law_231 : decode cL_law 231 = .ok (.iadd, 1) := by decide +kernel
theorem dL_law_232 : decode cL_law 232 = .ok (.iaload, 1) := by decide +kernel
theorem dL_law_233 : decode cL_law 233 = .ok (.aload_n 0, 1) := by decide +kernel
theorem dL_law_234 : decode cL_law 234 = .ok (.iload_n 3, 1) := by decide +kernel
theorem dL_law_235 : decode cL_law 235 = .ok (.iconst 3, 1) := by decide +kernel
theorem dL_law_236 : decode cL_law 236 = .ok (.iadd, 1) := by decide +kernel
theorem dL_law_237 : decode cL_law 237 = .ok (.iaload, 1) := by decide +kernel
theorem dL_law_238 : decode cL_law 238 = .ok (.invokevirtual 23, 3) := by decide +kernel
theorem dL_law_241 : decode cL_law 241 = .ok (.pop, 1) := by decide +kernel
theorem dL_law_242 : decode cL_law 242 = .ok (.aload_n 2, 1) := by decide +kernel
theorem dL_law_243 : decode cL_law 243 = .ok (.aload_n 0, 1) := by decide +kernel
theorem dL_law_244 : decode cL_law 244 = .ok (.iload_n 3, 1) := by decide +kernel
theorem dL_law_245 : decode cL_law 245 = .ok (.iconst 1, 1) := by decide +kernel
theorem dL_law_246 : decode cL_law 246 = .ok (.iadd, 1) := by decide +kernel
theorem dL_law_247 : decode cL_law 247 = .ok (.iaload, 1) := by decide +kernel
theorem dL_law_248 : decode cL_law 248 = .ok (.aload_n 0, 1) := by decide +kernel
theorem dL_law_249 : decode cL_law 249 = .ok (.iload_n 3, 1) := by decide +kernel
theorem dL_law_250 : decode cL_law 250 = .ok (.iconst 2, 1) := by decide +kernel
theorem dL_law_251 : decode cL_law 251 = .ok (.iadd, 1) := by decide +kernel
theorem dL_law_252 : decode cL_law 252 = .ok (.iaload, 1) := by decide +kernel
theorem dL_law_253 : decode cL_law 253 = .ok (.aload_n 0, 1) := by decide +kernel
theorem dL_law_254 : decode cL_law 254 = .ok (.iload_n 3, 1) := by decide +kernel
theorem dL_law_255 : decode cL_law 255 = .ok (.iconst 3, 1) := by decide +kernel
theorem dL_law_256 : decode cL_law 256 = .ok (.iadd, 1) := by decide +kernel
theorem dL_law_257 : decode cL_law 257 = .ok (.iaload, 1) := by decide +kernel
theorem dL_law_258 : decode cL_law 258 = .ok (.invokevirtual 27, 3) := by decide +kernel
theorem dL_law_261 : decode cL_law 261 = .ok (.pop, 1) := by decide +kernel
theorem dL_law_262 : decode cL_law 262 = .ok (.goto 1106, 3) := by decide +kernel
theorem dL_law_265 : decode cL_law 265 = .ok (.aload_n 1, 1) := by decide +kernel
theorem dL_law_266 : decode cL_law 266 = .ok (.aload_n 0, 1) := by decide +kernel
theorem dL_law_267 : decode cL_law 267 = .ok (.iload_n 3, 1) := by decide +kernel
theorem dL_law_268 : decode cL_law 268 = .ok (.iconst 1, 1) := by decide +kernel
theorem dL_law_269 : decode cL_law 269 = .ok (.iadd, 1) := by decide +kernel
theorem dL_law_270 : decode cL_law 270 = .ok (.iaload, 1) := by decide +kernel
theorem dL_law_271 : decode cL_law 271 = .ok (.aload_n 0, 1) := by decide +kernel
theorem dL_law_272 : decode cL_law 272 = .ok (.iload_n 3, 1) := by decide +kernel
theorem dL_law_273 : decode cL_law 273 = .ok (.iconst 2, 1) := by decide +kernel
theorem dL_law_274 : decode cL_law 274 = .ok (.iadd, 1) := by decide +kernel
theorem dL_law_275 : decode cL_law 275 = .ok (.iaload, 1) := by decide +kernel
theorem dL_law_276 : decode cL_law 276 = .ok (.ifCond .eq 7, 3) := by decide +kernel
theorem dL_law_279 : decode cL_law 279 = .ok (.iconst 1, 1) := by decide +kernel
theorem dL_law_280 : decode cL_law 280 = .ok (.goto 4, 3) := by decide +kernel
theorem dL_law_283 : decode cL_law 283 = .ok (.iconst 0, 1) := by decide +kernel
theorem dL_law_284 : decode cL_law 284 = .ok (.invokevirtual 28, 3) := by decide +kernel
theorem dL_law_287 : decode cL_law 287 = .ok (.pop, 1) := by decide +kernel
theorem dL_law_288 : decode cL_law 288 = .ok (.aload_n 2, 1) := by decide +kernel
theorem dL_law_289 : decode cL_law 289 = .ok (.aload_n 0, 1) := by decide +kernel
theorem dL_law_290 : decode cL_law 290 = .ok (.iload_n 3, 1) := by decide +kernel
theorem dL_law_291 : decode cL_law 291 = .ok (.iconst 1, 1) := by decide +kernel
theorem dL_law_292 : decode cL_law 292 = .ok (.iadd, 1) := by decide +kernel
theorem dL_law_293 : decode cL_law 293 = .ok (.iaload, 1) := by decide +kernel
theorem dL_law_294 : decode cL_law 294 = .ok (.aload_n 0, 1) := by decide +kernel
theorem dL_law_295 : decode cL_law 295 = .ok (.iload_n 3, 1) := by decide +kernel
theorem dL_law_296 : decode cL_law 296 = .ok (.iconst 2, 1) := by decide +kernel
theorem dL_law_297 : decode cL_law 297 = .ok (.iadd, 1) := by decide +kernel
theorem dL_law_298 : decode cL_law 298 = .ok (.iaload, 1) := by decide +kernel
theorem dL_law_299 : decode cL_law 299 = .ok (.ifCond .eq 7, 3) := by decide +kernel
theorem dL_law_302 : decode cL_law 302 = .ok (.iconst 1, 1) := by decide +kernel
theorem dL_law_303 : decode cL_law 303 = .ok (.goto 4, 3) := by decide +kernel
theorem dL_law_306 : decode cL_law 306 = .ok (.iconst 0, 1) := by decide +kernel
theorem dL_law_307 : decode cL_law 307 = .ok (.invokevirtual 32, 3) := by decide +kernel
theorem dL_law_310 : decode cL_law 310 = .ok (.pop, 1) := by decide +kernel
theorem dL_law_311 : decode cL_law 311 = .ok (.goto 1057, 3) := by decide +kernel
theorem dL_law_314 : decode cL_law 314 = .ok (.aload_n 1, 1) := by decide +kernel
theorem dL_law_315 : decode cL_law 315 = .ok (.aload_n 0, 1) := by decide +kernel
theorem dL_law_316 : decode cL_law 316 = .ok (.iload_n 3, 1) := by decide +kernel
theorem dL_law_317 : decode cL_law 317 = .ok (.iconst 1, 1) := by decide +kernel
theorem dL_law_318 : decode cL_law 318 = .ok (.iadd, 1) := by decide +kernel
theorem dL_law_319 : decode cL_law 319 = .ok (.iaload, 1) := by decide +kernel
theorem dL_law_320 : decode cL_law 320 = .ok (.aload_n 0, 1) := by decide +kernel
theorem dL_law_321 : decode cL_law 321 = .ok (.iload_n 3, 1) := by decide +kernel
theorem dL_law_322 : decode cL_law 322 = .ok (.iconst 2, 1) := by decide +kernel
theorem dL_law_323 : decode cL_law 323 = .ok (.iadd, 1) := by decide +kernel
theorem dL_law_324 : decode cL_law 324 = .ok (.iaload, 1) := by decide +kernel
theorem dL_law_325 : decode cL_law 325 = .ok (.invokevirtual 33, 3) := by decide +kernel
theorem dL_law_328 : decode cL_law 328 = .ok (.pop, 1) := by decide +kernel
theorem dL_law_329 : decode cL_law 329 = .ok (.aload_n 2, 1) := by decide +kernel
theorem dL_law_330 : decode cL_law 330 = .ok (.aload_n 0, 1) := by decide +kernel
theorem dL_law_331 : decode cL_law 331 = .ok (.iload_n 3, 1) := by decide +kernel
theorem dL_law_332 : decode cL_law 332 = .ok (.iconst 1, 1) := by decide +kernel
theorem dL_law_333 : decode cL_law 333 = .ok (.iadd, 1) := by decide +kernel
theorem dL_law_334 : decode cL_law 334 = .ok (.iaload, 1) := by decide +kernel
theorem dL_law_335 : decode cL_law 335 = .ok (.aload_n 0, 1) := by decide +kernel
theorem dL_law_336 : decode cL_law 336 = .ok (.iload_n 3, 1) := by decide +kernel
theorem dL_law_337 : decode cL_law 337 = .ok (.iconst 2, 1) := by decide +kernel
theorem dL_law_338 : decode cL_law 338 = .ok (.iadd, 1) := by decide +kernel
theorem dL_law_339 : decode cL_law 339 = .ok (.iaload, 1) := by decide +kernel
theorem dL_law_340 : decode cL_law 340 = .ok (.invokevirtual 37, 3) := by decide +kernel
theorem dL_law_343 : decode cL_law 343 = .ok (.pop, 1) := by decide +kernel
theorem dL_law_344 : decode cL_law 344 = .ok (.goto 1024, 3) := by decide +kernel
theorem dL_law_347 : decode cL_law 347 = .ok (.aload_n 1, 1) := by decide +kernel
theorem dL_law_348 : decode cL_law 348 = .ok (.aload_n 0, 1) := by decide +kernel
theorem dL_law_349 : decode cL_law 349 = .ok (.iload_n 3, 1) := by decide +kernel
theorem dL_law_350 : decode cL_law 350 = .ok (.iconst 1, 1) := by decide +kernel
theorem dL_law_351 : decode cL_law 351 = .ok (.iadd, 1) := by decide +kernel
theorem dL_law_352 : decode cL_law 352 = .ok (.iaload, 1) := by decide +kernel
theorem dL_law_353 : decode cL_law 353 = .ok (.aload_n 0, 1) := by decide +kernel
theorem dL_law_354 : decode cL_law 354 = .ok (.iload_n 3, 1) := by decide +kernel
theorem dL_law_355 : decode cL_law 355 = .ok (.iconst 2, 1) := by decide +kernel
theorem dL_law_356 : decode cL_law 356 = .ok (.iadd, 1) := by decide +kernel
theorem dL_law_357 : decode cL_law 357 = .ok (.iaload, 1) := by decide +kernel
theorem dL_law_358 : decode cL_law 358 = .ok (.aload_n 0, 1) := by decide +kernel
theorem dL_law_359 : decode cL_law 359 = .ok (.iload_n 3, 1) := by decide +kernel
theorem dL_law_360 : decode cL_law 360 = .ok (.iconst 3, 1) := by decide +kernel
theorem dL_law_361 : decode cL_law 361 = .ok (.iadd, 1) := by decide +kernel
theorem dL_law_362 : decode cL_law 362 = .ok (.iaload, 1) := by decide +kernel
theorem dL_law_363 : decode cL_law 363 = .ok (.aload_n 0, 1) := by decide +kernel
theorem dL_law_364 : decode cL_law 364 = .ok (.iload_n 3, 1) := by decide +kernel
theorem dL_law_365 : decode cL_law 365 = .ok (.iconst 4, 1) := by decide +kernel
theorem dL_law_366 : decode cL_law 366 = .ok (.iadd, 1) := by decide +kernel
theorem dL_law_367 : decode cL_law 367 = .ok (.iaload, 1) := by decide +kernel
theorem dL_law_368 : decode cL_law 368 = .ok (.aload_n 0, 1) := by decide +kernel
theorem dL_law_369 : decode cL_law 369 = .ok (.iload_n 3, 1) := by decide +kernel
theorem dL_law_370 : decode cL_law 370 = .ok (.iconst 5, 1) := by decide +kernel
theorem dL_law_371 : decode cL_law 371 = .ok (.iadd, 1) := by decide +kernel
theorem dL_law_372 : decode cL_law 372 = .ok (.iaload, 1) := by decide +kernel
theorem dL_law_373 : decode cL_law 373 = .ok (.invokevirtual 38, 3) := by decide +kernel
theorem dL_law_376 : decode cL_law 376 = .ok (.pop, 1) := by decide +kernel
theorem dL_law_377 : decode cL_law 377 = .ok (.aload_n 2, 1) := by decide +kernel
theorem dL_law_378 : decode cL_law 378 = .ok (.aload_n 0, 1) := by decide +kernel
theorem dL_law_379 : decode cL_law 379 = .ok (.iload_n 3, 1) := by decide +kernel
theorem dL_law_380 : decode cL_law 380 = .ok (.iconst 1, 1) := by decide +kernel
theorem dL_law_381 : decode cL_law 381 = .ok (.iadd, 1) := by decide +kernel
theorem dL_law_382 : decode cL_law 382 = .ok (.iaload, 1) := by decide +kernel
theorem dL_law_383 : decode cL_law 383 = .ok (.aload_n 0, 1) := by decide +kernel
theorem dL_law_384 : decode cL_law 384 = .ok (.iload_n 3, 1) := by decide +kernel
theorem dL_law_385 : decode cL_law 385 = .ok (.iconst 2, 1) := by decide +kernel
theorem dL_law_386 : decode cL_law 386 = .ok (.iadd, 1) := by decide +kernel
theorem dL_law_387 : decode cL_law 387 = .ok (.iaload, 1) := by decide +kernel
theorem dL_law_388 : decode cL_law 388 = .ok (.aload_n 0, 1) := by decide +kernel
theorem dL_law_389 : decode cL_law 389 = .ok (.iload_n 3, 1) := by decide +kernel
theorem dL_law_390 : decode cL_law 390 = .ok (.iconst 3, 1) := by decide +kernel
theorem dL_law_391 : decode cL_law 391 = .ok (.iadd, 1) := by decide +kernel
theorem dL_law_392 : decode cL_law 392 = .ok (.iaload, 1) := by decide +kernel
theorem dL_law_393 : decode cL_law 393 = .ok (.aload_n 0, 1) := by decide +kernel
theorem dL_law_394 : decode cL_law 394 = .ok (.iload_n 3, 1) := by decide +kernel
theorem dL_law_395 : decode cL_law 395 = .ok (.iconst 4, 1) := by decide +kernel
theorem dL_law_396 : decode cL_law 396 = .ok (.iadd, 1) := by decide +kernel
