theorem d_M_quota_28 : decode c_M_quota 28 = .ok (.aload_n 0, 1) := by decide +kernel
theorem d_M_quota_29 : decode c_M_quota 29 = .ok (.getfield 34, 3) := by decide +kernel
theorem d_M_quota_32 : decode c_M_quota 32 = .ok (.iload 4, 2) := by decide +kernel
theorem d_M_quota_34 : decode c_M_quota 34 = .ok (.iconst 0, 1) := by decide +kernel
theorem d_M_quota_35 : decode c_M_quota 35 = .ok (.iastore, 1) := by decide +kernel
theorem d_M_quota_36 : decode c_M_quota 36 = .ok (.iinc 4 1, 3) := by decide +kernel
theorem d_M_quota_39 : decode c_M_quota 39 = .ok (.goto (-18), 3) := by decide +kernel
theorem d_M_quota_42 : decode c_M_quota 42 = .ok (.sipush 1000, 3) := by decide +kernel
theorem d_M_quota_45 : decode c_M_quota 45 = .ok (.istore 4, 2) := by decide +kernel
theorem d_M_quota_47 : decode c_M_quota 47 = .ok (.aload_n 0, 1) := by decide +kernel
theorem d_M_quota_48 : decode c_M_quota 48 = .ok (.iconst (-1), 1) := by decide +kernel
theorem d_M_quota_49 : decode c_M_quota 49 = .ok (.iload_n 2, 1) := by decide +kernel
theorem d_M_quota_50 : decode c_M_quota 50 = .ok (.iload_n 3, 1) := by decide +kernel
theorem d_M_quota_51 : decode c_M_quota 51 = .ok (.invokevirtual 80, 3) := by decide +kernel
theorem d_M_quota_54 : decode c_M_quota 54 = .ok (.istore 5, 2) := by decide +kernel
theorem d_M_quota_56 : decode c_M_quota 56 = .ok (.iconst (-1), 1) := by decide +kernel
theorem d_M_quota_57 : decode c_M_quota 57 = .ok (.istore 6, 2) := by decide +kernel
theorem d_M_quota_59 : decode c_M_quota 59 = .ok (.iload 5, 2) := by decide +kernel
theorem d_M_quota_61 : decode c_M_quota 61 = .ok (.ifCond .lt 64, 3) := by decide +kernel
theorem d_M_quota_64 : decode c_M_quota 64 = .ok (.aload_n 0, 1) := by decide +kernel
theorem d_M_quota_65 : decode c_M_quota 65 = .ok (.getfield 7, 3) := by decide +kernel
theorem d_M_quota_68 : decode c_M_quota 68 = .ok (.iload 5, 2) := by decide +kernel
theorem d_M_quota_70 : decode c_M_quota 70 = .ok (.iaload, 1) := by decide +kernel
theorem d_M_quota_71 : decode c_M_quota 71 = .ok (.iconst 4, 1) := by decide +kernel
theorem d_M_quota_72 : decode c_M_quota 72 = .ok (.if_icmp .ne 36, 3) := by decide +kernel
theorem d_M_quota_75 : decode c_M_quota 75 = .ok (.aload_n 0, 1) := by decide +kernel
theorem d_M_quota_76 : decode c_M_quota 76 = .ok (.getfield 19, 3) := by decide +kernel
theorem d_M_quota_79 : decode c_M_quota 79 = .ok (.iload 5, 2) := by decide +kernel
theorem d_M_quota_81 : decode c_M_quota 81 = .ok (.iaload, 1) := by decide +kernel
theorem d_M_quota_82 : decode c_M_quota 82 = .ok (.iload 6, 2) := by decide +kernel
theorem d_M_quota_84 : decode c_M_quota 84 = .ok (.if_icmp .eq 24, 3) := by decide +kernel
theorem d_M_quota_87 : decode c_M_quota 87 = .ok (.aload_n 0, 1) := by decide +kernel
theorem d_M_quota_88 : decode c_M_quota 88 = .ok (.getfield 19, 3) := by decide +kernel
theorem d_M_quota_91 : decode c_M_quota 91 = .ok (.iload 5, 2) := by decide +kernel
theorem d_M_quota_93 : decode c_M_quota 93 = .ok (.iaload, 1) := by decide +kernel
theorem d_M_quota_94 : decode c_M_quota 94 = .ok (.istore 6, 2) := by decide +kernel
theorem d_M_quota_96 : decode c_M_quota 96 = .ok (.aload_n 0, 1) := by decide +kernel
theorem d_M_quota_97 : decode c_M_quota 97 = .ok (.iload 6, 2) := by decide +kernel
theorem d_M_quota_99 : decode c_M_quota 99 = .ok (.iload 4, 2) := by decide +kernel
theorem d_M_quota_101 : decode c_M_quota 101 = .ok (.iload_n 2, 1) := by decide +kernel
theorem d_M_quota_102 : decode c_M_quota 102 = .ok (.iload_n 3, 1) := by decide +kernel
theorem d_M_quota_103 : decode c_M_quota 103 = .ok (.invokevirtual 100, 3) := by decide +kernel
theorem d_M_quota_106 : decode c_M_quota 106 = .ok (.istore 4, 2) := by decide +kernel
theorem d_M_quota_108 : decode c_M_quota 108 = .ok (.aload_n 0, 1) := by decide +kernel
theorem d_M_quota_109 : decode c_M_quota 109 = .ok (.aload_n 0, 1) := by decide +kernel
theorem d_M_quota_110 : decode c_M_quota 110 = .ok (.iload 5, 2) := by decide +kernel
theorem d_M_quota_112 : decode c_M_quota 112 = .ok (.invokevirtual 73, 3) := by decide +kernel
theorem d_M_quota_115 : decode c_M_quota 115 = .ok (.iload_n 2, 1) := by decide +kernel
theorem d_M_quota_116 : decode c_M_quota 116 = .ok (.iload_n 3, 1) := by decide +kernel
theorem d_M_quota_117 : decode c_M_quota 117 = .ok (.invokevirtual 80, 3) := by decide +kernel
theorem d_M_quota_120 : decode c_M_quota 120 = .ok (.istore 5, 2) := by decide +kernel
theorem d_M_quota_122 : decode c_M_quota 122 = .ok (.goto (-63), 3) := by decide +kernel
theorem d_M_quota_125 : decode c_M_quota 125 = .ok (.aload_n 0, 1) := by decide +kernel
theorem d_M_quota_126 : decode c_M_quota 126 = .ok (.getfield 34, 3) := by decide +kernel
theorem d_M_quota_129 : decode c_M_quota 129 = .ok (.iload_n 1, 1) := by decide +kernel
theorem d_M_quota_130 : decode c_M_quota 130 = .ok (.iaload, 1) := by decide +kernel
theorem d_M_quota_131 : decode c_M_quota 131 = .ok (.ireturn, 1) := by decide +kernel
theorem d_M_serves_0 : decode c_M_serves 0 = .ok (.iconst 0, 1) := by decide +kernel
theorem d_M_serves_1 : decode c_M_serves 1 = .ok (.istore 5, 2) := by decide +kernel
theorem d_M_serves_3 : decode c_M_serves 3 = .ok (.iconst 0, 1) := by decide +kernel
theorem d_M_serves_4 : decode c_M_serves 4 = .ok (.istore 6, 2) := by decide +kernel
theorem d_M_serves_6 : decode c_M_serves 6 = .ok (.iload 6, 2) := by decide +kernel
theorem d_M_serves_8 : decode c_M_serves 8 = .ok (.aload_n 0, 1) := by decide +kernel
theorem d_M_serves_9 : decode c_M_serves 9 = .ok (.getfield 50, 3) := by decide +kernel
theorem d_M_serves_12 : decode c_M_serves 12 = .ok (.if_icmp .ge 38, 3) := by decide +kernel
theorem d_M_serves_15 : decode c_M_serves 15 = .ok (.iload 5, 2) := by decide +kernel
theorem d_M_serves_17 : decode c_M_serves 17 = .ok (.aload_n 0, 1) := by decide +kernel
theorem d_M_serves_18 : decode c_M_serves 18 = .ok (.iload 6, 2) := by decide +kernel
theorem d_M_serves_20 : decode c_M_serves 20 = .ok (.iload_n 1, 1) := by decide +kernel
theorem d_M_serves_21 : decode c_M_serves 21 = .ok (.iload_n 3, 1) := by decide +kernel
theorem d_M_serves_22 : decode c_M_serves 22 = .ok (.iload 4, 2) := by decide +kernel
theorem d_M_serves_24 : decode c_M_serves 24 = .ok (.invokevirtual 96, 3) := by decide +kernel
theorem d_M_serves_27 : decode c_M_serves 27 = .ok (.ifCond .eq 13, 3) := by decide +kernel
theorem d_M_serves_30 : decode c_M_serves 30 = .ok (.aload_n 0, 1) := by decide +kernel
theorem d_M_serves_31 : decode c_M_serves 31 = .ok (.getfield 16, 3) := by decide +kernel
theorem d_M_serves_34 : decode c_M_serves 34 = .ok (.iload 6, 2) := by decide +kernel
theorem d_M_serves_36 : decode c_M_serves 36 = .ok (.iaload, 1) := by decide +kernel
theorem d_M_serves_37 : decode c_M_serves 37 = .ok (.goto 4, 3) := by decide +kernel
theorem d_M_serves_40 : decode c_M_serves 40 = .ok (.iconst 0, 1) := by decide +kernel
theorem d_M_serves_41 : decode c_M_serves 41 = .ok (.iadd, 1) := by decide +kernel
theorem d_M_serves_42 : decode c_M_serves 42 = .ok (.istore 5, 2) := by decide +kernel
theorem d_M_serves_44 : decode c_M_serves 44 = .ok (.iinc 6 1, 3) := by decide +kernel
theorem d_M_serves_47 : decode c_M_serves 47 = .ok (.goto (-41), 3) := by decide +kernel
theorem d_M_serves_50 : decode c_M_serves 50 = .ok (.iconst 0, 1) := by decide +kernel
theorem d_M_serves_51 : decode c_M_serves 51 = .ok (.istore 6, 2) := by decide +kernel
theorem d_M_serves_53 : decode c_M_serves 53 = .ok (.iconst 0, 1) := by decide +kernel
theorem d_M_serves_54 : decode c_M_serves 54 = .ok (.istore 7, 2) := by decide +kernel
theorem d_M_serves_56 : decode c_M_serves 56 = .ok (.iload 7, 2) := by decide +kernel
theorem d_M_serves_58 : decode c_M_serves 58 = .ok (.aload_n 0, 1) := by decide +kernel
theorem d_M_serves_59 : decode c_M_serves 59 = .ok (.getfield 50, 3) := by decide +kernel
theorem d_M_serves_62 : decode c_M_serves 62 = .ok (.if_icmp .ge 59, 3) := by decide +kernel
theorem d_M_serves_65 : decode c_M_serves 65 = .ok (.iload 6, 2) := by decide +kernel
theorem d_M_serves_67 : decode c_M_serves 67 = .ok (.aload_n 0, 1) := by decide +kernel
theorem d_M_serves_68 : decode c_M_serves 68 = .ok (.iload 7, 2) := by decide +kernel
theorem d_M_serves_70 : decode c_M_serves 70 = .ok (.iload_n 1, 1) := by decide +kernel
theorem d_M_serves_71 : decode c_M_serves 71 = .ok (.iload_n 3, 1) := by decide +kernel
theorem d_M_serves_72 : decode c_M_serves 72 = .ok (.iload 4, 2) := by decide +kernel
theorem d_M_serves_74 : decode c_M_serves 74 = .ok (.invokevirtual 96, 3) := by decide +kernel
theorem d_M_serves_77 : decode c_M_serves 77 = .ok (.ifCond .ne 7, 3) := by decide +kernel
theorem d_M_serves_80 : decode c_M_serves 80 = .ok (.iconst 0, 1) := by decide +kernel
theorem d_M_serves_81 : decode c_M_serves 81 = .ok (.goto 31, 3) := by decide +kernel
theorem d_M_serves_84 : decode c_M_serves 84 = .ok (.iload 5, 2) := by decide +kernel
theorem d_M_serves_86 : decode c_M_serves 86 = .ok (.iload_n 2, 1) := by decide +kernel
theorem d_M_serves_87 : decode c_M_serves 87 = .ok (.if_icmp .gt 13, 3) := by decide +kernel
theorem d_M_serves_90 : decode c_M_serves 90 = .ok (.aload_n 0, 1) := by decide +kernel
theorem d_M_serves_91 : decode c_M_serves 91 = .ok (.getfield 16, 3) := by decide +kernel
theorem d_M_serves_94 : decode c_M_serves 94 = .ok (.iload 7, 2) := by decide +kernel
theorem d_M_serves_96 : decode c_M_serves 96 = .ok (.iaload, 1) := by decide +kernel
theorem d_M_serves_97 : decode c_M_serves 97 = .ok (.goto 15, 3) := by decide +kernel
theorem d_M_serves_100 : decode c_M_serves 100 = .ok (.aload_n 0, 1) := by decide +kernel
theorem d_M_serves_101 : decode c_M_serves 101 = .ok (.getfield 16, 3) := by decide +kernel
theorem d_M_serves_104 : decode c_M_serves 104 = .ok (.iload 7, 2) := by decide +kernel
theorem d_M_serves_106 : decode c_M_serves 106 = .ok (.iaload, 1) := by decide +kernel
theorem d_M_serves_107 : decode c_M_serves 107 = .ok (.iload_n 2, 1) := by decide +kernel
theorem d_M_serves_108 : decode c_M_serves 108 = .ok (.imul, 1) := by decide +kernel
theorem d_M_serves_109 : decode c_M_serves 109 = .ok (.iload 5, 2) := by decide +kernel
theorem d_M_serves_111 : decode c_M_serves 111 = .ok (.idiv, 1) := by decide +kernel
theorem d_M_serves_112 : decode c_M_serves 112 = .ok (.iadd, 1) := by decide +kernel
theorem d_M_serves_113 : decode c_M_serves 113 = .ok (.istore 6, 2) := by decide +kernel
theorem d_M_serves_115 : decode c_M_serves 115 = .ok (.iinc 7 1, 3) := by decide +kernel
theorem d_M_serves_118 : decode c_M_serves 118 = .ok (.goto (-62), 3) := by decide +kernel
theorem d_M_serves_121 : decode c_M_serves 121 = .ok (.iload 5, 2) := by decide +kernel
theorem d_M_serves_123 : decode c_M_serves 123 = .ok (.iload_n 2, 1) := by decide +kernel
theorem d_M_serves_124 : decode c_M_serves 124 = .ok (.if_icmp .gt 7, 3) := by decide +kernel
theorem d_M_serves_127 : decode c_M_serves 127 = .ok (.iconst 0, 1) := by decide +kernel
theorem d_M_serves_128 : decode c_M_serves 128 = .ok (.goto 7, 3) := by decide +kernel
theorem d_M_serves_131 : decode c_M_serves 131 = .ok (.iload_n 2, 1) := by decide +kernel
theorem d_M_serves_132 : decode c_M_serves 132 = .ok (.iload 6, 2) := by decide +kernel
theorem d_M_serves_134 : decode c_M_serves 134 = .ok (.isub, 1) := by decide +kernel
theorem d_M_serves_135 : decode c_M_serves 135 = .ok (.istore 7, 2) := by decide +kernel
theorem d_M_serves_137 : decode c_M_serves 137 = .ok (.iconst 0, 1) := by decide +kernel
theorem d_M_serves_138 : decode c_M_serves 138 = .ok (.istore 8, 2) := by decide +kernel
theorem d_M_serves_140 : decode c_M_serves 140 = .ok (.iload 8, 2) := by decide +kernel
theorem d_M_serves_142 : decode c_M_serves 142 = .ok (.aload_n 0, 1) := by decide +kernel
theorem d_M_serves_143 : decode c_M_serves 143 = .ok (.getfield 50, 3) := by decide +kernel
theorem d_M_serves_146 : decode c_M_serves 146 = .ok (.if_icmp .ge 91, 3) := by decide +kernel
theorem d_M_serves_149 : decode c_M_serves 149 = .ok (.aload_n 0, 1) := by decide +kernel
theorem d_M_serves_150 : decode c_M_serves 150 = .ok (.iload 8, 2) := by decide +kernel
theorem d_M_serves_152 : decode c_M_serves 152 = .ok (.iload_n 1, 1) := by decide +kernel
theorem d_M_serves_153 : decode c_M_serves 153 = .ok (.iload_n 3, 1) := by decide +kernel
theorem d_M_serves_154 : decode c_M_serves 154 = .ok (.iload 4, 2) := by decide +kernel
theorem d_M_serves_156 : decode c_M_serves 156 = .ok (.invokevirtual 96, 3) := by decide +kernel
theorem d_M_serves_159 : decode c_M_serves 159 = .ok (.ifCond .eq 72, 3) := by decide +kernel
theorem d_M_serves_162 : decode c_M_serves 162 = .ok (.aload_n 0, 1) := by decide +kernel
theorem d_M_serves_163 : decode c_M_serves 163 = .ok (.getfield 34, 3) := by decide +kernel
theorem d_M_serves_166 : decode c_M_serves 166 = .ok (.aload_n 0, 1) := by decide +kernel
theorem d_M_serves_167 : decode c_M_serves 167 = .ok (.getfield 13, 3) := by decide +kernel
theorem d_M_serves_170 : decode c_M_serves 170 = .ok (.iload 8, 2) := by decide +kernel
theorem d_M_serves_172 : decode c_M_serves 172 = .ok (.iaload, 1) := by decide +kernel
theorem d_M_serves_173 : decode c_M_serves 173 = .ok (.dup2, 1) := by decide +kernel
theorem d_M_serves_174 : decode c_M_serves 174 = .ok (.iaload, 1) := by decide +kernel
theorem d_M_serves_175 : decode c_M_serves 175 = .ok (.iload 5, 2) := by decide +kernel
theorem d_M_serves_177 : decode c_M_serves 177 = .ok (.iload_n 2, 1) := by decide +kernel
theorem d_M_serves_178 : decode c_M_serves 178 = .ok (.if_icmp .gt 13, 3) := by decide +kernel
theorem d_M_serves_181 : decode c_M_serves 181 = .ok (.aload_n 0, 1) := by decide +kernel
theorem d_M_serves_182 : decode c_M_serves 182 = .ok (.getfield 16, 3) := by decide +kernel
theorem d_M_serves_185 : decode c_M_serves 185 = .ok (.iload 8, 2) := by decide +kernel
theorem d_M_serves_187 : decode c_M_serves 187 = .ok (.iaload, 1) := by decide +kernel
theorem d_M_serves_188 : decode c_M_serves 188 = .ok (.goto 15, 3) := by decide +kernel
theorem d_M_serves_191 : decode c_M_serves 191 = .ok (.aload_n 0, 1) := by decide +kernel
theorem d_M_serves_192 : decode c_M_serves 192 = .ok (.getfield 16, 3) := by decide +kernel
theorem d_M_serves_195 : decode c_M_serves 195 = .ok (.iload 8, 2) := by decide +kernel
theorem d_M_serves_197 : decode c_M_serves 197 = .ok (.iaload, 1) := by decide +kernel
theorem d_M_serves_198 : decode c_M_serves 198 = .ok (.iload_n 2, 1) := by decide +kernel
theorem d_M_serves_199 : decode c_M_serves 199 = .ok (.imul, 1) := by decide +kernel
theorem d_M_serves_200 : decode c_M_serves 200 = .ok (.iload 5, 2) := by decide +kernel
theorem d_M_serves_202 : decode c_M_serves 202 = .ok (.idiv, 1) := by decide +kernel
theorem d_M_serves_203 : decode c_M_serves 203 = .ok (.iload 7, 2) := by decide +kernel
theorem d_M_serves_205 : decode c_M_serves 205 = .ok (.ifCond .le 7, 3) := by decide +kernel
theorem d_M_serves_208 : decode c_M_serves 208 = .ok (.iconst 1, 1) := by decide +kernel
theorem d_M_serves_209 : decode c_M_serves 209 = .ok (.goto 4, 3) := by decide +kernel
theorem d_M_serves_212 : decode c_M_serves 212 = .ok (.iconst 0, 1) := by decide +kernel
theorem d_M_serves_213 : decode c_M_serves 213 = .ok (.iadd, 1) := by decide +kernel
theorem d_M_serves_214 : decode c_M_serves 214 = .ok (.iadd, 1) := by decide +kernel
theorem d_M_serves_215 : decode c_M_serves 215 = .ok (.iastore, 1) := by decide +kernel
theorem d_M_serves_216 : decode c_M_serves 216 = .ok (.iload 7, 2) := by decide +kernel
theorem d_M_serves_218 : decode c_M_serves 218 = .ok (.iload 7, 2) := by decide +kernel
theorem d_M_serves_220 : decode c_M_serves 220 = .ok (.ifCond .le 7, 3) := by decide +kernel
theorem d_M_serves_223 : decode c_M_serves 223 = .ok (.iconst 1, 1) := by decide +kernel
theorem d_M_serves_224 : decode c_M_serves 224 = .ok (.goto 4, 3) := by decide +kernel
theorem d_M_serves_227 : decode c_M_serves 227 = .ok (.iconst 0, 1) := by decide +kernel
theorem d_M_serves_228 : decode c_M_serves 228 = .ok (.isub, 1) := by decide +kernel
theorem d_M_serves_229 : decode c_M_serves 229 = .ok (.istore 7, 2) := by decide +kernel
theorem d_M_serves_231 : decode c_M_serves 231 = .ok (.iinc 8 1, 3) := by decide +kernel
theorem d_M_serves_234 : decode c_M_serves 234 = .ok (.goto (-94), 3) := by decide +kernel
theorem d_M_serves_237 : decode c_M_serves 237 = .ok (.iload 5, 2) := by decide +kernel
theorem d_M_serves_239 : decode c_M_serves 239 = .ok (.iload_n 2, 1) := by decide +kernel
theorem d_M_serves_240 : decode c_M_serves 240 = .ok (.if_icmp .gt 10, 3) := by decide +kernel
theorem d_M_serves_243 : decode c_M_serves 243 = .ok (.iload_n 2, 1) := by decide +kernel
theorem d_M_serves_244 : decode c_M_serves 244 = .ok (.iload 5, 2) := by decide +kernel
theorem d_M_serves_246 : decode c_M_serves 246 = .ok (.isub, 1) := by decide +kernel
theorem d_M_serves_247 : decode c_M_serves 247 = .ok (.goto 4, 3) := by decide +kernel
theorem d_M_serves_250 : decode c_M_serves 250 = .ok (.iconst 0, 1) := by decide +kernel
theorem d_M_serves_251 : decode c_M_serves 251 = .ok (.ireturn, 1) := by decide +kernel
theorem d_M_asks_0 : decode c_M_asks 0 = .ok (.aload_n 0, 1) := by decide +kernel
theorem d_M_asks_1 : decode c_M_asks 1 = .ok (.getfield 7, 3) := by decide +kernel
theorem d_M_asks_4 : decode c_M_asks 4 = .ok (.iload_n 1, 1) := by decide +kernel
theorem d_M_asks_5 : decode c_M_asks 5 = .ok (.iaload, 1) := by decide +kernel
theorem d_M_asks_6 : decode c_M_asks 6 = .ok (.iconst 4, 1) := by decide +kernel
theorem d_M_asks_7 : decode c_M_asks 7 = .ok (.if_icmp .ne 28, 3) := by decide +kernel
theorem d_M_asks_10 : decode c_M_asks 10 = .ok (.aload_n 0, 1) := by decide +kernel
theorem d_M_asks_11 : decode c_M_asks 11 = .ok (.getfield 19, 3) := by decide +kernel
theorem d_M_asks_14 : decode c_M_asks 14 = .ok (.iload_n 1, 1) := by decide +kernel
theorem d_M_asks_15 : decode c_M_asks 15 = .ok (.iaload, 1) := by decide +kernel
theorem d_M_asks_16 : decode c_M_asks 16 = .ok (.iload_n 2, 1) := by decide +kernel
theorem d_M_asks_17 : decode c_M_asks 17 = .ok (.if_icmp .ne 18, 3) := by decide +kernel
theorem d_M_asks_20 : decode c_M_asks 20 = .ok (.aload_n 0, 1) := by decide +kernel
theorem d_M_asks_21 : decode c_M_asks 21 = .ok (.iload_n 1, 1) := by decide +kernel
theorem d_M_asks_22 : decode c_M_asks 22 = .ok (.iload_n 3, 1) := by decide +kernel
theorem d_M_asks_23 : decode c_M_asks 23 = .ok (.iload 4, 2) := by decide +kernel
theorem d_M_asks_25 : decode c_M_asks 25 = .ok (.invokevirtual 70, 3) := by decide +kernel
theorem d_M_asks_28 : decode c_M_asks 28 = .ok (.ifCond .eq 7, 3) := by decide +kernel
theorem d_M_asks_31 : decode c_M_asks 31 = .ok (.iconst 1, 1) := by decide +kernel
theorem d_M_asks_32 : decode c_M_asks 32 = .ok (.goto 4, 3) := by decide +kernel
theorem d_M_asks_35 : decode c_M_asks 35 = .ok (.iconst 0, 1) := by decide +kernel
theorem d_M_asks_36 : decode c_M_asks 36 = .ok (.ireturn, 1) := by decide +kernel
theorem d_M_apart_0 : decode c_M_apart 0 = .ok (.aload_n 0, 1) := by decide +kernel
theorem d_M_apart_1 : decode c_M_apart 1 = .ok (.iload_n 1, 1) := by decide +kernel
theorem d_M_apart_2 : decode c_M_apart 2 = .ok (.iconst 0, 1) := by decide +kernel
theorem d_M_apart_3 : decode c_M_apart 3 = .ok (.bipush 19, 2) := by decide +kernel
theorem d_M_apart_5 : decode c_M_apart 5 = .ok (.invokestatic 44, 3) := by decide +kernel
theorem d_M_apart_8 : decode c_M_apart 8 = .ok (.ifCond .eq 17, 3) := by decide +kernel
theorem d_M_apart_11 : decode c_M_apart 11 = .ok (.iload_n 2, 1) := by decide +kernel
theorem d_M_apart_12 : decode c_M_apart 12 = .ok (.iconst 0, 1) := by decide +kernel
theorem d_M_apart_13 : decode c_M_apart 13 = .ok (.bipush 19, 2) := by decide +kernel
theorem d_M_apart_15 : decode c_M_apart 15 = .ok (.invokestatic 44, 3) := by decide +kernel
theorem d_M_apart_18 : decode c_M_apart 18 = .ok (.ifCond .eq 7, 3) := by decide +kernel
theorem d_M_apart_21 : decode c_M_apart 21 = .ok (.iconst 1, 1) := by decide +kernel
theorem d_M_apart_22 : decode c_M_apart 22 = .ok (.goto 4, 3) := by decide +kernel
theorem d_M_apart_25 : decode c_M_apart 25 = .ok (.iconst 0, 1) := by decide +kernel
theorem d_M_apart_26 : decode c_M_apart 26 = .ok (.iload_n 3, 1) := by decide +kernel
theorem d_M_apart_27 : decode c_M_apart 27 = .ok (.iload 4, 2) := by decide +kernel
theorem d_M_apart_29 : decode c_M_apart 29 = .ok (.invokevirtual 88, 3) := by decide +kernel
theorem d_M_apart_32 : decode c_M_apart 32 = .ok (.ifCond .ne 5, 3) := by decide +kernel
theorem d_M_apart_35 : decode c_M_apart 35 = .ok (.iconst 0, 1) := by decide +kernel
theorem d_M_apart_36 : decode c_M_apart 36 = .ok (.ireturn, 1) := by decide +kernel
theorem d_M_apart_37 : decode c_M_apart 37 = .ok (.aload_n 0, 1) := by decide +kernel
theorem d_M_apart_38 : decode c_M_apart 38 = .ok (.iload_n 3, 1) := by decide +kernel
theorem d_M_apart_39 : decode c_M_apart 39 = .ok (.iload 4, 2) := by decide +kernel
theorem d_M_apart_41 : decode c_M_apart 41 = .ok (.invokevirtual 92, 3) := by decide +kernel
theorem d_M_apart_44 : decode c_M_apart 44 = .ok (.aload_n 0, 1) := by decide +kernel
theorem d_M_apart_45 : decode c_M_apart 45 = .ok (.getfield 25, 3) := by decide +kernel
theorem d_M_apart_48 : decode c_M_apart 48 = .ok (.iload_n 1, 1) := by decide +kernel
theorem d_M_apart_49 : decode c_M_apart 49 = .ok (.iaload, 1) := by decide +kernel
theorem d_M_apart_50 : decode c_M_apart 50 = .ok (.ifCond .lt 12, 3) := by decide +kernel
theorem d_M_apart_53 : decode c_M_apart 53 = .ok (.aload_n 0, 1) := by decide +kernel
theorem d_M_apart_54 : decode c_M_apart 54 = .ok (.getfield 25, 3) := by decide +kernel
theorem d_M_apart_57 : decode c_M_apart 57 = .ok (.iload_n 2, 1) := by decide +kernel
theorem d_M_apart_58 : decode c_M_apart 58 = .ok (.iaload, 1) := by decide +kernel
theorem d_M_apart_59 : decode c_M_apart 59 = .ok (.ifCond .ge 7, 3) := by decide +kernel
theorem d_M_apart_62 : decode c_M_apart 62 = .ok (.iconst (-1), 1) := by decide +kernel
theorem d_M_apart_63 : decode c_M_apart 63 = .ok (.goto 18, 3) := by decide +kernel
theorem d_M_apart_66 : decode c_M_apart 66 = .ok (.aload_n 0, 1) := by decide +kernel
theorem d_M_apart_67 : decode c_M_apart 67 = .ok (.getfield 25, 3) := by decide +kernel
theorem d_M_apart_70 : decode c_M_apart 70 = .ok (.iload_n 1, 1) := by decide +kernel
theorem d_M_apart_71 : decode c_M_apart 71 = .ok (.iaload, 1) := by decide +kernel
theorem d_M_apart_72 : decode c_M_apart 72 = .ok (.aload_n 0, 1) := by decide +kernel
theorem d_M_apart_73 : decode c_M_apart 73 = .ok (.getfield 25, 3) := by decide +kernel
theorem d_M_apart_76 : decode c_M_apart 76 = .ok (.iload_n 2, 1) := by decide +kernel
theorem d_M_apart_77 : decode c_M_apart 77 = .ok (.iaload, 1) := by decide +kernel
theorem d_M_apart_78 : decode c_M_apart 78 = .ok (.invokestatic 107, 3) := by decide +kernel
theorem d_M_apart_81 : decode c_M_apart 81 = .ok (.ireturn, 1) := by decide +kernel
theorem d_M_distance_0 : decode c_M_distance 0 = .ok (.iload_n 0, 1) := by decide +kernel
theorem d_M_distance_1 : decode c_M_distance 1 = .ok (.bipush 10, 2) := by decide +kernel
theorem d_M_distance_3 : decode c_M_distance 3 = .ok (.idiv, 1) := by decide +kernel
theorem d_M_distance_4 : decode c_M_distance 4 = .ok (.iload_n 1, 1) := by decide +kernel
theorem d_M_distance_5 : decode c_M_distance 5 = .ok (.bipush 10, 2) := by decide +kernel
theorem d_M_distance_7 : decode c_M_distance 7 = .ok (.idiv, 1) := by decide +kernel
theorem d_M_distance_8 : decode c_M_distance 8 = .ok (.isub, 1) := by decide +kernel
theorem d_M_distance_9 : decode c_M_distance 9 = .ok (.invokestatic 104, 3) := by decide +kernel
theorem d_M_distance_12 : decode c_M_distance 12 = .ok (.iload_n 0, 1) := by decide +kernel
theorem d_M_distance_13 : decode c_M_distance 13 = .ok (.bipush 10, 2) := by decide +kernel
theorem d_M_distance_15 : decode c_M_distance 15 = .ok (.irem, 1) := by decide +kernel
theorem d_M_distance_16 : decode c_M_distance 16 = .ok (.iload_n 1, 1) := by decide +kernel
theorem d_M_distance_17 : decode c_M_distance 17 = .ok (.bipush 10, 2) := by decide +kernel
theorem d_M_distance_19 : decode c_M_distance 19 = .ok (.irem, 1) := by decide +kernel
theorem d_M_distance_20 : decode c_M_distance 20 = .ok (.isub, 1) := by decide +kernel
theorem d_M_distance_21 : decode c_M_distance 21 = .ok (.invokestatic 104, 3) := by decide +kernel
theorem d_M_distance_24 : decode c_M_distance 24 = .ok (.iadd, 1) := by decide +kernel
theorem d_M_distance_25 : decode c_M_distance 25 = .ok (.ireturn, 1) := by decide +kernel
theorem d_M_far_0 : decode c_M_far 0 = .ok (.iload_n 0, 1) := by decide +kernel
theorem d_M_far_1 : decode c_M_far 1 = .ok (.ifCond .ge 8, 3) := by decide +kernel
theorem d_M_far_4 : decode c_M_far 4 = .ok (.iload_n 0, 1) := by decide +kernel
theorem d_M_far_5 : decode c_M_far 5 = .ok (.ineg, 1) := by decide +kernel
theorem d_M_far_6 : decode c_M_far 6 = .ok (.goto 4, 3) := by decide +kernel
theorem d_M_far_9 : decode c_M_far 9 = .ok (.iload_n 0, 1) := by decide +kernel
theorem d_M_far_10 : decode c_M_far 10 = .ok (.ireturn, 1) := by decide +kernel
theorem d_M_least_0 : decode c_M_least 0 = .ok (.aload_n 0, 1) := by decide +kernel
theorem d_M_least_1 : decode c_M_least 1 = .ok (.iconst 1, 1) := by decide +kernel
theorem d_M_least_2 : decode c_M_least 2 = .ok (.iload_n 1, 1) := by decide +kernel
theorem d_M_least_3 : decode c_M_least 3 = .ok (.iload_n 2, 1) := by decide +kernel
theorem d_M_least_4 : decode c_M_least 4 = .ok (.invokevirtual 88, 3) := by decide +kernel
theorem d_M_least_7 : decode c_M_least 7 = .ok (.ifCond .ne 5, 3) := by decide +kernel
theorem d_M_least_10 : decode c_M_least 10 = .ok (.iconst 0, 1) := by decide +kernel
theorem d_M_least_11 : decode c_M_least 11 = .ok (.ireturn, 1) := by decide +kernel
theorem d_M_least_12 : decode c_M_least 12 = .ok (.aload_n 0, 1) := by decide +kernel
theorem d_M_least_13 : decode c_M_least 13 = .ok (.iload_n 1, 1) := by decide +kernel
theorem d_M_least_14 : decode c_M_least 14 = .ok (.iload_n 2, 1) := by decide +kernel
theorem d_M_least_15 : decode c_M_least 15 = .ok (.invokevirtual 92, 3) := by decide +kernel
theorem d_M_least_18 : decode c_M_least 18 = .ok (.iconst 0, 1) := by decide +kernel
theorem d_M_least_19 : decode c_M_least 19 = .ok (.istore_n 3, 1) := by decide +kernel
theorem d_M_least_20 : decode c_M_least 20 = .ok (.iconst 0, 1) := by decide +kernel
theorem d_M_least_21 : decode c_M_least 21 = .ok (.istore 4, 2) := by decide +kernel
theorem d_M_least_23 : decode c_M_least 23 = .ok (.iload 4, 2) := by decide +kernel
theorem d_M_least_25 : decode c_M_least 25 = .ok (.bipush 20, 2) := by decide +kernel
theorem d_M_least_27 : decode c_M_least 27 = .ok (.if_icmp .ge 27, 3) := by decide +kernel
theorem d_M_least_30 : decode c_M_least 30 = .ok (.iload_n 3, 1) := by decide +kernel
theorem d_M_least_31 : decode c_M_least 31 = .ok (.aload_n 0, 1) := by decide +kernel
theorem d_M_least_32 : decode c_M_least 32 = .ok (.getfield 25, 3) := by decide +kernel
theorem d_M_least_35 : decode c_M_least 35 = .ok (.iload 4, 2) := by decide +kernel
theorem d_M_least_37 : decode c_M_least 37 = .ok (.iaload, 1) := by decide +kernel
theorem d_M_least_38 : decode c_M_least 38 = .ok (.ifCond .lt 7, 3) := by decide +kernel
theorem d_M_least_41 : decode c_M_least 41 = .ok (.iconst 1, 1) := by decide +kernel
theorem d_M_least_42 : decode c_M_least 42 = .ok (.goto 4, 3) := by decide +kernel
theorem d_M_least_45 : decode c_M_least 45 = .ok (.iconst 0, 1) := by decide +kernel
theorem d_M_least_46 : decode c_M_least 46 = .ok (.iadd, 1) := by decide +kernel
theorem d_M_least_47 : decode c_M_least 47 = .ok (.istore_n 3, 1) := by decide +kernel
theorem d_M_least_48 : decode c_M_least 48 = .ok (.iinc 4 1, 3) := by decide +kernel
theorem d_M_least_51 : decode c_M_least 51 = .ok (.goto (-28), 3) := by decide +kernel
theorem d_M_least_54 : decode c_M_least 54 = .ok (.iload_n 3, 1) := by decide +kernel
theorem d_M_least_55 : decode c_M_least 55 = .ok (.bipush 6, 2) := by decide +kernel
theorem d_M_least_57 : decode c_M_least 57 = .ok (.if_icmp .le 7, 3) := by decide +kernel
theorem d_M_least_60 : decode c_M_least 60 = .ok (.iconst (-1), 1) := by decide +kernel
theorem d_M_least_61 : decode c_M_least 61 = .ok (.goto 8, 3) := by decide +kernel
theorem d_M_least_64 : decode c_M_least 64 = .ok (.aload_n 0, 1) := by decide +kernel
theorem d_M_least_65 : decode c_M_least 65 = .ok (.iload_n 3, 1) := by decide +kernel
theorem d_M_least_66 : decode c_M_least 66 = .ok (.invokevirtual 118, 3) := by decide +kernel
theorem d_M_least_69 : decode c_M_least 69 = .ok (.ireturn, 1) := by decide +kernel
theorem d_M_leastOf_0 : decode c_M_leastOf 0 = .ok (.aload_n 0, 1) := by decide +kernel
theorem d_M_leastOf_1 : decode c_M_leastOf 1 = .ok (.getfield 37, 3) := by decide +kernel
theorem d_M_leastOf_4 : decode c_M_leastOf 4 = .ok (.iconst 0, 1) := by decide +kernel
theorem d_M_leastOf_5 : decode c_M_leastOf 5 = .ok (.iconst 0, 1) := by decide +kernel
theorem d_M_leastOf_6 : decode c_M_leastOf 6 = .ok (.iastore, 1) := by decide +kernel
theorem d_M_leastOf_7 : decode c_M_leastOf 7 = .ok (.iconst 1, 1) := by decide +kernel
theorem d_M_leastOf_8 : decode c_M_leastOf 8 = .ok (.istore_n 2, 1) := by decide +kernel
theorem d_M_leastOf_9 : decode c_M_leastOf 9 = .ok (.iload_n 2, 1) := by decide +kernel
theorem d_M_leastOf_10 : decode c_M_leastOf 10 = .ok (.iconst 1, 1) := by decide +kernel
theorem d_M_leastOf_11 : decode c_M_leastOf 11 = .ok (.iload_n 1, 1) := by decide +kernel
theorem d_M_leastOf_12 : decode c_M_leastOf 12 = .ok (.ishl, 1) := by decide +kernel
theorem d_M_leastOf_13 : decode c_M_leastOf 13 = .ok (.if_icmp .ge 106, 3) := by decide +kernel
theorem d_M_leastOf_16 : decode c_M_leastOf 16 = .ok (.aload_n 0, 1) := by decide +kernel
theorem d_M_leastOf_17 : decode c_M_leastOf 17 = .ok (.iload_n 2, 1) := by decide +kernel
theorem d_M_leastOf_18 : decode c_M_leastOf 18 = .ok (.invokestatic 111, 3) := by decide +kernel
theorem d_M_leastOf_21 : decode c_M_leastOf 21 = .ok (.iconst 1, 1) := by decide +kernel
theorem d_M_leastOf_22 : decode c_M_leastOf 22 = .ok (.isub, 1) := by decide +kernel
theorem d_M_leastOf_23 : decode c_M_leastOf 23 = .ok (.invokevirtual 114, 3) := by decide +kernel
theorem d_M_leastOf_26 : decode c_M_leastOf 26 = .ok (.istore_n 3, 1) := by decide +kernel
theorem d_M_leastOf_27 : decode c_M_leastOf 27 = .ok (.aload_n 0, 1) := by decide +kernel
theorem d_M_leastOf_28 : decode c_M_leastOf 28 = .ok (.getfield 37, 3) := by decide +kernel
theorem d_M_leastOf_31 : decode c_M_leastOf 31 = .ok (.iload_n 2, 1) := by decide +kernel
theorem d_M_leastOf_32 : decode c_M_leastOf 32 = .ok (.ldc 117, 2) := by decide +kernel
theorem d_M_leastOf_34 : decode c_M_leastOf 34 = .ok (.iastore, 1) := by decide +kernel
theorem d_M_leastOf_35 : decode c_M_leastOf 35 = .ok (.iconst 0, 1) := by decide +kernel
theorem d_M_leastOf_36 : decode c_M_leastOf 36 = .ok (.istore 4, 2) := by decide +kernel
theorem d_M_leastOf_38 : decode c_M_leastOf 38 = .ok (.iload 4, 2) := by decide +kernel
theorem d_M_leastOf_40 : decode c_M_leastOf 40 = .ok (.iload_n 1, 1) := by decide +kernel
theorem d_M_leastOf_41 : decode c_M_leastOf 41 = .ok (.if_icmp .ge 72, 3) := by decide +kernel
theorem d_M_leastOf_44 : decode c_M_leastOf 44 = .ok (.iload_n 2, 1) := by decide +kernel
theorem d_M_leastOf_45 : decode c_M_leastOf 45 = .ok (.iload 4, 2) := by decide +kernel
theorem d_M_leastOf_47 : decode c_M_leastOf 47 = .ok (.ishr, 1) := by decide +kernel
theorem d_M_leastOf_48 : decode c_M_leastOf 48 = .ok (.iconst 1, 1) := by decide +kernel
theorem d_M_leastOf_49 : decode c_M_leastOf 49 = .ok (.iand, 1) := by decide +kernel
theorem d_M_leastOf_50 : decode c_M_leastOf 50 = .ok (.iconst 1, 1) := by decide +kernel
theorem d_M_leastOf_51 : decode c_M_leastOf 51 = .ok (.if_icmp .ne 24, 3) := by decide +kernel
theorem d_M_leastOf_54 : decode c_M_leastOf 54 = .ok (.aload_n 0, 1) := by decide +kernel
theorem d_M_leastOf_55 : decode c_M_leastOf 55 = .ok (.getfield 37, 3) := by decide +kernel
theorem d_M_leastOf_58 : decode c_M_leastOf 58 = .ok (.iload_n 2, 1) := by decide +kernel
theorem d_M_leastOf_59 : decode c_M_leastOf 59 = .ok (.iconst 1, 1) := by decide +kernel
theorem d_M_leastOf_60 : decode c_M_leastOf 60 = .ok (.iload 4, 2) := by decide +kernel
theorem d_M_leastOf_62 : decode c_M_leastOf 62 = .ok (.ishl, 1) := by decide +kernel
theorem d_M_leastOf_63 : decode c_M_leastOf 63 = .ok (.isub, 1) := by decide +kernel
theorem d_M_leastOf_64 : decode c_M_leastOf 64 = .ok (.iaload, 1) := by decide +kernel
theorem d_M_leastOf_65 : decode c_M_leastOf 65 = .ok (.iload_n 3, 1) := by decide +kernel
theorem d_M_leastOf_66 : decode c_M_leastOf 66 = .ok (.iload 4, 2) := by decide +kernel
theorem d_M_leastOf_68 : decode c_M_leastOf 68 = .ok (.invokestatic 107, 3) := by decide +kernel
theorem d_M_leastOf_71 : decode c_M_leastOf 71 = .ok (.iadd, 1) := by decide +kernel
theorem d_M_leastOf_72 : decode c_M_leastOf 72 = .ok (.goto 5, 3) := by decide +kernel
theorem d_M_leastOf_75 : decode c_M_leastOf 75 = .ok (.ldc 117, 2) := by decide +kernel
theorem d_M_leastOf_77 : decode c_M_leastOf 77 = .ok (.istore 5, 2) := by decide +kernel
theorem d_M_leastOf_79 : decode c_M_leastOf 79 = .ok (.aload_n 0, 1) := by decide +kernel
theorem d_M_leastOf_80 : decode c_M_leastOf 80 = .ok (.getfield 37, 3) := by decide +kernel
theorem d_M_leastOf_83 : decode c_M_leastOf 83 = .ok (.iload_n 2, 1) := by decide +kernel
theorem d_M_leastOf_84 : decode c_M_leastOf 84 = .ok (.iload 5, 2) := by decide +kernel
theorem d_M_leastOf_86 : decode c_M_leastOf 86 = .ok (.aload_n 0, 1) := by decide +kernel
theorem d_M_leastOf_87 : decode c_M_leastOf 87 = .ok (.getfield 37, 3) := by decide +kernel
theorem d_M_leastOf_90 : decode c_M_leastOf 90 = .ok (.iload_n 2, 1) := by decide +kernel
theorem d_M_leastOf_91 : decode c_M_leastOf 91 = .ok (.iaload, 1) := by decide +kernel
theorem d_M_leastOf_92 : decode c_M_leastOf 92 = .ok (.if_icmp .ge 8, 3) := by decide +kernel
theorem d_M_leastOf_95 : decode c_M_leastOf 95 = .ok (.iload 5, 2) := by decide +kernel
theorem d_M_leastOf_97 : decode c_M_leastOf 97 = .ok (.goto 9, 3) := by decide +kernel
theorem d_M_leastOf_100 : decode c_M_leastOf 100 = .ok (.aload_n 0, 1) := by decide +kernel
theorem d_M_leastOf_101 : decode c_M_leastOf 101 = .ok (.getfield 37, 3) := by decide +kernel
theorem d_M_leastOf_104 : decode c_M_leastOf 104 = .ok (.iload_n 2, 1) := by decide +kernel
theorem d_M_leastOf_105 : decode c_M_leastOf 105 = .ok (.iaload, 1) := by decide +kernel
theorem d_M_leastOf_106 : decode c_M_leastOf 106 = .ok (.iastore, 1) := by decide +kernel
theorem d_M_leastOf_107 : decode c_M_leastOf 107 = .ok (.iinc 4 1, 3) := by decide +kernel
theorem d_M_leastOf_110 : decode c_M_leastOf 110 = .ok (.goto (-72), 3) := by decide +kernel
theorem d_M_leastOf_113 : decode c_M_leastOf 113 = .ok (.iinc 2 1, 3) := by decide +kernel
theorem d_M_leastOf_116 : decode c_M_leastOf 116 = .ok (.goto (-107), 3) := by decide +kernel
theorem d_M_leastOf_119 : decode c_M_leastOf 119 = .ok (.aload_n 0, 1) := by decide +kernel
theorem d_M_leastOf_120 : decode c_M_leastOf 120 = .ok (.getfield 37, 3) := by decide +kernel
theorem d_M_leastOf_123 : decode c_M_leastOf 123 = .ok (.iconst 1, 1) := by decide +kernel
theorem d_M_leastOf_124 : decode c_M_leastOf 124 = .ok (.iload_n 1, 1) := by decide +kernel
theorem d_M_leastOf_125 : decode c_M_leastOf 125 = .ok (.ishl, 1) := by decide +kernel
theorem d_M_leastOf_126 : decode c_M_leastOf 126 = .ok (.iconst 1, 1) := by decide +kernel
theorem d_M_leastOf_127 : decode c_M_leastOf 127 = .ok (.isub, 1) := by decide +kernel
theorem d_M_leastOf_128 : decode c_M_leastOf 128 = .ok (.iaload, 1) := by decide +kernel
theorem d_M_leastOf_129 : decode c_M_leastOf 129 = .ok (.ireturn, 1) := by decide +kernel
theorem d_M_ones_0 : decode c_M_ones 0 = .ok (.iconst 0, 1) := by decide +kernel
theorem d_M_ones_1 : decode c_M_ones 1 = .ok (.istore_n 1, 1) := by decide +kernel
theorem d_M_ones_2 : decode c_M_ones 2 = .ok (.iconst 0, 1) := by decide +kernel
theorem d_M_ones_3 : decode c_M_ones 3 = .ok (.istore_n 2, 1) := by decide +kernel
theorem d_M_ones_4 : decode c_M_ones 4 = .ok (.iload_n 2, 1) := by decide +kernel
theorem d_M_ones_5 : decode c_M_ones 5 = .ok (.bipush 6, 2) := by decide +kernel
theorem d_M_ones_7 : decode c_M_ones 7 = .ok (.if_icmp .ge 17, 3) := by decide +kernel
theorem d_M_ones_10 : decode c_M_ones 10 = .ok (.iload_n 1, 1) := by decide +kernel
theorem d_M_ones_11 : decode c_M_ones 11 = .ok (.iload_n 0, 1) := by decide +kernel
theorem d_M_ones_12 : decode c_M_ones 12 = .ok (.iload_n 2, 1) := by decide +kernel
theorem d_M_ones_13 : decode c_M_ones 13 = .ok (.ishr, 1) := by decide +kernel
theorem d_M_ones_14 : decode c_M_ones 14 = .ok (.iconst 1, 1) := by decide +kernel
