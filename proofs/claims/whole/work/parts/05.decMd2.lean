theorem d_Md_joinThrow_8 : decode b_Md_joinThrow 8 = .ok (.getfield 26, 3) := by decide +kernel
theorem d_Md_joinThrow_11 : decode b_Md_joinThrow 11 = .ok (.iconst 1, 1) := by decide +kernel
theorem d_Md_joinThrow_12 : decode b_Md_joinThrow 12 = .ok (.isub, 1) := by decide +kernel
theorem d_Md_joinThrow_13 : decode b_Md_joinThrow 13 = .ok (.invokestatic 61, 3) := by decide +kernel
theorem d_Md_joinThrow_16 : decode b_Md_joinThrow 16 = .ok (.ifCond .eq 12, 3) := by decide +kernel
theorem d_Md_joinThrow_19 : decode b_Md_joinThrow 19 = .ok (.aload_n 0, 1) := by decide +kernel
theorem d_Md_joinThrow_20 : decode b_Md_joinThrow 20 = .ok (.getfield 30, 3) := by decide +kernel
theorem d_Md_joinThrow_23 : decode b_Md_joinThrow 23 = .ok (.iload_n 1, 1) := by decide +kernel
theorem d_Md_joinThrow_24 : decode b_Md_joinThrow 24 = .ok (.iaload, 1) := by decide +kernel
theorem d_Md_joinThrow_25 : decode b_Md_joinThrow 25 = .ok (.goto 8, 3) := by decide +kernel
theorem d_Md_joinThrow_28 : decode b_Md_joinThrow 28 = .ok (.aload_n 0, 1) := by decide +kernel
theorem d_Md_joinThrow_29 : decode b_Md_joinThrow 29 = .ok (.iconst 1, 1) := by decide +kernel
theorem d_Md_joinThrow_30 : decode b_Md_joinThrow 30 = .ok (.invokevirtual 65, 3) := by decide +kernel
theorem d_Md_joinThrow_33 : decode b_Md_joinThrow 33 = .ok (.ireturn, 1) := by decide +kernel
theorem d_Md_joinAt_0 : decode b_Md_joinAt 0 = .ok (.aload_n 0, 1) := by decide +kernel
theorem d_Md_joinAt_1 : decode b_Md_joinAt 1 = .ok (.iconst 0, 1) := by decide +kernel
theorem d_Md_joinAt_2 : decode b_Md_joinAt 2 = .ok (.putfield 58, 3) := by decide +kernel
theorem d_Md_joinAt_5 : decode b_Md_joinAt 5 = .ok (.iload_n 1, 1) := by decide +kernel
theorem d_Md_joinAt_6 : decode b_Md_joinAt 6 = .ok (.iconst 0, 1) := by decide +kernel
theorem d_Md_joinAt_7 : decode b_Md_joinAt 7 = .ok (.iconst 1, 1) := by decide +kernel
theorem d_Md_joinAt_8 : decode b_Md_joinAt 8 = .ok (.invokestatic 61, 3) := by decide +kernel
theorem d_Md_joinAt_11 : decode b_Md_joinAt 11 = .ok (.ifCond .eq 10, 3) := by decide +kernel
theorem d_Md_joinAt_14 : decode b_Md_joinAt 14 = .ok (.aload_n 0, 1) := by decide +kernel
theorem d_Md_joinAt_15 : decode b_Md_joinAt 15 = .ok (.getfield 26, 3) := by decide +kernel
theorem d_Md_joinAt_18 : decode b_Md_joinAt 18 = .ok (.ifCond .ge 9, 3) := by decide +kernel
theorem d_Md_joinAt_21 : decode b_Md_joinAt 21 = .ok (.aload_n 0, 1) := by decide +kernel
theorem d_Md_joinAt_22 : decode b_Md_joinAt 22 = .ok (.iconst 1, 1) := by decide +kernel
theorem d_Md_joinAt_23 : decode b_Md_joinAt 23 = .ok (.invokevirtual 65, 3) := by decide +kernel
theorem d_Md_joinAt_26 : decode b_Md_joinAt 26 = .ok (.ireturn, 1) := by decide +kernel
theorem d_Md_joinAt_27 : decode b_Md_joinAt 27 = .ok (.iload_n 1, 1) := by decide +kernel
theorem d_Md_joinAt_28 : decode b_Md_joinAt 28 = .ok (.ifCond .ne 10, 3) := by decide +kernel
theorem d_Md_joinAt_31 : decode b_Md_joinAt 31 = .ok (.aload_n 0, 1) := by decide +kernel
theorem d_Md_joinAt_32 : decode b_Md_joinAt 32 = .ok (.getfield 111, 3) := by decide +kernel
theorem d_Md_joinAt_35 : decode b_Md_joinAt 35 = .ok (.goto 7, 3) := by decide +kernel
theorem d_Md_joinAt_38 : decode b_Md_joinAt 38 = .ok (.aload_n 0, 1) := by decide +kernel
theorem d_Md_joinAt_39 : decode b_Md_joinAt 39 = .ok (.getfield 114, 3) := by decide +kernel
theorem d_Md_joinAt_42 : decode b_Md_joinAt 42 = .ok (.ireturn, 1) := by decide +kernel
theorem d_Md_countValid_0 : decode b_Md_countValid 0 = .ok (.aload_n 0, 1) := by decide +kernel
theorem d_Md_countValid_1 : decode b_Md_countValid 1 = .ok (.iconst 0, 1) := by decide +kernel
theorem d_Md_countValid_2 : decode b_Md_countValid 2 = .ok (.putfield 58, 3) := by decide +kernel
theorem d_Md_countValid_5 : decode b_Md_countValid 5 = .ok (.iload_n 1, 1) := by decide +kernel
theorem d_Md_countValid_6 : decode b_Md_countValid 6 = .ok (.iconst 1, 1) := by decide +kernel
theorem d_Md_countValid_7 : decode b_Md_countValid 7 = .ok (.bipush 6, 2) := by decide +kernel
theorem d_Md_countValid_9 : decode b_Md_countValid 9 = .ok (.invokestatic 61, 3) := by decide +kernel
theorem d_Md_countValid_12 : decode b_Md_countValid 12 = .ok (.ifCond .eq 13, 3) := by decide +kernel
theorem d_Md_countValid_15 : decode b_Md_countValid 15 = .ok (.iload_n 2, 1) := by decide +kernel
theorem d_Md_countValid_16 : decode b_Md_countValid 16 = .ok (.iconst 0, 1) := by decide +kernel
theorem d_Md_countValid_17 : decode b_Md_countValid 17 = .ok (.bipush 9, 2) := by decide +kernel
theorem d_Md_countValid_19 : decode b_Md_countValid 19 = .ok (.invokestatic 61, 3) := by decide +kernel
theorem d_Md_countValid_22 : decode b_Md_countValid 22 = .ok (.ifCond .ne 9, 3) := by decide +kernel
theorem d_Md_countValid_25 : decode b_Md_countValid 25 = .ok (.aload_n 0, 1) := by decide +kernel
theorem d_Md_countValid_26 : decode b_Md_countValid 26 = .ok (.iconst 1, 1) := by decide +kernel
theorem d_Md_countValid_27 : decode b_Md_countValid 27 = .ok (.invokevirtual 65, 3) := by decide +kernel
theorem d_Md_countValid_30 : decode b_Md_countValid 30 = .ok (.ireturn, 1) := by decide +kernel
theorem d_Md_countValid_31 : decode b_Md_countValid 31 = .ok (.iconst 0, 1) := by decide +kernel
theorem d_Md_countValid_32 : decode b_Md_countValid 32 = .ok (.istore_n 3, 1) := by decide +kernel
theorem d_Md_countValid_33 : decode b_Md_countValid 33 = .ok (.iload_n 3, 1) := by decide +kernel
theorem d_Md_countValid_34 : decode b_Md_countValid 34 = .ok (.sipush 4096, 3) := by decide +kernel
theorem d_Md_countValid_37 : decode b_Md_countValid 37 = .ok (.if_icmp .ge 16, 3) := by decide +kernel
theorem d_Md_countValid_40 : decode b_Md_countValid 40 = .ok (.aload_n 0, 1) := by decide +kernel
theorem d_Md_countValid_41 : decode b_Md_countValid 41 = .ok (.getfield 42, 3) := by decide +kernel
theorem d_Md_countValid_44 : decode b_Md_countValid 44 = .ok (.iload_n 3, 1) := by decide +kernel
theorem d_Md_countValid_45 : decode b_Md_countValid 45 = .ok (.iconst 0, 1) := by decide +kernel
theorem d_Md_countValid_46 : decode b_Md_countValid 46 = .ok (.iastore, 1) := by decide +kernel
theorem d_Md_countValid_47 : decode b_Md_countValid 47 = .ok (.iinc 3 1, 3) := by decide +kernel
theorem d_Md_countValid_50 : decode b_Md_countValid 50 = .ok (.goto (-17), 3) := by decide +kernel
theorem d_Md_countValid_53 : decode b_Md_countValid 53 = .ok (.aload_n 0, 1) := by decide +kernel
theorem d_Md_countValid_54 : decode b_Md_countValid 54 = .ok (.getfield 42, 3) := by decide +kernel
theorem d_Md_countValid_57 : decode b_Md_countValid 57 = .ok (.iconst 0, 1) := by decide +kernel
theorem d_Md_countValid_58 : decode b_Md_countValid 58 = .ok (.iconst 1, 1) := by decide +kernel
theorem d_Md_countValid_59 : decode b_Md_countValid 59 = .ok (.iastore, 1) := by decide +kernel
theorem d_Md_countValid_60 : decode b_Md_countValid 60 = .ok (.iconst 0, 1) := by decide +kernel
theorem d_Md_countValid_61 : decode b_Md_countValid 61 = .ok (.istore_n 3, 1) := by decide +kernel
theorem d_Md_countValid_62 : decode b_Md_countValid 62 = .ok (.iload_n 3, 1) := by decide +kernel
theorem d_Md_countValid_63 : decode b_Md_countValid 63 = .ok (.iload_n 1, 1) := by decide +kernel
theorem d_Md_countValid_64 : decode b_Md_countValid 64 = .ok (.if_icmp .ge 168, 3) := by decide +kernel
theorem d_Md_countValid_67 : decode b_Md_countValid 67 = .ok (.iconst 0, 1) := by decide +kernel
theorem d_Md_countValid_68 : decode b_Md_countValid 68 = .ok (.istore 4, 2) := by decide +kernel
theorem d_Md_countValid_70 : decode b_Md_countValid 70 = .ok (.iload 4, 2) := by decide +kernel
theorem d_Md_countValid_72 : decode b_Md_countValid 72 = .ok (.sipush 4096, 3) := by decide +kernel
theorem d_Md_countValid_75 : decode b_Md_countValid 75 = .ok (.if_icmp .ge 17, 3) := by decide +kernel
theorem d_Md_countValid_78 : decode b_Md_countValid 78 = .ok (.aload_n 0, 1) := by decide +kernel
theorem d_Md_countValid_79 : decode b_Md_countValid 79 = .ok (.getfield 45, 3) := by decide +kernel
theorem d_Md_countValid_82 : decode b_Md_countValid 82 = .ok (.iload 4, 2) := by decide +kernel
theorem d_Md_countValid_84 : decode b_Md_countValid 84 = .ok (.iconst 0, 1) := by decide +kernel
theorem d_Md_countValid_85 : decode b_Md_countValid 85 = .ok (.iastore, 1) := by decide +kernel
theorem d_Md_countValid_86 : decode b_Md_countValid 86 = .ok (.iinc 4 1, 3) := by decide +kernel
theorem d_Md_countValid_89 : decode b_Md_countValid 89 = .ok (.goto (-19), 3) := by decide +kernel
theorem d_Md_countValid_92 : decode b_Md_countValid 92 = .ok (.iconst 0, 1) := by decide +kernel
theorem d_Md_countValid_93 : decode b_Md_countValid 93 = .ok (.istore 4, 2) := by decide +kernel
theorem d_Md_countValid_95 : decode b_Md_countValid 95 = .ok (.iload 4, 2) := by decide +kernel
theorem d_Md_countValid_97 : decode b_Md_countValid 97 = .ok (.sipush 4096, 3) := by decide +kernel
theorem d_Md_countValid_100 : decode b_Md_countValid 100 = .ok (.if_icmp .ge 95, 3) := by decide +kernel
theorem d_Md_countValid_103 : decode b_Md_countValid 103 = .ok (.iconst 0, 1) := by decide +kernel
theorem d_Md_countValid_104 : decode b_Md_countValid 104 = .ok (.istore 5, 2) := by decide +kernel
theorem d_Md_countValid_106 : decode b_Md_countValid 106 = .ok (.iload 5, 2) := by decide +kernel
theorem d_Md_countValid_108 : decode b_Md_countValid 108 = .ok (.bipush 9, 2) := by decide +kernel
theorem d_Md_countValid_110 : decode b_Md_countValid 110 = .ok (.if_icmp .gt 79, 3) := by decide +kernel
theorem d_Md_countValid_113 : decode b_Md_countValid 113 = .ok (.aload_n 0, 1) := by decide +kernel
theorem d_Md_countValid_114 : decode b_Md_countValid 114 = .ok (.getfield 42, 3) := by decide +kernel
theorem d_Md_countValid_117 : decode b_Md_countValid 117 = .ok (.iload 4, 2) := by decide +kernel
theorem d_Md_countValid_119 : decode b_Md_countValid 119 = .ok (.iaload, 1) := by decide +kernel
theorem d_Md_countValid_120 : decode b_Md_countValid 120 = .ok (.ifCond .le 69, 3) := by decide +kernel
theorem d_Md_countValid_123 : decode b_Md_countValid 123 = .ok (.iconst 1, 1) := by decide +kernel
theorem d_Md_countValid_124 : decode b_Md_countValid 124 = .ok (.iload_n 3, 1) := by decide +kernel
theorem d_Md_countValid_125 : decode b_Md_countValid 125 = .ok (.iload 5, 2) := by decide +kernel
theorem d_Md_countValid_127 : decode b_Md_countValid 127 = .ok (.iadd, 1) := by decide +kernel
theorem d_Md_countValid_128 : decode b_Md_countValid 128 = .ok (.iload_n 1, 1) := by decide +kernel
theorem d_Md_countValid_129 : decode b_Md_countValid 129 = .ok (.irem, 1) := by decide +kernel
theorem d_Md_countValid_130 : decode b_Md_countValid 130 = .ok (.ishl, 1) := by decide +kernel
theorem d_Md_countValid_131 : decode b_Md_countValid 131 = .ok (.istore 6, 2) := by decide +kernel
theorem d_Md_countValid_133 : decode b_Md_countValid 133 = .ok (.iload 4, 2) := by decide +kernel
theorem d_Md_countValid_135 : decode b_Md_countValid 135 = .ok (.bipush 64, 2) := by decide +kernel
theorem d_Md_countValid_137 : decode b_Md_countValid 137 = .ok (.idiv, 1) := by decide +kernel
theorem d_Md_countValid_138 : decode b_Md_countValid 138 = .ok (.iload 6, 2) := by decide +kernel
theorem d_Md_countValid_140 : decode b_Md_countValid 140 = .ok (.iand, 1) := by decide +kernel
theorem d_Md_countValid_141 : decode b_Md_countValid 141 = .ok (.ifCond .ne 42, 3) := by decide +kernel
theorem d_Md_countValid_144 : decode b_Md_countValid 144 = .ok (.iload 4, 2) := by decide +kernel
theorem d_Md_countValid_146 : decode b_Md_countValid 146 = .ok (.bipush 64, 2) := by decide +kernel
theorem d_Md_countValid_148 : decode b_Md_countValid 148 = .ok (.irem, 1) := by decide +kernel
theorem d_Md_countValid_149 : decode b_Md_countValid 149 = .ok (.iload 5, 2) := by decide +kernel
theorem d_Md_countValid_151 : decode b_Md_countValid 151 = .ok (.iadd, 1) := by decide +kernel
theorem d_Md_countValid_152 : decode b_Md_countValid 152 = .ok (.bipush 64, 2) := by decide +kernel
theorem d_Md_countValid_154 : decode b_Md_countValid 154 = .ok (.if_icmp .ge 29, 3) := by decide +kernel
theorem d_Md_countValid_157 : decode b_Md_countValid 157 = .ok (.aload_n 0, 1) := by decide +kernel
theorem d_Md_countValid_158 : decode b_Md_countValid 158 = .ok (.getfield 45, 3) := by decide +kernel
theorem d_Md_countValid_161 : decode b_Md_countValid 161 = .ok (.iload 4, 2) := by decide +kernel
theorem d_Md_countValid_163 : decode b_Md_countValid 163 = .ok (.bipush 64, 2) := by decide +kernel
theorem d_Md_countValid_165 : decode b_Md_countValid 165 = .ok (.iload 6, 2) := by decide +kernel
theorem d_Md_countValid_167 : decode b_Md_countValid 167 = .ok (.imul, 1) := by decide +kernel
theorem d_Md_countValid_168 : decode b_Md_countValid 168 = .ok (.iadd, 1) := by decide +kernel
theorem d_Md_countValid_169 : decode b_Md_countValid 169 = .ok (.iload 5, 2) := by decide +kernel
theorem d_Md_countValid_171 : decode b_Md_countValid 171 = .ok (.iadd, 1) := by decide +kernel
theorem d_Md_countValid_172 : decode b_Md_countValid 172 = .ok (.dup2, 1) := by decide +kernel
theorem d_Md_countValid_173 : decode b_Md_countValid 173 = .ok (.iaload, 1) := by decide +kernel
theorem d_Md_countValid_174 : decode b_Md_countValid 174 = .ok (.aload_n 0, 1) := by decide +kernel
theorem d_Md_countValid_175 : decode b_Md_countValid 175 = .ok (.getfield 42, 3) := by decide +kernel
theorem d_Md_countValid_178 : decode b_Md_countValid 178 = .ok (.iload 4, 2) := by decide +kernel
theorem d_Md_countValid_180 : decode b_Md_countValid 180 = .ok (.iaload, 1) := by decide +kernel
theorem d_Md_countValid_181 : decode b_Md_countValid 181 = .ok (.iadd, 1) := by decide +kernel
theorem d_Md_countValid_182 : decode b_Md_countValid 182 = .ok (.iastore, 1) := by decide +kernel
theorem d_Md_countValid_183 : decode b_Md_countValid 183 = .ok (.iinc 5 1, 3) := by decide +kernel
theorem d_Md_countValid_186 : decode b_Md_countValid 186 = .ok (.goto (-80), 3) := by decide +kernel
theorem d_Md_countValid_189 : decode b_Md_countValid 189 = .ok (.iinc 4 1, 3) := by decide +kernel
theorem d_Md_countValid_192 : decode b_Md_countValid 192 = .ok (.goto (-97), 3) := by decide +kernel
theorem d_Md_countValid_195 : decode b_Md_countValid 195 = .ok (.iconst 0, 1) := by decide +kernel
theorem d_Md_countValid_196 : decode b_Md_countValid 196 = .ok (.istore 4, 2) := by decide +kernel
theorem d_Md_countValid_198 : decode b_Md_countValid 198 = .ok (.iload 4, 2) := by decide +kernel
theorem d_Md_countValid_200 : decode b_Md_countValid 200 = .ok (.sipush 4096, 3) := by decide +kernel
theorem d_Md_countValid_203 : decode b_Md_countValid 203 = .ok (.if_icmp .ge 23, 3) := by decide +kernel
theorem d_Md_countValid_206 : decode b_Md_countValid 206 = .ok (.aload_n 0, 1) := by decide +kernel
theorem d_Md_countValid_207 : decode b_Md_countValid 207 = .ok (.getfield 42, 3) := by decide +kernel
theorem d_Md_countValid_210 : decode b_Md_countValid 210 = .ok (.iload 4, 2) := by decide +kernel
theorem d_Md_countValid_212 : decode b_Md_countValid 212 = .ok (.aload_n 0, 1) := by decide +kernel
theorem d_Md_countValid_213 : decode b_Md_countValid 213 = .ok (.getfield 45, 3) := by decide +kernel
theorem d_Md_countValid_216 : decode b_Md_countValid 216 = .ok (.iload 4, 2) := by decide +kernel
theorem d_Md_countValid_218 : decode b_Md_countValid 218 = .ok (.iaload, 1) := by decide +kernel
theorem d_Md_countValid_219 : decode b_Md_countValid 219 = .ok (.iastore, 1) := by decide +kernel
theorem d_Md_countValid_220 : decode b_Md_countValid 220 = .ok (.iinc 4 1, 3) := by decide +kernel
theorem d_Md_countValid_223 : decode b_Md_countValid 223 = .ok (.goto (-25), 3) := by decide +kernel
theorem d_Md_countValid_226 : decode b_Md_countValid 226 = .ok (.iinc 3 1, 3) := by decide +kernel
theorem d_Md_countValid_229 : decode b_Md_countValid 229 = .ok (.goto (-167), 3) := by decide +kernel
theorem d_Md_countValid_232 : decode b_Md_countValid 232 = .ok (.aload_n 0, 1) := by decide +kernel
theorem d_Md_countValid_233 : decode b_Md_countValid 233 = .ok (.getfield 42, 3) := by decide +kernel
theorem d_Md_countValid_236 : decode b_Md_countValid 236 = .ok (.bipush 64, 2) := by decide +kernel
theorem d_Md_countValid_238 : decode b_Md_countValid 238 = .ok (.iconst 1, 1) := by decide +kernel
theorem d_Md_countValid_239 : decode b_Md_countValid 239 = .ok (.iload_n 1, 1) := by decide +kernel
theorem d_Md_countValid_240 : decode b_Md_countValid 240 = .ok (.ishl, 1) := by decide +kernel
theorem d_Md_countValid_241 : decode b_Md_countValid 241 = .ok (.iconst 1, 1) := by decide +kernel
theorem d_Md_countValid_242 : decode b_Md_countValid 242 = .ok (.isub, 1) := by decide +kernel
theorem d_Md_countValid_243 : decode b_Md_countValid 243 = .ok (.imul, 1) := by decide +kernel
theorem d_Md_countValid_244 : decode b_Md_countValid 244 = .ok (.iload_n 2, 1) := by decide +kernel
theorem d_Md_countValid_245 : decode b_Md_countValid 245 = .ok (.iload_n 1, 1) := by decide +kernel
theorem d_Md_countValid_246 : decode b_Md_countValid 246 = .ok (.imul, 1) := by decide +kernel
theorem d_Md_countValid_247 : decode b_Md_countValid 247 = .ok (.iadd, 1) := by decide +kernel
theorem d_Md_countValid_248 : decode b_Md_countValid 248 = .ok (.iaload, 1) := by decide +kernel
theorem d_Md_countValid_249 : decode b_Md_countValid 249 = .ok (.ireturn, 1) := by decide +kernel
theorem d_Md_cycle_0 : decode b_Md_cycle 0 = .ok (.aload_n 0, 1) := by decide +kernel
theorem d_Md_cycle_1 : decode b_Md_cycle 1 = .ok (.iconst 0, 1) := by decide +kernel
theorem d_Md_cycle_2 : decode b_Md_cycle 2 = .ok (.putfield 58, 3) := by decide +kernel
theorem d_Md_cycle_5 : decode b_Md_cycle 5 = .ok (.iload_n 1, 1) := by decide +kernel
theorem d_Md_cycle_6 : decode b_Md_cycle 6 = .ok (.iconst 1, 1) := by decide +kernel
theorem d_Md_cycle_7 : decode b_Md_cycle 7 = .ok (.iconst 4, 1) := by decide +kernel
theorem d_Md_cycle_8 : decode b_Md_cycle 8 = .ok (.invokestatic 61, 3) := by decide +kernel
theorem d_Md_cycle_11 : decode b_Md_cycle 11 = .ok (.ifCond .eq 7, 3) := by decide +kernel
theorem d_Md_cycle_14 : decode b_Md_cycle 14 = .ok (.iload_n 2, 1) := by decide +kernel
theorem d_Md_cycle_15 : decode b_Md_cycle 15 = .ok (.ifCond .ge 9, 3) := by decide +kernel
theorem d_Md_cycle_18 : decode b_Md_cycle 18 = .ok (.aload_n 0, 1) := by decide +kernel
theorem d_Md_cycle_19 : decode b_Md_cycle 19 = .ok (.iconst 1, 1) := by decide +kernel
theorem d_Md_cycle_20 : decode b_Md_cycle 20 = .ok (.invokevirtual 65, 3) := by decide +kernel
theorem d_Md_cycle_23 : decode b_Md_cycle 23 = .ok (.ireturn, 1) := by decide +kernel
theorem d_Md_cycle_24 : decode b_Md_cycle 24 = .ok (.iconst 1, 1) := by decide +kernel
theorem d_Md_cycle_25 : decode b_Md_cycle 25 = .ok (.istore_n 3, 1) := by decide +kernel
theorem d_Md_cycle_26 : decode b_Md_cycle 26 = .ok (.iconst 0, 1) := by decide +kernel
theorem d_Md_cycle_27 : decode b_Md_cycle 27 = .ok (.istore 4, 2) := by decide +kernel
theorem d_Md_cycle_29 : decode b_Md_cycle 29 = .ok (.iload 4, 2) := by decide +kernel
theorem d_Md_cycle_31 : decode b_Md_cycle 31 = .ok (.iload_n 1, 1) := by decide +kernel
theorem d_Md_cycle_32 : decode b_Md_cycle 32 = .ok (.if_icmp .ge 14, 3) := by decide +kernel
theorem d_Md_cycle_35 : decode b_Md_cycle 35 = .ok (.iload_n 3, 1) := by decide +kernel
theorem d_Md_cycle_36 : decode b_Md_cycle 36 = .ok (.bipush 10, 2) := by decide +kernel
theorem d_Md_cycle_38 : decode b_Md_cycle 38 = .ok (.imul, 1) := by decide +kernel
theorem d_Md_cycle_39 : decode b_Md_cycle 39 = .ok (.istore_n 3, 1) := by decide +kernel
theorem d_Md_cycle_40 : decode b_Md_cycle 40 = .ok (.iinc 4 1, 3) := by decide +kernel
theorem d_Md_cycle_43 : decode b_Md_cycle 43 = .ok (.goto (-14), 3) := by decide +kernel
theorem d_Md_cycle_46 : decode b_Md_cycle 46 = .ok (.iload_n 2, 1) := by decide +kernel
theorem d_Md_cycle_47 : decode b_Md_cycle 47 = .ok (.istore 4, 2) := by decide +kernel
theorem d_Md_cycle_49 : decode b_Md_cycle 49 = .ok (.iconst 0, 1) := by decide +kernel
theorem d_Md_cycle_50 : decode b_Md_cycle 50 = .ok (.istore 5, 2) := by decide +kernel
theorem d_Md_cycle_52 : decode b_Md_cycle 52 = .ok (.iload 5, 2) := by decide +kernel
theorem d_Md_cycle_54 : decode b_Md_cycle 54 = .ok (.iload_n 3, 1) := by decide +kernel
theorem d_Md_cycle_55 : decode b_Md_cycle 55 = .ok (.if_icmp .ge 67, 3) := by decide +kernel
theorem d_Md_cycle_58 : decode b_Md_cycle 58 = .ok (.iload 5, 2) := by decide +kernel
theorem d_Md_cycle_60 : decode b_Md_cycle 60 = .ok (.istore 6, 2) := by decide +kernel
theorem d_Md_cycle_62 : decode b_Md_cycle 62 = .ok (.iload_n 1, 1) := by decide +kernel
theorem d_Md_cycle_63 : decode b_Md_cycle 63 = .ok (.iconst 1, 1) := by decide +kernel
theorem d_Md_cycle_64 : decode b_Md_cycle 64 = .ok (.isub, 1) := by decide +kernel
theorem d_Md_cycle_65 : decode b_Md_cycle 65 = .ok (.istore 7, 2) := by decide +kernel
theorem d_Md_cycle_67 : decode b_Md_cycle 67 = .ok (.iload 7, 2) := by decide +kernel
theorem d_Md_cycle_69 : decode b_Md_cycle 69 = .ok (.ifCond .lt 28, 3) := by decide +kernel
theorem d_Md_cycle_72 : decode b_Md_cycle 72 = .ok (.aload_n 0, 1) := by decide +kernel
theorem d_Md_cycle_73 : decode b_Md_cycle 73 = .ok (.getfield 48, 3) := by decide +kernel
theorem d_Md_cycle_76 : decode b_Md_cycle 76 = .ok (.iload 7, 2) := by decide +kernel
theorem d_Md_cycle_78 : decode b_Md_cycle 78 = .ok (.iload 6, 2) := by decide +kernel
theorem d_Md_cycle_80 : decode b_Md_cycle 80 = .ok (.bipush 10, 2) := by decide +kernel
theorem d_Md_cycle_82 : decode b_Md_cycle 82 = .ok (.irem, 1) := by decide +kernel
theorem d_Md_cycle_83 : decode b_Md_cycle 83 = .ok (.iastore, 1) := by decide +kernel
theorem d_Md_cycle_84 : decode b_Md_cycle 84 = .ok (.iload 6, 2) := by decide +kernel
theorem d_Md_cycle_86 : decode b_Md_cycle 86 = .ok (.bipush 10, 2) := by decide +kernel
theorem d_Md_cycle_88 : decode b_Md_cycle 88 = .ok (.idiv, 1) := by decide +kernel
theorem d_Md_cycle_89 : decode b_Md_cycle 89 = .ok (.istore 6, 2) := by decide +kernel
theorem d_Md_cycle_91 : decode b_Md_cycle 91 = .ok (.iinc 7 (-1), 3) := by decide +kernel
theorem d_Md_cycle_94 : decode b_Md_cycle 94 = .ok (.goto (-27), 3) := by decide +kernel
theorem d_Md_cycle_97 : decode b_Md_cycle 97 = .ok (.aload_n 0, 1) := by decide +kernel
theorem d_Md_cycle_98 : decode b_Md_cycle 98 = .ok (.iload_n 1, 1) := by decide +kernel
theorem d_Md_cycle_99 : decode b_Md_cycle 99 = .ok (.invokevirtual 120, 3) := by decide +kernel
theorem d_Md_cycle_102 : decode b_Md_cycle 102 = .ok (.ifCond .eq 14, 3) := by decide +kernel
theorem d_Md_cycle_105 : decode b_Md_cycle 105 = .ok (.iload 4, 2) := by decide +kernel
theorem d_Md_cycle_107 : decode b_Md_cycle 107 = .ok (.ifCond .ne 6, 3) := by decide +kernel
theorem d_Md_cycle_110 : decode b_Md_cycle 110 = .ok (.iload 5, 2) := by decide +kernel
theorem d_Md_cycle_112 : decode b_Md_cycle 112 = .ok (.ireturn, 1) := by decide +kernel
theorem d_Md_cycle_113 : decode b_Md_cycle 113 = .ok (.iinc 4 (-1), 3) := by decide +kernel
theorem d_Md_cycle_116 : decode b_Md_cycle 116 = .ok (.iinc 5 1, 3) := by decide +kernel
theorem d_Md_cycle_119 : decode b_Md_cycle 119 = .ok (.goto (-67), 3) := by decide +kernel
theorem d_Md_cycle_122 : decode b_Md_cycle 122 = .ok (.aload_n 0, 1) := by decide +kernel
theorem d_Md_cycle_123 : decode b_Md_cycle 123 = .ok (.iconst 2, 1) := by decide +kernel
theorem d_Md_cycle_124 : decode b_Md_cycle 124 = .ok (.invokevirtual 65, 3) := by decide +kernel
theorem d_Md_cycle_127 : decode b_Md_cycle 127 = .ok (.ireturn, 1) := by decide +kernel
theorem d_Md_rowIsCycle_0 : decode b_Md_rowIsCycle 0 = .ok (.iconst 0, 1) := by decide +kernel
theorem d_Md_rowIsCycle_1 : decode b_Md_rowIsCycle 1 = .ok (.istore_n 2, 1) := by decide +kernel
theorem d_Md_rowIsCycle_2 : decode b_Md_rowIsCycle 2 = .ok (.iconst 0, 1) := by decide +kernel
theorem d_Md_rowIsCycle_3 : decode b_Md_rowIsCycle 3 = .ok (.istore_n 3, 1) := by decide +kernel
theorem d_Md_rowIsCycle_4 : decode b_Md_rowIsCycle 4 = .ok (.iload_n 3, 1) := by decide +kernel
theorem d_Md_rowIsCycle_5 : decode b_Md_rowIsCycle 5 = .ok (.iload_n 1, 1) := by decide +kernel
theorem d_Md_rowIsCycle_6 : decode b_Md_rowIsCycle 6 = .ok (.if_icmp .ge 24, 3) := by decide +kernel
theorem d_Md_rowIsCycle_9 : decode b_Md_rowIsCycle 9 = .ok (.iload_n 2, 1) := by decide +kernel
theorem d_Md_rowIsCycle_10 : decode b_Md_rowIsCycle 10 = .ok (.iconst 1, 1) := by decide +kernel
theorem d_Md_rowIsCycle_11 : decode b_Md_rowIsCycle 11 = .ok (.iload_n 3, 1) := by decide +kernel
theorem d_Md_rowIsCycle_12 : decode b_Md_rowIsCycle 12 = .ok (.aload_n 0, 1) := by decide +kernel
theorem d_Md_rowIsCycle_13 : decode b_Md_rowIsCycle 13 = .ok (.getfield 48, 3) := by decide +kernel
theorem d_Md_rowIsCycle_16 : decode b_Md_rowIsCycle 16 = .ok (.iload_n 3, 1) := by decide +kernel
theorem d_Md_rowIsCycle_17 : decode b_Md_rowIsCycle 17 = .ok (.iaload, 1) := by decide +kernel
theorem d_Md_rowIsCycle_18 : decode b_Md_rowIsCycle 18 = .ok (.iadd, 1) := by decide +kernel
theorem d_Md_rowIsCycle_19 : decode b_Md_rowIsCycle 19 = .ok (.iload_n 1, 1) := by decide +kernel
theorem d_Md_rowIsCycle_20 : decode b_Md_rowIsCycle 20 = .ok (.irem, 1) := by decide +kernel
theorem d_Md_rowIsCycle_21 : decode b_Md_rowIsCycle 21 = .ok (.ishl, 1) := by decide +kernel
theorem d_Md_rowIsCycle_22 : decode b_Md_rowIsCycle 22 = .ok (.ior, 1) := by decide +kernel
theorem d_Md_rowIsCycle_23 : decode b_Md_rowIsCycle 23 = .ok (.istore_n 2, 1) := by decide +kernel
theorem d_Md_rowIsCycle_24 : decode b_Md_rowIsCycle 24 = .ok (.iinc 3 1, 3) := by decide +kernel
theorem d_Md_rowIsCycle_27 : decode b_Md_rowIsCycle 27 = .ok (.goto (-23), 3) := by decide +kernel
theorem d_Md_rowIsCycle_30 : decode b_Md_rowIsCycle 30 = .ok (.iload_n 2, 1) := by decide +kernel
theorem d_Md_rowIsCycle_31 : decode b_Md_rowIsCycle 31 = .ok (.iconst 1, 1) := by decide +kernel
theorem d_Md_rowIsCycle_32 : decode b_Md_rowIsCycle 32 = .ok (.iload_n 1, 1) := by decide +kernel
theorem d_Md_rowIsCycle_33 : decode b_Md_rowIsCycle 33 = .ok (.ishl, 1) := by decide +kernel
theorem d_Md_rowIsCycle_34 : decode b_Md_rowIsCycle 34 = .ok (.iconst 1, 1) := by decide +kernel
theorem d_Md_rowIsCycle_35 : decode b_Md_rowIsCycle 35 = .ok (.isub, 1) := by decide +kernel
theorem d_Md_rowIsCycle_36 : decode b_Md_rowIsCycle 36 = .ok (.if_icmp .ne 7, 3) := by decide +kernel
theorem d_Md_rowIsCycle_39 : decode b_Md_rowIsCycle 39 = .ok (.iconst 1, 1) := by decide +kernel
theorem d_Md_rowIsCycle_40 : decode b_Md_rowIsCycle 40 = .ok (.goto 4, 3) := by decide +kernel
theorem d_Md_rowIsCycle_43 : decode b_Md_rowIsCycle 43 = .ok (.iconst 0, 1) := by decide +kernel
theorem d_Md_rowIsCycle_44 : decode b_Md_rowIsCycle 44 = .ok (.istore_n 3, 1) := by decide +kernel
theorem d_Md_rowIsCycle_45 : decode b_Md_rowIsCycle 45 = .ok (.iconst 0, 1) := by decide +kernel
theorem d_Md_rowIsCycle_46 : decode b_Md_rowIsCycle 46 = .ok (.istore 4, 2) := by decide +kernel
theorem d_Md_rowIsCycle_48 : decode b_Md_rowIsCycle 48 = .ok (.iload 4, 2) := by decide +kernel
theorem d_Md_rowIsCycle_50 : decode b_Md_rowIsCycle 50 = .ok (.iload_n 1, 1) := by decide +kernel
theorem d_Md_rowIsCycle_51 : decode b_Md_rowIsCycle 51 = .ok (.if_icmp .ge 134, 3) := by decide +kernel
theorem d_Md_rowIsCycle_54 : decode b_Md_rowIsCycle 54 = .ok (.iload_n 3, 1) := by decide +kernel
theorem d_Md_rowIsCycle_55 : decode b_Md_rowIsCycle 55 = .ok (.ifCond .eq 130, 3) := by decide +kernel
theorem d_Md_rowIsCycle_58 : decode b_Md_rowIsCycle 58 = .ok (.iconst 0, 1) := by decide +kernel
theorem d_Md_rowIsCycle_59 : decode b_Md_rowIsCycle 59 = .ok (.istore 5, 2) := by decide +kernel
theorem d_Md_rowIsCycle_61 : decode b_Md_rowIsCycle 61 = .ok (.iload 5, 2) := by decide +kernel
theorem d_Md_rowIsCycle_63 : decode b_Md_rowIsCycle 63 = .ok (.iload 4, 2) := by decide +kernel
theorem d_Md_rowIsCycle_65 : decode b_Md_rowIsCycle 65 = .ok (.if_icmp .ge 36, 3) := by decide +kernel
theorem d_Md_rowIsCycle_68 : decode b_Md_rowIsCycle 68 = .ok (.iload_n 3, 1) := by decide +kernel
theorem d_Md_rowIsCycle_69 : decode b_Md_rowIsCycle 69 = .ok (.ifCond .eq 24, 3) := by decide +kernel
theorem d_Md_rowIsCycle_72 : decode b_Md_rowIsCycle 72 = .ok (.aload_n 0, 1) := by decide +kernel
theorem d_Md_rowIsCycle_73 : decode b_Md_rowIsCycle 73 = .ok (.iload_n 1, 1) := by decide +kernel
theorem d_Md_rowIsCycle_74 : decode b_Md_rowIsCycle 74 = .ok (.iload 4, 2) := by decide +kernel
theorem d_Md_rowIsCycle_76 : decode b_Md_rowIsCycle 76 = .ok (.invokevirtual 117, 3) := by decide +kernel
theorem d_Md_rowIsCycle_79 : decode b_Md_rowIsCycle 79 = .ok (.aload_n 0, 1) := by decide +kernel
theorem d_Md_rowIsCycle_80 : decode b_Md_rowIsCycle 80 = .ok (.iload_n 1, 1) := by decide +kernel
theorem d_Md_rowIsCycle_81 : decode b_Md_rowIsCycle 81 = .ok (.iload 5, 2) := by decide +kernel
theorem d_Md_rowIsCycle_83 : decode b_Md_rowIsCycle 83 = .ok (.invokevirtual 117, 3) := by decide +kernel
theorem d_Md_rowIsCycle_86 : decode b_Md_rowIsCycle 86 = .ok (.if_icmp .eq 7, 3) := by decide +kernel
theorem d_Md_rowIsCycle_89 : decode b_Md_rowIsCycle 89 = .ok (.iconst 1, 1) := by decide +kernel
theorem d_Md_rowIsCycle_90 : decode b_Md_rowIsCycle 90 = .ok (.goto 4, 3) := by decide +kernel
theorem d_Md_rowIsCycle_93 : decode b_Md_rowIsCycle 93 = .ok (.iconst 0, 1) := by decide +kernel
theorem d_Md_rowIsCycle_94 : decode b_Md_rowIsCycle 94 = .ok (.istore_n 3, 1) := by decide +kernel
theorem d_Md_rowIsCycle_95 : decode b_Md_rowIsCycle 95 = .ok (.iinc 5 1, 3) := by decide +kernel
theorem d_Md_rowIsCycle_98 : decode b_Md_rowIsCycle 98 = .ok (.goto (-37), 3) := by decide +kernel
theorem d_Md_rowIsCycle_101 : decode b_Md_rowIsCycle 101 = .ok (.iconst 1, 1) := by decide +kernel
theorem d_Md_rowIsCycle_102 : decode b_Md_rowIsCycle 102 = .ok (.istore 5, 2) := by decide +kernel
theorem d_Md_rowIsCycle_104 : decode b_Md_rowIsCycle 104 = .ok (.iconst 0, 1) := by decide +kernel
theorem d_Md_rowIsCycle_105 : decode b_Md_rowIsCycle 105 = .ok (.istore 6, 2) := by decide +kernel
theorem d_Md_rowIsCycle_107 : decode b_Md_rowIsCycle 107 = .ok (.iload 6, 2) := by decide +kernel
theorem d_Md_rowIsCycle_109 : decode b_Md_rowIsCycle 109 = .ok (.iload_n 1, 1) := by decide +kernel
theorem d_Md_rowIsCycle_110 : decode b_Md_rowIsCycle 110 = .ok (.if_icmp .ge 69, 3) := by decide +kernel
theorem d_Md_rowIsCycle_113 : decode b_Md_rowIsCycle 113 = .ok (.iload 5, 2) := by decide +kernel
theorem d_Md_rowIsCycle_115 : decode b_Md_rowIsCycle 115 = .ok (.ifCond .eq 64, 3) := by decide +kernel
theorem d_Md_rowIsCycle_118 : decode b_Md_rowIsCycle 118 = .ok (.iload_n 3, 1) := by decide +kernel
theorem d_Md_rowIsCycle_119 : decode b_Md_rowIsCycle 119 = .ok (.ifCond .eq 60, 3) := by decide +kernel
theorem d_Md_rowIsCycle_122 : decode b_Md_rowIsCycle 122 = .ok (.aload_n 0, 1) := by decide +kernel
theorem d_Md_rowIsCycle_123 : decode b_Md_rowIsCycle 123 = .ok (.getfield 48, 3) := by decide +kernel
theorem d_Md_rowIsCycle_126 : decode b_Md_rowIsCycle 126 = .ok (.iload 4, 2) := by decide +kernel
theorem d_Md_rowIsCycle_128 : decode b_Md_rowIsCycle 128 = .ok (.iload 6, 2) := by decide +kernel
theorem d_Md_rowIsCycle_130 : decode b_Md_rowIsCycle 130 = .ok (.iadd, 1) := by decide +kernel
theorem d_Md_rowIsCycle_131 : decode b_Md_rowIsCycle 131 = .ok (.iload_n 1, 1) := by decide +kernel
theorem d_Md_rowIsCycle_132 : decode b_Md_rowIsCycle 132 = .ok (.irem, 1) := by decide +kernel
theorem d_Md_rowIsCycle_133 : decode b_Md_rowIsCycle 133 = .ok (.iaload, 1) := by decide +kernel
theorem d_Md_rowIsCycle_134 : decode b_Md_rowIsCycle 134 = .ok (.istore 7, 2) := by decide +kernel
theorem d_Md_rowIsCycle_136 : decode b_Md_rowIsCycle 136 = .ok (.iload 7, 2) := by decide +kernel
theorem d_Md_rowIsCycle_138 : decode b_Md_rowIsCycle 138 = .ok (.aload_n 0, 1) := by decide +kernel
theorem d_Md_rowIsCycle_139 : decode b_Md_rowIsCycle 139 = .ok (.getfield 48, 3) := by decide +kernel
theorem d_Md_rowIsCycle_142 : decode b_Md_rowIsCycle 142 = .ok (.iload 6, 2) := by decide +kernel
theorem d_Md_rowIsCycle_144 : decode b_Md_rowIsCycle 144 = .ok (.iaload, 1) := by decide +kernel
theorem d_Md_rowIsCycle_145 : decode b_Md_rowIsCycle 145 = .ok (.if_icmp .ne 7, 3) := by decide +kernel
theorem d_Md_rowIsCycle_148 : decode b_Md_rowIsCycle 148 = .ok (.iconst 1, 1) := by decide +kernel
theorem d_Md_rowIsCycle_149 : decode b_Md_rowIsCycle 149 = .ok (.goto 4, 3) := by decide +kernel
theorem d_Md_rowIsCycle_152 : decode b_Md_rowIsCycle 152 = .ok (.iconst 0, 1) := by decide +kernel
theorem d_Md_rowIsCycle_153 : decode b_Md_rowIsCycle 153 = .ok (.istore 5, 2) := by decide +kernel
theorem d_Md_rowIsCycle_155 : decode b_Md_rowIsCycle 155 = .ok (.iload 7, 2) := by decide +kernel
theorem d_Md_rowIsCycle_157 : decode b_Md_rowIsCycle 157 = .ok (.aload_n 0, 1) := by decide +kernel
theorem d_Md_rowIsCycle_158 : decode b_Md_rowIsCycle 158 = .ok (.getfield 48, 3) := by decide +kernel
theorem d_Md_rowIsCycle_161 : decode b_Md_rowIsCycle 161 = .ok (.iload 6, 2) := by decide +kernel
theorem d_Md_rowIsCycle_163 : decode b_Md_rowIsCycle 163 = .ok (.iaload, 1) := by decide +kernel
theorem d_Md_rowIsCycle_164 : decode b_Md_rowIsCycle 164 = .ok (.if_icmp .lt 7, 3) := by decide +kernel
theorem d_Md_rowIsCycle_167 : decode b_Md_rowIsCycle 167 = .ok (.iconst 1, 1) := by decide +kernel
theorem d_Md_rowIsCycle_168 : decode b_Md_rowIsCycle 168 = .ok (.goto 4, 3) := by decide +kernel
theorem d_Md_rowIsCycle_171 : decode b_Md_rowIsCycle 171 = .ok (.iconst 0, 1) := by decide +kernel
theorem d_Md_rowIsCycle_172 : decode b_Md_rowIsCycle 172 = .ok (.istore_n 3, 1) := by decide +kernel
theorem d_Md_rowIsCycle_173 : decode b_Md_rowIsCycle 173 = .ok (.iinc 6 1, 3) := by decide +kernel
theorem d_Md_rowIsCycle_176 : decode b_Md_rowIsCycle 176 = .ok (.goto (-69), 3) := by decide +kernel
theorem d_Md_rowIsCycle_179 : decode b_Md_rowIsCycle 179 = .ok (.iinc 4 1, 3) := by decide +kernel
theorem d_Md_rowIsCycle_182 : decode b_Md_rowIsCycle 182 = .ok (.goto (-134), 3) := by decide +kernel
theorem d_Md_rowIsCycle_185 : decode b_Md_rowIsCycle 185 = .ok (.iload_n 3, 1) := by decide +kernel
theorem d_Md_rowIsCycle_186 : decode b_Md_rowIsCycle 186 = .ok (.ireturn, 1) := by decide +kernel
theorem d_Md_rowState_0 : decode b_Md_rowState 0 = .ok (.iconst 0, 1) := by decide +kernel
theorem d_Md_rowState_1 : decode b_Md_rowState 1 = .ok (.istore_n 3, 1) := by decide +kernel
theorem d_Md_rowState_2 : decode b_Md_rowState 2 = .ok (.iconst 1, 1) := by decide +kernel
theorem d_Md_rowState_3 : decode b_Md_rowState 3 = .ok (.istore 4, 2) := by decide +kernel
theorem d_Md_rowState_5 : decode b_Md_rowState 5 = .ok (.iload 4, 2) := by decide +kernel
theorem d_Md_rowState_7 : decode b_Md_rowState 7 = .ok (.bipush 9, 2) := by decide +kernel
theorem d_Md_rowState_9 : decode b_Md_rowState 9 = .ok (.if_icmp .gt 42, 3) := by decide +kernel
theorem d_Md_rowState_12 : decode b_Md_rowState 12 = .ok (.aload_n 0, 1) := by decide +kernel
theorem d_Md_rowState_13 : decode b_Md_rowState 13 = .ok (.getfield 48, 3) := by decide +kernel
theorem d_Md_rowState_16 : decode b_Md_rowState 16 = .ok (.iload_n 2, 1) := by decide +kernel
theorem d_Md_rowState_17 : decode b_Md_rowState 17 = .ok (.iload 4, 2) := by decide +kernel
theorem d_Md_rowState_19 : decode b_Md_rowState 19 = .ok (.isub, 1) := by decide +kernel
theorem d_Md_rowState_20 : decode b_Md_rowState 20 = .ok (.bipush 12, 2) := by decide +kernel
theorem d_Md_rowState_22 : decode b_Md_rowState 22 = .ok (.iadd, 1) := by decide +kernel
theorem d_Md_rowState_23 : decode b_Md_rowState 23 = .ok (.iload_n 1, 1) := by decide +kernel
theorem d_Md_rowState_24 : decode b_Md_rowState 24 = .ok (.irem, 1) := by decide +kernel
theorem d_Md_rowState_25 : decode b_Md_rowState 25 = .ok (.iaload, 1) := by decide +kernel
theorem d_Md_rowState_26 : decode b_Md_rowState 26 = .ok (.istore 5, 2) := by decide +kernel
theorem d_Md_rowState_28 : decode b_Md_rowState 28 = .ok (.iload 5, 2) := by decide +kernel
theorem d_Md_rowState_30 : decode b_Md_rowState 30 = .ok (.iload 4, 2) := by decide +kernel
theorem d_Md_rowState_32 : decode b_Md_rowState 32 = .ok (.if_icmp .lt 13, 3) := by decide +kernel
theorem d_Md_rowState_35 : decode b_Md_rowState 35 = .ok (.iload_n 3, 1) := by decide +kernel
theorem d_Md_rowState_36 : decode b_Md_rowState 36 = .ok (.iconst 1, 1) := by decide +kernel
theorem d_Md_rowState_37 : decode b_Md_rowState 37 = .ok (.iload 5, 2) := by decide +kernel
theorem d_Md_rowState_39 : decode b_Md_rowState 39 = .ok (.iload 4, 2) := by decide +kernel
theorem d_Md_rowState_41 : decode b_Md_rowState 41 = .ok (.isub, 1) := by decide +kernel
theorem d_Md_rowState_42 : decode b_Md_rowState 42 = .ok (.ishl, 1) := by decide +kernel
theorem d_Md_rowState_43 : decode b_Md_rowState 43 = .ok (.ior, 1) := by decide +kernel
theorem d_Md_rowState_44 : decode b_Md_rowState 44 = .ok (.istore_n 3, 1) := by decide +kernel
theorem d_Md_rowState_45 : decode b_Md_rowState 45 = .ok (.iinc 4 1, 3) := by decide +kernel
theorem d_Md_rowState_48 : decode b_Md_rowState 48 = .ok (.goto (-43), 3) := by decide +kernel
theorem d_Md_rowState_51 : decode b_Md_rowState 51 = .ok (.iload_n 3, 1) := by decide +kernel
theorem d_Md_rowState_52 : decode b_Md_rowState 52 = .ok (.ireturn, 1) := by decide +kernel
theorem d_Md_show_0 : decode b_Md_show 0 = .ok (.aload_n 0, 1) := by decide +kernel
theorem d_Md_show_1 : decode b_Md_show 1 = .ok (.iconst 0, 1) := by decide +kernel
theorem d_Md_show_2 : decode b_Md_show 2 = .ok (.putfield 58, 3) := by decide +kernel
theorem d_Md_show_5 : decode b_Md_show 5 = .ok (.aload_n 0, 1) := by decide +kernel
theorem d_Md_show_6 : decode b_Md_show 6 = .ok (.iconst 0, 1) := by decide +kernel
theorem d_Md_show_7 : decode b_Md_show 7 = .ok (.invokevirtual 87, 3) := by decide +kernel
theorem d_Md_show_10 : decode b_Md_show 10 = .ok (.ifCond .ne 9, 3) := by decide +kernel
theorem d_Md_show_13 : decode b_Md_show 13 = .ok (.aload_n 0, 1) := by decide +kernel
theorem d_Md_show_14 : decode b_Md_show 14 = .ok (.iconst 1, 1) := by decide +kernel
theorem d_Md_show_15 : decode b_Md_show 15 = .ok (.invokevirtual 65, 3) := by decide +kernel
theorem d_Md_show_18 : decode b_Md_show 18 = .ok (.ireturn, 1) := by decide +kernel
theorem d_Md_show_19 : decode b_Md_show 19 = .ok (.aload_n 0, 1) := by decide +kernel
theorem d_Md_show_20 : decode b_Md_show 20 = .ok (.iconst 0, 1) := by decide +kernel
theorem d_Md_show_21 : decode b_Md_show 21 = .ok (.bipush 7, 2) := by decide +kernel
theorem d_Md_show_23 : decode b_Md_show 23 = .ok (.invokevirtual 100, 3) := by decide +kernel
theorem d_Md_show_26 : decode b_Md_show 26 = .ok (.aload_n 0, 1) := by decide +kernel
theorem d_Md_show_27 : decode b_Md_show 27 = .ok (.iconst 0, 1) := by decide +kernel
theorem d_Md_show_28 : decode b_Md_show 28 = .ok (.putfield 126, 3) := by decide +kernel
theorem d_Md_show_31 : decode b_Md_show 31 = .ok (.aload_n 0, 1) := by decide +kernel
theorem d_Md_show_32 : decode b_Md_show 32 = .ok (.iconst 0, 1) := by decide +kernel
theorem d_Md_show_33 : decode b_Md_show 33 = .ok (.putfield 129, 3) := by decide +kernel
theorem d_Md_show_36 : decode b_Md_show 36 = .ok (.aload_n 0, 1) := by decide +kernel
theorem d_Md_show_37 : decode b_Md_show 37 = .ok (.iconst 0, 1) := by decide +kernel
theorem d_Md_show_38 : decode b_Md_show 38 = .ok (.putfield 132, 3) := by decide +kernel
theorem d_Md_show_41 : decode b_Md_show 41 = .ok (.aload_n 0, 1) := by decide +kernel
theorem d_Md_show_42 : decode b_Md_show 42 = .ok (.iconst 0, 1) := by decide +kernel
theorem d_Md_show_43 : decode b_Md_show 43 = .ok (.putfield 135, 3) := by decide +kernel
theorem d_Md_show_46 : decode b_Md_show 46 = .ok (.iconst 0, 1) := by decide +kernel
theorem d_Md_show_47 : decode b_Md_show 47 = .ok (.istore_n 1, 1) := by decide +kernel
theorem d_Md_show_48 : decode b_Md_show 48 = .ok (.iload_n 1, 1) := by decide +kernel
theorem d_Md_show_49 : decode b_Md_show 49 = .ok (.bipush 9, 2) := by decide +kernel
theorem d_Md_show_51 : decode b_Md_show 51 = .ok (.if_icmp .ge 43, 3) := by decide +kernel
theorem d_Md_show_54 : decode b_Md_show 54 = .ok (.iconst 0, 1) := by decide +kernel
theorem d_Md_show_55 : decode b_Md_show 55 = .ok (.istore_n 2, 1) := by decide +kernel
theorem d_Md_show_56 : decode b_Md_show 56 = .ok (.iload_n 2, 1) := by decide +kernel
theorem d_Md_show_57 : decode b_Md_show 57 = .ok (.aload_n 0, 1) := by decide +kernel
theorem d_Md_show_58 : decode b_Md_show 58 = .ok (.getfield 7, 3) := by decide +kernel
theorem d_Md_show_61 : decode b_Md_show 61 = .ok (.bipush 7, 2) := by decide +kernel
theorem d_Md_show_63 : decode b_Md_show 63 = .ok (.iaload, 1) := by decide +kernel
theorem d_Md_show_64 : decode b_Md_show 64 = .ok (.iconst 2, 1) := by decide +kernel
theorem d_Md_show_65 : decode b_Md_show 65 = .ok (.if_icmp .ne 7, 3) := by decide +kernel
theorem d_Md_show_68 : decode b_Md_show 68 = .ok (.iconst 2, 1) := by decide +kernel
theorem d_Md_show_69 : decode b_Md_show 69 = .ok (.goto 4, 3) := by decide +kernel
theorem d_Md_show_72 : decode b_Md_show 72 = .ok (.iconst 1, 1) := by decide +kernel
theorem d_Md_show_73 : decode b_Md_show 73 = .ok (.if_icmp .ge 15, 3) := by decide +kernel
theorem d_Md_show_76 : decode b_Md_show 76 = .ok (.aload_n 0, 1) := by decide +kernel
theorem d_Md_show_77 : decode b_Md_show 77 = .ok (.iload_n 1, 1) := by decide +kernel
theorem d_Md_show_78 : decode b_Md_show 78 = .ok (.iload_n 2, 1) := by decide +kernel
theorem d_Md_show_79 : decode b_Md_show 79 = .ok (.invokevirtual 138, 3) := by decide +kernel
theorem d_Md_show_82 : decode b_Md_show 82 = .ok (.iinc 2 1, 3) := by decide +kernel
theorem d_Md_show_85 : decode b_Md_show 85 = .ok (.goto (-29), 3) := by decide +kernel
theorem d_Md_show_88 : decode b_Md_show 88 = .ok (.iinc 1 1, 3) := by decide +kernel
theorem d_Md_show_91 : decode b_Md_show 91 = .ok (.goto (-43), 3) := by decide +kernel
theorem d_Md_show_94 : decode b_Md_show 94 = .ok (.aload_n 0, 1) := by decide +kernel
theorem d_Md_show_95 : decode b_Md_show 95 = .ok (.getfield 126, 3) := by decide +kernel
theorem d_Md_show_98 : decode b_Md_show 98 = .ok (.ireturn, 1) := by decide +kernel
theorem d_Md_enter_0 : decode b_Md_enter 0 = .ok (.aload_n 0, 1) := by decide +kernel
theorem d_Md_enter_1 : decode b_Md_enter 1 = .ok (.getfield 13, 3) := by decide +kernel
theorem d_Md_enter_4 : decode b_Md_enter 4 = .ok (.bipush 7, 2) := by decide +kernel
theorem d_Md_enter_6 : decode b_Md_enter 6 = .ok (.iaload, 1) := by decide +kernel
theorem d_Md_enter_7 : decode b_Md_enter 7 = .ok (.istore_n 3, 1) := by decide +kernel
theorem d_Md_enter_8 : decode b_Md_enter 8 = .ok (.iconst (-1), 1) := by decide +kernel
theorem d_Md_enter_9 : decode b_Md_enter 9 = .ok (.istore 4, 2) := by decide +kernel
theorem d_Md_enter_11 : decode b_Md_enter 11 = .ok (.iload 4, 2) := by decide +kernel
theorem d_Md_enter_13 : decode b_Md_enter 13 = .ok (.bipush (-9), 2) := by decide +kernel
theorem d_Md_enter_15 : decode b_Md_enter 15 = .ok (.if_icmp .lt 170, 3) := by decide +kernel
theorem d_Md_enter_18 : decode b_Md_enter 18 = .ok (.iload 4, 2) := by decide +kernel
theorem d_Md_enter_20 : decode b_Md_enter 20 = .ok (.bipush 16, 2) := by decide +kernel
theorem d_Md_enter_22 : decode b_Md_enter 22 = .ok (.iload_n 3, 1) := by decide +kernel
theorem d_Md_enter_23 : decode b_Md_enter 23 = .ok (.imul, 1) := by decide +kernel
theorem d_Md_enter_24 : decode b_Md_enter 24 = .ok (.iadd, 1) := by decide +kernel
theorem d_Md_enter_25 : decode b_Md_enter 25 = .ok (.iload_n 3, 1) := by decide +kernel
theorem d_Md_enter_26 : decode b_Md_enter 26 = .ok (.irem, 1) := by decide +kernel
theorem d_Md_enter_27 : decode b_Md_enter 27 = .ok (.istore 5, 2) := by decide +kernel
theorem d_Md_enter_29 : decode b_Md_enter 29 = .ok (.aload_n 0, 1) := by decide +kernel
theorem d_Md_enter_30 : decode b_Md_enter 30 = .ok (.getfield 7, 3) := by decide +kernel
theorem d_Md_enter_33 : decode b_Md_enter 33 = .ok (.bipush 7, 2) := by decide +kernel
theorem d_Md_enter_35 : decode b_Md_enter 35 = .ok (.iaload, 1) := by decide +kernel
theorem d_Md_enter_36 : decode b_Md_enter 36 = .ok (.iconst 2, 1) := by decide +kernel
theorem d_Md_enter_37 : decode b_Md_enter 37 = .ok (.if_icmp .ge 68, 3) := by decide +kernel
theorem d_Md_enter_40 : decode b_Md_enter 40 = .ok (.iconst 0, 1) := by decide +kernel
theorem d_Md_enter_41 : decode b_Md_enter 41 = .ok (.istore 6, 2) := by decide +kernel
theorem d_Md_enter_43 : decode b_Md_enter 43 = .ok (.iload 6, 2) := by decide +kernel
theorem d_Md_enter_45 : decode b_Md_enter 45 = .ok (.aload_n 0, 1) := by decide +kernel
theorem d_Md_enter_46 : decode b_Md_enter 46 = .ok (.getfield 16, 3) := by decide +kernel
theorem d_Md_enter_49 : decode b_Md_enter 49 = .ok (.bipush 112, 2) := by decide +kernel
theorem d_Md_enter_51 : decode b_Md_enter 51 = .ok (.iload 5, 2) := by decide +kernel
theorem d_Md_enter_53 : decode b_Md_enter 53 = .ok (.iadd, 1) := by decide +kernel
theorem d_Md_enter_54 : decode b_Md_enter 54 = .ok (.iaload, 1) := by decide +kernel
theorem d_Md_enter_55 : decode b_Md_enter 55 = .ok (.if_icmp .ge 47, 3) := by decide +kernel
theorem d_Md_enter_58 : decode b_Md_enter 58 = .ok (.aload_n 0, 1) := by decide +kernel
theorem d_Md_enter_59 : decode b_Md_enter 59 = .ok (.bipush 7, 2) := by decide +kernel
theorem d_Md_enter_61 : decode b_Md_enter 61 = .ok (.iload 5, 2) := by decide +kernel
theorem d_Md_enter_63 : decode b_Md_enter 63 = .ok (.iload 6, 2) := by decide +kernel
theorem d_Md_enter_65 : decode b_Md_enter 65 = .ok (.invokevirtual 73, 3) := by decide +kernel
theorem d_Md_enter_68 : decode b_Md_enter 68 = .ok (.ifCond .le 28, 3) := by decide +kernel
theorem d_Md_enter_71 : decode b_Md_enter 71 = .ok (.iload 4, 2) := by decide +kernel
theorem d_Md_enter_73 : decode b_Md_enter 73 = .ok (.aload_n 0, 1) := by decide +kernel
theorem d_Md_enter_74 : decode b_Md_enter 74 = .ok (.bipush 7, 2) := by decide +kernel
theorem d_Md_enter_76 : decode b_Md_enter 76 = .ok (.iload 5, 2) := by decide +kernel
theorem d_Md_enter_78 : decode b_Md_enter 78 = .ok (.iload 6, 2) := by decide +kernel
theorem d_Md_enter_80 : decode b_Md_enter 80 = .ok (.invokevirtual 73, 3) := by decide +kernel
theorem d_Md_enter_83 : decode b_Md_enter 83 = .ok (.iadd, 1) := by decide +kernel
theorem d_Md_enter_84 : decode b_Md_enter 84 = .ok (.iload_n 1, 1) := by decide +kernel
theorem d_Md_enter_85 : decode b_Md_enter 85 = .ok (.if_icmp .ne 11, 3) := by decide +kernel
theorem d_Md_enter_88 : decode b_Md_enter 88 = .ok (.aload_n 0, 1) := by decide +kernel
theorem d_Md_enter_89 : decode b_Md_enter 89 = .ok (.iload_n 1, 1) := by decide +kernel
theorem d_Md_enter_90 : decode b_Md_enter 90 = .ok (.iload_n 1, 1) := by decide +kernel
theorem d_Md_enter_91 : decode b_Md_enter 91 = .ok (.iconst 2, 1) := by decide +kernel
theorem d_Md_enter_92 : decode b_Md_enter 92 = .ok (.irem, 1) := by decide +kernel
theorem d_Md_enter_93 : decode b_Md_enter 93 = .ok (.invokevirtual 123, 3) := by decide +kernel
theorem d_Md_enter_96 : decode b_Md_enter 96 = .ok (.iinc 6 1, 3) := by decide +kernel
theorem d_Md_enter_99 : decode b_Md_enter 99 = .ok (.goto (-56), 3) := by decide +kernel
theorem d_Md_enter_102 : decode b_Md_enter 102 = .ok (.goto 77, 3) := by decide +kernel
theorem d_Md_enter_105 : decode b_Md_enter 105 = .ok (.iload 4, 2) := by decide +kernel
theorem d_Md_enter_107 : decode b_Md_enter 107 = .ok (.iconst 2, 1) := by decide +kernel
theorem d_Md_enter_108 : decode b_Md_enter 108 = .ok (.irem, 1) := by decide +kernel
theorem d_Md_enter_109 : decode b_Md_enter 109 = .ok (.ifCond .ne 70, 3) := by decide +kernel
theorem d_Md_enter_112 : decode b_Md_enter 112 = .ok (.iconst 0, 1) := by decide +kernel
theorem d_Md_enter_113 : decode b_Md_enter 113 = .ok (.istore 6, 2) := by decide +kernel
theorem d_Md_enter_115 : decode b_Md_enter 115 = .ok (.iload 6, 2) := by decide +kernel
theorem d_Md_enter_117 : decode b_Md_enter 117 = .ok (.iconst 2, 1) := by decide +kernel
theorem d_Md_enter_118 : decode b_Md_enter 118 = .ok (.if_icmp .ge 61, 3) := by decide +kernel
theorem d_Md_enter_121 : decode b_Md_enter 121 = .ok (.aload_n 0, 1) := by decide +kernel
theorem d_Md_enter_122 : decode b_Md_enter 122 = .ok (.bipush 7, 2) := by decide +kernel
theorem d_Md_enter_124 : decode b_Md_enter 124 = .ok (.iload 5, 2) := by decide +kernel
theorem d_Md_enter_126 : decode b_Md_enter 126 = .ok (.iload 6, 2) := by decide +kernel
theorem d_Md_enter_128 : decode b_Md_enter 128 = .ok (.iadd, 1) := by decide +kernel
theorem d_Md_enter_129 : decode b_Md_enter 129 = .ok (.iconst 0, 1) := by decide +kernel
theorem d_Md_enter_130 : decode b_Md_enter 130 = .ok (.invokevirtual 73, 3) := by decide +kernel
theorem d_Md_enter_133 : decode b_Md_enter 133 = .ok (.istore 7, 2) := by decide +kernel
theorem d_Md_enter_135 : decode b_Md_enter 135 = .ok (.iload 7, 2) := by decide +kernel
theorem d_Md_enter_137 : decode b_Md_enter 137 = .ok (.ifCond .le 36, 3) := by decide +kernel
theorem d_Md_enter_140 : decode b_Md_enter 140 = .ok (.iload 4, 2) := by decide +kernel
theorem d_Md_enter_142 : decode b_Md_enter 142 = .ok (.iload 7, 2) := by decide +kernel
theorem d_Md_enter_144 : decode b_Md_enter 144 = .ok (.iadd, 1) := by decide +kernel
theorem d_Md_enter_145 : decode b_Md_enter 145 = .ok (.iload_n 1, 1) := by decide +kernel
theorem d_Md_enter_146 : decode b_Md_enter 146 = .ok (.if_icmp .ne 27, 3) := by decide +kernel
theorem d_Md_enter_149 : decode b_Md_enter 149 = .ok (.aload_n 0, 1) := by decide +kernel
theorem d_Md_enter_150 : decode b_Md_enter 150 = .ok (.bipush 7, 2) := by decide +kernel
theorem d_Md_enter_152 : decode b_Md_enter 152 = .ok (.iload 5, 2) := by decide +kernel
theorem d_Md_enter_154 : decode b_Md_enter 154 = .ok (.iload 6, 2) := by decide +kernel
theorem d_Md_enter_156 : decode b_Md_enter 156 = .ok (.iadd, 1) := by decide +kernel
theorem d_Md_enter_157 : decode b_Md_enter 157 = .ok (.iconst 0, 1) := by decide +kernel
theorem d_Md_enter_158 : decode b_Md_enter 158 = .ok (.invokevirtual 77, 3) := by decide +kernel
theorem d_Md_enter_161 : decode b_Md_enter 161 = .ok (.iconst 2, 1) := by decide +kernel
theorem d_Md_enter_162 : decode b_Md_enter 162 = .ok (.irem, 1) := by decide +kernel
theorem d_Md_enter_163 : decode b_Md_enter 163 = .ok (.iload_n 2, 1) := by decide +kernel
theorem d_Md_enter_164 : decode b_Md_enter 164 = .ok (.if_icmp .ne 9, 3) := by decide +kernel
theorem d_Md_enter_167 : decode b_Md_enter 167 = .ok (.aload_n 0, 1) := by decide +kernel
theorem d_Md_enter_168 : decode b_Md_enter 168 = .ok (.iload_n 1, 1) := by decide +kernel
theorem d_Md_enter_169 : decode b_Md_enter 169 = .ok (.iload_n 2, 1) := by decide +kernel
theorem d_Md_enter_170 : decode b_Md_enter 170 = .ok (.invokevirtual 123, 3) := by decide +kernel
theorem d_Md_enter_173 : decode b_Md_enter 173 = .ok (.iinc 6 1, 3) := by decide +kernel
theorem d_Md_enter_176 : decode b_Md_enter 176 = .ok (.goto (-61), 3) := by decide +kernel
theorem d_Md_enter_179 : decode b_Md_enter 179 = .ok (.iinc 4 (-1), 3) := by decide +kernel
theorem d_Md_enter_182 : decode b_Md_enter 182 = .ok (.goto (-171), 3) := by decide +kernel
theorem d_Md_enter_185 : decode b_Md_enter 185 = .ok (.return_, 1) := by decide +kernel
theorem d_Md_comes_0 : decode b_Md_comes 0 = .ok (.aload_n 0, 1) := by decide +kernel
theorem d_Md_comes_1 : decode b_Md_comes 1 = .ok (.getfield 36, 3) := by decide +kernel
theorem d_Md_comes_4 : decode b_Md_comes 4 = .ok (.aload_n 0, 1) := by decide +kernel
theorem d_Md_comes_5 : decode b_Md_comes 5 = .ok (.getfield 126, 3) := by decide +kernel
theorem d_Md_comes_8 : decode b_Md_comes 8 = .ok (.iload_n 1, 1) := by decide +kernel
theorem d_Md_comes_9 : decode b_Md_comes 9 = .ok (.iastore, 1) := by decide +kernel
theorem d_Md_comes_10 : decode b_Md_comes 10 = .ok (.aload_n 0, 1) := by decide +kernel
theorem d_Md_comes_11 : decode b_Md_comes 11 = .ok (.getfield 39, 3) := by decide +kernel
theorem d_Md_comes_14 : decode b_Md_comes 14 = .ok (.aload_n 0, 1) := by decide +kernel
theorem d_Md_comes_15 : decode b_Md_comes 15 = .ok (.getfield 126, 3) := by decide +kernel
theorem d_Md_comes_18 : decode b_Md_comes 18 = .ok (.iload_n 2, 1) := by decide +kernel
theorem d_Md_comes_19 : decode b_Md_comes 19 = .ok (.iastore, 1) := by decide +kernel
theorem d_Md_comes_20 : decode b_Md_comes 20 = .ok (.aload_n 0, 1) := by decide +kernel
theorem d_Md_comes_21 : decode b_Md_comes 21 = .ok (.dup, 1) := by decide +kernel
theorem d_Md_comes_22 : decode b_Md_comes 22 = .ok (.getfield 126, 3) := by decide +kernel
theorem d_Md_comes_25 : decode b_Md_comes 25 = .ok (.iconst 1, 1) := by decide +kernel
theorem d_Md_comes_26 : decode b_Md_comes 26 = .ok (.iadd, 1) := by decide +kernel
theorem d_Md_comes_27 : decode b_Md_comes 27 = .ok (.putfield 126, 3) := by decide +kernel
theorem d_Md_comes_30 : decode b_Md_comes 30 = .ok (.return_, 1) := by decide +kernel
theorem d_Md_run_0 : decode b_Md_run 0 = .ok (.aload_n 0, 1) := by decide +kernel
theorem d_Md_run_1 : decode b_Md_run 1 = .ok (.iconst 0, 1) := by decide +kernel
theorem d_Md_run_2 : decode b_Md_run 2 = .ok (.putfield 58, 3) := by decide +kernel
theorem d_Md_run_5 : decode b_Md_run 5 = .ok (.iload_n 1, 1) := by decide +kernel
theorem d_Md_run_6 : decode b_Md_run 6 = .ok (.iconst 1, 1) := by decide +kernel
theorem d_Md_run_7 : decode b_Md_run 7 = .ok (.bipush 100, 2) := by decide +kernel
theorem d_Md_run_9 : decode b_Md_run 9 = .ok (.invokestatic 61, 3) := by decide +kernel
theorem d_Md_run_12 : decode b_Md_run 12 = .ok (.ifCond .ne 9, 3) := by decide +kernel
theorem d_Md_run_15 : decode b_Md_run 15 = .ok (.aload_n 0, 1) := by decide +kernel
theorem d_Md_run_16 : decode b_Md_run 16 = .ok (.iconst 1, 1) := by decide +kernel
theorem d_Md_run_17 : decode b_Md_run 17 = .ok (.invokevirtual 65, 3) := by decide +kernel
theorem d_Md_run_20 : decode b_Md_run 20 = .ok (.ireturn, 1) := by decide +kernel
theorem d_Md_run_21 : decode b_Md_run 21 = .ok (.aload_n 0, 1) := by decide +kernel
theorem d_Md_run_22 : decode b_Md_run 22 = .ok (.getfield 13, 3) := by decide +kernel
theorem d_Md_run_25 : decode b_Md_run 25 = .ok (.bipush 7, 2) := by decide +kernel
theorem d_Md_run_27 : decode b_Md_run 27 = .ok (.iaload, 1) := by decide +kernel
theorem d_Md_run_28 : decode b_Md_run 28 = .ok (.ifCond .ne 9, 3) := by decide +kernel
theorem d_Md_run_31 : decode b_Md_run 31 = .ok (.aload_n 0, 1) := by decide +kernel
theorem d_Md_run_32 : decode b_Md_run 32 = .ok (.iconst 2, 1) := by decide +kernel
theorem d_Md_run_33 : decode b_Md_run 33 = .ok (.invokevirtual 65, 3) := by decide +kernel
theorem d_Md_run_36 : decode b_Md_run 36 = .ok (.ireturn, 1) := by decide +kernel
theorem d_Md_run_37 : decode b_Md_run 37 = .ok (.iconst 0, 1) := by decide +kernel
theorem d_Md_run_38 : decode b_Md_run 38 = .ok (.istore_n 2, 1) := by decide +kernel
theorem d_Md_run_39 : decode b_Md_run 39 = .ok (.iconst 0, 1) := by decide +kernel
theorem d_Md_run_40 : decode b_Md_run 40 = .ok (.istore_n 3, 1) := by decide +kernel
theorem d_Md_run_41 : decode b_Md_run 41 = .ok (.iload_n 3, 1) := by decide +kernel
theorem d_Md_run_42 : decode b_Md_run 42 = .ok (.iload_n 1, 1) := by decide +kernel
theorem d_Md_run_43 : decode b_Md_run 43 = .ok (.if_icmp .ge 16, 3) := by decide +kernel
theorem d_Md_run_46 : decode b_Md_run 46 = .ok (.iload_n 2, 1) := by decide +kernel
theorem d_Md_run_47 : decode b_Md_run 47 = .ok (.aload_n 0, 1) := by decide +kernel
theorem d_Md_run_48 : decode b_Md_run 48 = .ok (.invokevirtual 147, 3) := by decide +kernel
theorem d_Md_run_51 : decode b_Md_run 51 = .ok (.iadd, 1) := by decide +kernel
theorem d_Md_run_52 : decode b_Md_run 52 = .ok (.istore_n 2, 1) := by decide +kernel
theorem d_Md_run_53 : decode b_Md_run 53 = .ok (.iinc 3 1, 3) := by decide +kernel
theorem d_Md_run_56 : decode b_Md_run 56 = .ok (.goto (-15), 3) := by decide +kernel
theorem d_Md_run_59 : decode b_Md_run 59 = .ok (.iload_n 2, 1) := by decide +kernel
theorem d_Md_run_60 : decode b_Md_run 60 = .ok (.ireturn, 1) := by decide +kernel
theorem d_Md_beat_0 : decode b_Md_beat 0 = .ok (.aload_n 0, 1) := by decide +kernel
theorem d_Md_beat_1 : decode b_Md_beat 1 = .ok (.getfield 129, 3) := by decide +kernel
theorem d_Md_beat_4 : decode b_Md_beat 4 = .ok (.aload_n 0, 1) := by decide +kernel
theorem d_Md_beat_5 : decode b_Md_beat 5 = .ok (.getfield 13, 3) := by decide +kernel
theorem d_Md_beat_8 : decode b_Md_beat 8 = .ok (.bipush 7, 2) := by decide +kernel
theorem d_Md_beat_10 : decode b_Md_beat 10 = .ok (.iaload, 1) := by decide +kernel
theorem d_Md_beat_11 : decode b_Md_beat 11 = .ok (.irem, 1) := by decide +kernel
theorem d_Md_beat_12 : decode b_Md_beat 12 = .ok (.istore_n 1, 1) := by decide +kernel
theorem d_Md_beat_13 : decode b_Md_beat 13 = .ok (.iconst 0, 1) := by decide +kernel
theorem d_Md_beat_14 : decode b_Md_beat 14 = .ok (.istore_n 2, 1) := by decide +kernel
theorem d_Md_beat_15 : decode b_Md_beat 15 = .ok (.iconst 0, 1) := by decide +kernel
theorem d_Md_beat_16 : decode b_Md_beat 16 = .ok (.istore_n 3, 1) := by decide +kernel
theorem d_Md_beat_17 : decode b_Md_beat 17 = .ok (.iconst 0, 1) := by decide +kernel
theorem d_Md_beat_18 : decode b_Md_beat 18 = .ok (.istore 4, 2) := by decide +kernel
theorem d_Md_beat_20 : decode b_Md_beat 20 = .ok (.iload 4, 2) := by decide +kernel
theorem d_Md_beat_22 : decode b_Md_beat 22 = .ok (.aload_n 0, 1) := by decide +kernel
theorem d_Md_beat_23 : decode b_Md_beat 23 = .ok (.getfield 126, 3) := by decide +kernel
theorem d_Md_beat_26 : decode b_Md_beat 26 = .ok (.if_icmp .ge 99, 3) := by decide +kernel
theorem d_Md_beat_29 : decode b_Md_beat 29 = .ok (.aload_n 0, 1) := by decide +kernel
theorem d_Md_beat_30 : decode b_Md_beat 30 = .ok (.getfield 36, 3) := by decide +kernel
theorem d_Md_beat_33 : decode b_Md_beat 33 = .ok (.iload 4, 2) := by decide +kernel
theorem d_Md_beat_35 : decode b_Md_beat 35 = .ok (.iaload, 1) := by decide +kernel
theorem d_Md_beat_36 : decode b_Md_beat 36 = .ok (.aload_n 0, 1) := by decide +kernel
theorem d_Md_beat_37 : decode b_Md_beat 37 = .ok (.getfield 129, 3) := by decide +kernel
theorem d_Md_beat_40 : decode b_Md_beat 40 = .ok (.if_icmp .ne 79, 3) := by decide +kernel
theorem d_Md_beat_43 : decode b_Md_beat 43 = .ok (.aload_n 0, 1) := by decide +kernel
theorem d_Md_beat_44 : decode b_Md_beat 44 = .ok (.getfield 7, 3) := by decide +kernel
theorem d_Md_beat_47 : decode b_Md_beat 47 = .ok (.bipush 7, 2) := by decide +kernel
theorem d_Md_beat_49 : decode b_Md_beat 49 = .ok (.iaload, 1) := by decide +kernel
theorem d_Md_beat_50 : decode b_Md_beat 50 = .ok (.iconst 1, 1) := by decide +kernel
theorem d_Md_beat_51 : decode b_Md_beat 51 = .ok (.if_icmp .ne 34, 3) := by decide +kernel
theorem d_Md_beat_54 : decode b_Md_beat 54 = .ok (.aload_n 0, 1) := by decide +kernel
theorem d_Md_beat_55 : decode b_Md_beat 55 = .ok (.bipush 7, 2) := by decide +kernel
theorem d_Md_beat_57 : decode b_Md_beat 57 = .ok (.iload_n 1, 1) := by decide +kernel
theorem d_Md_beat_58 : decode b_Md_beat 58 = .ok (.iload_n 3, 1) := by decide +kernel
theorem d_Md_beat_59 : decode b_Md_beat 59 = .ok (.invokevirtual 73, 3) := by decide +kernel
theorem d_Md_beat_62 : decode b_Md_beat 62 = .ok (.ifCond .ne 9, 3) := by decide +kernel
theorem d_Md_beat_65 : decode b_Md_beat 65 = .ok (.iinc 3 1, 3) := by decide +kernel
theorem d_Md_beat_68 : decode b_Md_beat 68 = .ok (.goto (-14), 3) := by decide +kernel
theorem d_Md_beat_71 : decode b_Md_beat 71 = .ok (.aload_n 0, 1) := by decide +kernel
theorem d_Md_beat_72 : decode b_Md_beat 72 = .ok (.iload 4, 2) := by decide +kernel
theorem d_Md_beat_74 : decode b_Md_beat 74 = .ok (.iload_n 1, 1) := by decide +kernel
theorem d_Md_beat_75 : decode b_Md_beat 75 = .ok (.iload_n 3, 1) := by decide +kernel
theorem d_Md_beat_76 : decode b_Md_beat 76 = .ok (.invokevirtual 144, 3) := by decide +kernel
theorem d_Md_beat_79 : decode b_Md_beat 79 = .ok (.iinc 3 1, 3) := by decide +kernel
theorem d_Md_beat_82 : decode b_Md_beat 82 = .ok (.goto 34, 3) := by decide +kernel
theorem d_Md_beat_85 : decode b_Md_beat 85 = .ok (.aload_n 0, 1) := by decide +kernel
theorem d_Md_beat_86 : decode b_Md_beat 86 = .ok (.iload 4, 2) := by decide +kernel
theorem d_Md_beat_88 : decode b_Md_beat 88 = .ok (.aload_n 0, 1) := by decide +kernel
theorem d_Md_beat_89 : decode b_Md_beat 89 = .ok (.getfield 7, 3) := by decide +kernel
theorem d_Md_beat_92 : decode b_Md_beat 92 = .ok (.bipush 7, 2) := by decide +kernel
theorem d_Md_beat_94 : decode b_Md_beat 94 = .ok (.iaload, 1) := by decide +kernel
theorem d_Md_beat_95 : decode b_Md_beat 95 = .ok (.iconst 2, 1) := by decide +kernel
theorem d_Md_beat_96 : decode b_Md_beat 96 = .ok (.if_icmp .ne 15, 3) := by decide +kernel
theorem d_Md_beat_99 : decode b_Md_beat 99 = .ok (.iload_n 1, 1) := by decide +kernel
theorem d_Md_beat_100 : decode b_Md_beat 100 = .ok (.aload_n 0, 1) := by decide +kernel
theorem d_Md_beat_101 : decode b_Md_beat 101 = .ok (.getfield 39, 3) := by decide +kernel
theorem d_Md_beat_104 : decode b_Md_beat 104 = .ok (.iload 4, 2) := by decide +kernel
theorem d_Md_beat_106 : decode b_Md_beat 106 = .ok (.iaload, 1) := by decide +kernel
theorem d_Md_beat_107 : decode b_Md_beat 107 = .ok (.iadd, 1) := by decide +kernel
theorem d_Md_beat_108 : decode b_Md_beat 108 = .ok (.goto 4, 3) := by decide +kernel
theorem d_Md_beat_111 : decode b_Md_beat 111 = .ok (.iload_n 1, 1) := by decide +kernel
theorem d_Md_beat_112 : decode b_Md_beat 112 = .ok (.iconst 0, 1) := by decide +kernel
theorem d_Md_beat_113 : decode b_Md_beat 113 = .ok (.invokevirtual 144, 3) := by decide +kernel
theorem d_Md_beat_116 : decode b_Md_beat 116 = .ok (.iinc 2 1, 3) := by decide +kernel
theorem d_Md_beat_119 : decode b_Md_beat 119 = .ok (.iinc 4 1, 3) := by decide +kernel
theorem d_Md_beat_122 : decode b_Md_beat 122 = .ok (.goto (-102), 3) := by decide +kernel
theorem d_Md_beat_125 : decode b_Md_beat 125 = .ok (.aload_n 0, 1) := by decide +kernel
theorem d_Md_beat_126 : decode b_Md_beat 126 = .ok (.dup, 1) := by decide +kernel
theorem d_Md_beat_127 : decode b_Md_beat 127 = .ok (.getfield 129, 3) := by decide +kernel
theorem d_Md_beat_130 : decode b_Md_beat 130 = .ok (.iconst 1, 1) := by decide +kernel
theorem d_Md_beat_131 : decode b_Md_beat 131 = .ok (.iadd, 1) := by decide +kernel
theorem d_Md_beat_132 : decode b_Md_beat 132 = .ok (.putfield 129, 3) := by decide +kernel
theorem d_Md_beat_135 : decode b_Md_beat 135 = .ok (.iload_n 2, 1) := by decide +kernel
theorem d_Md_beat_136 : decode b_Md_beat 136 = .ok (.ireturn, 1) := by decide +kernel
theorem d_Md_fly_0 : decode b_Md_fly 0 = .ok (.aload_n 0, 1) := by decide +kernel
theorem d_Md_fly_1 : decode b_Md_fly 1 = .ok (.iload_n 2, 1) := by decide +kernel
theorem d_Md_fly_2 : decode b_Md_fly 2 = .ok (.aload_n 0, 1) := by decide +kernel
theorem d_Md_fly_3 : decode b_Md_fly 3 = .ok (.getfield 129, 3) := by decide +kernel
theorem d_Md_fly_6 : decode b_Md_fly 6 = .ok (.invokevirtual 141, 3) := by decide +kernel
theorem d_Md_fly_9 : decode b_Md_fly 9 = .ok (.ifCond .ne 16, 3) := by decide +kernel
theorem d_Md_fly_12 : decode b_Md_fly 12 = .ok (.aload_n 0, 1) := by decide +kernel
theorem d_Md_fly_13 : decode b_Md_fly 13 = .ok (.dup, 1) := by decide +kernel
theorem d_Md_fly_14 : decode b_Md_fly 14 = .ok (.getfield 132, 3) := by decide +kernel
theorem d_Md_fly_17 : decode b_Md_fly 17 = .ok (.iconst 1, 1) := by decide +kernel
theorem d_Md_fly_18 : decode b_Md_fly 18 = .ok (.iadd, 1) := by decide +kernel
theorem d_Md_fly_19 : decode b_Md_fly 19 = .ok (.putfield 132, 3) := by decide +kernel
theorem d_Md_fly_22 : decode b_Md_fly 22 = .ok (.goto 13, 3) := by decide +kernel
theorem d_Md_fly_25 : decode b_Md_fly 25 = .ok (.aload_n 0, 1) := by decide +kernel
theorem d_Md_fly_26 : decode b_Md_fly 26 = .ok (.dup, 1) := by decide +kernel
theorem d_Md_fly_27 : decode b_Md_fly 27 = .ok (.getfield 135, 3) := by decide +kernel
theorem d_Md_fly_30 : decode b_Md_fly 30 = .ok (.iconst 1, 1) := by decide +kernel
theorem d_Md_fly_31 : decode b_Md_fly 31 = .ok (.iadd, 1) := by decide +kernel
theorem d_Md_fly_32 : decode b_Md_fly 32 = .ok (.putfield 135, 3) := by decide +kernel
theorem d_Md_fly_35 : decode b_Md_fly 35 = .ok (.aload_n 0, 1) := by decide +kernel
theorem d_Md_fly_36 : decode b_Md_fly 36 = .ok (.bipush 7, 2) := by decide +kernel
theorem d_Md_fly_38 : decode b_Md_fly 38 = .ok (.iload_n 2, 1) := by decide +kernel
theorem d_Md_fly_39 : decode b_Md_fly 39 = .ok (.iload_n 3, 1) := by decide +kernel
