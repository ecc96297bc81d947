theorem dX7_readAll_0 : decode cX7_readAll 0 = .ok (.aload_n 0, 1) := by decide +kernel
theorem dX7_readAll_1 : decode cX7_readAll 1 = .ok (.iconst 0, 1) := by decide +kernel
theorem dX7_readAll_2 : decode cX7_readAll 2 = .ok (.putfield 195, 3) := by decide +kernel
theorem dX7_readAll_5 : decode cX7_readAll 5 = .ok (.aload_n 0, 1) := by decide +kernel
theorem dX7_readAll_6 : decode cX7_readAll 6 = .ok (.iconst 0, 1) := by decide +kernel
theorem dX7_readAll_7 : decode cX7_readAll 7 = .ok (.putfield 165, 3) := by decide +kernel
theorem dX7_readAll_10 : decode cX7_readAll 10 = .ok (.aload_n 0, 1) := by decide +kernel
theorem dX7_readAll_11 : decode cX7_readAll 11 = .ok (.iconst 0, 1) := by decide +kernel
theorem dX7_readAll_12 : decode cX7_readAll 12 = .ok (.putfield 162, 3) := by decide +kernel
theorem dX7_readAll_15 : decode cX7_readAll 15 = .ok (.aload_n 0, 1) := by decide +kernel
theorem dX7_readAll_16 : decode cX7_readAll 16 = .ok (.iconst 0, 1) := by decide +kernel
theorem dX7_readAll_17 : decode cX7_readAll 17 = .ok (.putfield 204, 3) := by decide +kernel
theorem dX7_readAll_20 : decode cX7_readAll 20 = .ok (.aload_n 0, 1) := by decide +kernel
theorem dX7_readAll_21 : decode cX7_readAll 21 = .ok (.invokevirtual 207, 3) := by decide +kernel
theorem dX7_readAll_24 : decode cX7_readAll 24 = .ok (.istore_n 1, 1) := by decide +kernel
theorem dX7_readAll_25 : decode cX7_readAll 25 = .ok (.aload_n 0, 1) := by decide +kernel
theorem dX7_readAll_26 : decode cX7_readAll 26 = .ok (.getfield 162, 3) := by decide +kernel
theorem dX7_readAll_29 : decode cX7_readAll 29 = .ok (.ifCond .ne 7, 3) := by decide +kernel
theorem dX7_readAll_32 : decode cX7_readAll 32 = .ok (.aload_n 0, 1) := by decide +kernel
theorem dX7_readAll_33 : decode cX7_readAll 33 = .ok (.invokevirtual 210, 3) := by decide +kernel
theorem dX7_readAll_36 : decode cX7_readAll 36 = .ok (.aload_n 0, 1) := by decide +kernel
theorem dX7_readAll_37 : decode cX7_readAll 37 = .ok (.getfield 162, 3) := by decide +kernel
theorem dX7_readAll_40 : decode cX7_readAll 40 = .ok (.ifCond .le 4, 3) := by decide +kernel
theorem dX7_readAll_43 : decode cX7_readAll 43 = .ok (.return_, 1) := by decide +kernel
theorem dX7_readAll_44 : decode cX7_readAll 44 = .ok (.aload_n 0, 1) := by decide +kernel
theorem dX7_readAll_45 : decode cX7_readAll 45 = .ok (.iconst 1, 1) := by decide +kernel
theorem dX7_readAll_46 : decode cX7_readAll 46 = .ok (.invokevirtual 87, 3) := by decide +kernel
theorem dX7_readAll_49 : decode cX7_readAll 49 = .ok (.iconst 0, 1) := by decide +kernel
theorem dX7_readAll_50 : decode cX7_readAll 50 = .ok (.istore_n 2, 1) := by decide +kernel
theorem dX7_readAll_51 : decode cX7_readAll 51 = .ok (.iload_n 2, 1) := by decide +kernel
theorem dX7_readAll_52 : decode cX7_readAll 52 = .ok (.aload_n 0, 1) := by decide +kernel
theorem dX7_readAll_53 : decode cX7_readAll 53 = .ok (.getfield 201, 3) := by decide +kernel
theorem dX7_readAll_56 : decode cX7_readAll 56 = .ok (.if_icmp .ge 77, 3) := by decide +kernel
theorem dX7_readAll_59 : decode cX7_readAll 59 = .ok (.aload_n 0, 1) := by decide +kernel
theorem dX7_readAll_60 : decode cX7_readAll 60 = .ok (.getfield 162, 3) := by decide +kernel
theorem dX7_readAll_63 : decode cX7_readAll 63 = .ok (.ifCond .ne 70, 3) := by decide +kernel
theorem dX7_readAll_66 : decode cX7_readAll 66 = .ok (.aload_n 0, 1) := by decide +kernel
theorem dX7_readAll_67 : decode cX7_readAll 67 = .ok (.getfield 56, 3) := by decide +kernel
theorem dX7_readAll_70 : decode cX7_readAll 70 = .ok (.iload_n 2, 1) := by decide +kernel
theorem dX7_readAll_71 : decode cX7_readAll 71 = .ok (.aload_n 0, 1) := by decide +kernel
theorem dX7_readAll_72 : decode cX7_readAll 72 = .ok (.aload_n 0, 1) := by decide +kernel
theorem dX7_readAll_73 : decode cX7_readAll 73 = .ok (.getfield 180, 3) := by decide +kernel
theorem dX7_readAll_76 : decode cX7_readAll 76 = .ok (.iconst 1, 1) := by decide +kernel
theorem dX7_readAll_77 : decode cX7_readAll 77 = .ok (.if_icmp .ne 8, 3) := by decide +kernel
theorem dX7_readAll_80 : decode cX7_readAll 80 = .ok (.bipush 8, 2) := by decide +kernel
theorem dX7_readAll_82 : decode cX7_readAll 82 = .ok (.goto 16, 3) := by decide +kernel
theorem dX7_readAll_85 : decode cX7_readAll 85 = .ok (.aload_n 0, 1) := by decide +kernel
theorem dX7_readAll_86 : decode cX7_readAll 86 = .ok (.getfield 180, 3) := by decide +kernel
theorem dX7_readAll_89 : decode cX7_readAll 89 = .ok (.iconst 2, 1) := by decide +kernel
theorem dX7_readAll_90 : decode cX7_readAll 90 = .ok (.if_icmp .ne 7, 3) := by decide +kernel
theorem dX7_readAll_93 : decode cX7_readAll 93 = .ok (.iconst 2, 1) := by decide +kernel
theorem dX7_readAll_94 : decode cX7_readAll 94 = .ok (.goto 4, 3) := by decide +kernel
theorem dX7_readAll_97 : decode cX7_readAll 97 = .ok (.iconst 4, 1) := by decide +kernel
theorem dX7_readAll_98 : decode cX7_readAll 98 = .ok (.invokevirtual 198, 3) := by decide +kernel
theorem dX7_readAll_101 : decode cX7_readAll 101 = .ok (.lastore, 1) := by decide +kernel
theorem dX7_readAll_102 : decode cX7_readAll 102 = .ok (.aload_n 0, 1) := by decide +kernel
theorem dX7_readAll_103 : decode cX7_readAll 103 = .ok (.getfield 162, 3) := by decide +kernel
theorem dX7_readAll_106 : decode cX7_readAll 106 = .ok (.ifCond .ne 21, 3) := by decide +kernel
theorem dX7_readAll_109 : decode cX7_readAll 109 = .ok (.aload_n 0, 1) := by decide +kernel
theorem dX7_readAll_110 : decode cX7_readAll 110 = .ok (.aload_n 0, 1) := by decide +kernel
theorem dX7_readAll_111 : decode cX7_readAll 111 = .ok (.getfield 56, 3) := by decide +kernel
theorem dX7_readAll_114 : decode cX7_readAll 114 = .ok (.iload_n 2, 1) := by decide +kernel
theorem dX7_readAll_115 : decode cX7_readAll 115 = .ok (.laload, 1) := by decide +kernel
theorem dX7_readAll_116 : decode cX7_readAll 116 = .ok (.invokevirtual 213, 3) := by decide +kernel
theorem dX7_readAll_119 : decode cX7_readAll 119 = .ok (.ifCond .ne 8, 3) := by decide +kernel
theorem dX7_readAll_122 : decode cX7_readAll 122 = .ok (.aload_n 0, 1) := by decide +kernel
theorem dX7_readAll_123 : decode cX7_readAll 123 = .ok (.iconst 4, 1) := by decide +kernel
theorem dX7_readAll_124 : decode cX7_readAll 124 = .ok (.invokevirtual 168, 3) := by decide +kernel
theorem dX7_readAll_127 : decode cX7_readAll 127 = .ok (.iinc 2 1, 3) := by decide +kernel
theorem dX7_readAll_130 : decode cX7_readAll 130 = .ok (.goto (-79), 3) := by decide +kernel
theorem dX7_readAll_133 : decode cX7_readAll 133 = .ok (.aload_n 0, 1) := by decide +kernel
theorem dX7_readAll_134 : decode cX7_readAll 134 = .ok (.aload_n 0, 1) := by decide +kernel
theorem dX7_readAll_135 : decode cX7_readAll 135 = .ok (.getfield 162, 3) := by decide +kernel
theorem dX7_readAll_138 : decode cX7_readAll 138 = .ok (.ifCond .ne 7, 3) := by decide +kernel
theorem dX7_readAll_141 : decode cX7_readAll 141 = .ok (.iconst 1, 1) := by decide +kernel
theorem dX7_readAll_142 : decode cX7_readAll 142 = .ok (.goto 4, 3) := by decide +kernel
theorem dX7_readAll_145 : decode cX7_readAll 145 = .ok (.iconst 0, 1) := by decide +kernel
theorem dX7_readAll_146 : decode cX7_readAll 146 = .ok (.putfield 204, 3) := by decide +kernel
theorem dX7_readAll_149 : decode cX7_readAll 149 = .ok (.aload_n 0, 1) := by decide +kernel
theorem dX7_readAll_150 : decode cX7_readAll 150 = .ok (.iconst 0, 1) := by decide +kernel
theorem dX7_readAll_151 : decode cX7_readAll 151 = .ok (.putfield 174, 3) := by decide +kernel
theorem dX7_readAll_154 : decode cX7_readAll 154 = .ok (.iconst 0, 1) := by decide +kernel
theorem dX7_readAll_155 : decode cX7_readAll 155 = .ok (.istore_n 2, 1) := by decide +kernel
theorem dX7_readAll_156 : decode cX7_readAll 156 = .ok (.iload_n 2, 1) := by decide +kernel
theorem dX7_readAll_157 : decode cX7_readAll 157 = .ok (.iload_n 1, 1) := by decide +kernel
theorem dX7_readAll_158 : decode cX7_readAll 158 = .ok (.if_icmp .ge 26, 3) := by decide +kernel
theorem dX7_readAll_161 : decode cX7_readAll 161 = .ok (.aload_n 0, 1) := by decide +kernel
theorem dX7_readAll_162 : decode cX7_readAll 162 = .ok (.getfield 162, 3) := by decide +kernel
theorem dX7_readAll_165 : decode cX7_readAll 165 = .ok (.ifCond .ne 19, 3) := by decide +kernel
theorem dX7_readAll_168 : decode cX7_readAll 168 = .ok (.aload_n 0, 1) := by decide +kernel
theorem dX7_readAll_169 : decode cX7_readAll 169 = .ok (.iload_n 2, 1) := by decide +kernel
theorem dX7_readAll_170 : decode cX7_readAll 170 = .ok (.aload_n 0, 1) := by decide +kernel
theorem dX7_readAll_171 : decode cX7_readAll 171 = .ok (.getfield 201, 3) := by decide +kernel
theorem dX7_readAll_174 : decode cX7_readAll 174 = .ok (.irem, 1) := by decide +kernel
theorem dX7_readAll_175 : decode cX7_readAll 175 = .ok (.invokevirtual 217, 3) := by decide +kernel
theorem dX7_readAll_178 : decode cX7_readAll 178 = .ok (.iinc 2 1, 3) := by decide +kernel
theorem dX7_readAll_181 : decode cX7_readAll 181 = .ok (.goto (-25), 3) := by decide +kernel
theorem dX7_readAll_184 : decode cX7_readAll 184 = .ok (.iconst 0, 1) := by decide +kernel
theorem dX7_readAll_185 : decode cX7_readAll 185 = .ok (.istore_n 2, 1) := by decide +kernel
theorem dX7_readAll_186 : decode cX7_readAll 186 = .ok (.iload_n 2, 1) := by decide +kernel
theorem dX7_readAll_187 : decode cX7_readAll 187 = .ok (.aload_n 0, 1) := by decide +kernel
theorem dX7_readAll_188 : decode cX7_readAll 188 = .ok (.getfield 201, 3) := by decide +kernel
theorem dX7_readAll_191 : decode cX7_readAll 191 = .ok (.if_icmp .ge 44, 3) := by decide +kernel
theorem dX7_readAll_194 : decode cX7_readAll 194 = .ok (.aload_n 0, 1) := by decide +kernel
theorem dX7_readAll_195 : decode cX7_readAll 195 = .ok (.getfield 162, 3) := by decide +kernel
theorem dX7_readAll_198 : decode cX7_readAll 198 = .ok (.ifCond .ne 37, 3) := by decide +kernel
theorem dX7_readAll_201 : decode cX7_readAll 201 = .ok (.aload_n 0, 1) := by decide +kernel
theorem dX7_readAll_202 : decode cX7_readAll 202 = .ok (.getfield 56, 3) := by decide +kernel
theorem dX7_readAll_205 : decode cX7_readAll 205 = .ok (.iload_n 2, 1) := by decide +kernel
theorem dX7_readAll_206 : decode cX7_readAll 206 = .ok (.laload, 1) := by decide +kernel
theorem dX7_readAll_207 : decode cX7_readAll 207 = .ok (.aload_n 0, 1) := by decide +kernel
theorem dX7_readAll_208 : decode cX7_readAll 208 = .ok (.getfield 180, 3) := by decide +kernel
theorem dX7_readAll_211 : decode cX7_readAll 211 = .ok (.aload_n 0, 1) := by decide +kernel
theorem dX7_readAll_212 : decode cX7_readAll 212 = .ok (.getfield 26, 3) := by decide +kernel
theorem dX7_readAll_215 : decode cX7_readAll 215 = .ok (.iconst 1, 1) := by decide +kernel
theorem dX7_readAll_216 : decode cX7_readAll 216 = .ok (.iaload, 1) := by decide +kernel
theorem dX7_readAll_217 : decode cX7_readAll 217 = .ok (.invokestatic 139, 3) := by decide +kernel
theorem dX7_readAll_220 : decode cX7_readAll 220 = .ok (.lcmp, 1) := by decide +kernel
theorem dX7_readAll_221 : decode cX7_readAll 221 = .ok (.ifCond .eq 8, 3) := by decide +kernel
theorem dX7_readAll_224 : decode cX7_readAll 224 = .ok (.aload_n 0, 1) := by decide +kernel
theorem dX7_readAll_225 : decode cX7_readAll 225 = .ok (.iconst 5, 1) := by decide +kernel
theorem dX7_readAll_226 : decode cX7_readAll 226 = .ok (.invokevirtual 168, 3) := by decide +kernel
theorem dX7_readAll_229 : decode cX7_readAll 229 = .ok (.iinc 2 1, 3) := by decide +kernel
theorem dX7_readAll_232 : decode cX7_readAll 232 = .ok (.goto (-46), 3) := by decide +kernel
theorem dX7_readAll_235 : decode cX7_readAll 235 = .ok (.aload_n 0, 1) := by decide +kernel
theorem dX7_readAll_236 : decode cX7_readAll 236 = .ok (.getfield 162, 3) := by decide +kernel
theorem dX7_readAll_239 : decode cX7_readAll 239 = .ok (.ifCond .ne 53, 3) := by decide +kernel
theorem dX7_readAll_242 : decode cX7_readAll 242 = .ok (.iconst 1, 1) := by decide +kernel
theorem dX7_readAll_243 : decode cX7_readAll 243 = .ok (.istore_n 2, 1) := by decide +kernel
theorem dX7_readAll_244 : decode cX7_readAll 244 = .ok (.aload_n 0, 1) := by decide +kernel
theorem dX7_readAll_245 : decode cX7_readAll 245 = .ok (.getfield 174, 3) := by decide +kernel
theorem dX7_readAll_248 : decode cX7_readAll 248 = .ok (.ifCond .le 23, 3) := by decide +kernel
theorem dX7_readAll_251 : decode cX7_readAll 251 = .ok (.aload_n 0, 1) := by decide +kernel
theorem dX7_readAll_252 : decode cX7_readAll 252 = .ok (.invokevirtual 177, 3) := by decide +kernel
theorem dX7_readAll_255 : decode cX7_readAll 255 = .ok (.ifCond .ne 11, 3) := by decide +kernel
theorem dX7_readAll_258 : decode cX7_readAll 258 = .ok (.iload_n 2, 1) := by decide +kernel
theorem dX7_readAll_259 : decode cX7_readAll 259 = .ok (.ifCond .eq 7, 3) := by decide +kernel
theorem dX7_readAll_262 : decode cX7_readAll 262 = .ok (.iconst 1, 1) := by decide +kernel
theorem dX7_readAll_263 : decode cX7_readAll 263 = .ok (.goto 4, 3) := by decide +kernel
theorem dX7_readAll_266 : decode cX7_readAll 266 = .ok (.iconst 0, 1) := by decide +kernel
theorem dX7_readAll_267 : decode cX7_readAll 267 = .ok (.istore_n 2, 1) := by decide +kernel
theorem dX7_readAll_268 : decode cX7_readAll 268 = .ok (.goto (-24), 3) := by decide +kernel
theorem dX7_readAll_271 : decode cX7_readAll 271 = .ok (.iload_n 2, 1) := by decide +kernel
theorem dX7_readAll_272 : decode cX7_readAll 272 = .ok (.ifCond .eq 14, 3) := by decide +kernel
theorem dX7_readAll_275 : decode cX7_readAll 275 = .ok (.aload_n 0, 1) := by decide +kernel
theorem dX7_readAll_276 : decode cX7_readAll 276 = .ok (.getfield 165, 3) := by decide +kernel
theorem dX7_readAll_279 : decode cX7_readAll 279 = .ok (.aload_n 0, 1) := by decide +kernel
theorem dX7_readAll_280 : decode cX7_readAll 280 = .ok (.getfield 96, 3) := by decide +kernel
theorem dX7_readAll_283 : decode cX7_readAll 283 = .ok (.if_icmp .ge 9, 3) := by decide +kernel
theorem dX7_readAll_286 : decode cX7_readAll 286 = .ok (.aload_n 0, 1) := by decide +kernel
theorem dX7_readAll_287 : decode cX7_readAll 287 = .ok (.bipush 6, 2) := by decide +kernel
theorem dX7_readAll_289 : decode cX7_readAll 289 = .ok (.invokevirtual 168, 3) := by decide +kernel
theorem dX7_readAll_292 : decode cX7_readAll 292 = .ok (.return_, 1) := by decide +kernel
theorem dX7_read_0 : decode cX7_read 0 = .ok (.aload_n 0, 1) := by decide +kernel
theorem dX7_read_1 : decode cX7_read 1 = .ok (.iconst 0, 1) := by decide +kernel
theorem dX7_read_2 : decode cX7_read 2 = .ok (.putfield 62, 3) := by decide +kernel
theorem dX7_read_5 : decode cX7_read 5 = .ok (.aload_n 0, 1) := by decide +kernel
theorem dX7_read_6 : decode cX7_read 6 = .ok (.invokevirtual 220, 3) := by decide +kernel
theorem dX7_read_9 : decode cX7_read 9 = .ok (.aload_n 0, 1) := by decide +kernel
theorem dX7_read_10 : decode cX7_read 10 = .ok (.aload_n 0, 1) := by decide +kernel
theorem dX7_read_11 : decode cX7_read 11 = .ok (.getfield 162, 3) := by decide +kernel
theorem dX7_read_14 : decode cX7_read 14 = .ok (.putfield 223, 3) := by decide +kernel
theorem dX7_read_17 : decode cX7_read 17 = .ok (.aload_n 0, 1) := by decide +kernel
theorem dX7_read_18 : decode cX7_read 18 = .ok (.getfield 162, 3) := by decide +kernel
theorem dX7_read_21 : decode cX7_read 21 = .ok (.ifCond .le 13, 3) := by decide +kernel
theorem dX7_read_24 : decode cX7_read 24 = .ok (.bipush (-10), 2) := by decide +kernel
theorem dX7_read_26 : decode cX7_read 26 = .ok (.aload_n 0, 1) := by decide +kernel
theorem dX7_read_27 : decode cX7_read 27 = .ok (.getfield 165, 3) := by decide +kernel
theorem dX7_read_30 : decode cX7_read 30 = .ok (.isub, 1) := by decide +kernel
theorem dX7_read_31 : decode cX7_read 31 = .ok (.goto 7, 3) := by decide +kernel
theorem dX7_read_34 : decode cX7_read 34 = .ok (.aload_n 0, 1) := by decide +kernel
theorem dX7_read_35 : decode cX7_read 35 = .ok (.getfield 195, 3) := by decide +kernel
theorem dX7_read_38 : decode cX7_read 38 = .ok (.ireturn, 1) := by decide +kernel
theorem dX7_rule_0 : decode cX7_rule 0 = .ok (.aload_n 0, 1) := by decide +kernel
theorem dX7_rule_1 : decode cX7_rule 1 = .ok (.iconst 0, 1) := by decide +kernel
theorem dX7_rule_2 : decode cX7_rule 2 = .ok (.putfield 62, 3) := by decide +kernel
theorem dX7_rule_5 : decode cX7_rule 5 = .ok (.aload_n 0, 1) := by decide +kernel
theorem dX7_rule_6 : decode cX7_rule 6 = .ok (.getfield 223, 3) := by decide +kernel
theorem dX7_rule_9 : decode cX7_rule 9 = .ok (.ireturn, 1) := by decide +kernel
theorem dX7_sign_0 : decode cX7_sign 0 = .ok (.aload_n 0, 1) := by decide +kernel
theorem dX7_sign_1 : decode cX7_sign 1 = .ok (.iconst 0, 1) := by decide +kernel
theorem dX7_sign_2 : decode cX7_sign 2 = .ok (.putfield 62, 3) := by decide +kernel
theorem dX7_sign_5 : decode cX7_sign 5 = .ok (.iload_n 1, 1) := by decide +kernel
theorem dX7_sign_6 : decode cX7_sign 6 = .ok (.ifCond .lt 11, 3) := by decide +kernel
theorem dX7_sign_9 : decode cX7_sign 9 = .ok (.iload_n 1, 1) := by decide +kernel
theorem dX7_sign_10 : decode cX7_sign 10 = .ok (.aload_n 0, 1) := by decide +kernel
theorem dX7_sign_11 : decode cX7_sign 11 = .ok (.getfield 195, 3) := by decide +kernel
theorem dX7_sign_14 : decode cX7_sign 14 = .ok (.if_icmp .lt 7, 3) := by decide +kernel
theorem dX7_sign_17 : decode cX7_sign 17 = .ok (.iconst (-1), 1) := by decide +kernel
theorem dX7_sign_18 : decode cX7_sign 18 = .ok (.goto 9, 3) := by decide +kernel
theorem dX7_sign_21 : decode cX7_sign 21 = .ok (.aload_n 0, 1) := by decide +kernel
theorem dX7_sign_22 : decode cX7_sign 22 = .ok (.getfield 53, 3) := by decide +kernel
theorem dX7_sign_25 : decode cX7_sign 25 = .ok (.iload_n 1, 1) := by decide +kernel
theorem dX7_sign_26 : decode cX7_sign 26 = .ok (.iaload, 1) := by decide +kernel
theorem dX7_sign_27 : decode cX7_sign 27 = .ok (.ireturn, 1) := by decide +kernel
theorem dX7_state_0 : decode cX7_state 0 = .ok (.aload_n 0, 1) := by decide +kernel
theorem dX7_state_1 : decode cX7_state 1 = .ok (.iconst 0, 1) := by decide +kernel
theorem dX7_state_2 : decode cX7_state 2 = .ok (.putfield 62, 3) := by decide +kernel
theorem dX7_state_5 : decode cX7_state 5 = .ok (.iload_n 1, 1) := by decide +kernel
theorem dX7_state_6 : decode cX7_state 6 = .ok (.ifCond .ne 28, 3) := by decide +kernel
theorem dX7_state_9 : decode cX7_state 9 = .ok (.iload_n 2, 1) := by decide +kernel
theorem dX7_state_10 : decode cX7_state 10 = .ok (.ifCond .lt 11, 3) := by decide +kernel
theorem dX7_state_13 : decode cX7_state 13 = .ok (.iload_n 2, 1) := by decide +kernel
theorem dX7_state_14 : decode cX7_state 14 = .ok (.aload_n 0, 1) := by decide +kernel
theorem dX7_state_15 : decode cX7_state 15 = .ok (.getfield 152, 3) := by decide +kernel
theorem dX7_state_18 : decode cX7_state 18 = .ok (.if_icmp .lt 9, 3) := by decide +kernel
theorem dX7_state_21 : decode cX7_state 21 = .ok (.ldc2_w 81, 3) := by decide +kernel
theorem dX7_state_24 : decode cX7_state 24 = .ok (.goto 9, 3) := by decide +kernel
theorem dX7_state_27 : decode cX7_state 27 = .ok (.aload_n 0, 1) := by decide +kernel
theorem dX7_state_28 : decode cX7_state 28 = .ok (.getfield 45, 3) := by decide +kernel
theorem dX7_state_31 : decode cX7_state 31 = .ok (.iload_n 2, 1) := by decide +kernel
theorem dX7_state_32 : decode cX7_state 32 = .ok (.laload, 1) := by decide +kernel
theorem dX7_state_33 : decode cX7_state 33 = .ok (.lreturn, 1) := by decide +kernel
theorem dX7_state_34 : decode cX7_state 34 = .ok (.iload_n 1, 1) := by decide +kernel
theorem dX7_state_35 : decode cX7_state 35 = .ok (.iconst 1, 1) := by decide +kernel
theorem dX7_state_36 : decode cX7_state 36 = .ok (.if_icmp .ne 22, 3) := by decide +kernel
theorem dX7_state_39 : decode cX7_state 39 = .ok (.aload_n 0, 1) := by decide +kernel
theorem dX7_state_40 : decode cX7_state 40 = .ok (.getfield 204, 3) := by decide +kernel
theorem dX7_state_43 : decode cX7_state 43 = .ok (.ifCond .eq 15, 3) := by decide +kernel
theorem dX7_state_46 : decode cX7_state 46 = .ok (.iload_n 2, 1) := by decide +kernel
theorem dX7_state_47 : decode cX7_state 47 = .ok (.ifCond .lt 11, 3) := by decide +kernel
theorem dX7_state_50 : decode cX7_state 50 = .ok (.iload_n 2, 1) := by decide +kernel
theorem dX7_state_51 : decode cX7_state 51 = .ok (.aload_n 0, 1) := by decide +kernel
theorem dX7_state_52 : decode cX7_state 52 = .ok (.getfield 201, 3) := by decide +kernel
theorem dX7_state_55 : decode cX7_state 55 = .ok (.if_icmp .lt 9, 3) := by decide +kernel
theorem dX7_state_58 : decode cX7_state 58 = .ok (.ldc2_w 81, 3) := by decide +kernel
theorem dX7_state_61 : decode cX7_state 61 = .ok (.goto 9, 3) := by decide +kernel
theorem dX7_state_64 : decode cX7_state 64 = .ok (.aload_n 0, 1) := by decide +kernel
theorem dX7_state_65 : decode cX7_state 65 = .ok (.getfield 56, 3) := by decide +kernel
theorem dX7_state_68 : decode cX7_state 68 = .ok (.iload_n 2, 1) := by decide +kernel
theorem dX7_state_69 : decode cX7_state 69 = .ok (.laload, 1) := by decide +kernel
theorem dX7_state_70 : decode cX7_state 70 = .ok (.lreturn, 1) := by decide +kernel
theorem dX7_out_0 : decode cX7_out 0 = .ok (.aload_n 0, 1) := by decide +kernel
theorem dX7_out_1 : decode cX7_out 1 = .ok (.iconst 0, 1) := by decide +kernel
theorem dX7_out_2 : decode cX7_out 2 = .ok (.putfield 62, 3) := by decide +kernel
theorem dX7_out_5 : decode cX7_out 5 = .ok (.iload_n 1, 1) := by decide +kernel
theorem dX7_out_6 : decode cX7_out 6 = .ok (.ifCond .lt 11, 3) := by decide +kernel
theorem dX7_out_9 : decode cX7_out 9 = .ok (.iload_n 1, 1) := by decide +kernel
theorem dX7_out_10 : decode cX7_out 10 = .ok (.aload_n 0, 1) := by decide +kernel
theorem dX7_out_11 : decode cX7_out 11 = .ok (.getfield 96, 3) := by decide +kernel
theorem dX7_out_14 : decode cX7_out 14 = .ok (.if_icmp .lt 7, 3) := by decide +kernel
theorem dX7_out_17 : decode cX7_out 17 = .ok (.iconst (-1), 1) := by decide +kernel
theorem dX7_out_18 : decode cX7_out 18 = .ok (.goto 9, 3) := by decide +kernel
theorem dX7_out_21 : decode cX7_out 21 = .ok (.aload_n 0, 1) := by decide +kernel
theorem dX7_out_22 : decode cX7_out 22 = .ok (.getfield 38, 3) := by decide +kernel
theorem dX7_out_25 : decode cX7_out 25 = .ok (.iload_n 1, 1) := by decide +kernel
theorem dX7_out_26 : decode cX7_out 26 = .ok (.iaload, 1) := by decide +kernel
theorem dX7_out_27 : decode cX7_out 27 = .ok (.ireturn, 1) := by decide +kernel
theorem dX7_spoil_0 : decode cX7_spoil 0 = .ok (.aload_n 0, 1) := by decide +kernel
theorem dX7_spoil_1 : decode cX7_spoil 1 = .ok (.iconst 0, 1) := by decide +kernel
theorem dX7_spoil_2 : decode cX7_spoil 2 = .ok (.putfield 62, 3) := by decide +kernel
theorem dX7_spoil_5 : decode cX7_spoil 5 = .ok (.iload_n 1, 1) := by decide +kernel
theorem dX7_spoil_6 : decode cX7_spoil 6 = .ok (.ifCond .lt 23, 3) := by decide +kernel
theorem dX7_spoil_9 : decode cX7_spoil 9 = .ok (.iload_n 1, 1) := by decide +kernel
theorem dX7_spoil_10 : decode cX7_spoil 10 = .ok (.aload_n 0, 1) := by decide +kernel
theorem dX7_spoil_11 : decode cX7_spoil 11 = .ok (.getfield 96, 3) := by decide +kernel
theorem dX7_spoil_14 : decode cX7_spoil 14 = .ok (.if_icmp .ge 15, 3) := by decide +kernel
theorem dX7_spoil_17 : decode cX7_spoil 17 = .ok (.iload_n 2, 1) := by decide +kernel
theorem dX7_spoil_18 : decode cX7_spoil 18 = .ok (.iconst 1, 1) := by decide +kernel
theorem dX7_spoil_19 : decode cX7_spoil 19 = .ok (.if_icmp .lt 10, 3) := by decide +kernel
theorem dX7_spoil_22 : decode cX7_spoil 22 = .ok (.iload_n 2, 1) := by decide +kernel
theorem dX7_spoil_23 : decode cX7_spoil 23 = .ok (.sipush 255, 3) := by decide +kernel
theorem dX7_spoil_26 : decode cX7_spoil 26 = .ok (.if_icmp .le 5, 3) := by decide +kernel
theorem dX7_spoil_29 : decode cX7_spoil 29 = .ok (.iconst (-1), 1) := by decide +kernel
theorem dX7_spoil_30 : decode cX7_spoil 30 = .ok (.ireturn, 1) := by decide +kernel
theorem dX7_spoil_31 : decode cX7_spoil 31 = .ok (.aload_n 0, 1) := by decide +kernel
theorem dX7_spoil_32 : decode cX7_spoil 32 = .ok (.getfield 38, 3) := by decide +kernel
theorem dX7_spoil_35 : decode cX7_spoil 35 = .ok (.iload_n 1, 1) := by decide +kernel
theorem dX7_spoil_36 : decode cX7_spoil 36 = .ok (.dup2, 1) := by decide +kernel
theorem dX7_spoil_37 : decode cX7_spoil 37 = .ok (.iaload, 1) := by decide +kernel
theorem dX7_spoil_38 : decode cX7_spoil 38 = .ok (.iload_n 2, 1) := by decide +kernel
theorem dX7_spoil_39 : decode cX7_spoil 39 = .ok (.ixor, 1) := by decide +kernel
theorem dX7_spoil_40 : decode cX7_spoil 40 = .ok (.iastore, 1) := by decide +kernel
theorem dX7_spoil_41 : decode cX7_spoil 41 = .ok (.aload_n 0, 1) := by decide +kernel
theorem dX7_spoil_42 : decode cX7_spoil 42 = .ok (.getfield 38, 3) := by decide +kernel
theorem dX7_spoil_45 : decode cX7_spoil 45 = .ok (.iload_n 1, 1) := by decide +kernel
theorem dX7_spoil_46 : decode cX7_spoil 46 = .ok (.iaload, 1) := by decide +kernel
theorem dX7_spoil_47 : decode cX7_spoil 47 = .ok (.ireturn, 1) := by decide +kernel
theorem dX7_cut_0 : decode cX7_cut 0 = .ok (.aload_n 0, 1) := by decide +kernel
theorem dX7_cut_1 : decode cX7_cut 1 = .ok (.iconst 0, 1) := by decide +kernel
theorem dX7_cut_2 : decode cX7_cut 2 = .ok (.putfield 62, 3) := by decide +kernel
theorem dX7_cut_5 : decode cX7_cut 5 = .ok (.iload_n 1, 1) := by decide +kernel
theorem dX7_cut_6 : decode cX7_cut 6 = .ok (.ifCond .lt 11, 3) := by decide +kernel
theorem dX7_cut_9 : decode cX7_cut 9 = .ok (.iload_n 1, 1) := by decide +kernel
theorem dX7_cut_10 : decode cX7_cut 10 = .ok (.aload_n 0, 1) := by decide +kernel
theorem dX7_cut_11 : decode cX7_cut 11 = .ok (.getfield 96, 3) := by decide +kernel
theorem dX7_cut_14 : decode cX7_cut 14 = .ok (.if_icmp .le 5, 3) := by decide +kernel
theorem dX7_cut_17 : decode cX7_cut 17 = .ok (.iconst (-1), 1) := by decide +kernel
theorem dX7_cut_18 : decode cX7_cut 18 = .ok (.ireturn, 1) := by decide +kernel
theorem dX7_cut_19 : decode cX7_cut 19 = .ok (.aload_n 0, 1) := by decide +kernel
theorem dX7_cut_20 : decode cX7_cut 20 = .ok (.dup, 1) := by decide +kernel
theorem dX7_cut_21 : decode cX7_cut 21 = .ok (.getfield 96, 3) := by decide +kernel
theorem dX7_cut_24 : decode cX7_cut 24 = .ok (.iload_n 1, 1) := by decide +kernel
theorem dX7_cut_25 : decode cX7_cut 25 = .ok (.isub, 1) := by decide +kernel
theorem dX7_cut_26 : decode cX7_cut 26 = .ok (.putfield 96, 3) := by decide +kernel
theorem dX7_cut_29 : decode cX7_cut 29 = .ok (.aload_n 0, 1) := by decide +kernel
theorem dX7_cut_30 : decode cX7_cut 30 = .ok (.getfield 96, 3) := by decide +kernel
theorem dX7_cut_33 : decode cX7_cut 33 = .ok (.ireturn, 1) := by decide +kernel
theorem dX7_octet_0 : decode cX7_octet 0 = .ok (.aload_n 0, 1) := by decide +kernel
theorem dX7_octet_1 : decode cX7_octet 1 = .ok (.iconst 0, 1) := by decide +kernel
theorem dX7_octet_2 : decode cX7_octet 2 = .ok (.putfield 62, 3) := by decide +kernel
theorem dX7_octet_5 : decode cX7_octet 5 = .ok (.aload_n 0, 1) := by decide +kernel
theorem dX7_octet_6 : decode cX7_octet 6 = .ok (.getfield 96, 3) := by decide +kernel
theorem dX7_octet_9 : decode cX7_octet 9 = .ok (.sipush 8000, 3) := by decide +kernel
theorem dX7_octet_12 : decode cX7_octet 12 = .ok (.if_icmp .lt 6, 3) := by decide +kernel
theorem dX7_octet_15 : decode cX7_octet 15 = .ok (.bipush (-3), 2) := by decide +kernel
theorem dX7_octet_17 : decode cX7_octet 17 = .ok (.ireturn, 1) := by decide +kernel
theorem dX7_octet_18 : decode cX7_octet 18 = .ok (.aload_n 0, 1) := by decide +kernel
theorem dX7_octet_19 : decode cX7_octet 19 = .ok (.iload_n 1, 1) := by decide +kernel
theorem dX7_octet_20 : decode cX7_octet 20 = .ok (.invokevirtual 99, 3) := by decide +kernel
theorem dX7_octet_23 : decode cX7_octet 23 = .ok (.aload_n 0, 1) := by decide +kernel
theorem dX7_octet_24 : decode cX7_octet 24 = .ok (.getfield 96, 3) := by decide +kernel
theorem dX7_octet_27 : decode cX7_octet 27 = .ok (.ireturn, 1) := by decide +kernel
theorem dX7_agree_0 : decode cX7_agree 0 = .ok (.aload_n 0, 1) := by decide +kernel
theorem dX7_agree_1 : decode cX7_agree 1 = .ok (.iconst 0, 1) := by decide +kernel
theorem dX7_agree_2 : decode cX7_agree 2 = .ok (.putfield 62, 3) := by decide +kernel
theorem dX7_agree_5 : decode cX7_agree 5 = .ok (.aload_n 0, 1) := by decide +kernel
theorem dX7_agree_6 : decode cX7_agree 6 = .ok (.invokevirtual 155, 3) := by decide +kernel
theorem dX7_agree_9 : decode cX7_agree 9 = .ok (.ifCond .ne 6, 3) := by decide +kernel
theorem dX7_agree_12 : decode cX7_agree 12 = .ok (.bipush (-2), 2) := by decide +kernel
theorem dX7_agree_14 : decode cX7_agree 14 = .ok (.ireturn, 1) := by decide +kernel
theorem dX7_agree_15 : decode cX7_agree 15 = .ok (.iconst 1, 1) := by decide +kernel
theorem dX7_agree_16 : decode cX7_agree 16 = .ok (.istore_n 1, 1) := by decide +kernel
theorem dX7_agree_17 : decode cX7_agree 17 = .ok (.iconst 0, 1) := by decide +kernel
theorem dX7_agree_18 : decode cX7_agree 18 = .ok (.istore_n 2, 1) := by decide +kernel
theorem dX7_agree_19 : decode cX7_agree 19 = .ok (.iload_n 2, 1) := by decide +kernel
theorem dX7_agree_20 : decode cX7_agree 20 = .ok (.iconst 4, 1) := by decide +kernel
theorem dX7_agree_21 : decode cX7_agree 21 = .ok (.if_icmp .ge 105, 3) := by decide +kernel
theorem dX7_agree_24 : decode cX7_agree 24 = .ok (.aload_n 0, 1) := by decide +kernel
theorem dX7_agree_25 : decode cX7_agree 25 = .ok (.iload_n 2, 1) := by decide +kernel
theorem dX7_agree_26 : decode cX7_agree 26 = .ok (.invokevirtual 159, 3) := by decide +kernel
theorem dX7_agree_29 : decode cX7_agree 29 = .ok (.aload_n 0, 1) := by decide +kernel
theorem dX7_agree_30 : decode cX7_agree 30 = .ok (.invokevirtual 220, 3) := by decide +kernel
theorem dX7_agree_33 : decode cX7_agree 33 = .ok (.aload_n 0, 1) := by decide +kernel
theorem dX7_agree_34 : decode cX7_agree 34 = .ok (.aload_n 0, 1) := by decide +kernel
theorem dX7_agree_35 : decode cX7_agree 35 = .ok (.getfield 162, 3) := by decide +kernel
theorem dX7_agree_38 : decode cX7_agree 38 = .ok (.putfield 223, 3) := by decide +kernel
theorem dX7_agree_41 : decode cX7_agree 41 = .ok (.aload_n 0, 1) := by decide +kernel
theorem dX7_agree_42 : decode cX7_agree 42 = .ok (.getfield 162, 3) := by decide +kernel
theorem dX7_agree_45 : decode cX7_agree 45 = .ok (.ifCond .ne 18, 3) := by decide +kernel
theorem dX7_agree_48 : decode cX7_agree 48 = .ok (.aload_n 0, 1) := by decide +kernel
theorem dX7_agree_49 : decode cX7_agree 49 = .ok (.getfield 195, 3) := by decide +kernel
theorem dX7_agree_52 : decode cX7_agree 52 = .ok (.aload_n 0, 1) := by decide +kernel
theorem dX7_agree_53 : decode cX7_agree 53 = .ok (.getfield 65, 3) := by decide +kernel
theorem dX7_agree_56 : decode cX7_agree 56 = .ok (.if_icmp .ne 7, 3) := by decide +kernel
theorem dX7_agree_59 : decode cX7_agree 59 = .ok (.iconst 1, 1) := by decide +kernel
theorem dX7_agree_60 : decode cX7_agree 60 = .ok (.goto 4, 3) := by decide +kernel
theorem dX7_agree_63 : decode cX7_agree 63 = .ok (.iconst 0, 1) := by decide +kernel
theorem dX7_agree_64 : decode cX7_agree 64 = .ok (.istore_n 3, 1) := by decide +kernel
theorem dX7_agree_65 : decode cX7_agree 65 = .ok (.iconst 0, 1) := by decide +kernel
theorem dX7_agree_66 : decode cX7_agree 66 = .ok (.istore 4, 2) := by decide +kernel
theorem dX7_agree_68 : decode cX7_agree 68 = .ok (.iload 4, 2) := by decide +kernel
theorem dX7_agree_70 : decode cX7_agree 70 = .ok (.aload_n 0, 1) := by decide +kernel
theorem dX7_agree_71 : decode cX7_agree 71 = .ok (.getfield 65, 3) := by decide +kernel
theorem dX7_agree_74 : decode cX7_agree 74 = .ok (.if_icmp .ge 36, 3) := by decide +kernel
theorem dX7_agree_77 : decode cX7_agree 77 = .ok (.iload_n 3, 1) := by decide +kernel
theorem dX7_agree_78 : decode cX7_agree 78 = .ok (.ifCond .eq 32, 3) := by decide +kernel
theorem dX7_agree_81 : decode cX7_agree 81 = .ok (.aload_n 0, 1) := by decide +kernel
theorem dX7_agree_82 : decode cX7_agree 82 = .ok (.getfield 53, 3) := by decide +kernel
theorem dX7_agree_85 : decode cX7_agree 85 = .ok (.iload 4, 2) := by decide +kernel
theorem dX7_agree_87 : decode cX7_agree 87 = .ok (.iaload, 1) := by decide +kernel
theorem dX7_agree_88 : decode cX7_agree 88 = .ok (.aload_n 0, 1) := by decide +kernel
theorem dX7_agree_89 : decode cX7_agree 89 = .ok (.getfield 13, 3) := by decide +kernel
theorem dX7_agree_92 : decode cX7_agree 92 = .ok (.iload 4, 2) := by decide +kernel
theorem dX7_agree_94 : decode cX7_agree 94 = .ok (.iaload, 1) := by decide +kernel
theorem dX7_agree_95 : decode cX7_agree 95 = .ok (.if_icmp .ne 7, 3) := by decide +kernel
theorem dX7_agree_98 : decode cX7_agree 98 = .ok (.iconst 1, 1) := by decide +kernel
theorem dX7_agree_99 : decode cX7_agree 99 = .ok (.goto 4, 3) := by decide +kernel
theorem dX7_agree_102 : decode cX7_agree 102 = .ok (.iconst 0, 1) := by decide +kernel
theorem dX7_agree_103 : decode cX7_agree 103 = .ok (.istore_n 3, 1) := by decide +kernel
theorem dX7_agree_104 : decode cX7_agree 104 = .ok (.iinc 4 1, 3) := by decide +kernel
theorem dX7_agree_107 : decode cX7_agree 107 = .ok (.goto (-39), 3) := by decide +kernel
theorem dX7_agree_110 : decode cX7_agree 110 = .ok (.iload_n 3, 1) := by decide +kernel
theorem dX7_agree_111 : decode cX7_agree 111 = .ok (.ifCond .eq 7, 3) := by decide +kernel
theorem dX7_agree_114 : decode cX7_agree 114 = .ok (.iload_n 1, 1) := by decide +kernel
theorem dX7_agree_115 : decode cX7_agree 115 = .ok (.goto 4, 3) := by decide +kernel
theorem dX7_agree_118 : decode cX7_agree 118 = .ok (.iconst 0, 1) := by decide +kernel
theorem dX7_agree_119 : decode cX7_agree 119 = .ok (.istore_n 1, 1) := by decide +kernel
theorem dX7_agree_120 : decode cX7_agree 120 = .ok (.iinc 2 1, 3) := by decide +kernel
theorem dX7_agree_123 : decode cX7_agree 123 = .ok (.goto (-104), 3) := by decide +kernel
theorem dX7_agree_126 : decode cX7_agree 126 = .ok (.iload_n 1, 1) := by decide +kernel
theorem dX7_agree_127 : decode cX7_agree 127 = .ok (.ireturn, 1) := by decide +kernel
theorem dX7_told_0 : decode cX7_told 0 = .ok (.aload_n 0, 1) := by decide +kernel
theorem dX7_told_1 : decode cX7_told 1 = .ok (.iconst 0, 1) := by decide +kernel
theorem dX7_told_2 : decode cX7_told 2 = .ok (.putfield 62, 3) := by decide +kernel
theorem dX7_told_5 : decode cX7_told 5 = .ok (.iload_n 1, 1) := by decide +kernel
theorem dX7_told_6 : decode cX7_told 6 = .ok (.tableswitch 85 0 6 #[42, 47, 52, 57, 62, 67, 72], 42) := by decide +kernel
theorem dX7_told_48 : decode cX7_told 48 = .ok (.aload_n 0, 1) := by decide +kernel
theorem dX7_told_49 : decode cX7_told 49 = .ok (.getfield 59, 3) := by decide +kernel
theorem dX7_told_52 : decode cX7_told 52 = .ok (.ireturn, 1) := by decide +kernel
theorem dX7_told_53 : decode cX7_told 53 = .ok (.aload_n 0, 1) := by decide +kernel
theorem dX7_told_54 : decode cX7_told 54 = .ok (.getfield 65, 3) := by decide +kernel
theorem dX7_told_57 : decode cX7_told 57 = .ok (.ireturn, 1) := by decide +kernel
theorem dX7_told_58 : decode cX7_told 58 = .ok (.aload_n 0, 1) := by decide +kernel
theorem dX7_told_59 : decode cX7_told 59 = .ok (.getfield 96, 3) := by decide +kernel
theorem dX7_told_62 : decode cX7_told 62 = .ok (.ireturn, 1) := by decide +kernel
theorem dX7_told_63 : decode cX7_told 63 = .ok (.aload_n 0, 1) := by decide +kernel
theorem dX7_told_64 : decode cX7_told 64 = .ok (.getfield 195, 3) := by decide +kernel
theorem dX7_told_67 : decode cX7_told 67 = .ok (.ireturn, 1) := by decide +kernel
theorem dX7_told_68 : decode cX7_told 68 = .ok (.aload_n 0, 1) := by decide +kernel
theorem dX7_told_69 : decode cX7_told 69 = .ok (.getfield 91, 3) := by decide +kernel
theorem dX7_told_72 : decode cX7_told 72 = .ok (.ireturn, 1) := by decide +kernel
theorem dX7_told_73 : decode cX7_told 73 = .ok (.aload_n 0, 1) := by decide +kernel
theorem dX7_told_74 : decode cX7_told 74 = .ok (.getfield 7, 3) := by decide +kernel
theorem dX7_told_77 : decode cX7_told 77 = .ok (.ireturn, 1) := by decide +kernel
theorem dX7_told_78 : decode cX7_told 78 = .ok (.aload_n 0, 1) := by decide +kernel
theorem dX7_told_79 : decode cX7_told 79 = .ok (.getfield 69, 3) := by decide +kernel
theorem dX7_told_82 : decode cX7_told 82 = .ok (.ifCond .eq 7, 3) := by decide +kernel
theorem dX7_told_85 : decode cX7_told 85 = .ok (.iconst 1, 1) := by decide +kernel
theorem dX7_told_86 : decode cX7_told 86 = .ok (.goto 4, 3) := by decide +kernel
theorem dX7_told_89 : decode cX7_told 89 = .ok (.iconst 0, 1) := by decide +kernel
theorem dX7_told_90 : decode cX7_told 90 = .ok (.ireturn, 1) := by decide +kernel
theorem dX7_told_91 : decode cX7_told 91 = .ok (.iconst (-1), 1) := by decide +kernel
theorem dX7_told_92 : decode cX7_told 92 = .ok (.ireturn, 1) := by decide +kernel
