theorem d_T_isInRange_81 : decode b_T_isInRange 81 = .ok (.ireturn, 1) := by decide +kernel
theorem d_T_isInRange_82 : decode b_T_isInRange 82 = .ok (.iload_n 3, 1) := by decide +kernel
theorem d_T_isInRange_83 : decode b_T_isInRange 83 = .ok (.iconst 1, 1) := by decide +kernel
theorem d_T_isInRange_84 : decode b_T_isInRange 84 = .ok (.if_icmp .lt 24, 3) := by decide +kernel
theorem d_T_isInRange_87 : decode b_T_isInRange 87 = .ok (.iload_n 3, 1) := by decide +kernel
theorem d_T_isInRange_88 : decode b_T_isInRange 88 = .ok (.iconst 3, 1) := by decide +kernel
theorem d_T_isInRange_89 : decode b_T_isInRange 89 = .ok (.if_icmp .gt 19, 3) := by decide +kernel
theorem d_T_isInRange_92 : decode b_T_isInRange 92 = .ok (.aload_n 0, 1) := by decide +kernel
theorem d_T_isInRange_93 : decode b_T_isInRange 93 = .ok (.getfield 19, 3) := by decide +kernel
theorem d_T_isInRange_96 : decode b_T_isInRange 96 = .ok (.iconst 3, 1) := by decide +kernel
theorem d_T_isInRange_97 : decode b_T_isInRange 97 = .ok (.invokevirtual 174, 3) := by decide +kernel
theorem d_T_isInRange_100 : decode b_T_isInRange 100 = .ok (.iconst 1, 1) := by decide +kernel
theorem d_T_isInRange_101 : decode b_T_isInRange 101 = .ok (.if_icmp .gt 7, 3) := by decide +kernel
theorem d_T_isInRange_104 : decode b_T_isInRange 104 = .ok (.iconst 1, 1) := by decide +kernel
theorem d_T_isInRange_105 : decode b_T_isInRange 105 = .ok (.goto 4, 3) := by decide +kernel
theorem d_T_isInRange_108 : decode b_T_isInRange 108 = .ok (.iconst 0, 1) := by decide +kernel
theorem d_T_isInRange_109 : decode b_T_isInRange 109 = .ok (.ireturn, 1) := by decide +kernel
theorem d_T_isInRange_110 : decode b_T_isInRange 110 = .ok (.iload_n 2, 1) := by decide +kernel
theorem d_T_isInRange_111 : decode b_T_isInRange 111 = .ok (.iconst 1, 1) := by decide +kernel
theorem d_T_isInRange_112 : decode b_T_isInRange 112 = .ok (.if_icmp .gt 18, 3) := by decide +kernel
theorem d_T_isInRange_115 : decode b_T_isInRange 115 = .ok (.iload_n 3, 1) := by decide +kernel
theorem d_T_isInRange_116 : decode b_T_isInRange 116 = .ok (.iconst 1, 1) := by decide +kernel
theorem d_T_isInRange_117 : decode b_T_isInRange 117 = .ok (.if_icmp .lt 13, 3) := by decide +kernel
theorem d_T_isInRange_120 : decode b_T_isInRange 120 = .ok (.iload_n 3, 1) := by decide +kernel
theorem d_T_isInRange_121 : decode b_T_isInRange 121 = .ok (.bipush 32, 2) := by decide +kernel
theorem d_T_isInRange_123 : decode b_T_isInRange 123 = .ok (.if_icmp .gt 7, 3) := by decide +kernel
theorem d_T_isInRange_126 : decode b_T_isInRange 126 = .ok (.iconst 1, 1) := by decide +kernel
theorem d_T_isInRange_127 : decode b_T_isInRange 127 = .ok (.goto 4, 3) := by decide +kernel
theorem d_T_isInRange_130 : decode b_T_isInRange 130 = .ok (.iconst 0, 1) := by decide +kernel
theorem d_T_isInRange_131 : decode b_T_isInRange 131 = .ok (.ireturn, 1) := by decide +kernel
theorem d_T_isInRange_132 : decode b_T_isInRange 132 = .ok (.iconst 1, 1) := by decide +kernel
theorem d_T_isInRange_133 : decode b_T_isInRange 133 = .ok (.ireturn, 1) := by decide +kernel
theorem d_T_serve_0 : decode b_T_serve 0 = .ok (.iload_n 1, 1) := by decide +kernel
theorem d_T_serve_1 : decode b_T_serve 1 = .ok (.lookupswitch 232 #[(16, 75), (34, 132), (39, 100), (46, 145), (49, 163), (52, 184), (54, 205), (55, 227)], 75) := by decide +kernel
theorem d_T_serve_76 : decode b_T_serve 76 = .ok (.aload_n 0, 1) := by decide +kernel
theorem d_T_serve_77 : decode b_T_serve 77 = .ok (.aload_n 0, 1) := by decide +kernel
theorem d_T_serve_78 : decode b_T_serve 78 = .ok (.getfield 19, 3) := by decide +kernel
theorem d_T_serve_81 : decode b_T_serve 81 = .ok (.iconst 1, 1) := by decide +kernel
theorem d_T_serve_82 : decode b_T_serve 82 = .ok (.invokevirtual 174, 3) := by decide +kernel
theorem d_T_serve_85 : decode b_T_serve 85 = .ok (.invokevirtual 104, 3) := by decide +kernel
theorem d_T_serve_88 : decode b_T_serve 88 = .ok (.aload_n 0, 1) := by decide +kernel
theorem d_T_serve_89 : decode b_T_serve 89 = .ok (.aload_n 0, 1) := by decide +kernel
theorem d_T_serve_90 : decode b_T_serve 90 = .ok (.getfield 19, 3) := by decide +kernel
theorem d_T_serve_93 : decode b_T_serve 93 = .ok (.iconst 1, 1) := by decide +kernel
theorem d_T_serve_94 : decode b_T_serve 94 = .ok (.invokevirtual 174, 3) := by decide +kernel
theorem d_T_serve_97 : decode b_T_serve 97 = .ok (.invokevirtual 211, 3) := by decide +kernel
theorem d_T_serve_100 : decode b_T_serve 100 = .ok (.ireturn, 1) := by decide +kernel
theorem d_T_serve_101 : decode b_T_serve 101 = .ok (.aload_n 0, 1) := by decide +kernel
theorem d_T_serve_102 : decode b_T_serve 102 = .ok (.getfield 19, 3) := by decide +kernel
theorem d_T_serve_105 : decode b_T_serve 105 = .ok (.iconst 1, 1) := by decide +kernel
theorem d_T_serve_106 : decode b_T_serve 106 = .ok (.invokevirtual 174, 3) := by decide +kernel
theorem d_T_serve_109 : decode b_T_serve 109 = .ok (.iconst 1, 1) := by decide +kernel
theorem d_T_serve_110 : decode b_T_serve 110 = .ok (.if_icmp .ne 10, 3) := by decide +kernel
theorem d_T_serve_113 : decode b_T_serve 113 = .ok (.aload_n 0, 1) := by decide +kernel
theorem d_T_serve_114 : decode b_T_serve 114 = .ok (.invokevirtual 214, 3) := by decide +kernel
theorem d_T_serve_117 : decode b_T_serve 117 = .ok (.goto 15, 3) := by decide +kernel
theorem d_T_serve_120 : decode b_T_serve 120 = .ok (.aload_n 0, 1) := by decide +kernel
theorem d_T_serve_121 : decode b_T_serve 121 = .ok (.aload_n 0, 1) := by decide +kernel
theorem d_T_serve_122 : decode b_T_serve 122 = .ok (.getfield 19, 3) := by decide +kernel
theorem d_T_serve_125 : decode b_T_serve 125 = .ok (.iconst 2, 1) := by decide +kernel
theorem d_T_serve_126 : decode b_T_serve 126 = .ok (.invokevirtual 174, 3) := by decide +kernel
theorem d_T_serve_129 : decode b_T_serve 129 = .ok (.invokevirtual 217, 3) := by decide +kernel
theorem d_T_serve_132 : decode b_T_serve 132 = .ok (.ireturn, 1) := by decide +kernel
theorem d_T_serve_133 : decode b_T_serve 133 = .ok (.aload_n 0, 1) := by decide +kernel
theorem d_T_serve_134 : decode b_T_serve 134 = .ok (.aload_n 0, 1) := by decide +kernel
theorem d_T_serve_135 : decode b_T_serve 135 = .ok (.getfield 19, 3) := by decide +kernel
theorem d_T_serve_138 : decode b_T_serve 138 = .ok (.iconst 1, 1) := by decide +kernel
theorem d_T_serve_139 : decode b_T_serve 139 = .ok (.invokevirtual 174, 3) := by decide +kernel
theorem d_T_serve_142 : decode b_T_serve 142 = .ok (.invokevirtual 220, 3) := by decide +kernel
theorem d_T_serve_145 : decode b_T_serve 145 = .ok (.ireturn, 1) := by decide +kernel
theorem d_T_serve_146 : decode b_T_serve 146 = .ok (.aload_n 0, 1) := by decide +kernel
theorem d_T_serve_147 : decode b_T_serve 147 = .ok (.aload_n 0, 1) := by decide +kernel
theorem d_T_serve_148 : decode b_T_serve 148 = .ok (.getfield 19, 3) := by decide +kernel
theorem d_T_serve_151 : decode b_T_serve 151 = .ok (.iconst 2, 1) := by decide +kernel
theorem d_T_serve_152 : decode b_T_serve 152 = .ok (.invokevirtual 174, 3) := by decide +kernel
theorem d_T_serve_155 : decode b_T_serve 155 = .ok (.putfield 149, 3) := by decide +kernel
theorem d_T_serve_158 : decode b_T_serve 158 = .ok (.aload_n 0, 1) := by decide +kernel
theorem d_T_serve_159 : decode b_T_serve 159 = .ok (.iconst 1, 1) := by decide +kernel
theorem d_T_serve_160 : decode b_T_serve 160 = .ok (.invokevirtual 211, 3) := by decide +kernel
theorem d_T_serve_163 : decode b_T_serve 163 = .ok (.ireturn, 1) := by decide +kernel
theorem d_T_serve_164 : decode b_T_serve 164 = .ok (.aload_n 0, 1) := by decide +kernel
theorem d_T_serve_165 : decode b_T_serve 165 = .ok (.aload_n 0, 1) := by decide +kernel
theorem d_T_serve_166 : decode b_T_serve 166 = .ok (.getfield 19, 3) := by decide +kernel
theorem d_T_serve_169 : decode b_T_serve 169 = .ok (.iconst 2, 1) := by decide +kernel
theorem d_T_serve_170 : decode b_T_serve 170 = .ok (.invokevirtual 174, 3) := by decide +kernel
theorem d_T_serve_173 : decode b_T_serve 173 = .ok (.aload_n 0, 1) := by decide +kernel
theorem d_T_serve_174 : decode b_T_serve 174 = .ok (.getfield 19, 3) := by decide +kernel
theorem d_T_serve_177 : decode b_T_serve 177 = .ok (.iconst 3, 1) := by decide +kernel
theorem d_T_serve_178 : decode b_T_serve 178 = .ok (.invokevirtual 174, 3) := by decide +kernel
theorem d_T_serve_181 : decode b_T_serve 181 = .ok (.invokevirtual 223, 3) := by decide +kernel
theorem d_T_serve_184 : decode b_T_serve 184 = .ok (.ireturn, 1) := by decide +kernel
theorem d_T_serve_185 : decode b_T_serve 185 = .ok (.aload_n 0, 1) := by decide +kernel
theorem d_T_serve_186 : decode b_T_serve 186 = .ok (.aload_n 0, 1) := by decide +kernel
theorem d_T_serve_187 : decode b_T_serve 187 = .ok (.getfield 19, 3) := by decide +kernel
theorem d_T_serve_190 : decode b_T_serve 190 = .ok (.iconst 1, 1) := by decide +kernel
theorem d_T_serve_191 : decode b_T_serve 191 = .ok (.invokevirtual 174, 3) := by decide +kernel
theorem d_T_serve_194 : decode b_T_serve 194 = .ok (.aload_n 0, 1) := by decide +kernel
theorem d_T_serve_195 : decode b_T_serve 195 = .ok (.getfield 19, 3) := by decide +kernel
theorem d_T_serve_198 : decode b_T_serve 198 = .ok (.iconst 2, 1) := by decide +kernel
theorem d_T_serve_199 : decode b_T_serve 199 = .ok (.invokevirtual 174, 3) := by decide +kernel
theorem d_T_serve_202 : decode b_T_serve 202 = .ok (.invokevirtual 226, 3) := by decide +kernel
theorem d_T_serve_205 : decode b_T_serve 205 = .ok (.ireturn, 1) := by decide +kernel
theorem d_T_serve_206 : decode b_T_serve 206 = .ok (.aload_n 0, 1) := by decide +kernel
theorem d_T_serve_207 : decode b_T_serve 207 = .ok (.aload_n 0, 1) := by decide +kernel
theorem d_T_serve_208 : decode b_T_serve 208 = .ok (.getfield 19, 3) := by decide +kernel
theorem d_T_serve_211 : decode b_T_serve 211 = .ok (.iconst 1, 1) := by decide +kernel
theorem d_T_serve_212 : decode b_T_serve 212 = .ok (.invokevirtual 174, 3) := by decide +kernel
theorem d_T_serve_215 : decode b_T_serve 215 = .ok (.aload_n 0, 1) := by decide +kernel
theorem d_T_serve_216 : decode b_T_serve 216 = .ok (.getfield 19, 3) := by decide +kernel
theorem d_T_serve_219 : decode b_T_serve 219 = .ok (.getfield 208, 3) := by decide +kernel
theorem d_T_serve_222 : decode b_T_serve 222 = .ok (.iconst 2, 1) := by decide +kernel
theorem d_T_serve_223 : decode b_T_serve 223 = .ok (.isub, 1) := by decide +kernel
theorem d_T_serve_224 : decode b_T_serve 224 = .ok (.invokevirtual 229, 3) := by decide +kernel
theorem d_T_serve_227 : decode b_T_serve 227 = .ok (.ireturn, 1) := by decide +kernel
theorem d_T_serve_228 : decode b_T_serve 228 = .ok (.aload_n 0, 1) := by decide +kernel
theorem d_T_serve_229 : decode b_T_serve 229 = .ok (.invokevirtual 232, 3) := by decide +kernel
theorem d_T_serve_232 : decode b_T_serve 232 = .ok (.ireturn, 1) := by decide +kernel
theorem d_T_serve_233 : decode b_T_serve 233 = .ok (.aload_n 0, 1) := by decide +kernel
theorem d_T_serve_234 : decode b_T_serve 234 = .ok (.aload_n 0, 1) := by decide +kernel
theorem d_T_serve_235 : decode b_T_serve 235 = .ok (.getfield 19, 3) := by decide +kernel
theorem d_T_serve_238 : decode b_T_serve 238 = .ok (.iconst 1, 1) := by decide +kernel
theorem d_T_serve_239 : decode b_T_serve 239 = .ok (.invokevirtual 174, 3) := by decide +kernel
theorem d_T_serve_242 : decode b_T_serve 242 = .ok (.invokevirtual 211, 3) := by decide +kernel
theorem d_T_serve_245 : decode b_T_serve 245 = .ok (.ireturn, 1) := by decide +kernel
theorem d_T_doneWith_0 : decode b_T_doneWith 0 = .ok (.aload_n 0, 1) := by decide +kernel
theorem d_T_doneWith_1 : decode b_T_doneWith 1 = .ok (.getfield 26, 3) := by decide +kernel
theorem d_T_doneWith_4 : decode b_T_doneWith 4 = .ok (.iload_n 1, 1) := by decide +kernel
theorem d_T_doneWith_5 : decode b_T_doneWith 5 = .ok (.invokevirtual 186, 3) := by decide +kernel
theorem d_T_doneWith_8 : decode b_T_doneWith 8 = .ok (.iconst 0, 1) := by decide +kernel
theorem d_T_doneWith_9 : decode b_T_doneWith 9 = .ok (.ireturn, 1) := by decide +kernel
theorem d_T_giveSeed_0 : decode b_T_giveSeed 0 = .ok (.aload_n 0, 1) := by decide +kernel
theorem d_T_giveSeed_1 : decode b_T_giveSeed 1 = .ok (.getfield 38, 3) := by decide +kernel
theorem d_T_giveSeed_4 : decode b_T_giveSeed 4 = .ok (.invokevirtual 235, 3) := by decide +kernel
theorem d_T_giveSeed_7 : decode b_T_giveSeed 7 = .ok (.pop, 1) := by decide +kernel
theorem d_T_giveSeed_8 : decode b_T_giveSeed 8 = .ok (.aload_n 0, 1) := by decide +kernel
theorem d_T_giveSeed_9 : decode b_T_giveSeed 9 = .ok (.getfield 38, 3) := by decide +kernel
theorem d_T_giveSeed_12 : decode b_T_giveSeed 12 = .ok (.getfield 143, 3) := by decide +kernel
theorem d_T_giveSeed_15 : decode b_T_giveSeed 15 = .ok (.ifCond .eq 6, 3) := by decide +kernel
theorem d_T_giveSeed_18 : decode b_T_giveSeed 18 = .ok (.bipush 55, 2) := by decide +kernel
theorem d_T_giveSeed_20 : decode b_T_giveSeed 20 = .ok (.ireturn, 1) := by decide +kernel
theorem d_T_giveSeed_21 : decode b_T_giveSeed 21 = .ok (.aload_n 0, 1) := by decide +kernel
theorem d_T_giveSeed_22 : decode b_T_giveSeed 22 = .ok (.getfield 26, 3) := by decide +kernel
theorem d_T_giveSeed_25 : decode b_T_giveSeed 25 = .ok (.iconst 1, 1) := by decide +kernel
theorem d_T_giveSeed_26 : decode b_T_giveSeed 26 = .ok (.invokevirtual 186, 3) := by decide +kernel
theorem d_T_giveSeed_29 : decode b_T_giveSeed 29 = .ok (.aload_n 0, 1) := by decide +kernel
theorem d_T_giveSeed_30 : decode b_T_giveSeed 30 = .ok (.aload_n 0, 1) := by decide +kernel
theorem d_T_giveSeed_31 : decode b_T_giveSeed 31 = .ok (.getfield 38, 3) := by decide +kernel
theorem d_T_giveSeed_34 : decode b_T_giveSeed 34 = .ok (.getfield 127, 3) := by decide +kernel
theorem d_T_giveSeed_37 : decode b_T_giveSeed 37 = .ok (.ifCond .eq 7, 3) := by decide +kernel
theorem d_T_giveSeed_40 : decode b_T_giveSeed 40 = .ok (.iconst 0, 1) := by decide +kernel
theorem d_T_giveSeed_41 : decode b_T_giveSeed 41 = .ok (.goto 10, 3) := by decide +kernel
theorem d_T_giveSeed_44 : decode b_T_giveSeed 44 = .ok (.aload_n 0, 1) := by decide +kernel
theorem d_T_giveSeed_45 : decode b_T_giveSeed 45 = .ok (.getfield 38, 3) := by decide +kernel
theorem d_T_giveSeed_48 : decode b_T_giveSeed 48 = .ok (.invokevirtual 238, 3) := by decide +kernel
theorem d_T_giveSeed_51 : decode b_T_giveSeed 51 = .ok (.invokevirtual 211, 3) := by decide +kernel
theorem d_T_giveSeed_54 : decode b_T_giveSeed 54 = .ok (.ireturn, 1) := by decide +kernel
theorem d_T_tryKey_0 : decode b_T_tryKey 0 = .ok (.aload_n 0, 1) := by decide +kernel
theorem d_T_tryKey_1 : decode b_T_tryKey 1 = .ok (.getfield 38, 3) := by decide +kernel
theorem d_T_tryKey_4 : decode b_T_tryKey 4 = .ok (.invokevirtual 235, 3) := by decide +kernel
theorem d_T_tryKey_7 : decode b_T_tryKey 7 = .ok (.istore_n 2, 1) := by decide +kernel
theorem d_T_tryKey_8 : decode b_T_tryKey 8 = .ok (.iload_n 2, 1) := by decide +kernel
theorem d_T_tryKey_9 : decode b_T_tryKey 9 = .ok (.ifCond .ne 6, 3) := by decide +kernel
theorem d_T_tryKey_12 : decode b_T_tryKey 12 = .ok (.bipush 36, 2) := by decide +kernel
theorem d_T_tryKey_14 : decode b_T_tryKey 14 = .ok (.ireturn, 1) := by decide +kernel
theorem d_T_tryKey_15 : decode b_T_tryKey 15 = .ok (.iload_n 1, 1) := by decide +kernel
theorem d_T_tryKey_16 : decode b_T_tryKey 16 = .ok (.iconst 5, 1) := by decide +kernel
theorem d_T_tryKey_17 : decode b_T_tryKey 17 = .ok (.iload_n 2, 1) := by decide +kernel
theorem d_T_tryKey_18 : decode b_T_tryKey 18 = .ok (.imul, 1) := by decide +kernel
theorem d_T_tryKey_19 : decode b_T_tryKey 19 = .ok (.iconst 3, 1) := by decide +kernel
theorem d_T_tryKey_20 : decode b_T_tryKey 20 = .ok (.iadd, 1) := by decide +kernel
theorem d_T_tryKey_21 : decode b_T_tryKey 21 = .ok (.sipush 255, 3) := by decide +kernel
theorem d_T_tryKey_24 : decode b_T_tryKey 24 = .ok (.iand, 1) := by decide +kernel
theorem d_T_tryKey_25 : decode b_T_tryKey 25 = .ok (.if_icmp .ne 16, 3) := by decide +kernel
theorem d_T_tryKey_28 : decode b_T_tryKey 28 = .ok (.aload_n 0, 1) := by decide +kernel
theorem d_T_tryKey_29 : decode b_T_tryKey 29 = .ok (.getfield 38, 3) := by decide +kernel
theorem d_T_tryKey_32 : decode b_T_tryKey 32 = .ok (.invokevirtual 241, 3) := by decide +kernel
theorem d_T_tryKey_35 : decode b_T_tryKey 35 = .ok (.aload_n 0, 1) := by decide +kernel
theorem d_T_tryKey_36 : decode b_T_tryKey 36 = .ok (.iconst 2, 1) := by decide +kernel
theorem d_T_tryKey_37 : decode b_T_tryKey 37 = .ok (.invokevirtual 211, 3) := by decide +kernel
theorem d_T_tryKey_40 : decode b_T_tryKey 40 = .ok (.ireturn, 1) := by decide +kernel
theorem d_T_tryKey_41 : decode b_T_tryKey 41 = .ok (.aload_n 0, 1) := by decide +kernel
theorem d_T_tryKey_42 : decode b_T_tryKey 42 = .ok (.getfield 38, 3) := by decide +kernel
theorem d_T_tryKey_45 : decode b_T_tryKey 45 = .ok (.invokevirtual 244, 3) := by decide +kernel
theorem d_T_tryKey_48 : decode b_T_tryKey 48 = .ok (.ifCond .eq 8, 3) := by decide +kernel
theorem d_T_tryKey_51 : decode b_T_tryKey 51 = .ok (.bipush 54, 2) := by decide +kernel
theorem d_T_tryKey_53 : decode b_T_tryKey 53 = .ok (.goto 5, 3) := by decide +kernel
theorem d_T_tryKey_56 : decode b_T_tryKey 56 = .ok (.bipush 53, 2) := by decide +kernel
theorem d_T_tryKey_58 : decode b_T_tryKey 58 = .ok (.ireturn, 1) := by decide +kernel
theorem d_T_read_0 : decode b_T_read 0 = .ok (.iload_n 1, 1) := by decide +kernel
theorem d_T_read_1 : decode b_T_read 1 = .ok (.iconst 1, 1) := by decide +kernel
theorem d_T_read_2 : decode b_T_read 2 = .ok (.if_icmp .eq 14, 3) := by decide +kernel
theorem d_T_read_5 : decode b_T_read 5 = .ok (.aload_n 0, 1) := by decide +kernel
theorem d_T_read_6 : decode b_T_read 6 = .ok (.getfield 124, 3) := by decide +kernel
theorem d_T_read_9 : decode b_T_read 9 = .ok (.iconst (-1), 1) := by decide +kernel
theorem d_T_read_10 : decode b_T_read 10 = .ok (.if_icmp .ne 6, 3) := by decide +kernel
theorem d_T_read_13 : decode b_T_read 13 = .ok (.bipush 34, 2) := by decide +kernel
theorem d_T_read_15 : decode b_T_read 15 = .ok (.ireturn, 1) := by decide +kernel
theorem d_T_read_16 : decode b_T_read 16 = .ok (.aload_n 0, 1) := by decide +kernel
theorem d_T_read_17 : decode b_T_read 17 = .ok (.getfield 26, 3) := by decide +kernel
theorem d_T_read_20 : decode b_T_read 20 = .ok (.iload_n 1, 1) := by decide +kernel
theorem d_T_read_21 : decode b_T_read 21 = .ok (.invokevirtual 186, 3) := by decide +kernel
theorem d_T_read_24 : decode b_T_read 24 = .ok (.iload_n 1, 1) := by decide +kernel
theorem d_T_read_25 : decode b_T_read 25 = .ok (.ifCond .ne 12, 3) := by decide +kernel
theorem d_T_read_28 : decode b_T_read 28 = .ok (.aload_n 0, 1) := by decide +kernel
theorem d_T_read_29 : decode b_T_read 29 = .ok (.aload_n 0, 1) := by decide +kernel
theorem d_T_read_30 : decode b_T_read 30 = .ok (.getfield 124, 3) := by decide +kernel
theorem d_T_read_33 : decode b_T_read 33 = .ok (.invokevirtual 211, 3) := by decide +kernel
theorem d_T_read_36 : decode b_T_read 36 = .ok (.ireturn, 1) := by decide +kernel
theorem d_T_read_37 : decode b_T_read 37 = .ok (.iload_n 1, 1) := by decide +kernel
theorem d_T_read_38 : decode b_T_read 38 = .ok (.iconst 1, 1) := by decide +kernel
theorem d_T_read_39 : decode b_T_read 39 = .ok (.if_icmp .ne 12, 3) := by decide +kernel
theorem d_T_read_42 : decode b_T_read 42 = .ok (.aload_n 0, 1) := by decide +kernel
theorem d_T_read_43 : decode b_T_read 43 = .ok (.aload_n 0, 1) := by decide +kernel
theorem d_T_read_44 : decode b_T_read 44 = .ok (.getfield 149, 3) := by decide +kernel
theorem d_T_read_47 : decode b_T_read 47 = .ok (.invokevirtual 211, 3) := by decide +kernel
theorem d_T_read_50 : decode b_T_read 50 = .ok (.ireturn, 1) := by decide +kernel
theorem d_T_read_51 : decode b_T_read 51 = .ok (.aload_n 0, 1) := by decide +kernel
theorem d_T_read_52 : decode b_T_read 52 = .ok (.getfield 124, 3) := by decide +kernel
theorem d_T_read_55 : decode b_T_read 55 = .ok (.invokestatic 248, 3) := by decide +kernel
theorem d_T_read_58 : decode b_T_read 58 = .ok (.istore_n 2, 1) := by decide +kernel
theorem d_T_read_59 : decode b_T_read 59 = .ok (.iconst 0, 1) := by decide +kernel
theorem d_T_read_60 : decode b_T_read 60 = .ok (.istore_n 3, 1) := by decide +kernel
theorem d_T_read_61 : decode b_T_read 61 = .ok (.iload_n 3, 1) := by decide +kernel
theorem d_T_read_62 : decode b_T_read 62 = .ok (.bipush 8, 2) := by decide +kernel
theorem d_T_read_64 : decode b_T_read 64 = .ok (.if_icmp .ge 26, 3) := by decide +kernel
theorem d_T_read_67 : decode b_T_read 67 = .ok (.aload_n 0, 1) := by decide +kernel
theorem d_T_read_68 : decode b_T_read 68 = .ok (.getfield 26, 3) := by decide +kernel
theorem d_T_read_71 : decode b_T_read 71 = .ok (.aload_n 0, 1) := by decide +kernel
theorem d_T_read_72 : decode b_T_read 72 = .ok (.getfield 10, 3) := by decide +kernel
theorem d_T_read_75 : decode b_T_read 75 = .ok (.iload_n 2, 1) := by decide +kernel
theorem d_T_read_76 : decode b_T_read 76 = .ok (.iload_n 3, 1) := by decide +kernel
theorem d_T_read_77 : decode b_T_read 77 = .ok (.iadd, 1) := by decide +kernel
theorem d_T_read_78 : decode b_T_read 78 = .ok (.invokevirtual 251, 3) := by decide +kernel
theorem d_T_read_81 : decode b_T_read 81 = .ok (.invokevirtual 186, 3) := by decide +kernel
theorem d_T_read_84 : decode b_T_read 84 = .ok (.iinc 3 1, 3) := by decide +kernel
theorem d_T_read_87 : decode b_T_read 87 = .ok (.goto (-26), 3) := by decide +kernel
theorem d_T_read_90 : decode b_T_read 90 = .ok (.iconst 0, 1) := by decide +kernel
theorem d_T_read_91 : decode b_T_read 91 = .ok (.ireturn, 1) := by decide +kernel
theorem d_T_runRoutine_0 : decode b_T_runRoutine 0 = .ok (.aload_n 0, 1) := by decide +kernel
theorem d_T_runRoutine_1 : decode b_T_runRoutine 1 = .ok (.getfield 26, 3) := by decide +kernel
theorem d_T_runRoutine_4 : decode b_T_runRoutine 4 = .ok (.iconst 1, 1) := by decide +kernel
theorem d_T_runRoutine_5 : decode b_T_runRoutine 5 = .ok (.invokevirtual 186, 3) := by decide +kernel
theorem d_T_runRoutine_8 : decode b_T_runRoutine 8 = .ok (.aload_n 0, 1) := by decide +kernel
theorem d_T_runRoutine_9 : decode b_T_runRoutine 9 = .ok (.getfield 26, 3) := by decide +kernel
theorem d_T_runRoutine_12 : decode b_T_runRoutine 12 = .ok (.iload_n 1, 1) := by decide +kernel
theorem d_T_runRoutine_13 : decode b_T_runRoutine 13 = .ok (.invokevirtual 186, 3) := by decide +kernel
theorem d_T_runRoutine_16 : decode b_T_runRoutine 16 = .ok (.iload_n 1, 1) := by decide +kernel
theorem d_T_runRoutine_17 : decode b_T_runRoutine 17 = .ok (.iconst 1, 1) := by decide +kernel
theorem d_T_runRoutine_18 : decode b_T_runRoutine 18 = .ok (.if_icmp .ne 9, 3) := by decide +kernel
theorem d_T_runRoutine_21 : decode b_T_runRoutine 21 = .ok (.aload_n 0, 1) := by decide +kernel
theorem d_T_runRoutine_22 : decode b_T_runRoutine 22 = .ok (.iload_n 2, 1) := by decide +kernel
theorem d_T_runRoutine_23 : decode b_T_runRoutine 23 = .ok (.invokevirtual 254, 3) := by decide +kernel
theorem d_T_runRoutine_26 : decode b_T_runRoutine 26 = .ok (.ireturn, 1) := by decide +kernel
theorem d_T_runRoutine_27 : decode b_T_runRoutine 27 = .ok (.iload_n 1, 1) := by decide +kernel
theorem d_T_runRoutine_28 : decode b_T_runRoutine 28 = .ok (.iconst 2, 1) := by decide +kernel
theorem d_T_runRoutine_29 : decode b_T_runRoutine 29 = .ok (.if_icmp .ne 11, 3) := by decide +kernel
theorem d_T_runRoutine_32 : decode b_T_runRoutine 32 = .ok (.aload_n 0, 1) := by decide +kernel
theorem d_T_runRoutine_33 : decode b_T_runRoutine 33 = .ok (.iload_n 2, 1) := by decide +kernel
theorem d_T_runRoutine_34 : decode b_T_runRoutine 34 = .ok (.invokevirtual 257, 3) := by decide +kernel
theorem d_T_runRoutine_37 : decode b_T_runRoutine 37 = .ok (.goto 8, 3) := by decide +kernel
theorem d_T_runRoutine_40 : decode b_T_runRoutine 40 = .ok (.aload_n 0, 1) := by decide +kernel
theorem d_T_runRoutine_41 : decode b_T_runRoutine 41 = .ok (.iload_n 2, 1) := by decide +kernel
theorem d_T_runRoutine_42 : decode b_T_runRoutine 42 = .ok (.invokevirtual 260, 3) := by decide +kernel
theorem d_T_runRoutine_45 : decode b_T_runRoutine 45 = .ok (.ireturn, 1) := by decide +kernel
theorem d_T_eraseSlot_0 : decode b_T_eraseSlot 0 = .ok (.iload_n 1, 1) := by decide +kernel
theorem d_T_eraseSlot_1 : decode b_T_eraseSlot 1 = .ok (.aload_n 0, 1) := by decide +kernel
theorem d_T_eraseSlot_2 : decode b_T_eraseSlot 2 = .ok (.getfield 124, 3) := by decide +kernel
theorem d_T_eraseSlot_5 : decode b_T_eraseSlot 5 = .ok (.if_icmp .ne 6, 3) := by decide +kernel
theorem d_T_eraseSlot_8 : decode b_T_eraseSlot 8 = .ok (.bipush 34, 2) := by decide +kernel
theorem d_T_eraseSlot_10 : decode b_T_eraseSlot 10 = .ok (.ireturn, 1) := by decide +kernel
theorem d_T_eraseSlot_11 : decode b_T_eraseSlot 11 = .ok (.aload_n 0, 1) := by decide +kernel
theorem d_T_eraseSlot_12 : decode b_T_eraseSlot 12 = .ok (.iconst (-1), 1) := by decide +kernel
theorem d_T_eraseSlot_13 : decode b_T_eraseSlot 13 = .ok (.putfield 137, 3) := by decide +kernel
theorem d_T_eraseSlot_16 : decode b_T_eraseSlot 16 = .ok (.iconst 3, 1) := by decide +kernel
theorem d_T_eraseSlot_17 : decode b_T_eraseSlot 17 = .ok (.iload_n 1, 1) := by decide +kernel
theorem d_T_eraseSlot_18 : decode b_T_eraseSlot 18 = .ok (.imul, 1) := by decide +kernel
theorem d_T_eraseSlot_19 : decode b_T_eraseSlot 19 = .ok (.istore_n 2, 1) := by decide +kernel
theorem d_T_eraseSlot_20 : decode b_T_eraseSlot 20 = .ok (.aload_n 0, 1) := by decide +kernel
theorem d_T_eraseSlot_21 : decode b_T_eraseSlot 21 = .ok (.getfield 10, 3) := by decide +kernel
theorem d_T_eraseSlot_24 : decode b_T_eraseSlot 24 = .ok (.iload_n 2, 1) := by decide +kernel
theorem d_T_eraseSlot_25 : decode b_T_eraseSlot 25 = .ok (.iconst 2, 1) := by decide +kernel
theorem d_T_eraseSlot_26 : decode b_T_eraseSlot 26 = .ok (.iadd, 1) := by decide +kernel
theorem d_T_eraseSlot_27 : decode b_T_eraseSlot 27 = .ok (.invokevirtual 263, 3) := by decide +kernel
theorem d_T_eraseSlot_30 : decode b_T_eraseSlot 30 = .ok (.ifCond .eq 31, 3) := by decide +kernel
theorem d_T_eraseSlot_33 : decode b_T_eraseSlot 33 = .ok (.aload_n 0, 1) := by decide +kernel
theorem d_T_eraseSlot_34 : decode b_T_eraseSlot 34 = .ok (.getfield 10, 3) := by decide +kernel
theorem d_T_eraseSlot_37 : decode b_T_eraseSlot 37 = .ok (.iload_n 2, 1) := by decide +kernel
theorem d_T_eraseSlot_38 : decode b_T_eraseSlot 38 = .ok (.invokevirtual 263, 3) := by decide +kernel
theorem d_T_eraseSlot_41 : decode b_T_eraseSlot 41 = .ok (.ifCond .eq 20, 3) := by decide +kernel
theorem d_T_eraseSlot_44 : decode b_T_eraseSlot 44 = .ok (.aload_n 0, 1) := by decide +kernel
theorem d_T_eraseSlot_45 : decode b_T_eraseSlot 45 = .ok (.getfield 10, 3) := by decide +kernel
theorem d_T_eraseSlot_48 : decode b_T_eraseSlot 48 = .ok (.iload_n 2, 1) := by decide +kernel
theorem d_T_eraseSlot_49 : decode b_T_eraseSlot 49 = .ok (.iconst 1, 1) := by decide +kernel
theorem d_T_eraseSlot_50 : decode b_T_eraseSlot 50 = .ok (.iadd, 1) := by decide +kernel
theorem d_T_eraseSlot_51 : decode b_T_eraseSlot 51 = .ok (.invokevirtual 263, 3) := by decide +kernel
theorem d_T_eraseSlot_54 : decode b_T_eraseSlot 54 = .ok (.ifCond .eq 7, 3) := by decide +kernel
theorem d_T_eraseSlot_57 : decode b_T_eraseSlot 57 = .ok (.iconst 1, 1) := by decide +kernel
theorem d_T_eraseSlot_58 : decode b_T_eraseSlot 58 = .ok (.goto 4, 3) := by decide +kernel
theorem d_T_eraseSlot_61 : decode b_T_eraseSlot 61 = .ok (.iconst 0, 1) := by decide +kernel
theorem d_T_eraseSlot_62 : decode b_T_eraseSlot 62 = .ok (.istore_n 3, 1) := by decide +kernel
theorem d_T_eraseSlot_63 : decode b_T_eraseSlot 63 = .ok (.iload_n 3, 1) := by decide +kernel
theorem d_T_eraseSlot_64 : decode b_T_eraseSlot 64 = .ok (.ifCond .eq 7, 3) := by decide +kernel
theorem d_T_eraseSlot_67 : decode b_T_eraseSlot 67 = .ok (.iconst 0, 1) := by decide +kernel
theorem d_T_eraseSlot_68 : decode b_T_eraseSlot 68 = .ok (.goto 4, 3) := by decide +kernel
theorem d_T_eraseSlot_71 : decode b_T_eraseSlot 71 = .ok (.iconst (-1), 1) := by decide +kernel
theorem d_T_eraseSlot_72 : decode b_T_eraseSlot 72 = .ok (.ireturn, 1) := by decide +kernel
theorem d_T_checkSlot_0 : decode b_T_checkSlot 0 = .ok (.aload_n 0, 1) := by decide +kernel
theorem d_T_checkSlot_1 : decode b_T_checkSlot 1 = .ok (.getfield 10, 3) := by decide +kernel
theorem d_T_checkSlot_4 : decode b_T_checkSlot 4 = .ok (.iload_n 1, 1) := by decide +kernel
theorem d_T_checkSlot_5 : decode b_T_checkSlot 5 = .ok (.invokevirtual 266, 3) := by decide +kernel
theorem d_T_checkSlot_8 : decode b_T_checkSlot 8 = .ok (.sipush 256, 3) := by decide +kernel
theorem d_T_checkSlot_11 : decode b_T_checkSlot 11 = .ok (.aload_n 0, 1) := by decide +kernel
theorem d_T_checkSlot_12 : decode b_T_checkSlot 12 = .ok (.getfield 19, 3) := by decide +kernel
theorem d_T_checkSlot_15 : decode b_T_checkSlot 15 = .ok (.iconst 4, 1) := by decide +kernel
theorem d_T_checkSlot_16 : decode b_T_checkSlot 16 = .ok (.invokevirtual 174, 3) := by decide +kernel
theorem d_T_checkSlot_19 : decode b_T_checkSlot 19 = .ok (.imul, 1) := by decide +kernel
theorem d_T_checkSlot_20 : decode b_T_checkSlot 20 = .ok (.aload_n 0, 1) := by decide +kernel
theorem d_T_checkSlot_21 : decode b_T_checkSlot 21 = .ok (.getfield 19, 3) := by decide +kernel
theorem d_T_checkSlot_24 : decode b_T_checkSlot 24 = .ok (.iconst 5, 1) := by decide +kernel
theorem d_T_checkSlot_25 : decode b_T_checkSlot 25 = .ok (.invokevirtual 174, 3) := by decide +kernel
theorem d_T_checkSlot_28 : decode b_T_checkSlot 28 = .ok (.iadd, 1) := by decide +kernel
theorem d_T_checkSlot_29 : decode b_T_checkSlot 29 = .ok (.if_icmp .ne 7, 3) := by decide +kernel
theorem d_T_checkSlot_32 : decode b_T_checkSlot 32 = .ok (.iconst 1, 1) := by decide +kernel
theorem d_T_checkSlot_33 : decode b_T_checkSlot 33 = .ok (.goto 4, 3) := by decide +kernel
theorem d_T_checkSlot_36 : decode b_T_checkSlot 36 = .ok (.iconst 0, 1) := by decide +kernel
theorem d_T_checkSlot_37 : decode b_T_checkSlot 37 = .ok (.istore_n 2, 1) := by decide +kernel
theorem d_T_checkSlot_38 : decode b_T_checkSlot 38 = .ok (.iload_n 2, 1) := by decide +kernel
theorem d_T_checkSlot_39 : decode b_T_checkSlot 39 = .ok (.ifCond .eq 11, 3) := by decide +kernel
theorem d_T_checkSlot_42 : decode b_T_checkSlot 42 = .ok (.aload_n 0, 1) := by decide +kernel
theorem d_T_checkSlot_43 : decode b_T_checkSlot 43 = .ok (.iload_n 1, 1) := by decide +kernel
theorem d_T_checkSlot_44 : decode b_T_checkSlot 44 = .ok (.putfield 137, 3) := by decide +kernel
theorem d_T_checkSlot_47 : decode b_T_checkSlot 47 = .ok (.goto 16, 3) := by decide +kernel
theorem d_T_checkSlot_50 : decode b_T_checkSlot 50 = .ok (.aload_n 0, 1) := by decide +kernel
theorem d_T_checkSlot_51 : decode b_T_checkSlot 51 = .ok (.getfield 137, 3) := by decide +kernel
theorem d_T_checkSlot_54 : decode b_T_checkSlot 54 = .ok (.iload_n 1, 1) := by decide +kernel
theorem d_T_checkSlot_55 : decode b_T_checkSlot 55 = .ok (.if_icmp .ne 8, 3) := by decide +kernel
theorem d_T_checkSlot_58 : decode b_T_checkSlot 58 = .ok (.aload_n 0, 1) := by decide +kernel
theorem d_T_checkSlot_59 : decode b_T_checkSlot 59 = .ok (.iconst (-1), 1) := by decide +kernel
theorem d_T_checkSlot_60 : decode b_T_checkSlot 60 = .ok (.putfield 137, 3) := by decide +kernel
theorem d_T_checkSlot_63 : decode b_T_checkSlot 63 = .ok (.aload_n 0, 1) := by decide +kernel
theorem d_T_checkSlot_64 : decode b_T_checkSlot 64 = .ok (.iload_n 2, 1) := by decide +kernel
theorem d_T_checkSlot_65 : decode b_T_checkSlot 65 = .ok (.ifCond .eq 7, 3) := by decide +kernel
theorem d_T_checkSlot_68 : decode b_T_checkSlot 68 = .ok (.iconst 1, 1) := by decide +kernel
theorem d_T_checkSlot_69 : decode b_T_checkSlot 69 = .ok (.goto 4, 3) := by decide +kernel
theorem d_T_checkSlot_72 : decode b_T_checkSlot 72 = .ok (.iconst 0, 1) := by decide +kernel
theorem d_T_checkSlot_73 : decode b_T_checkSlot 73 = .ok (.invokevirtual 211, 3) := by decide +kernel
theorem d_T_checkSlot_76 : decode b_T_checkSlot 76 = .ok (.ireturn, 1) := by decide +kernel
theorem d_T_releaseSlot_0 : decode b_T_releaseSlot 0 = .ok (.iload_n 1, 1) := by decide +kernel
theorem d_T_releaseSlot_1 : decode b_T_releaseSlot 1 = .ok (.aload_n 0, 1) := by decide +kernel
theorem d_T_releaseSlot_2 : decode b_T_releaseSlot 2 = .ok (.getfield 124, 3) := by decide +kernel
theorem d_T_releaseSlot_5 : decode b_T_releaseSlot 5 = .ok (.if_icmp .eq 11, 3) := by decide +kernel
theorem d_T_releaseSlot_8 : decode b_T_releaseSlot 8 = .ok (.iload_n 1, 1) := by decide +kernel
theorem d_T_releaseSlot_9 : decode b_T_releaseSlot 9 = .ok (.aload_n 0, 1) := by decide +kernel
theorem d_T_releaseSlot_10 : decode b_T_releaseSlot 10 = .ok (.getfield 137, 3) := by decide +kernel
theorem d_T_releaseSlot_13 : decode b_T_releaseSlot 13 = .ok (.if_icmp .eq 6, 3) := by decide +kernel
theorem d_T_releaseSlot_16 : decode b_T_releaseSlot 16 = .ok (.bipush 34, 2) := by decide +kernel
theorem d_T_releaseSlot_18 : decode b_T_releaseSlot 18 = .ok (.ireturn, 1) := by decide +kernel
theorem d_T_releaseSlot_19 : decode b_T_releaseSlot 19 = .ok (.aload_n 0, 1) := by decide +kernel
theorem d_T_releaseSlot_20 : decode b_T_releaseSlot 20 = .ok (.getfield 10, 3) := by decide +kernel
theorem d_T_releaseSlot_23 : decode b_T_releaseSlot 23 = .ok (.iconst 0, 1) := by decide +kernel
theorem d_T_releaseSlot_24 : decode b_T_releaseSlot 24 = .ok (.invokevirtual 269, 3) := by decide +kernel
theorem d_T_releaseSlot_27 : decode b_T_releaseSlot 27 = .ok (.aload_n 0, 1) := by decide +kernel
theorem d_T_releaseSlot_28 : decode b_T_releaseSlot 28 = .ok (.getfield 10, 3) := by decide +kernel
theorem d_T_releaseSlot_31 : decode b_T_releaseSlot 31 = .ok (.iconst 1, 1) := by decide +kernel
theorem d_T_releaseSlot_32 : decode b_T_releaseSlot 32 = .ok (.invokevirtual 269, 3) := by decide +kernel
theorem d_T_releaseSlot_35 : decode b_T_releaseSlot 35 = .ok (.invokestatic 272, 3) := by decide +kernel
theorem d_T_releaseSlot_38 : decode b_T_releaseSlot 38 = .ok (.istore_n 2, 1) := by decide +kernel
theorem d_T_releaseSlot_39 : decode b_T_releaseSlot 39 = .ok (.aload_n 0, 1) := by decide +kernel
theorem d_T_releaseSlot_40 : decode b_T_releaseSlot 40 = .ok (.getfield 10, 3) := by decide +kernel
theorem d_T_releaseSlot_43 : decode b_T_releaseSlot 43 = .ok (.iload_n 1, 1) := by decide +kernel
theorem d_T_releaseSlot_44 : decode b_T_releaseSlot 44 = .ok (.invokevirtual 266, 3) := by decide +kernel
theorem d_T_releaseSlot_47 : decode b_T_releaseSlot 47 = .ok (.istore_n 3, 1) := by decide +kernel
theorem d_T_releaseSlot_48 : decode b_T_releaseSlot 48 = .ok (.iload_n 1, 1) := by decide +kernel
theorem d_T_releaseSlot_49 : decode b_T_releaseSlot 49 = .ok (.invokestatic 277, 3) := by decide +kernel
theorem d_T_releaseSlot_52 : decode b_T_releaseSlot 52 = .ok (.istore 4, 2) := by decide +kernel
theorem d_T_releaseSlot_54 : decode b_T_releaseSlot 54 = .ok (.aload_n 0, 1) := by decide +kernel
theorem d_T_releaseSlot_55 : decode b_T_releaseSlot 55 = .ok (.getfield 49, 3) := by decide +kernel
theorem d_T_releaseSlot_58 : decode b_T_releaseSlot 58 = .ok (.iconst 0, 1) := by decide +kernel
theorem d_T_releaseSlot_59 : decode b_T_releaseSlot 59 = .ok (.iload_n 2, 1) := by decide +kernel
theorem d_T_releaseSlot_60 : decode b_T_releaseSlot 60 = .ok (.iconst (-1), 1) := by decide +kernel
theorem d_T_releaseSlot_61 : decode b_T_releaseSlot 61 = .ok (.if_icmp .ne 7, 3) := by decide +kernel
theorem d_T_releaseSlot_64 : decode b_T_releaseSlot 64 = .ok (.iconst 1, 1) := by decide +kernel
theorem d_T_releaseSlot_65 : decode b_T_releaseSlot 65 = .ok (.goto 10, 3) := by decide +kernel
theorem d_T_releaseSlot_68 : decode b_T_releaseSlot 68 = .ok (.iload_n 2, 1) := by decide +kernel
theorem d_T_releaseSlot_69 : decode b_T_releaseSlot 69 = .ok (.iconst 1, 1) := by decide +kernel
theorem d_T_releaseSlot_70 : decode b_T_releaseSlot 70 = .ok (.iadd, 1) := by decide +kernel
theorem d_T_releaseSlot_71 : decode b_T_releaseSlot 71 = .ok (.sipush 255, 3) := by decide +kernel
theorem d_T_releaseSlot_74 : decode b_T_releaseSlot 74 = .ok (.iand, 1) := by decide +kernel
theorem d_T_releaseSlot_75 : decode b_T_releaseSlot 75 = .ok (.iastore, 1) := by decide +kernel
theorem d_T_releaseSlot_76 : decode b_T_releaseSlot 76 = .ok (.aload_n 0, 1) := by decide +kernel
theorem d_T_releaseSlot_77 : decode b_T_releaseSlot 77 = .ok (.getfield 49, 3) := by decide +kernel
theorem d_T_releaseSlot_80 : decode b_T_releaseSlot 80 = .ok (.iconst 1, 1) := by decide +kernel
theorem d_T_releaseSlot_81 : decode b_T_releaseSlot 81 = .ok (.iload_n 3, 1) := by decide +kernel
theorem d_T_releaseSlot_82 : decode b_T_releaseSlot 82 = .ok (.bipush 8, 2) := by decide +kernel
theorem d_T_releaseSlot_84 : decode b_T_releaseSlot 84 = .ok (.iushr, 1) := by decide +kernel
theorem d_T_releaseSlot_85 : decode b_T_releaseSlot 85 = .ok (.iastore, 1) := by decide +kernel
theorem d_T_releaseSlot_86 : decode b_T_releaseSlot 86 = .ok (.aload_n 0, 1) := by decide +kernel
theorem d_T_releaseSlot_87 : decode b_T_releaseSlot 87 = .ok (.getfield 49, 3) := by decide +kernel
theorem d_T_releaseSlot_90 : decode b_T_releaseSlot 90 = .ok (.iconst 2, 1) := by decide +kernel
theorem d_T_releaseSlot_91 : decode b_T_releaseSlot 91 = .ok (.iload_n 3, 1) := by decide +kernel
theorem d_T_releaseSlot_92 : decode b_T_releaseSlot 92 = .ok (.sipush 255, 3) := by decide +kernel
theorem d_T_releaseSlot_95 : decode b_T_releaseSlot 95 = .ok (.iand, 1) := by decide +kernel
theorem d_T_releaseSlot_96 : decode b_T_releaseSlot 96 = .ok (.iastore, 1) := by decide +kernel
theorem d_T_releaseSlot_97 : decode b_T_releaseSlot 97 = .ok (.aload_n 0, 1) := by decide +kernel
theorem d_T_releaseSlot_98 : decode b_T_releaseSlot 98 = .ok (.getfield 10, 3) := by decide +kernel
theorem d_T_releaseSlot_101 : decode b_T_releaseSlot 101 = .ok (.iload 4, 2) := by decide +kernel
theorem d_T_releaseSlot_103 : decode b_T_releaseSlot 103 = .ok (.iconst 1, 1) := by decide +kernel
theorem d_T_releaseSlot_104 : decode b_T_releaseSlot 104 = .ok (.iadd, 1) := by decide +kernel
theorem d_T_releaseSlot_105 : decode b_T_releaseSlot 105 = .ok (.aload_n 0, 1) := by decide +kernel
theorem d_T_releaseSlot_106 : decode b_T_releaseSlot 106 = .ok (.getfield 49, 3) := by decide +kernel
theorem d_T_releaseSlot_109 : decode b_T_releaseSlot 109 = .ok (.iconst 0, 1) := by decide +kernel
theorem d_T_releaseSlot_110 : decode b_T_releaseSlot 110 = .ok (.iconst 3, 1) := by decide +kernel
theorem d_T_releaseSlot_111 : decode b_T_releaseSlot 111 = .ok (.invokevirtual 280, 3) := by decide +kernel
theorem d_T_releaseSlot_114 : decode b_T_releaseSlot 114 = .ok (.ifCond .ne 5, 3) := by decide +kernel
theorem d_T_releaseSlot_117 : decode b_T_releaseSlot 117 = .ok (.iconst (-1), 1) := by decide +kernel
theorem d_T_releaseSlot_118 : decode b_T_releaseSlot 118 = .ok (.ireturn, 1) := by decide +kernel
theorem d_T_releaseSlot_119 : decode b_T_releaseSlot 119 = .ok (.aload_n 0, 1) := by decide +kernel
theorem d_T_releaseSlot_120 : decode b_T_releaseSlot 120 = .ok (.getfield 49, 3) := by decide +kernel
theorem d_T_releaseSlot_123 : decode b_T_releaseSlot 123 = .ok (.iconst 0, 1) := by decide +kernel
theorem d_T_releaseSlot_124 : decode b_T_releaseSlot 124 = .ok (.iconst 0, 1) := by decide +kernel
theorem d_T_releaseSlot_125 : decode b_T_releaseSlot 125 = .ok (.iastore, 1) := by decide +kernel
theorem d_T_releaseSlot_126 : decode b_T_releaseSlot 126 = .ok (.aload_n 0, 1) := by decide +kernel
theorem d_T_releaseSlot_127 : decode b_T_releaseSlot 127 = .ok (.getfield 10, 3) := by decide +kernel
theorem d_T_releaseSlot_130 : decode b_T_releaseSlot 130 = .ok (.iload 4, 2) := by decide +kernel
theorem d_T_releaseSlot_132 : decode b_T_releaseSlot 132 = .ok (.aload_n 0, 1) := by decide +kernel
theorem d_T_releaseSlot_133 : decode b_T_releaseSlot 133 = .ok (.getfield 49, 3) := by decide +kernel
theorem d_T_releaseSlot_136 : decode b_T_releaseSlot 136 = .ok (.iconst 0, 1) := by decide +kernel
theorem d_T_releaseSlot_137 : decode b_T_releaseSlot 137 = .ok (.iconst 1, 1) := by decide +kernel
theorem d_T_releaseSlot_138 : decode b_T_releaseSlot 138 = .ok (.invokevirtual 280, 3) := by decide +kernel
theorem d_T_releaseSlot_141 : decode b_T_releaseSlot 141 = .ok (.ifCond .eq 7, 3) := by decide +kernel
theorem d_T_releaseSlot_144 : decode b_T_releaseSlot 144 = .ok (.iconst 0, 1) := by decide +kernel
theorem d_T_releaseSlot_145 : decode b_T_releaseSlot 145 = .ok (.goto 4, 3) := by decide +kernel
theorem d_T_releaseSlot_148 : decode b_T_releaseSlot 148 = .ok (.iconst (-1), 1) := by decide +kernel
theorem d_T_releaseSlot_149 : decode b_T_releaseSlot 149 = .ok (.ireturn, 1) := by decide +kernel
theorem d_T_beginDownload_0 : decode b_T_beginDownload 0 = .ok (.iload_n 1, 1) := by decide +kernel
theorem d_T_beginDownload_1 : decode b_T_beginDownload 1 = .ok (.aload_n 0, 1) := by decide +kernel
theorem d_T_beginDownload_2 : decode b_T_beginDownload 2 = .ok (.getfield 124, 3) := by decide +kernel
theorem d_T_beginDownload_5 : decode b_T_beginDownload 5 = .ok (.if_icmp .ne 6, 3) := by decide +kernel
theorem d_T_beginDownload_8 : decode b_T_beginDownload 8 = .ok (.bipush 34, 2) := by decide +kernel
theorem d_T_beginDownload_10 : decode b_T_beginDownload 10 = .ok (.ireturn, 1) := by decide +kernel
theorem d_T_beginDownload_11 : decode b_T_beginDownload 11 = .ok (.aload_n 0, 1) := by decide +kernel
theorem d_T_beginDownload_12 : decode b_T_beginDownload 12 = .ok (.getfield 45, 3) := by decide +kernel
theorem d_T_beginDownload_15 : decode b_T_beginDownload 15 = .ok (.iload_n 1, 1) := by decide +kernel
theorem d_T_beginDownload_16 : decode b_T_beginDownload 16 = .ok (.iload_n 2, 1) := by decide +kernel
theorem d_T_beginDownload_17 : decode b_T_beginDownload 17 = .ok (.invokevirtual 284, 3) := by decide +kernel
theorem d_T_beginDownload_20 : decode b_T_beginDownload 20 = .ok (.aload_n 0, 1) := by decide +kernel
theorem d_T_beginDownload_21 : decode b_T_beginDownload 21 = .ok (.iconst (-1), 1) := by decide +kernel
theorem d_T_beginDownload_22 : decode b_T_beginDownload 22 = .ok (.putfield 137, 3) := by decide +kernel
theorem d_T_beginDownload_25 : decode b_T_beginDownload 25 = .ok (.aload_n 0, 1) := by decide +kernel
theorem d_T_beginDownload_26 : decode b_T_beginDownload 26 = .ok (.bipush 8, 2) := by decide +kernel
theorem d_T_beginDownload_28 : decode b_T_beginDownload 28 = .ok (.invokevirtual 211, 3) := by decide +kernel
theorem d_T_beginDownload_31 : decode b_T_beginDownload 31 = .ok (.ireturn, 1) := by decide +kernel
theorem d_T_takeBlock_0 : decode b_T_takeBlock 0 = .ok (.aload_n 0, 1) := by decide +kernel
theorem d_T_takeBlock_1 : decode b_T_takeBlock 1 = .ok (.getfield 45, 3) := by decide +kernel
theorem d_T_takeBlock_4 : decode b_T_takeBlock 4 = .ok (.invokevirtual 130, 3) := by decide +kernel
theorem d_T_takeBlock_7 : decode b_T_takeBlock 7 = .ok (.ifCond .gt 6, 3) := by decide +kernel
theorem d_T_takeBlock_10 : decode b_T_takeBlock 10 = .ok (.bipush 36, 2) := by decide +kernel
theorem d_T_takeBlock_12 : decode b_T_takeBlock 12 = .ok (.ireturn, 1) := by decide +kernel
theorem d_T_takeBlock_13 : decode b_T_takeBlock 13 = .ok (.aload_n 0, 1) := by decide +kernel
theorem d_T_takeBlock_14 : decode b_T_takeBlock 14 = .ok (.getfield 45, 3) := by decide +kernel
theorem d_T_takeBlock_17 : decode b_T_takeBlock 17 = .ok (.iload_n 1, 1) := by decide +kernel
theorem d_T_takeBlock_18 : decode b_T_takeBlock 18 = .ok (.invokevirtual 286, 3) := by decide +kernel
theorem d_T_takeBlock_21 : decode b_T_takeBlock 21 = .ok (.ifCond .eq 9, 3) := by decide +kernel
theorem d_T_takeBlock_24 : decode b_T_takeBlock 24 = .ok (.aload_n 0, 1) := by decide +kernel
theorem d_T_takeBlock_25 : decode b_T_takeBlock 25 = .ok (.iload_n 1, 1) := by decide +kernel
theorem d_T_takeBlock_26 : decode b_T_takeBlock 26 = .ok (.invokevirtual 211, 3) := by decide +kernel
theorem d_T_takeBlock_29 : decode b_T_takeBlock 29 = .ok (.ireturn, 1) := by decide +kernel
theorem d_T_takeBlock_30 : decode b_T_takeBlock 30 = .ok (.aload_n 0, 1) := by decide +kernel
theorem d_T_takeBlock_31 : decode b_T_takeBlock 31 = .ok (.getfield 45, 3) := by decide +kernel
theorem d_T_takeBlock_34 : decode b_T_takeBlock 34 = .ok (.iload_n 1, 1) := by decide +kernel
theorem d_T_takeBlock_35 : decode b_T_takeBlock 35 = .ok (.invokevirtual 289, 3) := by decide +kernel
theorem d_T_takeBlock_38 : decode b_T_takeBlock 38 = .ok (.ifCond .ne 6, 3) := by decide +kernel
theorem d_T_takeBlock_41 : decode b_T_takeBlock 41 = .ok (.bipush 115, 2) := by decide +kernel
theorem d_T_takeBlock_43 : decode b_T_takeBlock 43 = .ok (.ireturn, 1) := by decide +kernel
theorem d_T_takeBlock_44 : decode b_T_takeBlock 44 = .ok (.iload_n 2, 1) := by decide +kernel
theorem d_T_takeBlock_45 : decode b_T_takeBlock 45 = .ok (.aload_n 0, 1) := by decide +kernel
theorem d_T_takeBlock_46 : decode b_T_takeBlock 46 = .ok (.getfield 45, 3) := by decide +kernel
theorem d_T_takeBlock_49 : decode b_T_takeBlock 49 = .ok (.invokevirtual 130, 3) := by decide +kernel
theorem d_T_takeBlock_52 : decode b_T_takeBlock 52 = .ok (.if_icmp .le 6, 3) := by decide +kernel
theorem d_T_takeBlock_55 : decode b_T_takeBlock 55 = .ok (.bipush 49, 2) := by decide +kernel
theorem d_T_takeBlock_57 : decode b_T_takeBlock 57 = .ok (.ireturn, 1) := by decide +kernel
theorem d_T_takeBlock_58 : decode b_T_takeBlock 58 = .ok (.aload_n 0, 1) := by decide +kernel
theorem d_T_takeBlock_59 : decode b_T_takeBlock 59 = .ok (.getfield 45, 3) := by decide +kernel
theorem d_T_takeBlock_62 : decode b_T_takeBlock 62 = .ok (.getfield 292, 3) := by decide +kernel
theorem d_T_takeBlock_65 : decode b_T_takeBlock 65 = .ok (.invokestatic 248, 3) := by decide +kernel
theorem d_T_takeBlock_68 : decode b_T_takeBlock 68 = .ok (.aload_n 0, 1) := by decide +kernel
theorem d_T_takeBlock_69 : decode b_T_takeBlock 69 = .ok (.getfield 45, 3) := by decide +kernel
theorem d_T_takeBlock_72 : decode b_T_takeBlock 72 = .ok (.getfield 295, 3) := by decide +kernel
theorem d_T_takeBlock_75 : decode b_T_takeBlock 75 = .ok (.iadd, 1) := by decide +kernel
theorem d_T_takeBlock_76 : decode b_T_takeBlock 76 = .ok (.istore_n 3, 1) := by decide +kernel
theorem d_T_takeBlock_77 : decode b_T_takeBlock 77 = .ok (.aload_n 0, 1) := by decide +kernel
theorem d_T_takeBlock_78 : decode b_T_takeBlock 78 = .ok (.getfield 45, 3) := by decide +kernel
theorem d_T_takeBlock_81 : decode b_T_takeBlock 81 = .ok (.iload_n 2, 1) := by decide +kernel
theorem d_T_takeBlock_82 : decode b_T_takeBlock 82 = .ok (.invokevirtual 298, 3) := by decide +kernel
theorem d_T_takeBlock_85 : decode b_T_takeBlock 85 = .ok (.aload_n 0, 1) := by decide +kernel
theorem d_T_takeBlock_86 : decode b_T_takeBlock 86 = .ok (.getfield 10, 3) := by decide +kernel
theorem d_T_takeBlock_89 : decode b_T_takeBlock 89 = .ok (.iload_n 3, 1) := by decide +kernel
theorem d_T_takeBlock_90 : decode b_T_takeBlock 90 = .ok (.aload_n 0, 1) := by decide +kernel
theorem d_T_takeBlock_91 : decode b_T_takeBlock 91 = .ok (.getfield 19, 3) := by decide +kernel
theorem d_T_takeBlock_94 : decode b_T_takeBlock 94 = .ok (.getfield 301, 3) := by decide +kernel
theorem d_T_takeBlock_97 : decode b_T_takeBlock 97 = .ok (.iconst 2, 1) := by decide +kernel
theorem d_T_takeBlock_98 : decode b_T_takeBlock 98 = .ok (.iload_n 2, 1) := by decide +kernel
theorem d_T_takeBlock_99 : decode b_T_takeBlock 99 = .ok (.invokevirtual 280, 3) := by decide +kernel
theorem d_T_takeBlock_102 : decode b_T_takeBlock 102 = .ok (.ifCond .ne 5, 3) := by decide +kernel
theorem d_T_takeBlock_105 : decode b_T_takeBlock 105 = .ok (.iconst (-1), 1) := by decide +kernel
theorem d_T_takeBlock_106 : decode b_T_takeBlock 106 = .ok (.ireturn, 1) := by decide +kernel
theorem d_T_takeBlock_107 : decode b_T_takeBlock 107 = .ok (.aload_n 0, 1) := by decide +kernel
theorem d_T_takeBlock_108 : decode b_T_takeBlock 108 = .ok (.getfield 10, 3) := by decide +kernel
theorem d_T_takeBlock_111 : decode b_T_takeBlock 111 = .ok (.iload_n 3, 1) := by decide +kernel
theorem d_T_takeBlock_112 : decode b_T_takeBlock 112 = .ok (.aload_n 0, 1) := by decide +kernel
theorem d_T_takeBlock_113 : decode b_T_takeBlock 113 = .ok (.getfield 19, 3) := by decide +kernel
theorem d_T_takeBlock_116 : decode b_T_takeBlock 116 = .ok (.getfield 301, 3) := by decide +kernel
theorem d_T_takeBlock_119 : decode b_T_takeBlock 119 = .ok (.iconst 2, 1) := by decide +kernel
theorem d_T_takeBlock_120 : decode b_T_takeBlock 120 = .ok (.iload_n 2, 1) := by decide +kernel
theorem d_T_takeBlock_121 : decode b_T_takeBlock 121 = .ok (.invokevirtual 304, 3) := by decide +kernel
theorem d_T_takeBlock_124 : decode b_T_takeBlock 124 = .ok (.ifCond .eq 11, 3) := by decide +kernel
theorem d_T_takeBlock_127 : decode b_T_takeBlock 127 = .ok (.aload_n 0, 1) := by decide +kernel
theorem d_T_takeBlock_128 : decode b_T_takeBlock 128 = .ok (.iload_n 1, 1) := by decide +kernel
theorem d_T_takeBlock_129 : decode b_T_takeBlock 129 = .ok (.invokevirtual 211, 3) := by decide +kernel
theorem d_T_takeBlock_132 : decode b_T_takeBlock 132 = .ok (.goto 5, 3) := by decide +kernel
theorem d_T_takeBlock_135 : decode b_T_takeBlock 135 = .ok (.bipush 114, 2) := by decide +kernel
theorem d_T_takeBlock_137 : decode b_T_takeBlock 137 = .ok (.ireturn, 1) := by decide +kernel
theorem d_T_endDownload_0 : decode b_T_endDownload 0 = .ok (.aload_n 0, 1) := by decide +kernel
theorem d_T_endDownload_1 : decode b_T_endDownload 1 = .ok (.getfield 45, 3) := by decide +kernel
theorem d_T_endDownload_4 : decode b_T_endDownload 4 = .ok (.invokevirtual 130, 3) := by decide +kernel
theorem d_T_endDownload_7 : decode b_T_endDownload 7 = .ok (.ifCond .eq 6, 3) := by decide +kernel
theorem d_T_endDownload_10 : decode b_T_endDownload 10 = .ok (.bipush 36, 2) := by decide +kernel
theorem d_T_endDownload_12 : decode b_T_endDownload 12 = .ok (.ireturn, 1) := by decide +kernel
theorem d_T_endDownload_13 : decode b_T_endDownload 13 = .ok (.aload_n 0, 1) := by decide +kernel
theorem d_T_endDownload_14 : decode b_T_endDownload 14 = .ok (.getfield 45, 3) := by decide +kernel
theorem d_T_endDownload_17 : decode b_T_endDownload 17 = .ok (.invokevirtual 155, 3) := by decide +kernel
theorem d_T_endDownload_20 : decode b_T_endDownload 20 = .ok (.iconst 0, 1) := by decide +kernel
theorem d_T_endDownload_21 : decode b_T_endDownload 21 = .ok (.ireturn, 1) := by decide +kernel
theorem d_M_init_0 : decode b_M_init 0 = .ok (.aload_n 0, 1) := by decide +kernel
theorem d_M_init_1 : decode b_M_init 1 = .ok (.invokespecial 1, 3) := by decide +kernel
theorem d_M_init_4 : decode b_M_init 4 = .ok (.aload_n 0, 1) := by decide +kernel
theorem d_M_init_5 : decode b_M_init 5 = .ok (.bipush 96, 2) := by decide +kernel
theorem d_M_init_7 : decode b_M_init 7 = .ok (.newarray .int, 2) := by decide +kernel
theorem d_M_init_9 : decode b_M_init 9 = .ok (.putfield 7, 3) := by decide +kernel
theorem d_M_init_12 : decode b_M_init 12 = .ok (.aload_n 0, 1) := by decide +kernel
theorem d_M_init_13 : decode b_M_init 13 = .ok (.iconst (-1), 1) := by decide +kernel
theorem d_M_init_14 : decode b_M_init 14 = .ok (.putfield 13, 3) := by decide +kernel
theorem d_M_init_17 : decode b_M_init 17 = .ok (.aload_n 0, 1) := by decide +kernel
theorem d_M_init_18 : decode b_M_init 18 = .ok (.bipush 34, 2) := by decide +kernel
theorem d_M_init_20 : decode b_M_init 20 = .ok (.newarray .int, 2) := by decide +kernel
theorem d_M_init_22 : decode b_M_init 22 = .ok (.putfield 17, 3) := by decide +kernel
theorem d_M_init_25 : decode b_M_init 25 = .ok (.aload_n 0, 1) := by decide +kernel
theorem d_M_init_26 : decode b_M_init 26 = .ok (.bipush 20, 2) := by decide +kernel
theorem d_M_init_28 : decode b_M_init 28 = .ok (.newarray .int, 2) := by decide +kernel
theorem d_M_init_30 : decode b_M_init 30 = .ok (.putfield 20, 3) := by decide +kernel
theorem d_M_init_33 : decode b_M_init 33 = .ok (.aload_n 0, 1) := by decide +kernel
theorem d_M_init_34 : decode b_M_init 34 = .ok (.bipush 96, 2) := by decide +kernel
theorem d_M_init_36 : decode b_M_init 36 = .ok (.newarray .int, 2) := by decide +kernel
theorem d_M_init_38 : decode b_M_init 38 = .ok (.putfield 23, 3) := by decide +kernel
theorem d_M_init_41 : decode b_M_init 41 = .ok (.aload_n 0, 1) := by decide +kernel
theorem d_M_init_42 : decode b_M_init 42 = .ok (.bipush 8, 2) := by decide +kernel
theorem d_M_init_44 : decode b_M_init 44 = .ok (.newarray .int, 2) := by decide +kernel
theorem d_M_init_46 : decode b_M_init 46 = .ok (.putfield 26, 3) := by decide +kernel
theorem d_M_init_49 : decode b_M_init 49 = .ok (.iconst 0, 1) := by decide +kernel
theorem d_M_init_50 : decode b_M_init 50 = .ok (.istore_n 1, 1) := by decide +kernel
theorem d_M_init_51 : decode b_M_init 51 = .ok (.iload_n 1, 1) := by decide +kernel
theorem d_M_init_52 : decode b_M_init 52 = .ok (.bipush 96, 2) := by decide +kernel
theorem d_M_init_54 : decode b_M_init 54 = .ok (.if_icmp .ge 28, 3) := by decide +kernel
theorem d_M_init_57 : decode b_M_init 57 = .ok (.aload_n 0, 1) := by decide +kernel
theorem d_M_init_58 : decode b_M_init 58 = .ok (.getfield 7, 3) := by decide +kernel
theorem d_M_init_61 : decode b_M_init 61 = .ok (.iload_n 1, 1) := by decide +kernel
theorem d_M_init_62 : decode b_M_init 62 = .ok (.iload_n 1, 1) := by decide +kernel
theorem d_M_init_63 : decode b_M_init 63 = .ok (.bipush 32, 2) := by decide +kernel
theorem d_M_init_65 : decode b_M_init 65 = .ok (.if_icmp .ge 7, 3) := by decide +kernel
theorem d_M_init_68 : decode b_M_init 68 = .ok (.iload_n 1, 1) := by decide +kernel
theorem d_M_init_69 : decode b_M_init 69 = .ok (.goto 6, 3) := by decide +kernel
theorem d_M_init_72 : decode b_M_init 72 = .ok (.sipush 255, 3) := by decide +kernel
theorem d_M_init_75 : decode b_M_init 75 = .ok (.iastore, 1) := by decide +kernel
theorem d_M_init_76 : decode b_M_init 76 = .ok (.iinc 1 1, 3) := by decide +kernel
theorem d_M_init_79 : decode b_M_init 79 = .ok (.goto (-28), 3) := by decide +kernel
theorem d_M_init_82 : decode b_M_init 82 = .ok (.aload_n 0, 1) := by decide +kernel
theorem d_M_init_83 : decode b_M_init 83 = .ok (.iconst 0, 1) := by decide +kernel
theorem d_M_init_84 : decode b_M_init 84 = .ok (.invokevirtual 29, 3) := by decide +kernel
theorem d_M_init_87 : decode b_M_init 87 = .ok (.istore_n 1, 1) := by decide +kernel
theorem d_M_init_88 : decode b_M_init 88 = .ok (.aload_n 0, 1) := by decide +kernel
theorem d_M_init_89 : decode b_M_init 89 = .ok (.getfield 7, 3) := by decide +kernel
theorem d_M_init_92 : decode b_M_init 92 = .ok (.bipush 32, 2) := by decide +kernel
theorem d_M_init_94 : decode b_M_init 94 = .ok (.iconst 0, 1) := by decide +kernel
theorem d_M_init_95 : decode b_M_init 95 = .ok (.iastore, 1) := by decide +kernel
theorem d_M_init_96 : decode b_M_init 96 = .ok (.aload_n 0, 1) := by decide +kernel
theorem d_M_init_97 : decode b_M_init 97 = .ok (.getfield 7, 3) := by decide +kernel
theorem d_M_init_100 : decode b_M_init 100 = .ok (.bipush 33, 2) := by decide +kernel
theorem d_M_init_102 : decode b_M_init 102 = .ok (.iconst 1, 1) := by decide +kernel
theorem d_M_init_103 : decode b_M_init 103 = .ok (.iastore, 1) := by decide +kernel
theorem d_M_init_104 : decode b_M_init 104 = .ok (.aload_n 0, 1) := by decide +kernel
theorem d_M_init_105 : decode b_M_init 105 = .ok (.getfield 7, 3) := by decide +kernel
theorem d_M_init_108 : decode b_M_init 108 = .ok (.bipush 34, 2) := by decide +kernel
theorem d_M_init_110 : decode b_M_init 110 = .ok (.iload_n 1, 1) := by decide +kernel
theorem d_M_init_111 : decode b_M_init 111 = .ok (.sipush 256, 3) := by decide +kernel
theorem d_M_init_114 : decode b_M_init 114 = .ok (.idiv, 1) := by decide +kernel
theorem d_M_init_115 : decode b_M_init 115 = .ok (.iastore, 1) := by decide +kernel
theorem d_M_init_116 : decode b_M_init 116 = .ok (.aload_n 0, 1) := by decide +kernel
theorem d_M_init_117 : decode b_M_init 117 = .ok (.getfield 7, 3) := by decide +kernel
theorem d_M_init_120 : decode b_M_init 120 = .ok (.bipush 35, 2) := by decide +kernel
theorem d_M_init_122 : decode b_M_init 122 = .ok (.iload_n 1, 1) := by decide +kernel
