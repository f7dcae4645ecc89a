theorem d_M_block_84 : decode b_M_block 84 = .ok (.getfield 13, 3) := by decide +kernel
theorem d_M_block_87 : decode b_M_block 87 = .ok (.imul, 1) := by decide +kernel
theorem d_M_block_88 : decode b_M_block 88 = .ok (.aload_n 0, 1) := by decide +kernel
theorem d_M_block_89 : decode b_M_block 89 = .ok (.getfield 114, 3) := by decide +kernel
theorem d_M_block_92 : decode b_M_block 92 = .ok (.iadd, 1) := by decide +kernel
theorem d_M_block_93 : decode b_M_block 93 = .ok (.istore 4, 2) := by decide +kernel
theorem d_M_block_95 : decode b_M_block 95 = .ok (.iconst 0, 1) := by decide +kernel
theorem d_M_block_96 : decode b_M_block 96 = .ok (.istore 5, 2) := by decide +kernel
theorem d_M_block_98 : decode b_M_block 98 = .ok (.iload 5, 2) := by decide +kernel
theorem d_M_block_100 : decode b_M_block 100 = .ok (.iload_n 2, 1) := by decide +kernel
theorem d_M_block_101 : decode b_M_block 101 = .ok (.if_icmp .ge 40, 3) := by decide +kernel
theorem d_M_block_104 : decode b_M_block 104 = .ok (.aload_n 0, 1) := by decide +kernel
theorem d_M_block_105 : decode b_M_block 105 = .ok (.iload 4, 2) := by decide +kernel
theorem d_M_block_107 : decode b_M_block 107 = .ok (.iload 5, 2) := by decide +kernel
theorem d_M_block_109 : decode b_M_block 109 = .ok (.iadd, 1) := by decide +kernel
theorem d_M_block_110 : decode b_M_block 110 = .ok (.iload 5, 2) := by decide +kernel
theorem d_M_block_112 : decode b_M_block 112 = .ok (.aload_n 0, 1) := by decide +kernel
theorem d_M_block_113 : decode b_M_block 113 = .ok (.getfield 7, 3) := by decide +kernel
theorem d_M_block_116 : decode b_M_block 116 = .ok (.iload 4, 2) := by decide +kernel
theorem d_M_block_118 : decode b_M_block 118 = .ok (.iload 5, 2) := by decide +kernel
theorem d_M_block_120 : decode b_M_block 120 = .ok (.iadd, 1) := by decide +kernel
theorem d_M_block_121 : decode b_M_block 121 = .ok (.iaload, 1) := by decide +kernel
theorem d_M_block_122 : decode b_M_block 122 = .ok (.aload_n 0, 1) := by decide +kernel
theorem d_M_block_123 : decode b_M_block 123 = .ok (.getfield 17, 3) := by decide +kernel
theorem d_M_block_126 : decode b_M_block 126 = .ok (.iconst 2, 1) := by decide +kernel
theorem d_M_block_127 : decode b_M_block 127 = .ok (.iload 5, 2) := by decide +kernel
theorem d_M_block_129 : decode b_M_block 129 = .ok (.iadd, 1) := by decide +kernel
theorem d_M_block_130 : decode b_M_block 130 = .ok (.iaload, 1) := by decide +kernel
theorem d_M_block_131 : decode b_M_block 131 = .ok (.iand, 1) := by decide +kernel
theorem d_M_block_132 : decode b_M_block 132 = .ok (.invokevirtual 53, 3) := by decide +kernel
theorem d_M_block_135 : decode b_M_block 135 = .ok (.iinc 5 1, 3) := by decide +kernel
theorem d_M_block_138 : decode b_M_block 138 = .ok (.goto (-40), 3) := by decide +kernel
theorem d_M_block_141 : decode b_M_block 141 = .ok (.aload_n 0, 1) := by decide +kernel
theorem d_M_block_142 : decode b_M_block 142 = .ok (.invokevirtual 57, 3) := by decide +kernel
theorem d_M_block_145 : decode b_M_block 145 = .ok (.ifCond .eq 5, 3) := by decide +kernel
theorem d_M_block_148 : decode b_M_block 148 = .ok (.iconst (-1), 1) := by decide +kernel
theorem d_M_block_149 : decode b_M_block 149 = .ok (.ireturn, 1) := by decide +kernel
theorem d_M_block_150 : decode b_M_block 150 = .ok (.aload_n 0, 1) := by decide +kernel
theorem d_M_block_151 : decode b_M_block 151 = .ok (.dup, 1) := by decide +kernel
theorem d_M_block_152 : decode b_M_block 152 = .ok (.getfield 114, 3) := by decide +kernel
theorem d_M_block_155 : decode b_M_block 155 = .ok (.iload_n 2, 1) := by decide +kernel
theorem d_M_block_156 : decode b_M_block 156 = .ok (.iadd, 1) := by decide +kernel
theorem d_M_block_157 : decode b_M_block 157 = .ok (.putfield 114, 3) := by decide +kernel
theorem d_M_block_160 : decode b_M_block 160 = .ok (.aload_n 0, 1) := by decide +kernel
theorem d_M_block_161 : decode b_M_block 161 = .ok (.dup, 1) := by decide +kernel
theorem d_M_block_162 : decode b_M_block 162 = .ok (.getfield 150, 3) := by decide +kernel
theorem d_M_block_165 : decode b_M_block 165 = .ok (.iconst 1, 1) := by decide +kernel
theorem d_M_block_166 : decode b_M_block 166 = .ok (.iadd, 1) := by decide +kernel
theorem d_M_block_167 : decode b_M_block 167 = .ok (.putfield 150, 3) := by decide +kernel
theorem d_M_block_170 : decode b_M_block 170 = .ok (.iconst 0, 1) := by decide +kernel
theorem d_M_block_171 : decode b_M_block 171 = .ok (.istore 5, 2) := by decide +kernel
theorem d_M_block_173 : decode b_M_block 173 = .ok (.iload 5, 2) := by decide +kernel
theorem d_M_block_175 : decode b_M_block 175 = .ok (.iload_n 2, 1) := by decide +kernel
theorem d_M_block_176 : decode b_M_block 176 = .ok (.if_icmp .ge 34, 3) := by decide +kernel
theorem d_M_block_179 : decode b_M_block 179 = .ok (.aload_n 0, 1) := by decide +kernel
theorem d_M_block_180 : decode b_M_block 180 = .ok (.getfield 7, 3) := by decide +kernel
theorem d_M_block_183 : decode b_M_block 183 = .ok (.iload 4, 2) := by decide +kernel
theorem d_M_block_185 : decode b_M_block 185 = .ok (.iload 5, 2) := by decide +kernel
theorem d_M_block_187 : decode b_M_block 187 = .ok (.iadd, 1) := by decide +kernel
theorem d_M_block_188 : decode b_M_block 188 = .ok (.iaload, 1) := by decide +kernel
theorem d_M_block_189 : decode b_M_block 189 = .ok (.aload_n 0, 1) := by decide +kernel
theorem d_M_block_190 : decode b_M_block 190 = .ok (.getfield 17, 3) := by decide +kernel
theorem d_M_block_193 : decode b_M_block 193 = .ok (.iconst 2, 1) := by decide +kernel
theorem d_M_block_194 : decode b_M_block 194 = .ok (.iload 5, 2) := by decide +kernel
theorem d_M_block_196 : decode b_M_block 196 = .ok (.iadd, 1) := by decide +kernel
theorem d_M_block_197 : decode b_M_block 197 = .ok (.iaload, 1) := by decide +kernel
theorem d_M_block_198 : decode b_M_block 198 = .ok (.if_icmp .eq 6, 3) := by decide +kernel
theorem d_M_block_201 : decode b_M_block 201 = .ok (.bipush 114, 2) := by decide +kernel
theorem d_M_block_203 : decode b_M_block 203 = .ok (.ireturn, 1) := by decide +kernel
theorem d_M_block_204 : decode b_M_block 204 = .ok (.iinc 5 1, 3) := by decide +kernel
theorem d_M_block_207 : decode b_M_block 207 = .ok (.goto (-34), 3) := by decide +kernel
theorem d_M_block_210 : decode b_M_block 210 = .ok (.aload_n 0, 1) := by decide +kernel
theorem d_M_block_211 : decode b_M_block 211 = .ok (.bipush 118, 2) := by decide +kernel
theorem d_M_block_213 : decode b_M_block 213 = .ok (.invokevirtual 138, 3) := by decide +kernel
theorem d_M_block_216 : decode b_M_block 216 = .ok (.aload_n 0, 1) := by decide +kernel
theorem d_M_block_217 : decode b_M_block 217 = .ok (.iload_n 1, 1) := by decide +kernel
theorem d_M_block_218 : decode b_M_block 218 = .ok (.invokevirtual 138, 3) := by decide +kernel
theorem d_M_block_221 : decode b_M_block 221 = .ok (.iconst 0, 1) := by decide +kernel
theorem d_M_block_222 : decode b_M_block 222 = .ok (.ireturn, 1) := by decide +kernel
theorem d_M_leave_0 : decode b_M_leave 0 = .ok (.aload_n 0, 1) := by decide +kernel
theorem d_M_leave_1 : decode b_M_leave 1 = .ok (.invokevirtual 153, 3) := by decide +kernel
theorem d_M_leave_4 : decode b_M_leave 4 = .ok (.ifCond .eq 6, 3) := by decide +kernel
theorem d_M_leave_7 : decode b_M_leave 7 = .ok (.bipush 36, 2) := by decide +kernel
theorem d_M_leave_9 : decode b_M_leave 9 = .ok (.ireturn, 1) := by decide +kernel
theorem d_M_leave_10 : decode b_M_leave 10 = .ok (.aload_n 0, 1) := by decide +kernel
theorem d_M_leave_11 : decode b_M_leave 11 = .ok (.iconst (-1), 1) := by decide +kernel
theorem d_M_leave_12 : decode b_M_leave 12 = .ok (.putfield 13, 3) := by decide +kernel
theorem d_M_leave_15 : decode b_M_leave 15 = .ok (.aload_n 0, 1) := by decide +kernel
theorem d_M_leave_16 : decode b_M_leave 16 = .ok (.bipush 119, 2) := by decide +kernel
theorem d_M_leave_18 : decode b_M_leave 18 = .ok (.invokevirtual 138, 3) := by decide +kernel
theorem d_M_leave_21 : decode b_M_leave 21 = .ok (.iconst 0, 1) := by decide +kernel
theorem d_M_leave_22 : decode b_M_leave 22 = .ok (.ireturn, 1) := by decide +kernel
theorem d_M_workOn_0 : decode b_M_workOn 0 = .ok (.aload_n 0, 1) := by decide +kernel
theorem d_M_workOn_1 : decode b_M_workOn 1 = .ok (.getfield 17, 3) := by decide +kernel
theorem d_M_workOn_4 : decode b_M_workOn 4 = .ok (.iconst 0, 1) := by decide +kernel
theorem d_M_workOn_5 : decode b_M_workOn 5 = .ok (.iaload, 1) := by decide +kernel
theorem d_M_workOn_6 : decode b_M_workOn 6 = .ok (.lookupswitch 166 #[(16, 82), (17, 123), (34, 141), (39, 136), (46, 146), (49, 151), (52, 156), (54, 161), (62, 110)], 82) := by decide +kernel
theorem d_M_workOn_88 : decode b_M_workOn 88 = .ok (.aload_n 0, 1) := by decide +kernel
theorem d_M_workOn_89 : decode b_M_workOn 89 = .ok (.aload_n 0, 1) := by decide +kernel
theorem d_M_workOn_90 : decode b_M_workOn 90 = .ok (.getfield 17, 3) := by decide +kernel
theorem d_M_workOn_93 : decode b_M_workOn 93 = .ok (.iconst 1, 1) := by decide +kernel
theorem d_M_workOn_94 : decode b_M_workOn 94 = .ok (.iaload, 1) := by decide +kernel
theorem d_M_workOn_95 : decode b_M_workOn 95 = .ok (.invokevirtual 68, 3) := by decide +kernel
theorem d_M_workOn_98 : decode b_M_workOn 98 = .ok (.aload_n 0, 1) := by decide +kernel
theorem d_M_workOn_99 : decode b_M_workOn 99 = .ok (.bipush 80, 2) := by decide +kernel
theorem d_M_workOn_101 : decode b_M_workOn 101 = .ok (.invokevirtual 138, 3) := by decide +kernel
theorem d_M_workOn_104 : decode b_M_workOn 104 = .ok (.aload_n 0, 1) := by decide +kernel
theorem d_M_workOn_105 : decode b_M_workOn 105 = .ok (.aload_n 0, 1) := by decide +kernel
theorem d_M_workOn_106 : decode b_M_workOn 106 = .ok (.getfield 17, 3) := by decide +kernel
theorem d_M_workOn_109 : decode b_M_workOn 109 = .ok (.iconst 1, 1) := by decide +kernel
theorem d_M_workOn_110 : decode b_M_workOn 110 = .ok (.iaload, 1) := by decide +kernel
theorem d_M_workOn_111 : decode b_M_workOn 111 = .ok (.invokevirtual 138, 3) := by decide +kernel
theorem d_M_workOn_114 : decode b_M_workOn 114 = .ok (.iconst 0, 1) := by decide +kernel
theorem d_M_workOn_115 : decode b_M_workOn 115 = .ok (.ireturn, 1) := by decide +kernel
theorem d_M_workOn_116 : decode b_M_workOn 116 = .ok (.aload_n 0, 1) := by decide +kernel
theorem d_M_workOn_117 : decode b_M_workOn 117 = .ok (.bipush 126, 2) := by decide +kernel
theorem d_M_workOn_119 : decode b_M_workOn 119 = .ok (.invokevirtual 138, 3) := by decide +kernel
theorem d_M_workOn_122 : decode b_M_workOn 122 = .ok (.aload_n 0, 1) := by decide +kernel
theorem d_M_workOn_123 : decode b_M_workOn 123 = .ok (.iconst 0, 1) := by decide +kernel
theorem d_M_workOn_124 : decode b_M_workOn 124 = .ok (.invokevirtual 138, 3) := by decide +kernel
theorem d_M_workOn_127 : decode b_M_workOn 127 = .ok (.iconst 0, 1) := by decide +kernel
theorem d_M_workOn_128 : decode b_M_workOn 128 = .ok (.ireturn, 1) := by decide +kernel
theorem d_M_workOn_129 : decode b_M_workOn 129 = .ok (.aload_n 0, 1) := by decide +kernel
theorem d_M_workOn_130 : decode b_M_workOn 130 = .ok (.bipush 81, 2) := by decide +kernel
theorem d_M_workOn_132 : decode b_M_workOn 132 = .ok (.invokevirtual 138, 3) := by decide +kernel
theorem d_M_workOn_135 : decode b_M_workOn 135 = .ok (.aload_n 0, 1) := by decide +kernel
theorem d_M_workOn_136 : decode b_M_workOn 136 = .ok (.iconst 1, 1) := by decide +kernel
theorem d_M_workOn_137 : decode b_M_workOn 137 = .ok (.invokevirtual 138, 3) := by decide +kernel
theorem d_M_workOn_140 : decode b_M_workOn 140 = .ok (.iconst 0, 1) := by decide +kernel
theorem d_M_workOn_141 : decode b_M_workOn 141 = .ok (.ireturn, 1) := by decide +kernel
theorem d_M_workOn_142 : decode b_M_workOn 142 = .ok (.aload_n 0, 1) := by decide +kernel
theorem d_M_workOn_143 : decode b_M_workOn 143 = .ok (.invokevirtual 156, 3) := by decide +kernel
theorem d_M_workOn_146 : decode b_M_workOn 146 = .ok (.ireturn, 1) := by decide +kernel
theorem d_M_workOn_147 : decode b_M_workOn 147 = .ok (.aload_n 0, 1) := by decide +kernel
theorem d_M_workOn_148 : decode b_M_workOn 148 = .ok (.invokevirtual 159, 3) := by decide +kernel
theorem d_M_workOn_151 : decode b_M_workOn 151 = .ok (.ireturn, 1) := by decide +kernel
theorem d_M_workOn_152 : decode b_M_workOn 152 = .ok (.aload_n 0, 1) := by decide +kernel
theorem d_M_workOn_153 : decode b_M_workOn 153 = .ok (.invokevirtual 162, 3) := by decide +kernel
theorem d_M_workOn_156 : decode b_M_workOn 156 = .ok (.ireturn, 1) := by decide +kernel
theorem d_M_workOn_157 : decode b_M_workOn 157 = .ok (.aload_n 0, 1) := by decide +kernel
theorem d_M_workOn_158 : decode b_M_workOn 158 = .ok (.invokevirtual 165, 3) := by decide +kernel
theorem d_M_workOn_161 : decode b_M_workOn 161 = .ok (.ireturn, 1) := by decide +kernel
theorem d_M_workOn_162 : decode b_M_workOn 162 = .ok (.aload_n 0, 1) := by decide +kernel
theorem d_M_workOn_163 : decode b_M_workOn 163 = .ok (.invokevirtual 168, 3) := by decide +kernel
theorem d_M_workOn_166 : decode b_M_workOn 166 = .ok (.ireturn, 1) := by decide +kernel
theorem d_M_workOn_167 : decode b_M_workOn 167 = .ok (.aload_n 0, 1) := by decide +kernel
theorem d_M_workOn_168 : decode b_M_workOn 168 = .ok (.invokevirtual 171, 3) := by decide +kernel
theorem d_M_workOn_171 : decode b_M_workOn 171 = .ok (.ireturn, 1) := by decide +kernel
theorem d_M_workOn_172 : decode b_M_workOn 172 = .ok (.aload_n 0, 1) := by decide +kernel
theorem d_M_workOn_173 : decode b_M_workOn 173 = .ok (.invokevirtual 174, 3) := by decide +kernel
theorem d_M_workOn_176 : decode b_M_workOn 176 = .ok (.ireturn, 1) := by decide +kernel
theorem d_M_complete_0 : decode b_M_complete 0 = .ok (.aload_n 0, 1) := by decide +kernel
theorem d_M_complete_1 : decode b_M_complete 1 = .ok (.iconst 0, 1) := by decide +kernel
theorem d_M_complete_2 : decode b_M_complete 2 = .ok (.putfield 177, 3) := by decide +kernel
theorem d_M_complete_5 : decode b_M_complete 5 = .ok (.aload_n 0, 1) := by decide +kernel
theorem d_M_complete_6 : decode b_M_complete 6 = .ok (.invokevirtual 75, 3) := by decide +kernel
theorem d_M_complete_9 : decode b_M_complete 9 = .ok (.aload_n 0, 1) := by decide +kernel
theorem d_M_complete_10 : decode b_M_complete 10 = .ok (.invokevirtual 180, 3) := by decide +kernel
theorem d_M_complete_13 : decode b_M_complete 13 = .ok (.istore_n 1, 1) := by decide +kernel
theorem d_M_complete_14 : decode b_M_complete 14 = .ok (.iload_n 1, 1) := by decide +kernel
theorem d_M_complete_15 : decode b_M_complete 15 = .ok (.ifCond .ne 18, 3) := by decide +kernel
theorem d_M_complete_18 : decode b_M_complete 18 = .ok (.aload_n 0, 1) := by decide +kernel
theorem d_M_complete_19 : decode b_M_complete 19 = .ok (.getfield 17, 3) := by decide +kernel
theorem d_M_complete_22 : decode b_M_complete 22 = .ok (.iconst 0, 1) := by decide +kernel
theorem d_M_complete_23 : decode b_M_complete 23 = .ok (.iaload, 1) := by decide +kernel
theorem d_M_complete_24 : decode b_M_complete 24 = .ok (.bipush 17, 2) := by decide +kernel
theorem d_M_complete_26 : decode b_M_complete 26 = .ok (.if_icmp .ne 7, 3) := by decide +kernel
theorem d_M_complete_29 : decode b_M_complete 29 = .ok (.iconst 1, 1) := by decide +kernel
theorem d_M_complete_30 : decode b_M_complete 30 = .ok (.goto 4, 3) := by decide +kernel
theorem d_M_complete_33 : decode b_M_complete 33 = .ok (.iconst 0, 1) := by decide +kernel
theorem d_M_complete_34 : decode b_M_complete 34 = .ok (.istore_n 2, 1) := by decide +kernel
theorem d_M_complete_35 : decode b_M_complete 35 = .ok (.iload_n 1, 1) := by decide +kernel
theorem d_M_complete_36 : decode b_M_complete 36 = .ok (.ifCond .ne 8, 3) := by decide +kernel
theorem d_M_complete_39 : decode b_M_complete 39 = .ok (.aload_n 0, 1) := by decide +kernel
theorem d_M_complete_40 : decode b_M_complete 40 = .ok (.invokevirtual 183, 3) := by decide +kernel
theorem d_M_complete_43 : decode b_M_complete 43 = .ok (.istore_n 1, 1) := by decide +kernel
theorem d_M_complete_44 : decode b_M_complete 44 = .ok (.iload_n 1, 1) := by decide +kernel
theorem d_M_complete_45 : decode b_M_complete 45 = .ok (.ifCond .ge 8, 3) := by decide +kernel
theorem d_M_complete_48 : decode b_M_complete 48 = .ok (.aload_n 0, 1) := by decide +kernel
theorem d_M_complete_49 : decode b_M_complete 49 = .ok (.invokevirtual 186, 3) := by decide +kernel
theorem d_M_complete_52 : decode b_M_complete 52 = .ok (.return_, 1) := by decide +kernel
theorem d_M_complete_53 : decode b_M_complete 53 = .ok (.iload_n 1, 1) := by decide +kernel
theorem d_M_complete_54 : decode b_M_complete 54 = .ok (.ifCond .le 29, 3) := by decide +kernel
theorem d_M_complete_57 : decode b_M_complete 57 = .ok (.aload_n 0, 1) := by decide +kernel
theorem d_M_complete_58 : decode b_M_complete 58 = .ok (.iconst 0, 1) := by decide +kernel
theorem d_M_complete_59 : decode b_M_complete 59 = .ok (.putfield 105, 3) := by decide +kernel
theorem d_M_complete_62 : decode b_M_complete 62 = .ok (.aload_n 0, 1) := by decide +kernel
theorem d_M_complete_63 : decode b_M_complete 63 = .ok (.bipush 127, 2) := by decide +kernel
theorem d_M_complete_65 : decode b_M_complete 65 = .ok (.invokevirtual 138, 3) := by decide +kernel
theorem d_M_complete_68 : decode b_M_complete 68 = .ok (.aload_n 0, 1) := by decide +kernel
theorem d_M_complete_69 : decode b_M_complete 69 = .ok (.aload_n 0, 1) := by decide +kernel
theorem d_M_complete_70 : decode b_M_complete 70 = .ok (.getfield 17, 3) := by decide +kernel
theorem d_M_complete_73 : decode b_M_complete 73 = .ok (.iconst 0, 1) := by decide +kernel
theorem d_M_complete_74 : decode b_M_complete 74 = .ok (.iaload, 1) := by decide +kernel
theorem d_M_complete_75 : decode b_M_complete 75 = .ok (.invokevirtual 138, 3) := by decide +kernel
theorem d_M_complete_78 : decode b_M_complete 78 = .ok (.aload_n 0, 1) := by decide +kernel
theorem d_M_complete_79 : decode b_M_complete 79 = .ok (.iload_n 1, 1) := by decide +kernel
theorem d_M_complete_80 : decode b_M_complete 80 = .ok (.invokevirtual 138, 3) := by decide +kernel
theorem d_M_complete_83 : decode b_M_complete 83 = .ok (.aload_n 0, 1) := by decide +kernel
theorem d_M_complete_84 : decode b_M_complete 84 = .ok (.invokevirtual 72, 3) := by decide +kernel
theorem d_M_complete_87 : decode b_M_complete 87 = .ok (.aload_n 0, 1) := by decide +kernel
theorem d_M_complete_88 : decode b_M_complete 88 = .ok (.invokevirtual 189, 3) := by decide +kernel
theorem d_M_complete_91 : decode b_M_complete 91 = .ok (.iload_n 2, 1) := by decide +kernel
theorem d_M_complete_92 : decode b_M_complete 92 = .ok (.ifCond .eq 7, 3) := by decide +kernel
theorem d_M_complete_95 : decode b_M_complete 95 = .ok (.aload_n 0, 1) := by decide +kernel
theorem d_M_complete_96 : decode b_M_complete 96 = .ok (.invokevirtual 33, 3) := by decide +kernel
theorem d_M_complete_99 : decode b_M_complete 99 = .ok (.return_, 1) := by decide +kernel
theorem d_M_takeBytes_0 : decode b_M_takeBytes 0 = .ok (.iload_n 1, 1) := by decide +kernel
theorem d_M_takeBytes_1 : decode b_M_takeBytes 1 = .ok (.istore_n 2, 1) := by decide +kernel
theorem d_M_takeBytes_2 : decode b_M_takeBytes 2 = .ok (.iload_n 2, 1) := by decide +kernel
theorem d_M_takeBytes_3 : decode b_M_takeBytes 3 = .ok (.bipush 8, 2) := by decide +kernel
theorem d_M_takeBytes_5 : decode b_M_takeBytes 5 = .ok (.if_icmp .ge 45, 3) := by decide +kernel
theorem d_M_takeBytes_8 : decode b_M_takeBytes 8 = .ok (.aload_n 0, 1) := by decide +kernel
theorem d_M_takeBytes_9 : decode b_M_takeBytes 9 = .ok (.getfield 102, 3) := by decide +kernel
theorem d_M_takeBytes_12 : decode b_M_takeBytes 12 = .ok (.aload_n 0, 1) := by decide +kernel
theorem d_M_takeBytes_13 : decode b_M_takeBytes 13 = .ok (.getfield 99, 3) := by decide +kernel
theorem d_M_takeBytes_16 : decode b_M_takeBytes 16 = .ok (.if_icmp .ge 34, 3) := by decide +kernel
theorem d_M_takeBytes_19 : decode b_M_takeBytes 19 = .ok (.aload_n 0, 1) := by decide +kernel
theorem d_M_takeBytes_20 : decode b_M_takeBytes 20 = .ok (.getfield 17, 3) := by decide +kernel
theorem d_M_takeBytes_23 : decode b_M_takeBytes 23 = .ok (.aload_n 0, 1) := by decide +kernel
theorem d_M_takeBytes_24 : decode b_M_takeBytes 24 = .ok (.getfield 102, 3) := by decide +kernel
theorem d_M_takeBytes_27 : decode b_M_takeBytes 27 = .ok (.aload_n 0, 1) := by decide +kernel
theorem d_M_takeBytes_28 : decode b_M_takeBytes 28 = .ok (.getfield 26, 3) := by decide +kernel
theorem d_M_takeBytes_31 : decode b_M_takeBytes 31 = .ok (.iload_n 2, 1) := by decide +kernel
theorem d_M_takeBytes_32 : decode b_M_takeBytes 32 = .ok (.iaload, 1) := by decide +kernel
theorem d_M_takeBytes_33 : decode b_M_takeBytes 33 = .ok (.iastore, 1) := by decide +kernel
theorem d_M_takeBytes_34 : decode b_M_takeBytes 34 = .ok (.aload_n 0, 1) := by decide +kernel
theorem d_M_takeBytes_35 : decode b_M_takeBytes 35 = .ok (.dup, 1) := by decide +kernel
theorem d_M_takeBytes_36 : decode b_M_takeBytes 36 = .ok (.getfield 102, 3) := by decide +kernel
theorem d_M_takeBytes_39 : decode b_M_takeBytes 39 = .ok (.iconst 1, 1) := by decide +kernel
theorem d_M_takeBytes_40 : decode b_M_takeBytes 40 = .ok (.iadd, 1) := by decide +kernel
theorem d_M_takeBytes_41 : decode b_M_takeBytes 41 = .ok (.putfield 102, 3) := by decide +kernel
theorem d_M_takeBytes_44 : decode b_M_takeBytes 44 = .ok (.iinc 2 1, 3) := by decide +kernel
theorem d_M_takeBytes_47 : decode b_M_takeBytes 47 = .ok (.goto (-45), 3) := by decide +kernel
theorem d_M_takeBytes_50 : decode b_M_takeBytes 50 = .ok (.aload_n 0, 1) := by decide +kernel
theorem d_M_takeBytes_51 : decode b_M_takeBytes 51 = .ok (.iconst 0, 1) := by decide +kernel
theorem d_M_takeBytes_52 : decode b_M_takeBytes 52 = .ok (.putfield 192, 3) := by decide +kernel
theorem d_M_takeBytes_55 : decode b_M_takeBytes 55 = .ok (.return_, 1) := by decide +kernel
theorem d_M_beginRequest_0 : decode b_M_beginRequest 0 = .ok (.aload_n 0, 1) := by decide +kernel
theorem d_M_beginRequest_1 : decode b_M_beginRequest 1 = .ok (.iload_n 1, 1) := by decide +kernel
theorem d_M_beginRequest_2 : decode b_M_beginRequest 2 = .ok (.putfield 99, 3) := by decide +kernel
theorem d_M_beginRequest_5 : decode b_M_beginRequest 5 = .ok (.aload_n 0, 1) := by decide +kernel
theorem d_M_beginRequest_6 : decode b_M_beginRequest 6 = .ok (.iconst 0, 1) := by decide +kernel
theorem d_M_beginRequest_7 : decode b_M_beginRequest 7 = .ok (.putfield 102, 3) := by decide +kernel
theorem d_M_beginRequest_10 : decode b_M_beginRequest 10 = .ok (.aload_n 0, 1) := by decide +kernel
theorem d_M_beginRequest_11 : decode b_M_beginRequest 11 = .ok (.iconst 0, 1) := by decide +kernel
theorem d_M_beginRequest_12 : decode b_M_beginRequest 12 = .ok (.putfield 195, 3) := by decide +kernel
theorem d_M_beginRequest_15 : decode b_M_beginRequest 15 = .ok (.aload_n 0, 1) := by decide +kernel
theorem d_M_beginRequest_16 : decode b_M_beginRequest 16 = .ok (.iload_n 2, 1) := by decide +kernel
theorem d_M_beginRequest_17 : decode b_M_beginRequest 17 = .ok (.invokevirtual 198, 3) := by decide +kernel
theorem d_M_beginRequest_20 : decode b_M_beginRequest 20 = .ok (.return_, 1) := by decide +kernel
theorem d_M_furtherFrame_0 : decode b_M_furtherFrame 0 = .ok (.aload_n 0, 1) := by decide +kernel
theorem d_M_furtherFrame_1 : decode b_M_furtherFrame 1 = .ok (.aload_n 0, 1) := by decide +kernel
theorem d_M_furtherFrame_2 : decode b_M_furtherFrame 2 = .ok (.getfield 195, 3) := by decide +kernel
theorem d_M_furtherFrame_5 : decode b_M_furtherFrame 5 = .ok (.iconst 1, 1) := by decide +kernel
theorem d_M_furtherFrame_6 : decode b_M_furtherFrame 6 = .ok (.iadd, 1) := by decide +kernel
theorem d_M_furtherFrame_7 : decode b_M_furtherFrame 7 = .ok (.bipush 16, 2) := by decide +kernel
theorem d_M_furtherFrame_9 : decode b_M_furtherFrame 9 = .ok (.irem, 1) := by decide +kernel
theorem d_M_furtherFrame_10 : decode b_M_furtherFrame 10 = .ok (.putfield 195, 3) := by decide +kernel
theorem d_M_furtherFrame_13 : decode b_M_furtherFrame 13 = .ok (.iload_n 1, 1) := by decide +kernel
theorem d_M_furtherFrame_14 : decode b_M_furtherFrame 14 = .ok (.aload_n 0, 1) := by decide +kernel
theorem d_M_furtherFrame_15 : decode b_M_furtherFrame 15 = .ok (.getfield 195, 3) := by decide +kernel
theorem d_M_furtherFrame_18 : decode b_M_furtherFrame 18 = .ok (.if_icmp .eq 8, 3) := by decide +kernel
theorem d_M_furtherFrame_21 : decode b_M_furtherFrame 21 = .ok (.aload_n 0, 1) := by decide +kernel
theorem d_M_furtherFrame_22 : decode b_M_furtherFrame 22 = .ok (.invokevirtual 72, 3) := by decide +kernel
theorem d_M_furtherFrame_25 : decode b_M_furtherFrame 25 = .ok (.return_, 1) := by decide +kernel
theorem d_M_furtherFrame_26 : decode b_M_furtherFrame 26 = .ok (.aload_n 0, 1) := by decide +kernel
theorem d_M_furtherFrame_27 : decode b_M_furtherFrame 27 = .ok (.iconst 1, 1) := by decide +kernel
theorem d_M_furtherFrame_28 : decode b_M_furtherFrame 28 = .ok (.invokevirtual 198, 3) := by decide +kernel
theorem d_M_furtherFrame_31 : decode b_M_furtherFrame 31 = .ok (.aload_n 0, 1) := by decide +kernel
theorem d_M_furtherFrame_32 : decode b_M_furtherFrame 32 = .ok (.getfield 102, 3) := by decide +kernel
theorem d_M_furtherFrame_35 : decode b_M_furtherFrame 35 = .ok (.aload_n 0, 1) := by decide +kernel
theorem d_M_furtherFrame_36 : decode b_M_furtherFrame 36 = .ok (.getfield 99, 3) := by decide +kernel
theorem d_M_furtherFrame_39 : decode b_M_furtherFrame 39 = .ok (.if_icmp .ne 10, 3) := by decide +kernel
theorem d_M_furtherFrame_42 : decode b_M_furtherFrame 42 = .ok (.aload_n 0, 1) := by decide +kernel
theorem d_M_furtherFrame_43 : decode b_M_furtherFrame 43 = .ok (.invokevirtual 201, 3) := by decide +kernel
theorem d_M_furtherFrame_46 : decode b_M_furtherFrame 46 = .ok (.goto 16, 3) := by decide +kernel
theorem d_M_furtherFrame_49 : decode b_M_furtherFrame 49 = .ok (.aload_n 0, 1) := by decide +kernel
theorem d_M_furtherFrame_50 : decode b_M_furtherFrame 50 = .ok (.getfield 195, 3) := by decide +kernel
theorem d_M_furtherFrame_53 : decode b_M_furtherFrame 53 = .ok (.iconst 2, 1) := by decide +kernel
theorem d_M_furtherFrame_54 : decode b_M_furtherFrame 54 = .ok (.irem, 1) := by decide +kernel
theorem d_M_furtherFrame_55 : decode b_M_furtherFrame 55 = .ok (.ifCond .ne 7, 3) := by decide +kernel
theorem d_M_furtherFrame_58 : decode b_M_furtherFrame 58 = .ok (.aload_n 0, 1) := by decide +kernel
theorem d_M_furtherFrame_59 : decode b_M_furtherFrame 59 = .ok (.invokevirtual 204, 3) := by decide +kernel
theorem d_M_furtherFrame_62 : decode b_M_furtherFrame 62 = .ok (.return_, 1) := by decide +kernel
theorem d_M_answerFrame_0 : decode b_M_answerFrame 0 = .ok (.aload_n 0, 1) := by decide +kernel
theorem d_M_answerFrame_1 : decode b_M_answerFrame 1 = .ok (.getfield 26, 3) := by decide +kernel
theorem d_M_answerFrame_4 : decode b_M_answerFrame 4 = .ok (.iconst 0, 1) := by decide +kernel
theorem d_M_answerFrame_5 : decode b_M_answerFrame 5 = .ok (.iaload, 1) := by decide +kernel
theorem d_M_answerFrame_6 : decode b_M_answerFrame 6 = .ok (.bipush 48, 2) := by decide +kernel
theorem d_M_answerFrame_8 : decode b_M_answerFrame 8 = .ok (.if_icmp .ne 16, 3) := by decide +kernel
theorem d_M_answerFrame_11 : decode b_M_answerFrame 11 = .ok (.aload_n 0, 1) := by decide +kernel
theorem d_M_answerFrame_12 : decode b_M_answerFrame 12 = .ok (.aload_n 0, 1) := by decide +kernel
theorem d_M_answerFrame_13 : decode b_M_answerFrame 13 = .ok (.getfield 26, 3) := by decide +kernel
theorem d_M_answerFrame_16 : decode b_M_answerFrame 16 = .ok (.iconst 1, 1) := by decide +kernel
theorem d_M_answerFrame_17 : decode b_M_answerFrame 17 = .ok (.iaload, 1) := by decide +kernel
theorem d_M_answerFrame_18 : decode b_M_answerFrame 18 = .ok (.invokevirtual 207, 3) := by decide +kernel
theorem d_M_answerFrame_21 : decode b_M_answerFrame 21 = .ok (.goto 37, 3) := by decide +kernel
theorem d_M_answerFrame_24 : decode b_M_answerFrame 24 = .ok (.aload_n 0, 1) := by decide +kernel
theorem d_M_answerFrame_25 : decode b_M_answerFrame 25 = .ok (.getfield 26, 3) := by decide +kernel
theorem d_M_answerFrame_28 : decode b_M_answerFrame 28 = .ok (.iconst 0, 1) := by decide +kernel
theorem d_M_answerFrame_29 : decode b_M_answerFrame 29 = .ok (.iaload, 1) := by decide +kernel
theorem d_M_answerFrame_30 : decode b_M_answerFrame 30 = .ok (.bipush 49, 2) := by decide +kernel
theorem d_M_answerFrame_32 : decode b_M_answerFrame 32 = .ok (.if_icmp .ne 11, 3) := by decide +kernel
theorem d_M_answerFrame_35 : decode b_M_answerFrame 35 = .ok (.aload_n 0, 1) := by decide +kernel
theorem d_M_answerFrame_36 : decode b_M_answerFrame 36 = .ok (.iconst 0, 1) := by decide +kernel
theorem d_M_answerFrame_37 : decode b_M_answerFrame 37 = .ok (.putfield 123, 3) := by decide +kernel
theorem d_M_answerFrame_40 : decode b_M_answerFrame 40 = .ok (.goto 18, 3) := by decide +kernel
theorem d_M_answerFrame_43 : decode b_M_answerFrame 43 = .ok (.aload_n 0, 1) := by decide +kernel
theorem d_M_answerFrame_44 : decode b_M_answerFrame 44 = .ok (.getfield 26, 3) := by decide +kernel
theorem d_M_answerFrame_47 : decode b_M_answerFrame 47 = .ok (.iconst 0, 1) := by decide +kernel
theorem d_M_answerFrame_48 : decode b_M_answerFrame 48 = .ok (.iaload, 1) := by decide +kernel
theorem d_M_answerFrame_49 : decode b_M_answerFrame 49 = .ok (.bipush 50, 2) := by decide +kernel
theorem d_M_answerFrame_51 : decode b_M_answerFrame 51 = .ok (.if_icmp .ne 7, 3) := by decide +kernel
theorem d_M_answerFrame_54 : decode b_M_answerFrame 54 = .ok (.aload_n 0, 1) := by decide +kernel
theorem d_M_answerFrame_55 : decode b_M_answerFrame 55 = .ok (.invokevirtual 75, 3) := by decide +kernel
theorem d_M_answerFrame_58 : decode b_M_answerFrame 58 = .ok (.return_, 1) := by decide +kernel
theorem d_M_frame_0 : decode b_M_frame 0 = .ok (.iconst 0, 1) := by decide +kernel
theorem d_M_frame_1 : decode b_M_frame 1 = .ok (.istore_n 3, 1) := by decide +kernel
theorem d_M_frame_2 : decode b_M_frame 2 = .ok (.iload_n 3, 1) := by decide +kernel
theorem d_M_frame_3 : decode b_M_frame 3 = .ok (.iconst 4, 1) := by decide +kernel
theorem d_M_frame_4 : decode b_M_frame 4 = .ok (.if_icmp .ge 49, 3) := by decide +kernel
theorem d_M_frame_7 : decode b_M_frame 7 = .ok (.aload_n 0, 1) := by decide +kernel
theorem d_M_frame_8 : decode b_M_frame 8 = .ok (.getfield 26, 3) := by decide +kernel
theorem d_M_frame_11 : decode b_M_frame 11 = .ok (.iload_n 3, 1) := by decide +kernel
theorem d_M_frame_12 : decode b_M_frame 12 = .ok (.iload_n 1, 1) := by decide +kernel
theorem d_M_frame_13 : decode b_M_frame 13 = .ok (.bipush 24, 2) := by decide +kernel
theorem d_M_frame_15 : decode b_M_frame 15 = .ok (.bipush 8, 2) := by decide +kernel
theorem d_M_frame_17 : decode b_M_frame 17 = .ok (.iload_n 3, 1) := by decide +kernel
theorem d_M_frame_18 : decode b_M_frame 18 = .ok (.imul, 1) := by decide +kernel
theorem d_M_frame_19 : decode b_M_frame 19 = .ok (.isub, 1) := by decide +kernel
theorem d_M_frame_20 : decode b_M_frame 20 = .ok (.iushr, 1) := by decide +kernel
theorem d_M_frame_21 : decode b_M_frame 21 = .ok (.sipush 255, 3) := by decide +kernel
theorem d_M_frame_24 : decode b_M_frame 24 = .ok (.iand, 1) := by decide +kernel
theorem d_M_frame_25 : decode b_M_frame 25 = .ok (.iastore, 1) := by decide +kernel
theorem d_M_frame_26 : decode b_M_frame 26 = .ok (.aload_n 0, 1) := by decide +kernel
theorem d_M_frame_27 : decode b_M_frame 27 = .ok (.getfield 26, 3) := by decide +kernel
theorem d_M_frame_30 : decode b_M_frame 30 = .ok (.iconst 4, 1) := by decide +kernel
theorem d_M_frame_31 : decode b_M_frame 31 = .ok (.iload_n 3, 1) := by decide +kernel
theorem d_M_frame_32 : decode b_M_frame 32 = .ok (.iadd, 1) := by decide +kernel
theorem d_M_frame_33 : decode b_M_frame 33 = .ok (.iload_n 2, 1) := by decide +kernel
theorem d_M_frame_34 : decode b_M_frame 34 = .ok (.bipush 24, 2) := by decide +kernel
theorem d_M_frame_36 : decode b_M_frame 36 = .ok (.bipush 8, 2) := by decide +kernel
theorem d_M_frame_38 : decode b_M_frame 38 = .ok (.iload_n 3, 1) := by decide +kernel
theorem d_M_frame_39 : decode b_M_frame 39 = .ok (.imul, 1) := by decide +kernel
theorem d_M_frame_40 : decode b_M_frame 40 = .ok (.isub, 1) := by decide +kernel
theorem d_M_frame_41 : decode b_M_frame 41 = .ok (.iushr, 1) := by decide +kernel
theorem d_M_frame_42 : decode b_M_frame 42 = .ok (.sipush 255, 3) := by decide +kernel
theorem d_M_frame_45 : decode b_M_frame 45 = .ok (.iand, 1) := by decide +kernel
theorem d_M_frame_46 : decode b_M_frame 46 = .ok (.iastore, 1) := by decide +kernel
theorem d_M_frame_47 : decode b_M_frame 47 = .ok (.iinc 3 1, 3) := by decide +kernel
theorem d_M_frame_50 : decode b_M_frame 50 = .ok (.goto (-48), 3) := by decide +kernel
theorem d_M_frame_53 : decode b_M_frame 53 = .ok (.aload_n 0, 1) := by decide +kernel
theorem d_M_frame_54 : decode b_M_frame 54 = .ok (.getfield 26, 3) := by decide +kernel
theorem d_M_frame_57 : decode b_M_frame 57 = .ok (.iconst 0, 1) := by decide +kernel
theorem d_M_frame_58 : decode b_M_frame 58 = .ok (.iaload, 1) := by decide +kernel
theorem d_M_frame_59 : decode b_M_frame 59 = .ok (.istore_n 3, 1) := by decide +kernel
theorem d_M_frame_60 : decode b_M_frame 60 = .ok (.aload_n 0, 1) := by decide +kernel
theorem d_M_frame_61 : decode b_M_frame 61 = .ok (.getfield 108, 3) := by decide +kernel
theorem d_M_frame_64 : decode b_M_frame 64 = .ok (.aload_n 0, 1) := by decide +kernel
theorem d_M_frame_65 : decode b_M_frame 65 = .ok (.getfield 105, 3) := by decide +kernel
theorem d_M_frame_68 : decode b_M_frame 68 = .ok (.if_icmp .ge 10, 3) := by decide +kernel
theorem d_M_frame_71 : decode b_M_frame 71 = .ok (.aload_n 0, 1) := by decide +kernel
theorem d_M_frame_72 : decode b_M_frame 72 = .ok (.invokevirtual 210, 3) := by decide +kernel
theorem d_M_frame_75 : decode b_M_frame 75 = .ok (.goto 104, 3) := by decide +kernel
theorem d_M_frame_78 : decode b_M_frame 78 = .ok (.iload_n 3, 1) := by decide +kernel
theorem d_M_frame_79 : decode b_M_frame 79 = .ok (.iconst 1, 1) := by decide +kernel
theorem d_M_frame_80 : decode b_M_frame 80 = .ok (.if_icmp .lt 22, 3) := by decide +kernel
theorem d_M_frame_83 : decode b_M_frame 83 = .ok (.iload_n 3, 1) := by decide +kernel
theorem d_M_frame_84 : decode b_M_frame 84 = .ok (.bipush 7, 2) := by decide +kernel
theorem d_M_frame_86 : decode b_M_frame 86 = .ok (.if_icmp .gt 16, 3) := by decide +kernel
theorem d_M_frame_89 : decode b_M_frame 89 = .ok (.aload_n 0, 1) := by decide +kernel
theorem d_M_frame_90 : decode b_M_frame 90 = .ok (.iload_n 3, 1) := by decide +kernel
theorem d_M_frame_91 : decode b_M_frame 91 = .ok (.iconst 1, 1) := by decide +kernel
theorem d_M_frame_92 : decode b_M_frame 92 = .ok (.invokevirtual 213, 3) := by decide +kernel
theorem d_M_frame_95 : decode b_M_frame 95 = .ok (.aload_n 0, 1) := by decide +kernel
theorem d_M_frame_96 : decode b_M_frame 96 = .ok (.invokevirtual 201, 3) := by decide +kernel
theorem d_M_frame_99 : decode b_M_frame 99 = .ok (.goto 80, 3) := by decide +kernel
theorem d_M_frame_102 : decode b_M_frame 102 = .ok (.iload_n 3, 1) := by decide +kernel
theorem d_M_frame_103 : decode b_M_frame 103 = .ok (.bipush 16, 2) := by decide +kernel
theorem d_M_frame_105 : decode b_M_frame 105 = .ok (.if_icmp .ne 43, 3) := by decide +kernel
theorem d_M_frame_108 : decode b_M_frame 108 = .ok (.aload_n 0, 1) := by decide +kernel
theorem d_M_frame_109 : decode b_M_frame 109 = .ok (.getfield 26, 3) := by decide +kernel
theorem d_M_frame_112 : decode b_M_frame 112 = .ok (.iconst 1, 1) := by decide +kernel
theorem d_M_frame_113 : decode b_M_frame 113 = .ok (.iaload, 1) := by decide +kernel
theorem d_M_frame_114 : decode b_M_frame 114 = .ok (.bipush 8, 2) := by decide +kernel
theorem d_M_frame_116 : decode b_M_frame 116 = .ok (.if_icmp .lt 32, 3) := by decide +kernel
theorem d_M_frame_119 : decode b_M_frame 119 = .ok (.aload_n 0, 1) := by decide +kernel
theorem d_M_frame_120 : decode b_M_frame 120 = .ok (.getfield 26, 3) := by decide +kernel
theorem d_M_frame_123 : decode b_M_frame 123 = .ok (.iconst 1, 1) := by decide +kernel
theorem d_M_frame_124 : decode b_M_frame 124 = .ok (.iaload, 1) := by decide +kernel
theorem d_M_frame_125 : decode b_M_frame 125 = .ok (.bipush 34, 2) := by decide +kernel
theorem d_M_frame_127 : decode b_M_frame 127 = .ok (.if_icmp .gt 21, 3) := by decide +kernel
theorem d_M_frame_130 : decode b_M_frame 130 = .ok (.aload_n 0, 1) := by decide +kernel
theorem d_M_frame_131 : decode b_M_frame 131 = .ok (.aload_n 0, 1) := by decide +kernel
theorem d_M_frame_132 : decode b_M_frame 132 = .ok (.getfield 26, 3) := by decide +kernel
theorem d_M_frame_135 : decode b_M_frame 135 = .ok (.iconst 1, 1) := by decide +kernel
theorem d_M_frame_136 : decode b_M_frame 136 = .ok (.iaload, 1) := by decide +kernel
theorem d_M_frame_137 : decode b_M_frame 137 = .ok (.iconst 2, 1) := by decide +kernel
theorem d_M_frame_138 : decode b_M_frame 138 = .ok (.invokevirtual 213, 3) := by decide +kernel
theorem d_M_frame_141 : decode b_M_frame 141 = .ok (.aload_n 0, 1) := by decide +kernel
theorem d_M_frame_142 : decode b_M_frame 142 = .ok (.invokevirtual 204, 3) := by decide +kernel
theorem d_M_frame_145 : decode b_M_frame 145 = .ok (.goto 34, 3) := by decide +kernel
theorem d_M_frame_148 : decode b_M_frame 148 = .ok (.iload_n 3, 1) := by decide +kernel
theorem d_M_frame_149 : decode b_M_frame 149 = .ok (.bipush 32, 2) := by decide +kernel
theorem d_M_frame_151 : decode b_M_frame 151 = .ok (.if_icmp .lt 28, 3) := by decide +kernel
theorem d_M_frame_154 : decode b_M_frame 154 = .ok (.iload_n 3, 1) := by decide +kernel
theorem d_M_frame_155 : decode b_M_frame 155 = .ok (.bipush 47, 2) := by decide +kernel
theorem d_M_frame_157 : decode b_M_frame 157 = .ok (.if_icmp .gt 22, 3) := by decide +kernel
theorem d_M_frame_160 : decode b_M_frame 160 = .ok (.aload_n 0, 1) := by decide +kernel
theorem d_M_frame_161 : decode b_M_frame 161 = .ok (.getfield 102, 3) := by decide +kernel
theorem d_M_frame_164 : decode b_M_frame 164 = .ok (.aload_n 0, 1) := by decide +kernel
theorem d_M_frame_165 : decode b_M_frame 165 = .ok (.getfield 99, 3) := by decide +kernel
theorem d_M_frame_168 : decode b_M_frame 168 = .ok (.if_icmp .ge 11, 3) := by decide +kernel
theorem d_M_frame_171 : decode b_M_frame 171 = .ok (.aload_n 0, 1) := by decide +kernel
theorem d_M_frame_172 : decode b_M_frame 172 = .ok (.iload_n 3, 1) := by decide +kernel
theorem d_M_frame_173 : decode b_M_frame 173 = .ok (.bipush 32, 2) := by decide +kernel
theorem d_M_frame_175 : decode b_M_frame 175 = .ok (.isub, 1) := by decide +kernel
theorem d_M_frame_176 : decode b_M_frame 176 = .ok (.invokevirtual 217, 3) := by decide +kernel
theorem d_M_frame_179 : decode b_M_frame 179 = .ok (.aload_n 0, 1) := by decide +kernel
theorem d_M_frame_180 : decode b_M_frame 180 = .ok (.getfield 36, 3) := by decide +kernel
theorem d_M_frame_183 : decode b_M_frame 183 = .ok (.ireturn, 1) := by decide +kernel
theorem d_M_peek_0 : decode b_M_peek 0 = .ok (.aload_n 0, 1) := by decide +kernel
theorem d_M_peek_1 : decode b_M_peek 1 = .ok (.getfield 36, 3) := by decide +kernel
theorem d_M_peek_4 : decode b_M_peek 4 = .ok (.ifCond .le 22, 3) := by decide +kernel
theorem d_M_peek_7 : decode b_M_peek 7 = .ok (.iload_n 1, 1) := by decide +kernel
theorem d_M_peek_8 : decode b_M_peek 8 = .ok (.ifCond .lt 18, 3) := by decide +kernel
theorem d_M_peek_11 : decode b_M_peek 11 = .ok (.iload_n 1, 1) := by decide +kernel
theorem d_M_peek_12 : decode b_M_peek 12 = .ok (.bipush 8, 2) := by decide +kernel
theorem d_M_peek_14 : decode b_M_peek 14 = .ok (.if_icmp .ge 12, 3) := by decide +kernel
theorem d_M_peek_17 : decode b_M_peek 17 = .ok (.aload_n 0, 1) := by decide +kernel
theorem d_M_peek_18 : decode b_M_peek 18 = .ok (.getfield 23, 3) := by decide +kernel
theorem d_M_peek_21 : decode b_M_peek 21 = .ok (.iload_n 1, 1) := by decide +kernel
theorem d_M_peek_22 : decode b_M_peek 22 = .ok (.iaload, 1) := by decide +kernel
theorem d_M_peek_23 : decode b_M_peek 23 = .ok (.goto 4, 3) := by decide +kernel
theorem d_M_peek_26 : decode b_M_peek 26 = .ok (.iconst (-1), 1) := by decide +kernel
theorem d_M_peek_27 : decode b_M_peek 27 = .ok (.ireturn, 1) := by decide +kernel
theorem d_M_take_0 : decode b_M_take 0 = .ok (.aload_n 0, 1) := by decide +kernel
theorem d_M_take_1 : decode b_M_take 1 = .ok (.getfield 36, 3) := by decide +kernel
theorem d_M_take_4 : decode b_M_take 4 = .ok (.ifCond .ne 5, 3) := by decide +kernel
theorem d_M_take_7 : decode b_M_take 7 = .ok (.iconst 0, 1) := by decide +kernel
theorem d_M_take_8 : decode b_M_take 8 = .ok (.ireturn, 1) := by decide +kernel
theorem d_M_take_9 : decode b_M_take 9 = .ok (.aload_n 0, 1) := by decide +kernel
theorem d_M_take_10 : decode b_M_take 10 = .ok (.dup, 1) := by decide +kernel
theorem d_M_take_11 : decode b_M_take 11 = .ok (.getfield 36, 3) := by decide +kernel
theorem d_M_take_14 : decode b_M_take 14 = .ok (.iconst 1, 1) := by decide +kernel
theorem d_M_take_15 : decode b_M_take 15 = .ok (.isub, 1) := by decide +kernel
theorem d_M_take_16 : decode b_M_take 16 = .ok (.putfield 36, 3) := by decide +kernel
theorem d_M_take_19 : decode b_M_take 19 = .ok (.iconst 0, 1) := by decide +kernel
theorem d_M_take_20 : decode b_M_take 20 = .ok (.istore_n 1, 1) := by decide +kernel
theorem d_M_take_21 : decode b_M_take 21 = .ok (.iload_n 1, 1) := by decide +kernel
theorem d_M_take_22 : decode b_M_take 22 = .ok (.bipush 8, 2) := by decide +kernel
theorem d_M_take_24 : decode b_M_take 24 = .ok (.aload_n 0, 1) := by decide +kernel
theorem d_M_take_25 : decode b_M_take 25 = .ok (.getfield 36, 3) := by decide +kernel
theorem d_M_take_28 : decode b_M_take 28 = .ok (.imul, 1) := by decide +kernel
theorem d_M_take_29 : decode b_M_take 29 = .ok (.if_icmp .ge 24, 3) := by decide +kernel
theorem d_M_take_32 : decode b_M_take 32 = .ok (.aload_n 0, 1) := by decide +kernel
theorem d_M_take_33 : decode b_M_take 33 = .ok (.getfield 23, 3) := by decide +kernel
theorem d_M_take_36 : decode b_M_take 36 = .ok (.iload_n 1, 1) := by decide +kernel
theorem d_M_take_37 : decode b_M_take 37 = .ok (.aload_n 0, 1) := by decide +kernel
theorem d_M_take_38 : decode b_M_take 38 = .ok (.getfield 23, 3) := by decide +kernel
theorem d_M_take_41 : decode b_M_take 41 = .ok (.iload_n 1, 1) := by decide +kernel
theorem d_M_take_42 : decode b_M_take 42 = .ok (.bipush 8, 2) := by decide +kernel
theorem d_M_take_44 : decode b_M_take 44 = .ok (.iadd, 1) := by decide +kernel
theorem d_M_take_45 : decode b_M_take 45 = .ok (.iaload, 1) := by decide +kernel
theorem d_M_take_46 : decode b_M_take 46 = .ok (.iastore, 1) := by decide +kernel
theorem d_M_take_47 : decode b_M_take 47 = .ok (.iinc 1 1, 3) := by decide +kernel
theorem d_M_take_50 : decode b_M_take 50 = .ok (.goto (-29), 3) := by decide +kernel
theorem d_M_take_53 : decode b_M_take 53 = .ok (.iconst 1, 1) := by decide +kernel
theorem d_M_take_54 : decode b_M_take 54 = .ok (.ireturn, 1) := by decide +kernel
theorem d_M_tick_0 : decode b_M_tick 0 = .ok (.aload_n 0, 1) := by decide +kernel
theorem d_M_tick_1 : decode b_M_tick 1 = .ok (.getfield 102, 3) := by decide +kernel
theorem d_M_tick_4 : decode b_M_tick 4 = .ok (.aload_n 0, 1) := by decide +kernel
theorem d_M_tick_5 : decode b_M_tick 5 = .ok (.getfield 99, 3) := by decide +kernel
theorem d_M_tick_8 : decode b_M_tick 8 = .ok (.if_icmp .ge 25, 3) := by decide +kernel
theorem d_M_tick_11 : decode b_M_tick 11 = .ok (.aload_n 0, 1) := by decide +kernel
theorem d_M_tick_12 : decode b_M_tick 12 = .ok (.dup, 1) := by decide +kernel
theorem d_M_tick_13 : decode b_M_tick 13 = .ok (.getfield 192, 3) := by decide +kernel
theorem d_M_tick_16 : decode b_M_tick 16 = .ok (.iconst 1, 1) := by decide +kernel
theorem d_M_tick_17 : decode b_M_tick 17 = .ok (.iadd, 1) := by decide +kernel
theorem d_M_tick_18 : decode b_M_tick 18 = .ok (.putfield 192, 3) := by decide +kernel
theorem d_M_tick_21 : decode b_M_tick 21 = .ok (.aload_n 0, 1) := by decide +kernel
theorem d_M_tick_22 : decode b_M_tick 22 = .ok (.getfield 192, 3) := by decide +kernel
theorem d_M_tick_25 : decode b_M_tick 25 = .ok (.iconst 4, 1) := by decide +kernel
theorem d_M_tick_26 : decode b_M_tick 26 = .ok (.if_icmp .ne 7, 3) := by decide +kernel
theorem d_M_tick_29 : decode b_M_tick 29 = .ok (.aload_n 0, 1) := by decide +kernel
theorem d_M_tick_30 : decode b_M_tick 30 = .ok (.invokevirtual 72, 3) := by decide +kernel
theorem d_M_tick_33 : decode b_M_tick 33 = .ok (.aload_n 0, 1) := by decide +kernel
theorem d_M_tick_34 : decode b_M_tick 34 = .ok (.getfield 108, 3) := by decide +kernel
theorem d_M_tick_37 : decode b_M_tick 37 = .ok (.aload_n 0, 1) := by decide +kernel
theorem d_M_tick_38 : decode b_M_tick 38 = .ok (.getfield 105, 3) := by decide +kernel
theorem d_M_tick_41 : decode b_M_tick 41 = .ok (.if_icmp .ge 25, 3) := by decide +kernel
theorem d_M_tick_44 : decode b_M_tick 44 = .ok (.aload_n 0, 1) := by decide +kernel
theorem d_M_tick_45 : decode b_M_tick 45 = .ok (.dup, 1) := by decide +kernel
theorem d_M_tick_46 : decode b_M_tick 46 = .ok (.getfield 123, 3) := by decide +kernel
theorem d_M_tick_49 : decode b_M_tick 49 = .ok (.iconst 1, 1) := by decide +kernel
theorem d_M_tick_50 : decode b_M_tick 50 = .ok (.iadd, 1) := by decide +kernel
theorem d_M_tick_51 : decode b_M_tick 51 = .ok (.putfield 123, 3) := by decide +kernel
theorem d_M_tick_54 : decode b_M_tick 54 = .ok (.aload_n 0, 1) := by decide +kernel
theorem d_M_tick_55 : decode b_M_tick 55 = .ok (.getfield 123, 3) := by decide +kernel
theorem d_M_tick_58 : decode b_M_tick 58 = .ok (.iconst 4, 1) := by decide +kernel
theorem d_M_tick_59 : decode b_M_tick 59 = .ok (.if_icmp .ne 7, 3) := by decide +kernel
theorem d_M_tick_62 : decode b_M_tick 62 = .ok (.aload_n 0, 1) := by decide +kernel
theorem d_M_tick_63 : decode b_M_tick 63 = .ok (.invokevirtual 75, 3) := by decide +kernel
theorem d_M_tick_66 : decode b_M_tick 66 = .ok (.aload_n 0, 1) := by decide +kernel
theorem d_M_tick_67 : decode b_M_tick 67 = .ok (.dup, 1) := by decide +kernel
theorem d_M_tick_68 : decode b_M_tick 68 = .ok (.getfield 177, 3) := by decide +kernel
theorem d_M_tick_71 : decode b_M_tick 71 = .ok (.iconst 1, 1) := by decide +kernel
theorem d_M_tick_72 : decode b_M_tick 72 = .ok (.iadd, 1) := by decide +kernel
theorem d_M_tick_73 : decode b_M_tick 73 = .ok (.putfield 177, 3) := by decide +kernel
theorem d_M_tick_76 : decode b_M_tick 76 = .ok (.aload_n 0, 1) := by decide +kernel
theorem d_M_tick_77 : decode b_M_tick 77 = .ok (.getfield 90, 3) := by decide +kernel
theorem d_M_tick_80 : decode b_M_tick 80 = .ok (.iconst 2, 1) := by decide +kernel
theorem d_M_tick_81 : decode b_M_tick 81 = .ok (.if_icmp .ne 39, 3) := by decide +kernel
theorem d_M_tick_84 : decode b_M_tick 84 = .ok (.aload_n 0, 1) := by decide +kernel
theorem d_M_tick_85 : decode b_M_tick 85 = .ok (.getfield 177, 3) := by decide +kernel
theorem d_M_tick_88 : decode b_M_tick 88 = .ok (.bipush 10, 2) := by decide +kernel
theorem d_M_tick_90 : decode b_M_tick 90 = .ok (.if_icmp .lt 30, 3) := by decide +kernel
theorem d_M_tick_93 : decode b_M_tick 93 = .ok (.aload_n 0, 1) := by decide +kernel
theorem d_M_tick_94 : decode b_M_tick 94 = .ok (.getfield 102, 3) := by decide +kernel
theorem d_M_tick_97 : decode b_M_tick 97 = .ok (.aload_n 0, 1) := by decide +kernel
theorem d_M_tick_98 : decode b_M_tick 98 = .ok (.getfield 99, 3) := by decide +kernel
theorem d_M_tick_101 : decode b_M_tick 101 = .ok (.if_icmp .ne 19, 3) := by decide +kernel
theorem d_M_tick_104 : decode b_M_tick 104 = .ok (.aload_n 0, 1) := by decide +kernel
theorem d_M_tick_105 : decode b_M_tick 105 = .ok (.getfield 108, 3) := by decide +kernel
theorem d_M_tick_108 : decode b_M_tick 108 = .ok (.aload_n 0, 1) := by decide +kernel
theorem d_M_tick_109 : decode b_M_tick 109 = .ok (.getfield 105, 3) := by decide +kernel
theorem d_M_tick_112 : decode b_M_tick 112 = .ok (.if_icmp .ne 8, 3) := by decide +kernel
theorem d_M_tick_115 : decode b_M_tick 115 = .ok (.aload_n 0, 1) := by decide +kernel
theorem d_M_tick_116 : decode b_M_tick 116 = .ok (.iconst 1, 1) := by decide +kernel
theorem d_M_tick_117 : decode b_M_tick 117 = .ok (.invokevirtual 68, 3) := by decide +kernel
theorem d_M_tick_120 : decode b_M_tick 120 = .ok (.aload_n 0, 1) := by decide +kernel
theorem d_M_tick_121 : decode b_M_tick 121 = .ok (.aload_n 0, 1) := by decide +kernel
theorem d_M_tick_122 : decode b_M_tick 122 = .ok (.getfield 84, 3) := by decide +kernel
theorem d_M_tick_125 : decode b_M_tick 125 = .ok (.ifCond .le 12, 3) := by decide +kernel
theorem d_M_tick_128 : decode b_M_tick 128 = .ok (.aload_n 0, 1) := by decide +kernel
theorem d_M_tick_129 : decode b_M_tick 129 = .ok (.getfield 84, 3) := by decide +kernel
theorem d_M_tick_132 : decode b_M_tick 132 = .ok (.iconst 1, 1) := by decide +kernel
theorem d_M_tick_133 : decode b_M_tick 133 = .ok (.isub, 1) := by decide +kernel
theorem d_M_tick_134 : decode b_M_tick 134 = .ok (.goto 4, 3) := by decide +kernel
theorem d_M_tick_137 : decode b_M_tick 137 = .ok (.iconst 0, 1) := by decide +kernel
theorem d_M_tick_138 : decode b_M_tick 138 = .ok (.putfield 84, 3) := by decide +kernel
theorem d_M_tick_141 : decode b_M_tick 141 = .ok (.return_, 1) := by decide +kernel
theorem d_M_flash_0 : decode b_M_flash 0 = .ok (.iload_n 1, 1) := by decide +kernel
theorem d_M_flash_1 : decode b_M_flash 1 = .ok (.ifCond .lt 9, 3) := by decide +kernel
theorem d_M_flash_4 : decode b_M_flash 4 = .ok (.iload_n 1, 1) := by decide +kernel
theorem d_M_flash_5 : decode b_M_flash 5 = .ok (.bipush 95, 2) := by decide +kernel
theorem d_M_flash_7 : decode b_M_flash 7 = .ok (.if_icmp .le 7, 3) := by decide +kernel
theorem d_M_flash_10 : decode b_M_flash 10 = .ok (.iconst (-1), 1) := by decide +kernel
theorem d_M_flash_11 : decode b_M_flash 11 = .ok (.goto 9, 3) := by decide +kernel
theorem d_M_flash_14 : decode b_M_flash 14 = .ok (.aload_n 0, 1) := by decide +kernel
theorem d_M_flash_15 : decode b_M_flash 15 = .ok (.getfield 7, 3) := by decide +kernel
theorem d_M_flash_18 : decode b_M_flash 18 = .ok (.iload_n 1, 1) := by decide +kernel
theorem d_M_flash_19 : decode b_M_flash 19 = .ok (.iaload, 1) := by decide +kernel
theorem d_M_flash_20 : decode b_M_flash 20 = .ok (.ireturn, 1) := by decide +kernel
theorem d_M_word_0 : decode b_M_word 0 = .ok (.iload_n 1, 1) := by decide +kernel
theorem d_M_word_1 : decode b_M_word 1 = .ok (.ifCond .lt 9, 3) := by decide +kernel
theorem d_M_word_4 : decode b_M_word 4 = .ok (.iload_n 1, 1) := by decide +kernel
theorem d_M_word_5 : decode b_M_word 5 = .ok (.bipush 92, 2) := by decide +kernel
theorem d_M_word_7 : decode b_M_word 7 = .ok (.if_icmp .le 5, 3) := by decide +kernel
theorem d_M_word_10 : decode b_M_word 10 = .ok (.iconst 0, 1) := by decide +kernel
theorem d_M_word_11 : decode b_M_word 11 = .ok (.ireturn, 1) := by decide +kernel
theorem d_M_word_12 : decode b_M_word 12 = .ok (.aload_n 0, 1) := by decide +kernel
theorem d_M_word_13 : decode b_M_word 13 = .ok (.getfield 7, 3) := by decide +kernel
theorem d_M_word_16 : decode b_M_word 16 = .ok (.iload_n 1, 1) := by decide +kernel
theorem d_M_word_17 : decode b_M_word 17 = .ok (.iaload, 1) := by decide +kernel
theorem d_M_word_18 : decode b_M_word 18 = .ok (.bipush 24, 2) := by decide +kernel
theorem d_M_word_20 : decode b_M_word 20 = .ok (.ishl, 1) := by decide +kernel
theorem d_M_word_21 : decode b_M_word 21 = .ok (.aload_n 0, 1) := by decide +kernel
theorem d_M_word_22 : decode b_M_word 22 = .ok (.getfield 7, 3) := by decide +kernel
theorem d_M_word_25 : decode b_M_word 25 = .ok (.iload_n 1, 1) := by decide +kernel
theorem d_M_word_26 : decode b_M_word 26 = .ok (.iconst 1, 1) := by decide +kernel
theorem d_M_word_27 : decode b_M_word 27 = .ok (.iadd, 1) := by decide +kernel
theorem d_M_word_28 : decode b_M_word 28 = .ok (.iaload, 1) := by decide +kernel
theorem d_M_word_29 : decode b_M_word 29 = .ok (.bipush 16, 2) := by decide +kernel
theorem d_M_word_31 : decode b_M_word 31 = .ok (.ishl, 1) := by decide +kernel
theorem d_M_word_32 : decode b_M_word 32 = .ok (.ior, 1) := by decide +kernel
theorem d_M_word_33 : decode b_M_word 33 = .ok (.aload_n 0, 1) := by decide +kernel
theorem d_M_word_34 : decode b_M_word 34 = .ok (.getfield 7, 3) := by decide +kernel
theorem d_M_word_37 : decode b_M_word 37 = .ok (.iload_n 1, 1) := by decide +kernel
theorem d_M_word_38 : decode b_M_word 38 = .ok (.iconst 2, 1) := by decide +kernel
theorem d_M_word_39 : decode b_M_word 39 = .ok (.iadd, 1) := by decide +kernel
theorem d_M_word_40 : decode b_M_word 40 = .ok (.iaload, 1) := by decide +kernel
theorem d_M_word_41 : decode b_M_word 41 = .ok (.bipush 8, 2) := by decide +kernel
theorem d_M_word_43 : decode b_M_word 43 = .ok (.ishl, 1) := by decide +kernel
theorem d_M_word_44 : decode b_M_word 44 = .ok (.ior, 1) := by decide +kernel
theorem d_M_word_45 : decode b_M_word 45 = .ok (.aload_n 0, 1) := by decide +kernel
theorem d_M_word_46 : decode b_M_word 46 = .ok (.getfield 7, 3) := by decide +kernel
theorem d_M_word_49 : decode b_M_word 49 = .ok (.iload_n 1, 1) := by decide +kernel
theorem d_M_word_50 : decode b_M_word 50 = .ok (.iconst 3, 1) := by decide +kernel
theorem d_M_word_51 : decode b_M_word 51 = .ok (.iadd, 1) := by decide +kernel
theorem d_M_word_52 : decode b_M_word 52 = .ok (.iaload, 1) := by decide +kernel
theorem d_M_word_53 : decode b_M_word 53 = .ok (.ior, 1) := by decide +kernel
theorem d_M_word_54 : decode b_M_word 54 = .ok (.ireturn, 1) := by decide +kernel
theorem d_M_state_0 : decode b_M_state 0 = .ok (.iload_n 1, 1) := by decide +kernel
theorem d_M_state_1 : decode b_M_state 1 = .ok (.tableswitch 122 0 8 #[51, 56, 61, 74, 79, 92, 97, 107, 117], 51) := by decide +kernel
theorem d_M_state_52 : decode b_M_state 52 = .ok (.aload_n 0, 1) := by decide +kernel
theorem d_M_state_53 : decode b_M_state 53 = .ok (.getfield 65, 3) := by decide +kernel
theorem d_M_state_56 : decode b_M_state 56 = .ok (.ireturn, 1) := by decide +kernel
theorem d_M_state_57 : decode b_M_state 57 = .ok (.aload_n 0, 1) := by decide +kernel
