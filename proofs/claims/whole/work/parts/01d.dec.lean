theorem dX12_slack_114 : decode cX12_slack 114 = .ok (.isub, 1) := by decide +kernel
theorem dX12_slack_115 : decode cX12_slack 115 = .ok (.istore 8, 2) := by decide +kernel
theorem dX12_slack_117 : decode cX12_slack 117 = .ok (.iload_n 3, 1) := by decide +kernel
theorem dX12_slack_118 : decode cX12_slack 118 = .ok (.ifCond .lt 19, 3) := by decide +kernel
theorem dX12_slack_121 : decode cX12_slack 121 = .ok (.iload 5, 2) := by decide +kernel
theorem dX12_slack_123 : decode cX12_slack 123 = .ok (.ifCond .eq 10, 3) := by decide +kernel
theorem dX12_slack_126 : decode cX12_slack 126 = .ok (.iload 8, 2) := by decide +kernel
theorem dX12_slack_128 : decode cX12_slack 128 = .ok (.iload 4, 2) := by decide +kernel
theorem dX12_slack_130 : decode cX12_slack 130 = .ok (.if_icmp .ge 7, 3) := by decide +kernel
theorem dX12_slack_133 : decode cX12_slack 133 = .ok (.iload 8, 2) := by decide +kernel
theorem dX12_slack_135 : decode cX12_slack 135 = .ok (.istore 4, 2) := by decide +kernel
theorem dX12_slack_137 : decode cX12_slack 137 = .ok (.iload 5, 2) := by decide +kernel
theorem dX12_slack_139 : decode cX12_slack 139 = .ok (.ifCond .ne 7, 3) := by decide +kernel
theorem dX12_slack_142 : decode cX12_slack 142 = .ok (.iload_n 3, 1) := by decide +kernel
theorem dX12_slack_143 : decode cX12_slack 143 = .ok (.ifCond .lt 7, 3) := by decide +kernel
theorem dX12_slack_146 : decode cX12_slack 146 = .ok (.iconst 1, 1) := by decide +kernel
theorem dX12_slack_147 : decode cX12_slack 147 = .ok (.goto 4, 3) := by decide +kernel
theorem dX12_slack_150 : decode cX12_slack 150 = .ok (.iconst 0, 1) := by decide +kernel
theorem dX12_slack_151 : decode cX12_slack 151 = .ok (.istore 5, 2) := by decide +kernel
theorem dX12_slack_153 : decode cX12_slack 153 = .ok (.iload 7, 2) := by decide +kernel
theorem dX12_slack_155 : decode cX12_slack 155 = .ok (.istore_n 3, 1) := by decide +kernel
theorem dX12_slack_156 : decode cX12_slack 156 = .ok (.iinc 6 1, 3) := by decide +kernel
theorem dX12_slack_159 : decode cX12_slack 159 = .ok (.goto (-107), 3) := by decide +kernel
theorem dX12_slack_162 : decode cX12_slack 162 = .ok (.iload 4, 2) := by decide +kernel
theorem dX12_slack_164 : decode cX12_slack 164 = .ok (.ireturn, 1) := by decide +kernel
theorem dX12_secondsOf_0 : decode cX12_secondsOf 0 = .ok (.iconst 0, 1) := by decide +kernel
theorem dX12_secondsOf_1 : decode cX12_secondsOf 1 = .ok (.istore_n 2, 1) := by decide +kernel
theorem dX12_secondsOf_2 : decode cX12_secondsOf 2 = .ok (.iconst 0, 1) := by decide +kernel
theorem dX12_secondsOf_3 : decode cX12_secondsOf 3 = .ok (.istore_n 3, 1) := by decide +kernel
theorem dX12_secondsOf_4 : decode cX12_secondsOf 4 = .ok (.iload_n 3, 1) := by decide +kernel
theorem dX12_secondsOf_5 : decode cX12_secondsOf 5 = .ok (.aload_n 0, 1) := by decide +kernel
theorem dX12_secondsOf_6 : decode cX12_secondsOf 6 = .ok (.getfield 20, 3) := by decide +kernel
theorem dX12_secondsOf_9 : decode cX12_secondsOf 9 = .ok (.bipush 7, 2) := by decide +kernel
theorem dX12_secondsOf_11 : decode cX12_secondsOf 11 = .ok (.iaload, 1) := by decide +kernel
theorem dX12_secondsOf_12 : decode cX12_secondsOf 12 = .ok (.if_icmp .ge 37, 3) := by decide +kernel
theorem dX12_secondsOf_15 : decode cX12_secondsOf 15 = .ok (.iload_n 2, 1) := by decide +kernel
theorem dX12_secondsOf_16 : decode cX12_secondsOf 16 = .ok (.iload_n 1, 1) := by decide +kernel
theorem dX12_secondsOf_17 : decode cX12_secondsOf 17 = .ok (.iload_n 3, 1) := by decide +kernel
theorem dX12_secondsOf_18 : decode cX12_secondsOf 18 = .ok (.invokestatic 278, 3) := by decide +kernel
theorem dX12_secondsOf_21 : decode cX12_secondsOf 21 = .ok (.ifCond .eq 19, 3) := by decide +kernel
theorem dX12_secondsOf_24 : decode cX12_secondsOf 24 = .ok (.aload_n 0, 1) := by decide +kernel
theorem dX12_secondsOf_25 : decode cX12_secondsOf 25 = .ok (.getfield 50, 3) := by decide +kernel
theorem dX12_secondsOf_28 : decode cX12_secondsOf 28 = .ok (.iload_n 3, 1) := by decide +kernel
theorem dX12_secondsOf_29 : decode cX12_secondsOf 29 = .ok (.iaload, 1) := by decide +kernel
theorem dX12_secondsOf_30 : decode cX12_secondsOf 30 = .ok (.aload_n 0, 1) := by decide +kernel
theorem dX12_secondsOf_31 : decode cX12_secondsOf 31 = .ok (.getfield 47, 3) := by decide +kernel
theorem dX12_secondsOf_34 : decode cX12_secondsOf 34 = .ok (.iload_n 3, 1) := by decide +kernel
theorem dX12_secondsOf_35 : decode cX12_secondsOf 35 = .ok (.iaload, 1) := by decide +kernel
theorem dX12_secondsOf_36 : decode cX12_secondsOf 36 = .ok (.isub, 1) := by decide +kernel
theorem dX12_secondsOf_37 : decode cX12_secondsOf 37 = .ok (.goto 4, 3) := by decide +kernel
theorem dX12_secondsOf_40 : decode cX12_secondsOf 40 = .ok (.iconst 0, 1) := by decide +kernel
theorem dX12_secondsOf_41 : decode cX12_secondsOf 41 = .ok (.iadd, 1) := by decide +kernel
theorem dX12_secondsOf_42 : decode cX12_secondsOf 42 = .ok (.istore_n 2, 1) := by decide +kernel
theorem dX12_secondsOf_43 : decode cX12_secondsOf 43 = .ok (.iinc 3 1, 3) := by decide +kernel
theorem dX12_secondsOf_46 : decode cX12_secondsOf 46 = .ok (.goto (-42), 3) := by decide +kernel
theorem dX12_secondsOf_49 : decode cX12_secondsOf 49 = .ok (.iload_n 2, 1) := by decide +kernel
theorem dX12_secondsOf_50 : decode cX12_secondsOf 50 = .ok (.ireturn, 1) := by decide +kernel
theorem dX12_sweat_0 : decode cX12_sweat 0 = .ok (.aload_n 0, 1) := by decide +kernel
theorem dX12_sweat_1 : decode cX12_sweat 1 = .ok (.invokevirtual 190, 3) := by decide +kernel
theorem dX12_sweat_4 : decode cX12_sweat 4 = .ok (.aload_n 0, 1) := by decide +kernel
theorem dX12_sweat_5 : decode cX12_sweat 5 = .ok (.iload_n 1, 1) := by decide +kernel
theorem dX12_sweat_6 : decode cX12_sweat 6 = .ok (.invokevirtual 348, 3) := by decide +kernel
theorem dX12_sweat_9 : decode cX12_sweat 9 = .ok (.ifCond .eq 12, 3) := by decide +kernel
theorem dX12_sweat_12 : decode cX12_sweat 12 = .ok (.iload_n 2, 1) := by decide +kernel
theorem dX12_sweat_13 : decode cX12_sweat 13 = .ok (.iconst 0, 1) := by decide +kernel
theorem dX12_sweat_14 : decode cX12_sweat 14 = .ok (.iconst 5, 1) := by decide +kernel
theorem dX12_sweat_15 : decode cX12_sweat 15 = .ok (.invokestatic 174, 3) := by decide +kernel
theorem dX12_sweat_18 : decode cX12_sweat 18 = .ok (.ifCond .ne 9, 3) := by decide +kernel
theorem dX12_sweat_21 : decode cX12_sweat 21 = .ok (.aload_n 0, 1) := by decide +kernel
theorem dX12_sweat_22 : decode cX12_sweat 22 = .ok (.iconst 1, 1) := by decide +kernel
theorem dX12_sweat_23 : decode cX12_sweat 23 = .ok (.invokevirtual 193, 3) := by decide +kernel
theorem dX12_sweat_26 : decode cX12_sweat 26 = .ok (.ireturn, 1) := by decide +kernel
theorem dX12_sweat_27 : decode cX12_sweat 27 = .ok (.aload_n 0, 1) := by decide +kernel
theorem dX12_sweat_28 : decode cX12_sweat 28 = .ok (.aload_n 0, 1) := by decide +kernel
theorem dX12_sweat_29 : decode cX12_sweat 29 = .ok (.getfield 26, 3) := by decide +kernel
theorem dX12_sweat_32 : decode cX12_sweat 32 = .ok (.invokevirtual 305, 3) := by decide +kernel
theorem dX12_sweat_35 : decode cX12_sweat 35 = .ok (.aload_n 0, 1) := by decide +kernel
theorem dX12_sweat_36 : decode cX12_sweat 36 = .ok (.iload_n 1, 1) := by decide +kernel
theorem dX12_sweat_37 : decode cX12_sweat 37 = .ok (.invokevirtual 345, 3) := by decide +kernel
theorem dX12_sweat_40 : decode cX12_sweat 40 = .ok (.istore_n 3, 1) := by decide +kernel
theorem dX12_sweat_41 : decode cX12_sweat 41 = .ok (.aload_n 0, 1) := by decide +kernel
theorem dX12_sweat_42 : decode cX12_sweat 42 = .ok (.iload_n 3, 1) := by decide +kernel
theorem dX12_sweat_43 : decode cX12_sweat 43 = .ok (.invokevirtual 330, 3) := by decide +kernel
theorem dX12_sweat_46 : decode cX12_sweat 46 = .ok (.istore 4, 2) := by decide +kernel
theorem dX12_sweat_48 : decode cX12_sweat 48 = .ok (.iload_n 2, 1) := by decide +kernel
theorem dX12_sweat_49 : decode cX12_sweat 49 = .ok (.ifCond .ne 10, 3) := by decide +kernel
theorem dX12_sweat_52 : decode cX12_sweat 52 = .ok (.aload_n 0, 1) := by decide +kernel
theorem dX12_sweat_53 : decode cX12_sweat 53 = .ok (.iload 4, 2) := by decide +kernel
theorem dX12_sweat_55 : decode cX12_sweat 55 = .ok (.invokevirtual 357, 3) := by decide +kernel
theorem dX12_sweat_58 : decode cX12_sweat 58 = .ok (.ireturn, 1) := by decide +kernel
theorem dX12_sweat_59 : decode cX12_sweat 59 = .ok (.iload_n 2, 1) := by decide +kernel
theorem dX12_sweat_60 : decode cX12_sweat 60 = .ok (.iconst 4, 1) := by decide +kernel
theorem dX12_sweat_61 : decode cX12_sweat 61 = .ok (.if_icmp .ne 13, 3) := by decide +kernel
theorem dX12_sweat_64 : decode cX12_sweat 64 = .ok (.aload_n 0, 1) := by decide +kernel
theorem dX12_sweat_65 : decode cX12_sweat 65 = .ok (.aload_n 0, 1) := by decide +kernel
theorem dX12_sweat_66 : decode cX12_sweat 66 = .ok (.iload_n 3, 1) := by decide +kernel
theorem dX12_sweat_67 : decode cX12_sweat 67 = .ok (.invokevirtual 327, 3) := by decide +kernel
theorem dX12_sweat_70 : decode cX12_sweat 70 = .ok (.invokevirtual 357, 3) := by decide +kernel
theorem dX12_sweat_73 : decode cX12_sweat 73 = .ok (.ireturn, 1) := by decide +kernel
theorem dX12_sweat_74 : decode cX12_sweat 74 = .ok (.iload_n 2, 1) := by decide +kernel
theorem dX12_sweat_75 : decode cX12_sweat 75 = .ok (.iconst 5, 1) := by decide +kernel
theorem dX12_sweat_76 : decode cX12_sweat 76 = .ok (.if_icmp .ne 13, 3) := by decide +kernel
theorem dX12_sweat_79 : decode cX12_sweat 79 = .ok (.aload_n 0, 1) := by decide +kernel
theorem dX12_sweat_80 : decode cX12_sweat 80 = .ok (.aload_n 0, 1) := by decide +kernel
theorem dX12_sweat_81 : decode cX12_sweat 81 = .ok (.iload_n 3, 1) := by decide +kernel
theorem dX12_sweat_82 : decode cX12_sweat 82 = .ok (.invokevirtual 333, 3) := by decide +kernel
theorem dX12_sweat_85 : decode cX12_sweat 85 = .ok (.invokevirtual 357, 3) := by decide +kernel
theorem dX12_sweat_88 : decode cX12_sweat 88 = .ok (.ireturn, 1) := by decide +kernel
theorem dX12_sweat_89 : decode cX12_sweat 89 = .ok (.iconst (-1), 1) := by decide +kernel
theorem dX12_sweat_90 : decode cX12_sweat 90 = .ok (.istore 5, 2) := by decide +kernel
theorem dX12_sweat_92 : decode cX12_sweat 92 = .ok (.iconst 0, 1) := by decide +kernel
theorem dX12_sweat_93 : decode cX12_sweat 93 = .ok (.istore 6, 2) := by decide +kernel
theorem dX12_sweat_95 : decode cX12_sweat 95 = .ok (.iconst 0, 1) := by decide +kernel
theorem dX12_sweat_96 : decode cX12_sweat 96 = .ok (.istore 7, 2) := by decide +kernel
theorem dX12_sweat_98 : decode cX12_sweat 98 = .ok (.iload 7, 2) := by decide +kernel
theorem dX12_sweat_100 : decode cX12_sweat 100 = .ok (.aload_n 0, 1) := by decide +kernel
theorem dX12_sweat_101 : decode cX12_sweat 101 = .ok (.getfield 20, 3) := by decide +kernel
theorem dX12_sweat_104 : decode cX12_sweat 104 = .ok (.bipush 7, 2) := by decide +kernel
theorem dX12_sweat_106 : decode cX12_sweat 106 = .ok (.iaload, 1) := by decide +kernel
theorem dX12_sweat_107 : decode cX12_sweat 107 = .ok (.if_icmp .ge 123, 3) := by decide +kernel
theorem dX12_sweat_110 : decode cX12_sweat 110 = .ok (.aload_n 0, 1) := by decide +kernel
theorem dX12_sweat_111 : decode cX12_sweat 111 = .ok (.getfield 53, 3) := by decide +kernel
theorem dX12_sweat_114 : decode cX12_sweat 114 = .ok (.iload 7, 2) := by decide +kernel
theorem dX12_sweat_116 : decode cX12_sweat 116 = .ok (.iaload, 1) := by decide +kernel
theorem dX12_sweat_117 : decode cX12_sweat 117 = .ok (.istore 8, 2) := by decide +kernel
theorem dX12_sweat_119 : decode cX12_sweat 119 = .ok (.iload 4, 2) := by decide +kernel
theorem dX12_sweat_121 : decode cX12_sweat 121 = .ok (.iload 8, 2) := by decide +kernel
theorem dX12_sweat_123 : decode cX12_sweat 123 = .ok (.invokestatic 278, 3) := by decide +kernel
theorem dX12_sweat_126 : decode cX12_sweat 126 = .ok (.ifCond .ne 6, 3) := by decide +kernel
theorem dX12_sweat_129 : decode cX12_sweat 129 = .ok (.goto 95, 3) := by decide +kernel
theorem dX12_sweat_132 : decode cX12_sweat 132 = .ok (.iload 5, 2) := by decide +kernel
theorem dX12_sweat_134 : decode cX12_sweat 134 = .ok (.ifCond .lt 86, 3) := by decide +kernel
theorem dX12_sweat_137 : decode cX12_sweat 137 = .ok (.iload 6, 2) := by decide +kernel
theorem dX12_sweat_139 : decode cX12_sweat 139 = .ok (.iload_n 2, 1) := by decide +kernel
theorem dX12_sweat_140 : decode cX12_sweat 140 = .ok (.iconst 1, 1) := by decide +kernel
theorem dX12_sweat_141 : decode cX12_sweat 141 = .ok (.if_icmp .ne 28, 3) := by decide +kernel
theorem dX12_sweat_144 : decode cX12_sweat 144 = .ok (.aload_n 0, 1) := by decide +kernel
theorem dX12_sweat_145 : decode cX12_sweat 145 = .ok (.iload 5, 2) := by decide +kernel
theorem dX12_sweat_147 : decode cX12_sweat 147 = .ok (.iconst 5, 1) := by decide +kernel
theorem dX12_sweat_148 : decode cX12_sweat 148 = .ok (.invokevirtual 302, 3) := by decide +kernel
theorem dX12_sweat_151 : decode cX12_sweat 151 = .ok (.aload_n 0, 1) := by decide +kernel
theorem dX12_sweat_152 : decode cX12_sweat 152 = .ok (.iload 8, 2) := by decide +kernel
theorem dX12_sweat_154 : decode cX12_sweat 154 = .ok (.iconst 4, 1) := by decide +kernel
theorem dX12_sweat_155 : decode cX12_sweat 155 = .ok (.invokevirtual 302, 3) := by decide +kernel
theorem dX12_sweat_158 : decode cX12_sweat 158 = .ok (.if_icmp .eq 7, 3) := by decide +kernel
theorem dX12_sweat_161 : decode cX12_sweat 161 = .ok (.iconst 1, 1) := by decide +kernel
theorem dX12_sweat_162 : decode cX12_sweat 162 = .ok (.goto 55, 3) := by decide +kernel
theorem dX12_sweat_165 : decode cX12_sweat 165 = .ok (.iconst 0, 1) := by decide +kernel
theorem dX12_sweat_166 : decode cX12_sweat 166 = .ok (.goto 51, 3) := by decide +kernel
theorem dX12_sweat_169 : decode cX12_sweat 169 = .ok (.iload_n 2, 1) := by decide +kernel
theorem dX12_sweat_170 : decode cX12_sweat 170 = .ok (.iconst 2, 1) := by decide +kernel
theorem dX12_sweat_171 : decode cX12_sweat 171 = .ok (.if_icmp .ne 28, 3) := by decide +kernel
theorem dX12_sweat_174 : decode cX12_sweat 174 = .ok (.aload_n 0, 1) := by decide +kernel
theorem dX12_sweat_175 : decode cX12_sweat 175 = .ok (.iload 5, 2) := by decide +kernel
theorem dX12_sweat_177 : decode cX12_sweat 177 = .ok (.iconst 0, 1) := by decide +kernel
theorem dX12_sweat_178 : decode cX12_sweat 178 = .ok (.invokevirtual 302, 3) := by decide +kernel
theorem dX12_sweat_181 : decode cX12_sweat 181 = .ok (.aload_n 0, 1) := by decide +kernel
theorem dX12_sweat_182 : decode cX12_sweat 182 = .ok (.iload 8, 2) := by decide +kernel
theorem dX12_sweat_184 : decode cX12_sweat 184 = .ok (.iconst 0, 1) := by decide +kernel
theorem dX12_sweat_185 : decode cX12_sweat 185 = .ok (.invokevirtual 302, 3) := by decide +kernel
theorem dX12_sweat_188 : decode cX12_sweat 188 = .ok (.if_icmp .eq 7, 3) := by decide +kernel
theorem dX12_sweat_191 : decode cX12_sweat 191 = .ok (.iconst 1, 1) := by decide +kernel
theorem dX12_sweat_192 : decode cX12_sweat 192 = .ok (.goto 25, 3) := by decide +kernel
theorem dX12_sweat_195 : decode cX12_sweat 195 = .ok (.iconst 0, 1) := by decide +kernel
theorem dX12_sweat_196 : decode cX12_sweat 196 = .ok (.goto 21, 3) := by decide +kernel
theorem dX12_sweat_199 : decode cX12_sweat 199 = .ok (.aload_n 0, 1) := by decide +kernel
theorem dX12_sweat_200 : decode cX12_sweat 200 = .ok (.aload_n 0, 1) := by decide +kernel
theorem dX12_sweat_201 : decode cX12_sweat 201 = .ok (.iload 5, 2) := by decide +kernel
theorem dX12_sweat_203 : decode cX12_sweat 203 = .ok (.iconst 0, 1) := by decide +kernel
theorem dX12_sweat_204 : decode cX12_sweat 204 = .ok (.invokevirtual 302, 3) := by decide +kernel
theorem dX12_sweat_207 : decode cX12_sweat 207 = .ok (.aload_n 0, 1) := by decide +kernel
theorem dX12_sweat_208 : decode cX12_sweat 208 = .ok (.iload 8, 2) := by decide +kernel
theorem dX12_sweat_210 : decode cX12_sweat 210 = .ok (.iconst 0, 1) := by decide +kernel
theorem dX12_sweat_211 : decode cX12_sweat 211 = .ok (.invokevirtual 302, 3) := by decide +kernel
theorem dX12_sweat_214 : decode cX12_sweat 214 = .ok (.invokevirtual 315, 3) := by decide +kernel
theorem dX12_sweat_217 : decode cX12_sweat 217 = .ok (.iadd, 1) := by decide +kernel
theorem dX12_sweat_218 : decode cX12_sweat 218 = .ok (.istore 6, 2) := by decide +kernel
theorem dX12_sweat_220 : decode cX12_sweat 220 = .ok (.iload 8, 2) := by decide +kernel
theorem dX12_sweat_222 : decode cX12_sweat 222 = .ok (.istore 5, 2) := by decide +kernel
theorem dX12_sweat_224 : decode cX12_sweat 224 = .ok (.iinc 7 1, 3) := by decide +kernel
theorem dX12_sweat_227 : decode cX12_sweat 227 = .ok (.goto (-129), 3) := by decide +kernel
theorem dX12_sweat_230 : decode cX12_sweat 230 = .ok (.iload 6, 2) := by decide +kernel
theorem dX12_sweat_232 : decode cX12_sweat 232 = .ok (.ireturn, 1) := by decide +kernel
theorem dX12_layMay_0 : decode cX12_layMay 0 = .ok (.iconst 0, 1) := by decide +kernel
theorem dX12_layMay_1 : decode cX12_layMay 1 = .ok (.istore_n 2, 1) := by decide +kernel
theorem dX12_layMay_2 : decode cX12_layMay 2 = .ok (.iload_n 2, 1) := by decide +kernel
theorem dX12_layMay_3 : decode cX12_layMay 3 = .ok (.aload_n 0, 1) := by decide +kernel
theorem dX12_layMay_4 : decode cX12_layMay 4 = .ok (.invokevirtual 354, 3) := by decide +kernel
theorem dX12_layMay_7 : decode cX12_layMay 7 = .ok (.if_icmp .gt 25, 3) := by decide +kernel
theorem dX12_layMay_10 : decode cX12_layMay 10 = .ok (.aload_n 0, 1) := by decide +kernel
theorem dX12_layMay_11 : decode cX12_layMay 11 = .ok (.getfield 59, 3) := by decide +kernel
theorem dX12_layMay_14 : decode cX12_layMay 14 = .ok (.iload_n 2, 1) := by decide +kernel
theorem dX12_layMay_15 : decode cX12_layMay 15 = .ok (.aload_n 0, 1) := by decide +kernel
theorem dX12_layMay_16 : decode cX12_layMay 16 = .ok (.aload_n 0, 1) := by decide +kernel
theorem dX12_layMay_17 : decode cX12_layMay 17 = .ok (.iload_n 2, 1) := by decide +kernel
theorem dX12_layMay_18 : decode cX12_layMay 18 = .ok (.iload_n 1, 1) := by decide +kernel
theorem dX12_layMay_19 : decode cX12_layMay 19 = .ok (.invokevirtual 342, 3) := by decide +kernel
theorem dX12_layMay_22 : decode cX12_layMay 22 = .ok (.invokevirtual 351, 3) := by decide +kernel
theorem dX12_layMay_25 : decode cX12_layMay 25 = .ok (.bastore, 1) := by decide +kernel
theorem dX12_layMay_26 : decode cX12_layMay 26 = .ok (.iinc 2 1, 3) := by decide +kernel
theorem dX12_layMay_29 : decode cX12_layMay 29 = .ok (.goto (-27), 3) := by decide +kernel
theorem dX12_layMay_32 : decode cX12_layMay 32 = .ok (.return_, 1) := by decide +kernel
theorem dX12_fewestBy_0 : decode cX12_fewestBy 0 = .ok (.aload_n 0, 1) := by decide +kernel
theorem dX12_fewestBy_1 : decode cX12_fewestBy 1 = .ok (.aload_n 1, 1) := by decide +kernel
theorem dX12_fewestBy_2 : decode cX12_fewestBy 2 = .ok (.invokevirtual 305, 3) := by decide +kernel
theorem dX12_fewestBy_5 : decode cX12_fewestBy 5 = .ok (.aload_n 0, 1) := by decide +kernel
theorem dX12_fewestBy_6 : decode cX12_fewestBy 6 = .ok (.iload_n 2, 1) := by decide +kernel
theorem dX12_fewestBy_7 : decode cX12_fewestBy 7 = .ok (.invokevirtual 360, 3) := by decide +kernel
theorem dX12_fewestBy_10 : decode cX12_fewestBy 10 = .ok (.aload_n 0, 1) := by decide +kernel
theorem dX12_fewestBy_11 : decode cX12_fewestBy 11 = .ok (.getfield 20, 3) := by decide +kernel
theorem dX12_fewestBy_14 : decode cX12_fewestBy 14 = .ok (.iconst 4, 1) := by decide +kernel
theorem dX12_fewestBy_15 : decode cX12_fewestBy 15 = .ok (.iaload, 1) := by decide +kernel
theorem dX12_fewestBy_16 : decode cX12_fewestBy 16 = .ok (.istore_n 3, 1) := by decide +kernel
theorem dX12_fewestBy_17 : decode cX12_fewestBy 17 = .ok (.bipush (-2), 2) := by decide +kernel
theorem dX12_fewestBy_19 : decode cX12_fewestBy 19 = .ok (.istore 4, 2) := by decide +kernel
theorem dX12_fewestBy_21 : decode cX12_fewestBy 21 = .ok (.iconst 0, 1) := by decide +kernel
theorem dX12_fewestBy_22 : decode cX12_fewestBy 22 = .ok (.istore 5, 2) := by decide +kernel
theorem dX12_fewestBy_24 : decode cX12_fewestBy 24 = .ok (.iload 5, 2) := by decide +kernel
theorem dX12_fewestBy_26 : decode cX12_fewestBy 26 = .ok (.iload_n 3, 1) := by decide +kernel
theorem dX12_fewestBy_27 : decode cX12_fewestBy 27 = .ok (.if_icmp .ge 17, 3) := by decide +kernel
theorem dX12_fewestBy_30 : decode cX12_fewestBy 30 = .ok (.aload_n 0, 1) := by decide +kernel
theorem dX12_fewestBy_31 : decode cX12_fewestBy 31 = .ok (.getfield 66, 3) := by decide +kernel
theorem dX12_fewestBy_34 : decode cX12_fewestBy 34 = .ok (.iload 5, 2) := by decide +kernel
theorem dX12_fewestBy_36 : decode cX12_fewestBy 36 = .ok (.iconst 0, 1) := by decide +kernel
theorem dX12_fewestBy_37 : decode cX12_fewestBy 37 = .ok (.iastore, 1) := by decide +kernel
theorem dX12_fewestBy_38 : decode cX12_fewestBy 38 = .ok (.iinc 5 1, 3) := by decide +kernel
theorem dX12_fewestBy_41 : decode cX12_fewestBy 41 = .ok (.goto (-17), 3) := by decide +kernel
theorem dX12_fewestBy_44 : decode cX12_fewestBy 44 = .ok (.iconst 1, 1) := by decide +kernel
theorem dX12_fewestBy_45 : decode cX12_fewestBy 45 = .ok (.istore 5, 2) := by decide +kernel
theorem dX12_fewestBy_47 : decode cX12_fewestBy 47 = .ok (.iload 5, 2) := by decide +kernel
theorem dX12_fewestBy_49 : decode cX12_fewestBy 49 = .ok (.ifCond .eq 59, 3) := by decide +kernel
theorem dX12_fewestBy_52 : decode cX12_fewestBy 52 = .ok (.aload_n 0, 1) := by decide +kernel
theorem dX12_fewestBy_53 : decode cX12_fewestBy 53 = .ok (.invokevirtual 363, 3) := by decide +kernel
theorem dX12_fewestBy_56 : decode cX12_fewestBy 56 = .ok (.istore 6, 2) := by decide +kernel
theorem dX12_fewestBy_58 : decode cX12_fewestBy 58 = .ok (.iload 4, 2) := by decide +kernel
theorem dX12_fewestBy_60 : decode cX12_fewestBy 60 = .ok (.bipush (-2), 2) := by decide +kernel
theorem dX12_fewestBy_62 : decode cX12_fewestBy 62 = .ok (.if_icmp .eq 10, 3) := by decide +kernel
theorem dX12_fewestBy_65 : decode cX12_fewestBy 65 = .ok (.iload 6, 2) := by decide +kernel
theorem dX12_fewestBy_67 : decode cX12_fewestBy 67 = .ok (.iload 4, 2) := by decide +kernel
theorem dX12_fewestBy_69 : decode cX12_fewestBy 69 = .ok (.if_icmp .ge 30, 3) := by decide +kernel
theorem dX12_fewestBy_72 : decode cX12_fewestBy 72 = .ok (.aload_n 0, 1) := by decide +kernel
theorem dX12_fewestBy_73 : decode cX12_fewestBy 73 = .ok (.iload 6, 2) := by decide +kernel
theorem dX12_fewestBy_75 : decode cX12_fewestBy 75 = .ok (.invokevirtual 366, 3) := by decide +kernel
theorem dX12_fewestBy_78 : decode cX12_fewestBy 78 = .ok (.ifCond .eq 21, 3) := by decide +kernel
theorem dX12_fewestBy_81 : decode cX12_fewestBy 81 = .ok (.iload 6, 2) := by decide +kernel
theorem dX12_fewestBy_83 : decode cX12_fewestBy 83 = .ok (.istore 4, 2) := by decide +kernel
theorem dX12_fewestBy_85 : decode cX12_fewestBy 85 = .ok (.aload_n 0, 1) := by decide +kernel
theorem dX12_fewestBy_86 : decode cX12_fewestBy 86 = .ok (.getfield 66, 3) := by decide +kernel
theorem dX12_fewestBy_89 : decode cX12_fewestBy 89 = .ok (.iconst 0, 1) := by decide +kernel
theorem dX12_fewestBy_90 : decode cX12_fewestBy 90 = .ok (.aload_n 0, 1) := by decide +kernel
theorem dX12_fewestBy_91 : decode cX12_fewestBy 91 = .ok (.getfield 69, 3) := by decide +kernel
theorem dX12_fewestBy_94 : decode cX12_fewestBy 94 = .ok (.iconst 0, 1) := by decide +kernel
theorem dX12_fewestBy_95 : decode cX12_fewestBy 95 = .ok (.iload_n 3, 1) := by decide +kernel
theorem dX12_fewestBy_96 : decode cX12_fewestBy 96 = .ok (.invokestatic 199, 3) := by decide +kernel
theorem dX12_fewestBy_99 : decode cX12_fewestBy 99 = .ok (.aload_n 0, 1) := by decide +kernel
theorem dX12_fewestBy_100 : decode cX12_fewestBy 100 = .ok (.invokevirtual 369, 3) := by decide +kernel
theorem dX12_fewestBy_103 : decode cX12_fewestBy 103 = .ok (.istore 5, 2) := by decide +kernel
theorem dX12_fewestBy_105 : decode cX12_fewestBy 105 = .ok (.goto (-58), 3) := by decide +kernel
theorem dX12_fewestBy_108 : decode cX12_fewestBy 108 = .ok (.iload 4, 2) := by decide +kernel
theorem dX12_fewestBy_110 : decode cX12_fewestBy 110 = .ok (.ireturn, 1) := by decide +kernel
theorem dX12_playersOf_0 : decode cX12_playersOf 0 = .ok (.iconst 0, 1) := by decide +kernel
theorem dX12_playersOf_1 : decode cX12_playersOf 1 = .ok (.istore_n 1, 1) := by decide +kernel
theorem dX12_playersOf_2 : decode cX12_playersOf 2 = .ok (.iconst 0, 1) := by decide +kernel
theorem dX12_playersOf_3 : decode cX12_playersOf 3 = .ok (.istore_n 2, 1) := by decide +kernel
theorem dX12_playersOf_4 : decode cX12_playersOf 4 = .ok (.iload_n 2, 1) := by decide +kernel
theorem dX12_playersOf_5 : decode cX12_playersOf 5 = .ok (.aload_n 0, 1) := by decide +kernel
theorem dX12_playersOf_6 : decode cX12_playersOf 6 = .ok (.getfield 20, 3) := by decide +kernel
theorem dX12_playersOf_9 : decode cX12_playersOf 9 = .ok (.iconst 4, 1) := by decide +kernel
theorem dX12_playersOf_10 : decode cX12_playersOf 10 = .ok (.iaload, 1) := by decide +kernel
theorem dX12_playersOf_11 : decode cX12_playersOf 11 = .ok (.if_icmp .ge 34, 3) := by decide +kernel
theorem dX12_playersOf_14 : decode cX12_playersOf 14 = .ok (.aload_n 0, 1) := by decide +kernel
theorem dX12_playersOf_15 : decode cX12_playersOf 15 = .ok (.getfield 66, 3) := by decide +kernel
theorem dX12_playersOf_18 : decode cX12_playersOf 18 = .ok (.iload_n 2, 1) := by decide +kernel
theorem dX12_playersOf_19 : decode cX12_playersOf 19 = .ok (.iaload, 1) := by decide +kernel
theorem dX12_playersOf_20 : decode cX12_playersOf 20 = .ok (.iconst 1, 1) := by decide +kernel
theorem dX12_playersOf_21 : decode cX12_playersOf 21 = .ok (.iadd, 1) := by decide +kernel
theorem dX12_playersOf_22 : decode cX12_playersOf 22 = .ok (.iload_n 1, 1) := by decide +kernel
theorem dX12_playersOf_23 : decode cX12_playersOf 23 = .ok (.if_icmp .le 14, 3) := by decide +kernel
theorem dX12_playersOf_26 : decode cX12_playersOf 26 = .ok (.aload_n 0, 1) := by decide +kernel
theorem dX12_playersOf_27 : decode cX12_playersOf 27 = .ok (.getfield 66, 3) := by decide +kernel
theorem dX12_playersOf_30 : decode cX12_playersOf 30 = .ok (.iload_n 2, 1) := by decide +kernel
theorem dX12_playersOf_31 : decode cX12_playersOf 31 = .ok (.iaload, 1) := by decide +kernel
theorem dX12_playersOf_32 : decode cX12_playersOf 32 = .ok (.iconst 1, 1) := by decide +kernel
theorem dX12_playersOf_33 : decode cX12_playersOf 33 = .ok (.iadd, 1) := by decide +kernel
theorem dX12_playersOf_34 : decode cX12_playersOf 34 = .ok (.goto 4, 3) := by decide +kernel
theorem dX12_playersOf_37 : decode cX12_playersOf 37 = .ok (.iload_n 1, 1) := by decide +kernel
theorem dX12_playersOf_38 : decode cX12_playersOf 38 = .ok (.istore_n 1, 1) := by decide +kernel
theorem dX12_playersOf_39 : decode cX12_playersOf 39 = .ok (.iinc 2 1, 3) := by decide +kernel
theorem dX12_playersOf_42 : decode cX12_playersOf 42 = .ok (.goto (-38), 3) := by decide +kernel
theorem dX12_playersOf_45 : decode cX12_playersOf 45 = .ok (.iload_n 1, 1) := by decide +kernel
theorem dX12_playersOf_46 : decode cX12_playersOf 46 = .ok (.ireturn, 1) := by decide +kernel
theorem dX12_doAllCan_0 : decode cX12_doAllCan 0 = .ok (.iconst 1, 1) := by decide +kernel
theorem dX12_doAllCan_1 : decode cX12_doAllCan 1 = .ok (.istore_n 2, 1) := by decide +kernel
theorem dX12_doAllCan_2 : decode cX12_doAllCan 2 = .ok (.iconst 0, 1) := by decide +kernel
theorem dX12_doAllCan_3 : decode cX12_doAllCan 3 = .ok (.istore_n 3, 1) := by decide +kernel
theorem dX12_doAllCan_4 : decode cX12_doAllCan 4 = .ok (.iload_n 3, 1) := by decide +kernel
theorem dX12_doAllCan_5 : decode cX12_doAllCan 5 = .ok (.iload_n 1, 1) := by decide +kernel
theorem dX12_doAllCan_6 : decode cX12_doAllCan 6 = .ok (.if_icmp .ge 68, 3) := by decide +kernel
theorem dX12_doAllCan_9 : decode cX12_doAllCan 9 = .ok (.iload_n 2, 1) := by decide +kernel
theorem dX12_doAllCan_10 : decode cX12_doAllCan 10 = .ok (.ifCond .eq 64, 3) := by decide +kernel
theorem dX12_doAllCan_13 : decode cX12_doAllCan 13 = .ok (.iconst 0, 1) := by decide +kernel
theorem dX12_doAllCan_14 : decode cX12_doAllCan 14 = .ok (.istore 4, 2) := by decide +kernel
theorem dX12_doAllCan_16 : decode cX12_doAllCan 16 = .ok (.iconst 0, 1) := by decide +kernel
theorem dX12_doAllCan_17 : decode cX12_doAllCan 17 = .ok (.istore 5, 2) := by decide +kernel
theorem dX12_doAllCan_19 : decode cX12_doAllCan 19 = .ok (.iload 5, 2) := by decide +kernel
theorem dX12_doAllCan_21 : decode cX12_doAllCan 21 = .ok (.aload_n 0, 1) := by decide +kernel
theorem dX12_doAllCan_22 : decode cX12_doAllCan 22 = .ok (.getfield 20, 3) := by decide +kernel
theorem dX12_doAllCan_25 : decode cX12_doAllCan 25 = .ok (.iconst 4, 1) := by decide +kernel
theorem dX12_doAllCan_26 : decode cX12_doAllCan 26 = .ok (.iaload, 1) := by decide +kernel
theorem dX12_doAllCan_27 : decode cX12_doAllCan 27 = .ok (.if_icmp .ge 33, 3) := by decide +kernel
theorem dX12_doAllCan_30 : decode cX12_doAllCan 30 = .ok (.iload 4, 2) := by decide +kernel
theorem dX12_doAllCan_32 : decode cX12_doAllCan 32 = .ok (.aload_n 0, 1) := by decide +kernel
theorem dX12_doAllCan_33 : decode cX12_doAllCan 33 = .ok (.getfield 66, 3) := by decide +kernel
theorem dX12_doAllCan_36 : decode cX12_doAllCan 36 = .ok (.iload 5, 2) := by decide +kernel
theorem dX12_doAllCan_38 : decode cX12_doAllCan 38 = .ok (.iaload, 1) := by decide +kernel
theorem dX12_doAllCan_39 : decode cX12_doAllCan 39 = .ok (.iload_n 3, 1) := by decide +kernel
theorem dX12_doAllCan_40 : decode cX12_doAllCan 40 = .ok (.if_icmp .ne 10, 3) := by decide +kernel
theorem dX12_doAllCan_43 : decode cX12_doAllCan 43 = .ok (.iconst 1, 1) := by decide +kernel
theorem dX12_doAllCan_44 : decode cX12_doAllCan 44 = .ok (.iload 5, 2) := by decide +kernel
theorem dX12_doAllCan_46 : decode cX12_doAllCan 46 = .ok (.ishl, 1) := by decide +kernel
theorem dX12_doAllCan_47 : decode cX12_doAllCan 47 = .ok (.goto 4, 3) := by decide +kernel
theorem dX12_doAllCan_50 : decode cX12_doAllCan 50 = .ok (.iconst 0, 1) := by decide +kernel
theorem dX12_doAllCan_51 : decode cX12_doAllCan 51 = .ok (.ior, 1) := by decide +kernel
theorem dX12_doAllCan_52 : decode cX12_doAllCan 52 = .ok (.istore 4, 2) := by decide +kernel
theorem dX12_doAllCan_54 : decode cX12_doAllCan 54 = .ok (.iinc 5 1, 3) := by decide +kernel
theorem dX12_doAllCan_57 : decode cX12_doAllCan 57 = .ok (.goto (-38), 3) := by decide +kernel
theorem dX12_doAllCan_60 : decode cX12_doAllCan 60 = .ok (.aload_n 0, 1) := by decide +kernel
theorem dX12_doAllCan_61 : decode cX12_doAllCan 61 = .ok (.getfield 59, 3) := by decide +kernel
theorem dX12_doAllCan_64 : decode cX12_doAllCan 64 = .ok (.iload 4, 2) := by decide +kernel
theorem dX12_doAllCan_66 : decode cX12_doAllCan 66 = .ok (.baload, 1) := by decide +kernel
theorem dX12_doAllCan_67 : decode cX12_doAllCan 67 = .ok (.istore_n 2, 1) := by decide +kernel
theorem dX12_doAllCan_68 : decode cX12_doAllCan 68 = .ok (.iinc 3 1, 3) := by decide +kernel
theorem dX12_doAllCan_71 : decode cX12_doAllCan 71 = .ok (.goto (-67), 3) := by decide +kernel
theorem dX12_doAllCan_74 : decode cX12_doAllCan 74 = .ok (.iload_n 2, 1) := by decide +kernel
theorem dX12_doAllCan_75 : decode cX12_doAllCan 75 = .ok (.ireturn, 1) := by decide +kernel
theorem dX12_nextCast_0 : decode cX12_nextCast 0 = .ok (.aload_n 0, 1) := by decide +kernel
theorem dX12_nextCast_1 : decode cX12_nextCast 1 = .ok (.getfield 20, 3) := by decide +kernel
theorem dX12_nextCast_4 : decode cX12_nextCast 4 = .ok (.iconst 4, 1) := by decide +kernel
theorem dX12_nextCast_5 : decode cX12_nextCast 5 = .ok (.iaload, 1) := by decide +kernel
theorem dX12_nextCast_6 : decode cX12_nextCast 6 = .ok (.iconst 1, 1) := by decide +kernel
theorem dX12_nextCast_7 : decode cX12_nextCast 7 = .ok (.isub, 1) := by decide +kernel
theorem dX12_nextCast_8 : decode cX12_nextCast 8 = .ok (.istore_n 1, 1) := by decide +kernel
theorem dX12_nextCast_9 : decode cX12_nextCast 9 = .ok (.iload_n 1, 1) := by decide +kernel
theorem dX12_nextCast_10 : decode cX12_nextCast 10 = .ok (.ifCond .le 97, 3) := by decide +kernel
theorem dX12_nextCast_13 : decode cX12_nextCast 13 = .ok (.iconst 0, 1) := by decide +kernel
theorem dX12_nextCast_14 : decode cX12_nextCast 14 = .ok (.istore_n 2, 1) := by decide +kernel
theorem dX12_nextCast_15 : decode cX12_nextCast 15 = .ok (.iconst 0, 1) := by decide +kernel
theorem dX12_nextCast_16 : decode cX12_nextCast 16 = .ok (.istore_n 3, 1) := by decide +kernel
theorem dX12_nextCast_17 : decode cX12_nextCast 17 = .ok (.iload_n 3, 1) := by decide +kernel
theorem dX12_nextCast_18 : decode cX12_nextCast 18 = .ok (.iload_n 1, 1) := by decide +kernel
theorem dX12_nextCast_19 : decode cX12_nextCast 19 = .ok (.if_icmp .ge 30, 3) := by decide +kernel
theorem dX12_nextCast_22 : decode cX12_nextCast 22 = .ok (.aload_n 0, 1) := by decide +kernel
theorem dX12_nextCast_23 : decode cX12_nextCast 23 = .ok (.getfield 66, 3) := by decide +kernel
theorem dX12_nextCast_26 : decode cX12_nextCast 26 = .ok (.iload_n 3, 1) := by decide +kernel
theorem dX12_nextCast_27 : decode cX12_nextCast 27 = .ok (.iaload, 1) := by decide +kernel
theorem dX12_nextCast_28 : decode cX12_nextCast 28 = .ok (.iload_n 2, 1) := by decide +kernel
theorem dX12_nextCast_29 : decode cX12_nextCast 29 = .ok (.if_icmp .le 12, 3) := by decide +kernel
theorem dX12_nextCast_32 : decode cX12_nextCast 32 = .ok (.aload_n 0, 1) := by decide +kernel
theorem dX12_nextCast_33 : decode cX12_nextCast 33 = .ok (.getfield 66, 3) := by decide +kernel
theorem dX12_nextCast_36 : decode cX12_nextCast 36 = .ok (.iload_n 3, 1) := by decide +kernel
theorem dX12_nextCast_37 : decode cX12_nextCast 37 = .ok (.iaload, 1) := by decide +kernel
theorem dX12_nextCast_38 : decode cX12_nextCast 38 = .ok (.goto 4, 3) := by decide +kernel
theorem dX12_nextCast_41 : decode cX12_nextCast 41 = .ok (.iload_n 2, 1) := by decide +kernel
theorem dX12_nextCast_42 : decode cX12_nextCast 42 = .ok (.istore_n 2, 1) := by decide +kernel
theorem dX12_nextCast_43 : decode cX12_nextCast 43 = .ok (.iinc 3 1, 3) := by decide +kernel
theorem dX12_nextCast_46 : decode cX12_nextCast 46 = .ok (.goto (-29), 3) := by decide +kernel
theorem dX12_nextCast_49 : decode cX12_nextCast 49 = .ok (.aload_n 0, 1) := by decide +kernel
theorem dX12_nextCast_50 : decode cX12_nextCast 50 = .ok (.getfield 66, 3) := by decide +kernel
theorem dX12_nextCast_53 : decode cX12_nextCast 53 = .ok (.iload_n 1, 1) := by decide +kernel
theorem dX12_nextCast_54 : decode cX12_nextCast 54 = .ok (.iaload, 1) := by decide +kernel
theorem dX12_nextCast_55 : decode cX12_nextCast 55 = .ok (.iload_n 2, 1) := by decide +kernel
theorem dX12_nextCast_56 : decode cX12_nextCast 56 = .ok (.if_icmp .le 6, 3) := by decide +kernel
theorem dX12_nextCast_59 : decode cX12_nextCast 59 = .ok (.goto 42, 3) := by decide +kernel
theorem dX12_nextCast_62 : decode cX12_nextCast 62 = .ok (.aload_n 0, 1) := by decide +kernel
theorem dX12_nextCast_63 : decode cX12_nextCast 63 = .ok (.getfield 66, 3) := by decide +kernel
theorem dX12_nextCast_66 : decode cX12_nextCast 66 = .ok (.iload_n 1, 1) := by decide +kernel
theorem dX12_nextCast_67 : decode cX12_nextCast 67 = .ok (.dup2, 1) := by decide +kernel
theorem dX12_nextCast_68 : decode cX12_nextCast 68 = .ok (.iaload, 1) := by decide +kernel
theorem dX12_nextCast_69 : decode cX12_nextCast 69 = .ok (.iconst 1, 1) := by decide +kernel
theorem dX12_nextCast_70 : decode cX12_nextCast 70 = .ok (.iadd, 1) := by decide +kernel
theorem dX12_nextCast_71 : decode cX12_nextCast 71 = .ok (.iastore, 1) := by decide +kernel
theorem dX12_nextCast_72 : decode cX12_nextCast 72 = .ok (.iload_n 1, 1) := by decide +kernel
theorem dX12_nextCast_73 : decode cX12_nextCast 73 = .ok (.iconst 1, 1) := by decide +kernel
theorem dX12_nextCast_74 : decode cX12_nextCast 74 = .ok (.iadd, 1) := by decide +kernel
theorem dX12_nextCast_75 : decode cX12_nextCast 75 = .ok (.istore_n 3, 1) := by decide +kernel
theorem dX12_nextCast_76 : decode cX12_nextCast 76 = .ok (.iload_n 3, 1) := by decide +kernel
theorem dX12_nextCast_77 : decode cX12_nextCast 77 = .ok (.aload_n 0, 1) := by decide +kernel
theorem dX12_nextCast_78 : decode cX12_nextCast 78 = .ok (.getfield 20, 3) := by decide +kernel
theorem dX12_nextCast_81 : decode cX12_nextCast 81 = .ok (.iconst 4, 1) := by decide +kernel
theorem dX12_nextCast_82 : decode cX12_nextCast 82 = .ok (.iaload, 1) := by decide +kernel
theorem dX12_nextCast_83 : decode cX12_nextCast 83 = .ok (.if_icmp .ge 16, 3) := by decide +kernel
theorem dX12_nextCast_86 : decode cX12_nextCast 86 = .ok (.aload_n 0, 1) := by decide +kernel
theorem dX12_nextCast_87 : decode cX12_nextCast 87 = .ok (.getfield 66, 3) := by decide +kernel
theorem dX12_nextCast_90 : decode cX12_nextCast 90 = .ok (.iload_n 3, 1) := by decide +kernel
theorem dX12_nextCast_91 : decode cX12_nextCast 91 = .ok (.iconst 0, 1) := by decide +kernel
theorem dX12_nextCast_92 : decode cX12_nextCast 92 = .ok (.iastore, 1) := by decide +kernel
theorem dX12_nextCast_93 : decode cX12_nextCast 93 = .ok (.iinc 3 1, 3) := by decide +kernel
theorem dX12_nextCast_96 : decode cX12_nextCast 96 = .ok (.goto (-20), 3) := by decide +kernel
theorem dX12_nextCast_99 : decode cX12_nextCast 99 = .ok (.iconst 1, 1) := by decide +kernel
theorem dX12_nextCast_100 : decode cX12_nextCast 100 = .ok (.ireturn, 1) := by decide +kernel
theorem dX12_nextCast_101 : decode cX12_nextCast 101 = .ok (.iinc 1 (-1), 3) := by decide +kernel
theorem dX12_nextCast_104 : decode cX12_nextCast 104 = .ok (.goto (-95), 3) := by decide +kernel
theorem dX12_nextCast_107 : decode cX12_nextCast 107 = .ok (.iconst 0, 1) := by decide +kernel
theorem dX12_nextCast_108 : decode cX12_nextCast 108 = .ok (.ireturn, 1) := by decide +kernel
theorem dX12_fewest_0 : decode cX12_fewest 0 = .ok (.aload_n 0, 1) := by decide +kernel
theorem dX12_fewest_1 : decode cX12_fewest 1 = .ok (.invokevirtual 190, 3) := by decide +kernel
theorem dX12_fewest_4 : decode cX12_fewest 4 = .ok (.aload_n 0, 1) := by decide +kernel
theorem dX12_fewest_5 : decode cX12_fewest 5 = .ok (.getfield 203, 3) := by decide +kernel
theorem dX12_fewest_8 : decode cX12_fewest 8 = .ok (.ifCond .eq 21, 3) := by decide +kernel
theorem dX12_fewest_11 : decode cX12_fewest 11 = .ok (.aload_n 0, 1) := by decide +kernel
theorem dX12_fewest_12 : decode cX12_fewest 12 = .ok (.aload_n 0, 1) := by decide +kernel
theorem dX12_fewest_13 : decode cX12_fewest 13 = .ok (.getfield 26, 3) := by decide +kernel
theorem dX12_fewest_16 : decode cX12_fewest 16 = .ok (.aload_n 0, 1) := by decide +kernel
theorem dX12_fewest_17 : decode cX12_fewest 17 = .ok (.getfield 26, 3) := by decide +kernel
theorem dX12_fewest_20 : decode cX12_fewest 20 = .ok (.bipush 12, 2) := by decide +kernel
theorem dX12_fewest_22 : decode cX12_fewest 22 = .ok (.iaload, 1) := by decide +kernel
theorem dX12_fewest_23 : decode cX12_fewest 23 = .ok (.invokevirtual 372, 3) := by decide +kernel
theorem dX12_fewest_26 : decode cX12_fewest 26 = .ok (.goto 8, 3) := by decide +kernel
theorem dX12_fewest_29 : decode cX12_fewest 29 = .ok (.aload_n 0, 1) := by decide +kernel
theorem dX12_fewest_30 : decode cX12_fewest 30 = .ok (.iconst 1, 1) := by decide +kernel
theorem dX12_fewest_31 : decode cX12_fewest 31 = .ok (.invokevirtual 193, 3) := by decide +kernel
theorem dX12_fewest_34 : decode cX12_fewest 34 = .ok (.ireturn, 1) := by decide +kernel
theorem dX12_player_0 : decode cX12_player 0 = .ok (.aload_n 0, 1) := by decide +kernel
theorem dX12_player_1 : decode cX12_player 1 = .ok (.invokevirtual 190, 3) := by decide +kernel
theorem dX12_player_4 : decode cX12_player 4 = .ok (.aload_n 0, 1) := by decide +kernel
theorem dX12_player_5 : decode cX12_player 5 = .ok (.iload_n 1, 1) := by decide +kernel
theorem dX12_player_6 : decode cX12_player 6 = .ok (.invokevirtual 318, 3) := by decide +kernel
theorem dX12_player_9 : decode cX12_player 9 = .ok (.ifCond .ne 9, 3) := by decide +kernel
theorem dX12_player_12 : decode cX12_player 12 = .ok (.aload_n 0, 1) := by decide +kernel
theorem dX12_player_13 : decode cX12_player 13 = .ok (.iconst 1, 1) := by decide +kernel
theorem dX12_player_14 : decode cX12_player 14 = .ok (.invokevirtual 193, 3) := by decide +kernel
theorem dX12_player_17 : decode cX12_player 17 = .ok (.ireturn, 1) := by decide +kernel
theorem dX12_player_18 : decode cX12_player 18 = .ok (.aload_n 0, 1) := by decide +kernel
theorem dX12_player_19 : decode cX12_player 19 = .ok (.aload_n 0, 1) := by decide +kernel
theorem dX12_player_20 : decode cX12_player 20 = .ok (.getfield 26, 3) := by decide +kernel
theorem dX12_player_23 : decode cX12_player 23 = .ok (.aload_n 0, 1) := by decide +kernel
theorem dX12_player_24 : decode cX12_player 24 = .ok (.getfield 26, 3) := by decide +kernel
theorem dX12_player_27 : decode cX12_player 27 = .ok (.bipush 12, 2) := by decide +kernel
theorem dX12_player_29 : decode cX12_player 29 = .ok (.iaload, 1) := by decide +kernel
theorem dX12_player_30 : decode cX12_player 30 = .ok (.invokevirtual 372, 3) := by decide +kernel
theorem dX12_player_33 : decode cX12_player 33 = .ok (.bipush (-2), 2) := by decide +kernel
theorem dX12_player_35 : decode cX12_player 35 = .ok (.if_icmp .ne 8, 3) := by decide +kernel
theorem dX12_player_38 : decode cX12_player 38 = .ok (.bipush (-2), 2) := by decide +kernel
theorem dX12_player_40 : decode cX12_player 40 = .ok (.goto 9, 3) := by decide +kernel
theorem dX12_player_43 : decode cX12_player 43 = .ok (.aload_n 0, 1) := by decide +kernel
theorem dX12_player_44 : decode cX12_player 44 = .ok (.getfield 69, 3) := by decide +kernel
theorem dX12_player_47 : decode cX12_player 47 = .ok (.iload_n 1, 1) := by decide +kernel
theorem dX12_player_48 : decode cX12_player 48 = .ok (.iaload, 1) := by decide +kernel
theorem dX12_player_49 : decode cX12_player 49 = .ok (.ireturn, 1) := by decide +kernel
theorem dX12_fewestOverAll_0 : decode cX12_fewestOverAll 0 = .ok (.bipush (-2), 2) := by decide +kernel
theorem dX12_fewestOverAll_2 : decode cX12_fewestOverAll 2 = .ok (.istore_n 1, 1) := by decide +kernel
theorem dX12_fewestOverAll_3 : decode cX12_fewestOverAll 3 = .ok (.aload_n 0, 1) := by decide +kernel
theorem dX12_fewestOverAll_4 : decode cX12_fewestOverAll 4 = .ok (.invokevirtual 215, 3) := by decide +kernel
theorem dX12_fewestOverAll_7 : decode cX12_fewestOverAll 7 = .ok (.istore_n 2, 1) := by decide +kernel
theorem dX12_fewestOverAll_8 : decode cX12_fewestOverAll 8 = .ok (.iload_n 2, 1) := by decide +kernel
theorem dX12_fewestOverAll_9 : decode cX12_fewestOverAll 9 = .ok (.ifCond .eq 60, 3) := by decide +kernel
theorem dX12_fewestOverAll_12 : decode cX12_fewestOverAll 12 = .ok (.aload_n 0, 1) := by decide +kernel
theorem dX12_fewestOverAll_13 : decode cX12_fewestOverAll 13 = .ok (.aload_n 0, 1) := by decide +kernel
theorem dX12_fewestOverAll_14 : decode cX12_fewestOverAll 14 = .ok (.getfield 41, 3) := by decide +kernel
theorem dX12_fewestOverAll_17 : decode cX12_fewestOverAll 17 = .ok (.aload_n 0, 1) := by decide +kernel
theorem dX12_fewestOverAll_18 : decode cX12_fewestOverAll 18 = .ok (.getfield 26, 3) := by decide +kernel
theorem dX12_fewestOverAll_21 : decode cX12_fewestOverAll 21 = .ok (.bipush 12, 2) := by decide +kernel
theorem dX12_fewestOverAll_23 : decode cX12_fewestOverAll 23 = .ok (.iaload, 1) := by decide +kernel
theorem dX12_fewestOverAll_24 : decode cX12_fewestOverAll 24 = .ok (.invokevirtual 372, 3) := by decide +kernel
theorem dX12_fewestOverAll_27 : decode cX12_fewestOverAll 27 = .ok (.istore_n 3, 1) := by decide +kernel
theorem dX12_fewestOverAll_28 : decode cX12_fewestOverAll 28 = .ok (.iload_n 3, 1) := by decide +kernel
theorem dX12_fewestOverAll_29 : decode cX12_fewestOverAll 29 = .ok (.bipush (-2), 2) := by decide +kernel
theorem dX12_fewestOverAll_31 : decode cX12_fewestOverAll 31 = .ok (.if_icmp .eq 30, 3) := by decide +kernel
theorem dX12_fewestOverAll_34 : decode cX12_fewestOverAll 34 = .ok (.iload_n 1, 1) := by decide +kernel
theorem dX12_fewestOverAll_35 : decode cX12_fewestOverAll 35 = .ok (.bipush (-2), 2) := by decide +kernel
theorem dX12_fewestOverAll_37 : decode cX12_fewestOverAll 37 = .ok (.if_icmp .eq 8, 3) := by decide +kernel
theorem dX12_fewestOverAll_40 : decode cX12_fewestOverAll 40 = .ok (.iload_n 3, 1) := by decide +kernel
theorem dX12_fewestOverAll_41 : decode cX12_fewestOverAll 41 = .ok (.iload_n 1, 1) := by decide +kernel
theorem dX12_fewestOverAll_42 : decode cX12_fewestOverAll 42 = .ok (.if_icmp .ge 19, 3) := by decide +kernel
theorem dX12_fewestOverAll_45 : decode cX12_fewestOverAll 45 = .ok (.iload_n 3, 1) := by decide +kernel
theorem dX12_fewestOverAll_46 : decode cX12_fewestOverAll 46 = .ok (.istore_n 1, 1) := by decide +kernel
theorem dX12_fewestOverAll_47 : decode cX12_fewestOverAll 47 = .ok (.aload_n 0, 1) := by decide +kernel
theorem dX12_fewestOverAll_48 : decode cX12_fewestOverAll 48 = .ok (.getfield 41, 3) := by decide +kernel
theorem dX12_fewestOverAll_51 : decode cX12_fewestOverAll 51 = .ok (.iconst 0, 1) := by decide +kernel
theorem dX12_fewestOverAll_52 : decode cX12_fewestOverAll 52 = .ok (.aload_n 0, 1) := by decide +kernel
theorem dX12_fewestOverAll_53 : decode cX12_fewestOverAll 53 = .ok (.getfield 72, 3) := by decide +kernel
theorem dX12_fewestOverAll_56 : decode cX12_fewestOverAll 56 = .ok (.iconst 0, 1) := by decide +kernel
theorem dX12_fewestOverAll_57 : decode cX12_fewestOverAll 57 = .ok (.iconst 5, 1) := by decide +kernel
theorem dX12_fewestOverAll_58 : decode cX12_fewestOverAll 58 = .ok (.invokestatic 199, 3) := by decide +kernel
theorem dX12_fewestOverAll_61 : decode cX12_fewestOverAll 61 = .ok (.aload_n 0, 1) := by decide +kernel
theorem dX12_fewestOverAll_62 : decode cX12_fewestOverAll 62 = .ok (.invokevirtual 290, 3) := by decide +kernel
theorem dX12_fewestOverAll_65 : decode cX12_fewestOverAll 65 = .ok (.istore_n 2, 1) := by decide +kernel
theorem dX12_fewestOverAll_66 : decode cX12_fewestOverAll 66 = .ok (.goto (-58), 3) := by decide +kernel
theorem dX12_fewestOverAll_69 : decode cX12_fewestOverAll 69 = .ok (.iload_n 1, 1) := by decide +kernel
theorem dX12_fewestOverAll_70 : decode cX12_fewestOverAll 70 = .ok (.ireturn, 1) := by decide +kernel
theorem dX12_fewestOfAll_0 : decode cX12_fewestOfAll 0 = .ok (.aload_n 0, 1) := by decide +kernel
theorem dX12_fewestOfAll_1 : decode cX12_fewestOfAll 1 = .ok (.invokevirtual 190, 3) := by decide +kernel
theorem dX12_fewestOfAll_4 : decode cX12_fewestOfAll 4 = .ok (.aload_n 0, 1) := by decide +kernel
theorem dX12_fewestOfAll_5 : decode cX12_fewestOfAll 5 = .ok (.getfield 203, 3) := by decide +kernel
theorem dX12_fewestOfAll_8 : decode cX12_fewestOfAll 8 = .ok (.ifCond .eq 10, 3) := by decide +kernel
theorem dX12_fewestOfAll_11 : decode cX12_fewestOfAll 11 = .ok (.aload_n 0, 1) := by decide +kernel
theorem dX12_fewestOfAll_12 : decode cX12_fewestOfAll 12 = .ok (.invokevirtual 376, 3) := by decide +kernel
theorem dX12_fewestOfAll_15 : decode cX12_fewestOfAll 15 = .ok (.goto 8, 3) := by decide +kernel
theorem dX12_fewestOfAll_18 : decode cX12_fewestOfAll 18 = .ok (.aload_n 0, 1) := by decide +kernel
theorem dX12_fewestOfAll_19 : decode cX12_fewestOfAll 19 = .ok (.iconst 1, 1) := by decide +kernel
theorem dX12_fewestOfAll_20 : decode cX12_fewestOfAll 20 = .ok (.invokevirtual 193, 3) := by decide +kernel
theorem dX12_fewestOfAll_23 : decode cX12_fewestOfAll 23 = .ok (.ireturn, 1) := by decide +kernel
theorem dX12_sceneOfAll_0 : decode cX12_sceneOfAll 0 = .ok (.aload_n 0, 1) := by decide +kernel
theorem dX12_sceneOfAll_1 : decode cX12_sceneOfAll 1 = .ok (.invokevirtual 190, 3) := by decide +kernel
theorem dX12_sceneOfAll_4 : decode cX12_sceneOfAll 4 = .ok (.aload_n 0, 1) := by decide +kernel
theorem dX12_sceneOfAll_5 : decode cX12_sceneOfAll 5 = .ok (.iload_n 1, 1) := by decide +kernel
theorem dX12_sceneOfAll_6 : decode cX12_sceneOfAll 6 = .ok (.invokevirtual 299, 3) := by decide +kernel
theorem dX12_sceneOfAll_9 : decode cX12_sceneOfAll 9 = .ok (.ifCond .ne 9, 3) := by decide +kernel
theorem dX12_sceneOfAll_12 : decode cX12_sceneOfAll 12 = .ok (.aload_n 0, 1) := by decide +kernel
theorem dX12_sceneOfAll_13 : decode cX12_sceneOfAll 13 = .ok (.iconst 1, 1) := by decide +kernel
theorem dX12_sceneOfAll_14 : decode cX12_sceneOfAll 14 = .ok (.invokevirtual 193, 3) := by decide +kernel
theorem dX12_sceneOfAll_17 : decode cX12_sceneOfAll 17 = .ok (.ireturn, 1) := by decide +kernel
theorem dX12_sceneOfAll_18 : decode cX12_sceneOfAll 18 = .ok (.aload_n 0, 1) := by decide +kernel
theorem dX12_sceneOfAll_19 : decode cX12_sceneOfAll 19 = .ok (.invokevirtual 376, 3) := by decide +kernel
theorem dX12_sceneOfAll_22 : decode cX12_sceneOfAll 22 = .ok (.bipush (-2), 2) := by decide +kernel
theorem dX12_sceneOfAll_24 : decode cX12_sceneOfAll 24 = .ok (.if_icmp .ne 8, 3) := by decide +kernel
theorem dX12_sceneOfAll_27 : decode cX12_sceneOfAll 27 = .ok (.bipush (-2), 2) := by decide +kernel
theorem dX12_sceneOfAll_29 : decode cX12_sceneOfAll 29 = .ok (.goto 9, 3) := by decide +kernel
theorem dX12_sceneOfAll_32 : decode cX12_sceneOfAll 32 = .ok (.aload_n 0, 1) := by decide +kernel
theorem dX12_sceneOfAll_33 : decode cX12_sceneOfAll 33 = .ok (.getfield 72, 3) := by decide +kernel
theorem dX12_sceneOfAll_36 : decode cX12_sceneOfAll 36 = .ok (.iload_n 1, 1) := by decide +kernel
theorem dX12_sceneOfAll_37 : decode cX12_sceneOfAll 37 = .ok (.iaload, 1) := by decide +kernel
theorem dX12_sceneOfAll_38 : decode cX12_sceneOfAll 38 = .ok (.ireturn, 1) := by decide +kernel
theorem dX12_enough_0 : decode cX12_enough 0 = .ok (.aload_n 0, 1) := by decide +kernel
theorem dX12_enough_1 : decode cX12_enough 1 = .ok (.invokevirtual 190, 3) := by decide +kernel
theorem dX12_enough_4 : decode cX12_enough 4 = .ok (.aload_n 0, 1) := by decide +kernel
theorem dX12_enough_5 : decode cX12_enough 5 = .ok (.getfield 203, 3) := by decide +kernel
theorem dX12_enough_8 : decode cX12_enough 8 = .ok (.ifCond .ne 9, 3) := by decide +kernel
theorem dX12_enough_11 : decode cX12_enough 11 = .ok (.aload_n 0, 1) := by decide +kernel
theorem dX12_enough_12 : decode cX12_enough 12 = .ok (.iconst 1, 1) := by decide +kernel
theorem dX12_enough_13 : decode cX12_enough 13 = .ok (.invokevirtual 193, 3) := by decide +kernel
theorem dX12_enough_16 : decode cX12_enough 16 = .ok (.ireturn, 1) := by decide +kernel
theorem dX12_enough_17 : decode cX12_enough 17 = .ok (.aload_n 0, 1) := by decide +kernel
theorem dX12_enough_18 : decode cX12_enough 18 = .ok (.invokevirtual 376, 3) := by decide +kernel
theorem dX12_enough_21 : decode cX12_enough 21 = .ok (.istore_n 1, 1) := by decide +kernel
theorem dX12_enough_22 : decode cX12_enough 22 = .ok (.iload_n 1, 1) := by decide +kernel
theorem dX12_enough_23 : decode cX12_enough 23 = .ok (.bipush (-2), 2) := by decide +kernel
theorem dX12_enough_25 : decode cX12_enough 25 = .ok (.if_icmp .eq 17, 3) := by decide +kernel
theorem dX12_enough_28 : decode cX12_enough 28 = .ok (.iload_n 1, 1) := by decide +kernel
theorem dX12_enough_29 : decode cX12_enough 29 = .ok (.aload_n 0, 1) := by decide +kernel
theorem dX12_enough_30 : decode cX12_enough 30 = .ok (.getfield 20, 3) := by decide +kernel
theorem dX12_enough_33 : decode cX12_enough 33 = .ok (.iconst 3, 1) := by decide +kernel
theorem dX12_enough_34 : decode cX12_enough 34 = .ok (.iaload, 1) := by decide +kernel
theorem dX12_enough_35 : decode cX12_enough 35 = .ok (.if_icmp .gt 7, 3) := by decide +kernel
theorem dX12_enough_38 : decode cX12_enough 38 = .ok (.iconst 1, 1) := by decide +kernel
theorem dX12_enough_39 : decode cX12_enough 39 = .ok (.goto 4, 3) := by decide +kernel
theorem dX12_enough_42 : decode cX12_enough 42 = .ok (.iconst 0, 1) := by decide +kernel
theorem dX12_enough_43 : decode cX12_enough 43 = .ok (.ireturn, 1) := by decide +kernel
theorem dX12_cutsOf_0 : decode cX12_cutsOf 0 = .ok (.iconst 1, 1) := by decide +kernel
theorem dX12_cutsOf_1 : decode cX12_cutsOf 1 = .ok (.aload_n 0, 1) := by decide +kernel
theorem dX12_cutsOf_2 : decode cX12_cutsOf 2 = .ok (.getfield 20, 3) := by decide +kernel
theorem dX12_cutsOf_5 : decode cX12_cutsOf 5 = .ok (.bipush 7, 2) := by decide +kernel
theorem dX12_cutsOf_7 : decode cX12_cutsOf 7 = .ok (.iaload, 1) := by decide +kernel
theorem dX12_cutsOf_8 : decode cX12_cutsOf 8 = .ok (.ishl, 1) := by decide +kernel
theorem dX12_cutsOf_9 : decode cX12_cutsOf 9 = .ok (.iconst 1, 1) := by decide +kernel
theorem dX12_cutsOf_10 : decode cX12_cutsOf 10 = .ok (.isub, 1) := by decide +kernel
theorem dX12_cutsOf_11 : decode cX12_cutsOf 11 = .ok (.aload_n 0, 1) := by decide +kernel
theorem dX12_cutsOf_12 : decode cX12_cutsOf 12 = .ok (.getfield 26, 3) := by decide +kernel
theorem dX12_cutsOf_15 : decode cX12_cutsOf 15 = .ok (.bipush 12, 2) := by decide +kernel
theorem dX12_cutsOf_17 : decode cX12_cutsOf 17 = .ok (.iaload, 1) := by decide +kernel
theorem dX12_cutsOf_18 : decode cX12_cutsOf 18 = .ok (.iconst (-1), 1) := by decide +kernel
theorem dX12_cutsOf_19 : decode cX12_cutsOf 19 = .ok (.ixor, 1) := by decide +kernel
theorem dX12_cutsOf_20 : decode cX12_cutsOf 20 = .ok (.iand, 1) := by decide +kernel
theorem dX12_cutsOf_21 : decode cX12_cutsOf 21 = .ok (.istore_n 1, 1) := by decide +kernel
theorem dX12_cutsOf_22 : decode cX12_cutsOf 22 = .ok (.iconst 0, 1) := by decide +kernel
theorem dX12_cutsOf_23 : decode cX12_cutsOf 23 = .ok (.istore_n 2, 1) := by decide +kernel
theorem dX12_cutsOf_24 : decode cX12_cutsOf 24 = .ok (.iload_n 2, 1) := by decide +kernel
theorem dX12_cutsOf_25 : decode cX12_cutsOf 25 = .ok (.iconst 3, 1) := by decide +kernel
theorem dX12_cutsOf_26 : decode cX12_cutsOf 26 = .ok (.if_icmp .gt 80, 3) := by decide +kernel
theorem dX12_cutsOf_29 : decode cX12_cutsOf 29 = .ok (.iconst 0, 1) := by decide +kernel
theorem dX12_cutsOf_30 : decode cX12_cutsOf 30 = .ok (.istore_n 3, 1) := by decide +kernel
theorem dX12_cutsOf_31 : decode cX12_cutsOf 31 = .ok (.iload_n 3, 1) := by decide +kernel
theorem dX12_cutsOf_32 : decode cX12_cutsOf 32 = .ok (.iload_n 1, 1) := by decide +kernel
theorem dX12_cutsOf_33 : decode cX12_cutsOf 33 = .ok (.if_icmp .gt 67, 3) := by decide +kernel
theorem dX12_cutsOf_36 : decode cX12_cutsOf 36 = .ok (.iload_n 3, 1) := by decide +kernel
theorem dX12_cutsOf_37 : decode cX12_cutsOf 37 = .ok (.iload_n 1, 1) := by decide +kernel
theorem dX12_cutsOf_38 : decode cX12_cutsOf 38 = .ok (.iconst (-1), 1) := by decide +kernel
theorem dX12_cutsOf_39 : decode cX12_cutsOf 39 = .ok (.ixor, 1) := by decide +kernel
theorem dX12_cutsOf_40 : decode cX12_cutsOf 40 = .ok (.iand, 1) := by decide +kernel
theorem dX12_cutsOf_41 : decode cX12_cutsOf 41 = .ok (.ifCond .ne 53, 3) := by decide +kernel
theorem dX12_cutsOf_44 : decode cX12_cutsOf 44 = .ok (.iload_n 3, 1) := by decide +kernel
theorem dX12_cutsOf_45 : decode cX12_cutsOf 45 = .ok (.invokestatic 379, 3) := by decide +kernel
theorem dX12_cutsOf_48 : decode cX12_cutsOf 48 = .ok (.iload_n 2, 1) := by decide +kernel
theorem dX12_cutsOf_49 : decode cX12_cutsOf 49 = .ok (.if_icmp .eq 6, 3) := by decide +kernel
theorem dX12_cutsOf_52 : decode cX12_cutsOf 52 = .ok (.goto 42, 3) := by decide +kernel
theorem dX12_cutsOf_55 : decode cX12_cutsOf 55 = .ok (.aload_n 0, 1) := by decide +kernel
theorem dX12_cutsOf_56 : decode cX12_cutsOf 56 = .ok (.aload_n 0, 1) := by decide +kernel
theorem dX12_cutsOf_57 : decode cX12_cutsOf 57 = .ok (.getfield 26, 3) := by decide +kernel
theorem dX12_cutsOf_60 : decode cX12_cutsOf 60 = .ok (.aload_n 0, 1) := by decide +kernel
theorem dX12_cutsOf_61 : decode cX12_cutsOf 61 = .ok (.getfield 26, 3) := by decide +kernel
theorem dX12_cutsOf_64 : decode cX12_cutsOf 64 = .ok (.bipush 12, 2) := by decide +kernel
theorem dX12_cutsOf_66 : decode cX12_cutsOf 66 = .ok (.iaload, 1) := by decide +kernel
theorem dX12_cutsOf_67 : decode cX12_cutsOf 67 = .ok (.iload_n 3, 1) := by decide +kernel
theorem dX12_cutsOf_68 : decode cX12_cutsOf 68 = .ok (.ior, 1) := by decide +kernel
theorem dX12_cutsOf_69 : decode cX12_cutsOf 69 = .ok (.invokevirtual 372, 3) := by decide +kernel
theorem dX12_cutsOf_72 : decode cX12_cutsOf 72 = .ok (.istore 4, 2) := by decide +kernel
theorem dX12_cutsOf_74 : decode cX12_cutsOf 74 = .ok (.iload 4, 2) := by decide +kernel
theorem dX12_cutsOf_76 : decode cX12_cutsOf 76 = .ok (.bipush (-2), 2) := by decide +kernel
theorem dX12_cutsOf_78 : decode cX12_cutsOf 78 = .ok (.if_icmp .eq 16, 3) := by decide +kernel
theorem dX12_cutsOf_81 : decode cX12_cutsOf 81 = .ok (.iload 4, 2) := by decide +kernel
theorem dX12_cutsOf_83 : decode cX12_cutsOf 83 = .ok (.aload_n 0, 1) := by decide +kernel
theorem dX12_cutsOf_84 : decode cX12_cutsOf 84 = .ok (.getfield 20, 3) := by decide +kernel
theorem dX12_cutsOf_87 : decode cX12_cutsOf 87 = .ok (.iconst 3, 1) := by decide +kernel
theorem dX12_cutsOf_88 : decode cX12_cutsOf 88 = .ok (.iaload, 1) := by decide +kernel
theorem dX12_cutsOf_89 : decode cX12_cutsOf 89 = .ok (.if_icmp .gt 5, 3) := by decide +kernel
theorem dX12_cutsOf_92 : decode cX12_cutsOf 92 = .ok (.iload_n 3, 1) := by decide +kernel
theorem dX12_cutsOf_93 : decode cX12_cutsOf 93 = .ok (.ireturn, 1) := by decide +kernel
theorem dX12_cutsOf_94 : decode cX12_cutsOf 94 = .ok (.iinc 3 1, 3) := by decide +kernel
theorem dX12_cutsOf_97 : decode cX12_cutsOf 97 = .ok (.goto (-66), 3) := by decide +kernel
theorem dX12_cutsOf_100 : decode cX12_cutsOf 100 = .ok (.iinc 2 1, 3) := by decide +kernel
theorem dX12_cutsOf_103 : decode cX12_cutsOf 103 = .ok (.goto (-79), 3) := by decide +kernel
theorem dX12_cutsOf_106 : decode cX12_cutsOf 106 = .ok (.bipush (-2), 2) := by decide +kernel
theorem dX12_cutsOf_108 : decode cX12_cutsOf 108 = .ok (.ireturn, 1) := by decide +kernel
theorem dX12_cuts_0 : decode cX12_cuts 0 = .ok (.aload_n 0, 1) := by decide +kernel
theorem dX12_cuts_1 : decode cX12_cuts 1 = .ok (.invokevirtual 190, 3) := by decide +kernel
theorem dX12_cuts_4 : decode cX12_cuts 4 = .ok (.aload_n 0, 1) := by decide +kernel
theorem dX12_cuts_5 : decode cX12_cuts 5 = .ok (.getfield 203, 3) := by decide +kernel
theorem dX12_cuts_8 : decode cX12_cuts 8 = .ok (.ifCond .ne 9, 3) := by decide +kernel
theorem dX12_cuts_11 : decode cX12_cuts 11 = .ok (.aload_n 0, 1) := by decide +kernel
theorem dX12_cuts_12 : decode cX12_cuts 12 = .ok (.iconst 1, 1) := by decide +kernel
theorem dX12_cuts_13 : decode cX12_cuts 13 = .ok (.invokevirtual 193, 3) := by decide +kernel
theorem dX12_cuts_16 : decode cX12_cuts 16 = .ok (.ireturn, 1) := by decide +kernel
theorem dX12_cuts_17 : decode cX12_cuts 17 = .ok (.aload_n 0, 1) := by decide +kernel
theorem dX12_cuts_18 : decode cX12_cuts 18 = .ok (.invokevirtual 382, 3) := by decide +kernel
theorem dX12_cuts_21 : decode cX12_cuts 21 = .ok (.istore_n 1, 1) := by decide +kernel
theorem dX12_cuts_22 : decode cX12_cuts 22 = .ok (.iload_n 1, 1) := by decide +kernel
theorem dX12_cuts_23 : decode cX12_cuts 23 = .ok (.bipush (-2), 2) := by decide +kernel
theorem dX12_cuts_25 : decode cX12_cuts 25 = .ok (.if_icmp .ne 8, 3) := by decide +kernel
theorem dX12_cuts_28 : decode cX12_cuts 28 = .ok (.bipush (-2), 2) := by decide +kernel
theorem dX12_cuts_30 : decode cX12_cuts 30 = .ok (.goto 7, 3) := by decide +kernel
theorem dX12_cuts_33 : decode cX12_cuts 33 = .ok (.iload_n 1, 1) := by decide +kernel
theorem dX12_cuts_34 : decode cX12_cuts 34 = .ok (.invokestatic 379, 3) := by decide +kernel
theorem dX12_cuts_37 : decode cX12_cuts 37 = .ok (.ireturn, 1) := by decide +kernel
theorem dX12_cutsBy_0 : decode cX12_cutsBy 0 = .ok (.aload_n 0, 1) := by decide +kernel
theorem dX12_cutsBy_1 : decode cX12_cutsBy 1 = .ok (.invokevirtual 190, 3) := by decide +kernel
theorem dX12_cutsBy_4 : decode cX12_cutsBy 4 = .ok (.aload_n 0, 1) := by decide +kernel
theorem dX12_cutsBy_5 : decode cX12_cutsBy 5 = .ok (.getfield 203, 3) := by decide +kernel
theorem dX12_cutsBy_8 : decode cX12_cutsBy 8 = .ok (.ifCond .eq 10, 3) := by decide +kernel
theorem dX12_cutsBy_11 : decode cX12_cutsBy 11 = .ok (.aload_n 0, 1) := by decide +kernel
theorem dX12_cutsBy_12 : decode cX12_cutsBy 12 = .ok (.invokevirtual 382, 3) := by decide +kernel
theorem dX12_cutsBy_15 : decode cX12_cutsBy 15 = .ok (.goto 8, 3) := by decide +kernel
theorem dX12_cutsBy_18 : decode cX12_cutsBy 18 = .ok (.aload_n 0, 1) := by decide +kernel
theorem dX12_cutsBy_19 : decode cX12_cutsBy 19 = .ok (.iconst 1, 1) := by decide +kernel
theorem dX12_cutsBy_20 : decode cX12_cutsBy 20 = .ok (.invokevirtual 193, 3) := by decide +kernel
theorem dX12_cutsBy_23 : decode cX12_cutsBy 23 = .ok (.ireturn, 1) := by decide +kernel
theorem dX12_ready_0 : decode cX12_ready 0 = .ok (.aload_n 0, 1) := by decide +kernel
theorem dX12_ready_1 : decode cX12_ready 1 = .ok (.invokevirtual 190, 3) := by decide +kernel
theorem dX12_ready_4 : decode cX12_ready 4 = .ok (.aload_n 0, 1) := by decide +kernel
theorem dX12_ready_5 : decode cX12_ready 5 = .ok (.iload_n 1, 1) := by decide +kernel
theorem dX12_ready_6 : decode cX12_ready 6 = .ok (.invokevirtual 318, 3) := by decide +kernel
theorem dX12_ready_9 : decode cX12_ready 9 = .ok (.ifCond .ne 9, 3) := by decide +kernel
theorem dX12_ready_12 : decode cX12_ready 12 = .ok (.aload_n 0, 1) := by decide +kernel
theorem dX12_ready_13 : decode cX12_ready 13 = .ok (.iconst 1, 1) := by decide +kernel
theorem dX12_ready_14 : decode cX12_ready 14 = .ok (.invokevirtual 193, 3) := by decide +kernel
theorem dX12_ready_17 : decode cX12_ready 17 = .ok (.ireturn, 1) := by decide +kernel
theorem dX12_ready_18 : decode cX12_ready 18 = .ok (.aload_n 0, 1) := by decide +kernel
theorem dX12_ready_19 : decode cX12_ready 19 = .ok (.aload_n 0, 1) := by decide +kernel
theorem dX12_ready_20 : decode cX12_ready 20 = .ok (.getfield 26, 3) := by decide +kernel
theorem dX12_ready_23 : decode cX12_ready 23 = .ok (.aload_n 0, 1) := by decide +kernel
theorem dX12_ready_24 : decode cX12_ready 24 = .ok (.getfield 26, 3) := by decide +kernel
theorem dX12_ready_27 : decode cX12_ready 27 = .ok (.bipush 12, 2) := by decide +kernel
theorem dX12_ready_29 : decode cX12_ready 29 = .ok (.iaload, 1) := by decide +kernel
theorem dX12_ready_30 : decode cX12_ready 30 = .ok (.invokevirtual 372, 3) := by decide +kernel
theorem dX12_ready_33 : decode cX12_ready 33 = .ok (.istore_n 2, 1) := by decide +kernel
theorem dX12_ready_34 : decode cX12_ready 34 = .ok (.iload_n 2, 1) := by decide +kernel
theorem dX12_ready_35 : decode cX12_ready 35 = .ok (.bipush (-2), 2) := by decide +kernel
theorem dX12_ready_37 : decode cX12_ready 37 = .ok (.if_icmp .ne 6, 3) := by decide +kernel
theorem dX12_ready_40 : decode cX12_ready 40 = .ok (.bipush (-2), 2) := by decide +kernel
theorem dX12_ready_42 : decode cX12_ready 42 = .ok (.ireturn, 1) := by decide +kernel
theorem dX12_ready_43 : decode cX12_ready 43 = .ok (.aload_n 0, 1) := by decide +kernel
theorem dX12_ready_44 : decode cX12_ready 44 = .ok (.iload_n 1, 1) := by decide +kernel
theorem dX12_ready_45 : decode cX12_ready 45 = .ok (.putfield 56, 3) := by decide +kernel
theorem dX12_ready_48 : decode cX12_ready 48 = .ok (.aload_n 0, 1) := by decide +kernel
theorem dX12_ready_49 : decode cX12_ready 49 = .ok (.aload_n 0, 1) := by decide +kernel
theorem dX12_ready_50 : decode cX12_ready 50 = .ok (.getfield 26, 3) := by decide +kernel
theorem dX12_ready_53 : decode cX12_ready 53 = .ok (.aload_n 0, 1) := by decide +kernel
theorem dX12_ready_54 : decode cX12_ready 54 = .ok (.getfield 26, 3) := by decide +kernel
theorem dX12_ready_57 : decode cX12_ready 57 = .ok (.bipush 12, 2) := by decide +kernel
theorem dX12_ready_59 : decode cX12_ready 59 = .ok (.iaload, 1) := by decide +kernel
theorem dX12_ready_60 : decode cX12_ready 60 = .ok (.invokevirtual 372, 3) := by decide +kernel
theorem dX12_ready_63 : decode cX12_ready 63 = .ok (.istore_n 3, 1) := by decide +kernel
theorem dX12_ready_64 : decode cX12_ready 64 = .ok (.aload_n 0, 1) := by decide +kernel
theorem dX12_ready_65 : decode cX12_ready 65 = .ok (.iconst (-1), 1) := by decide +kernel
theorem dX12_ready_66 : decode cX12_ready 66 = .ok (.putfield 56, 3) := by decide +kernel
theorem dX12_ready_69 : decode cX12_ready 69 = .ok (.iload_n 2, 1) := by decide +kernel
theorem dX12_ready_70 : decode cX12_ready 70 = .ok (.iload_n 3, 1) := by decide +kernel
theorem dX12_ready_71 : decode cX12_ready 71 = .ok (.isub, 1) := by decide +kernel
theorem dX12_ready_72 : decode cX12_ready 72 = .ok (.ireturn, 1) := by decide +kernel
theorem dX12_fewestOf_0 : decode cX12_fewestOf 0 = .ok (.aload_n 0, 1) := by decide +kernel
theorem dX12_fewestOf_1 : decode cX12_fewestOf 1 = .ok (.getfield 63, 3) := by decide +kernel
theorem dX12_fewestOf_4 : decode cX12_fewestOf 4 = .ok (.iconst 0, 1) := by decide +kernel
theorem dX12_fewestOf_5 : decode cX12_fewestOf 5 = .ok (.iconst 0, 1) := by decide +kernel
theorem dX12_fewestOf_6 : decode cX12_fewestOf 6 = .ok (.iastore, 1) := by decide +kernel
theorem dX12_fewestOf_7 : decode cX12_fewestOf 7 = .ok (.iconst 1, 1) := by decide +kernel
theorem dX12_fewestOf_8 : decode cX12_fewestOf 8 = .ok (.istore_n 2, 1) := by decide +kernel
theorem dX12_fewestOf_9 : decode cX12_fewestOf 9 = .ok (.iload_n 2, 1) := by decide +kernel
theorem dX12_fewestOf_10 : decode cX12_fewestOf 10 = .ok (.iload_n 1, 1) := by decide +kernel
theorem dX12_fewestOf_11 : decode cX12_fewestOf 11 = .ok (.if_icmp .gt 100, 3) := by decide +kernel
theorem dX12_fewestOf_14 : decode cX12_fewestOf 14 = .ok (.aload_n 0, 1) := by decide +kernel
theorem dX12_fewestOf_15 : decode cX12_fewestOf 15 = .ok (.getfield 63, 3) := by decide +kernel
theorem dX12_fewestOf_18 : decode cX12_fewestOf 18 = .ok (.iload_n 2, 1) := by decide +kernel
theorem dX12_fewestOf_19 : decode cX12_fewestOf 19 = .ok (.ldc_w 385, 3) := by decide +kernel
theorem dX12_fewestOf_22 : decode cX12_fewestOf 22 = .ok (.iastore, 1) := by decide +kernel
theorem dX12_fewestOf_23 : decode cX12_fewestOf 23 = .ok (.iload_n 2, 1) := by decide +kernel
theorem dX12_fewestOf_24 : decode cX12_fewestOf 24 = .ok (.iload_n 2, 1) := by decide +kernel
theorem dX12_fewestOf_25 : decode cX12_fewestOf 25 = .ok (.ineg, 1) := by decide +kernel
theorem dX12_fewestOf_26 : decode cX12_fewestOf 26 = .ok (.iand, 1) := by decide +kernel
theorem dX12_fewestOf_27 : decode cX12_fewestOf 27 = .ok (.istore_n 3, 1) := by decide +kernel
theorem dX12_fewestOf_28 : decode cX12_fewestOf 28 = .ok (.iload_n 2, 1) := by decide +kernel
theorem dX12_fewestOf_29 : decode cX12_fewestOf 29 = .ok (.istore 4, 2) := by decide +kernel
theorem dX12_fewestOf_31 : decode cX12_fewestOf 31 = .ok (.iload 4, 2) := by decide +kernel
theorem dX12_fewestOf_33 : decode cX12_fewestOf 33 = .ok (.ifCond .le 72, 3) := by decide +kernel
theorem dX12_fewestOf_36 : decode cX12_fewestOf 36 = .ok (.iload 4, 2) := by decide +kernel
theorem dX12_fewestOf_38 : decode cX12_fewestOf 38 = .ok (.iload_n 3, 1) := by decide +kernel
theorem dX12_fewestOf_39 : decode cX12_fewestOf 39 = .ok (.iand, 1) := by decide +kernel
theorem dX12_fewestOf_40 : decode cX12_fewestOf 40 = .ok (.ifCond .eq 54, 3) := by decide +kernel
theorem dX12_fewestOf_43 : decode cX12_fewestOf 43 = .ok (.aload_n 0, 1) := by decide +kernel
theorem dX12_fewestOf_44 : decode cX12_fewestOf 44 = .ok (.getfield 59, 3) := by decide +kernel
theorem dX12_fewestOf_47 : decode cX12_fewestOf 47 = .ok (.iload 4, 2) := by decide +kernel
theorem dX12_fewestOf_49 : decode cX12_fewestOf 49 = .ok (.baload, 1) := by decide +kernel
theorem dX12_fewestOf_50 : decode cX12_fewestOf 50 = .ok (.ifCond .eq 44, 3) := by decide +kernel
theorem dX12_fewestOf_53 : decode cX12_fewestOf 53 = .ok (.aload_n 0, 1) := by decide +kernel
theorem dX12_fewestOf_54 : decode cX12_fewestOf 54 = .ok (.getfield 63, 3) := by decide +kernel
theorem dX12_fewestOf_57 : decode cX12_fewestOf 57 = .ok (.iload_n 2, 1) := by decide +kernel
theorem dX12_fewestOf_58 : decode cX12_fewestOf 58 = .ok (.iload 4, 2) := by decide +kernel
theorem dX12_fewestOf_60 : decode cX12_fewestOf 60 = .ok (.iconst (-1), 1) := by decide +kernel
theorem dX12_fewestOf_61 : decode cX12_fewestOf 61 = .ok (.ixor, 1) := by decide +kernel
theorem dX12_fewestOf_62 : decode cX12_fewestOf 62 = .ok (.iand, 1) := by decide +kernel
theorem dX12_fewestOf_63 : decode cX12_fewestOf 63 = .ok (.iaload, 1) := by decide +kernel
theorem dX12_fewestOf_64 : decode cX12_fewestOf 64 = .ok (.iconst 1, 1) := by decide +kernel
theorem dX12_fewestOf_65 : decode cX12_fewestOf 65 = .ok (.iadd, 1) := by decide +kernel
theorem dX12_fewestOf_66 : decode cX12_fewestOf 66 = .ok (.aload_n 0, 1) := by decide +kernel
theorem dX12_fewestOf_67 : decode cX12_fewestOf 67 = .ok (.getfield 63, 3) := by decide +kernel
theorem dX12_fewestOf_70 : decode cX12_fewestOf 70 = .ok (.iload_n 2, 1) := by decide +kernel
theorem dX12_fewestOf_71 : decode cX12_fewestOf 71 = .ok (.iaload, 1) := by decide +kernel
theorem dX12_fewestOf_72 : decode cX12_fewestOf 72 = .ok (.if_icmp .ge 22, 3) := by decide +kernel
theorem dX12_fewestOf_75 : decode cX12_fewestOf 75 = .ok (.aload_n 0, 1) := by decide +kernel
theorem dX12_fewestOf_76 : decode cX12_fewestOf 76 = .ok (.getfield 63, 3) := by decide +kernel
theorem dX12_fewestOf_79 : decode cX12_fewestOf 79 = .ok (.iload_n 2, 1) := by decide +kernel
theorem dX12_fewestOf_80 : decode cX12_fewestOf 80 = .ok (.aload_n 0, 1) := by decide +kernel
theorem dX12_fewestOf_81 : decode cX12_fewestOf 81 = .ok (.getfield 63, 3) := by decide +kernel
theorem dX12_fewestOf_84 : decode cX12_fewestOf 84 = .ok (.iload_n 2, 1) := by decide +kernel
theorem dX12_fewestOf_85 : decode cX12_fewestOf 85 = .ok (.iload 4, 2) := by decide +kernel
theorem dX12_fewestOf_87 : decode cX12_fewestOf 87 = .ok (.iconst (-1), 1) := by decide +kernel
theorem dX12_fewestOf_88 : decode cX12_fewestOf 88 = .ok (.ixor, 1) := by decide +kernel
theorem dX12_fewestOf_89 : decode cX12_fewestOf 89 = .ok (.iand, 1) := by decide +kernel
theorem dX12_fewestOf_90 : decode cX12_fewestOf 90 = .ok (.iaload, 1) := by decide +kernel
theorem dX12_fewestOf_91 : decode cX12_fewestOf 91 = .ok (.iconst 1, 1) := by decide +kernel
theorem dX12_fewestOf_92 : decode cX12_fewestOf 92 = .ok (.iadd, 1) := by decide +kernel
theorem dX12_fewestOf_93 : decode cX12_fewestOf 93 = .ok (.iastore, 1) := by decide +kernel
theorem dX12_fewestOf_94 : decode cX12_fewestOf 94 = .ok (.iload 4, 2) := by decide +kernel
theorem dX12_fewestOf_96 : decode cX12_fewestOf 96 = .ok (.iconst 1, 1) := by decide +kernel
theorem dX12_fewestOf_97 : decode cX12_fewestOf 97 = .ok (.isub, 1) := by decide +kernel
theorem dX12_fewestOf_98 : decode cX12_fewestOf 98 = .ok (.iload_n 2, 1) := by decide +kernel
theorem dX12_fewestOf_99 : decode cX12_fewestOf 99 = .ok (.iand, 1) := by decide +kernel
theorem dX12_fewestOf_100 : decode cX12_fewestOf 100 = .ok (.istore 4, 2) := by decide +kernel
theorem dX12_fewestOf_102 : decode cX12_fewestOf 102 = .ok (.goto (-71), 3) := by decide +kernel
theorem dX12_fewestOf_105 : decode cX12_fewestOf 105 = .ok (.iinc 2 1, 3) := by decide +kernel
theorem dX12_fewestOf_108 : decode cX12_fewestOf 108 = .ok (.goto (-99), 3) := by decide +kernel
theorem dX12_fewestOf_111 : decode cX12_fewestOf 111 = .ok (.aload_n 0, 1) := by decide +kernel
theorem dX12_fewestOf_112 : decode cX12_fewestOf 112 = .ok (.getfield 63, 3) := by decide +kernel
theorem dX12_fewestOf_115 : decode cX12_fewestOf 115 = .ok (.iload_n 1, 1) := by decide +kernel
theorem dX12_fewestOf_116 : decode cX12_fewestOf 116 = .ok (.iaload, 1) := by decide +kernel
theorem dX12_fewestOf_117 : decode cX12_fewestOf 117 = .ok (.ldc_w 385, 3) := by decide +kernel
theorem dX12_fewestOf_120 : decode cX12_fewestOf 120 = .ok (.if_icmp .lt 8, 3) := by decide +kernel
theorem dX12_fewestOf_123 : decode cX12_fewestOf 123 = .ok (.bipush (-2), 2) := by decide +kernel
theorem dX12_fewestOf_125 : decode cX12_fewestOf 125 = .ok (.goto 9, 3) := by decide +kernel
theorem dX12_fewestOf_128 : decode cX12_fewestOf 128 = .ok (.aload_n 0, 1) := by decide +kernel
theorem dX12_fewestOf_129 : decode cX12_fewestOf 129 = .ok (.getfield 63, 3) := by decide +kernel
theorem dX12_fewestOf_132 : decode cX12_fewestOf 132 = .ok (.iload_n 1, 1) := by decide +kernel
theorem dX12_fewestOf_133 : decode cX12_fewestOf 133 = .ok (.iaload, 1) := by decide +kernel
theorem dX12_fewestOf_134 : decode cX12_fewestOf 134 = .ok (.ireturn, 1) := by decide +kernel
theorem dX12_lentOf_0 : decode cX12_lentOf 0 = .ok (.aload_n 0, 1) := by decide +kernel
theorem dX12_lentOf_1 : decode cX12_lentOf 1 = .ok (.aload_n 0, 1) := by decide +kernel
theorem dX12_lentOf_2 : decode cX12_lentOf 2 = .ok (.getfield 26, 3) := by decide +kernel
theorem dX12_lentOf_5 : decode cX12_lentOf 5 = .ok (.invokevirtual 305, 3) := by decide +kernel
theorem dX12_lentOf_8 : decode cX12_lentOf 8 = .ok (.aload_n 0, 1) := by decide +kernel
theorem dX12_lentOf_9 : decode cX12_lentOf 9 = .ok (.aload_n 0, 1) := by decide +kernel
theorem dX12_lentOf_10 : decode cX12_lentOf 10 = .ok (.getfield 26, 3) := by decide +kernel
theorem dX12_lentOf_13 : decode cX12_lentOf 13 = .ok (.bipush 12, 2) := by decide +kernel
theorem dX12_lentOf_15 : decode cX12_lentOf 15 = .ok (.iaload, 1) := by decide +kernel
theorem dX12_lentOf_16 : decode cX12_lentOf 16 = .ok (.invokevirtual 360, 3) := by decide +kernel
theorem dX12_lentOf_19 : decode cX12_lentOf 19 = .ok (.aload_n 0, 1) := by decide +kernel
theorem dX12_lentOf_20 : decode cX12_lentOf 20 = .ok (.aload_n 0, 1) := by decide +kernel
theorem dX12_lentOf_21 : decode cX12_lentOf 21 = .ok (.invokevirtual 354, 3) := by decide +kernel
theorem dX12_lentOf_24 : decode cX12_lentOf 24 = .ok (.iconst 1, 1) := by decide +kernel
theorem dX12_lentOf_25 : decode cX12_lentOf 25 = .ok (.iload_n 1, 1) := by decide +kernel
theorem dX12_lentOf_26 : decode cX12_lentOf 26 = .ok (.ishl, 1) := by decide +kernel
theorem dX12_lentOf_27 : decode cX12_lentOf 27 = .ok (.iconst (-1), 1) := by decide +kernel
theorem dX12_lentOf_28 : decode cX12_lentOf 28 = .ok (.ixor, 1) := by decide +kernel
theorem dX12_lentOf_29 : decode cX12_lentOf 29 = .ok (.iand, 1) := by decide +kernel
theorem dX12_lentOf_30 : decode cX12_lentOf 30 = .ok (.invokevirtual 386, 3) := by decide +kernel
theorem dX12_lentOf_33 : decode cX12_lentOf 33 = .ok (.ireturn, 1) := by decide +kernel
theorem dX12_lent_0 : decode cX12_lent 0 = .ok (.aload_n 0, 1) := by decide +kernel
theorem dX12_lent_1 : decode cX12_lent 1 = .ok (.invokevirtual 190, 3) := by decide +kernel
theorem dX12_lent_4 : decode cX12_lent 4 = .ok (.aload_n 0, 1) := by decide +kernel
theorem dX12_lent_5 : decode cX12_lent 5 = .ok (.iload_n 1, 1) := by decide +kernel
theorem dX12_lent_6 : decode cX12_lent 6 = .ok (.invokevirtual 318, 3) := by decide +kernel
theorem dX12_lent_9 : decode cX12_lent 9 = .ok (.ifCond .eq 11, 3) := by decide +kernel
theorem dX12_lent_12 : decode cX12_lent 12 = .ok (.aload_n 0, 1) := by decide +kernel
theorem dX12_lent_13 : decode cX12_lent 13 = .ok (.iload_n 1, 1) := by decide +kernel
theorem dX12_lent_14 : decode cX12_lent 14 = .ok (.invokevirtual 389, 3) := by decide +kernel
theorem dX12_lent_17 : decode cX12_lent 17 = .ok (.goto 8, 3) := by decide +kernel
theorem dX12_lent_20 : decode cX12_lent 20 = .ok (.aload_n 0, 1) := by decide +kernel
theorem dX12_lent_21 : decode cX12_lent 21 = .ok (.iconst 1, 1) := by decide +kernel
theorem dX12_lent_22 : decode cX12_lent 22 = .ok (.invokevirtual 193, 3) := by decide +kernel
theorem dX12_lent_25 : decode cX12_lent 25 = .ok (.ireturn, 1) := by decide +kernel
theorem dX12_lend_0 : decode cX12_lend 0 = .ok (.aload_n 0, 1) := by decide +kernel
theorem dX12_lend_1 : decode cX12_lend 1 = .ok (.invokevirtual 190, 3) := by decide +kernel
theorem dX12_lend_4 : decode cX12_lend 4 = .ok (.aload_n 0, 1) := by decide +kernel
theorem dX12_lend_5 : decode cX12_lend 5 = .ok (.getfield 203, 3) := by decide +kernel
theorem dX12_lend_8 : decode cX12_lend 8 = .ok (.ifCond .ne 9, 3) := by decide +kernel
theorem dX12_lend_11 : decode cX12_lend 11 = .ok (.aload_n 0, 1) := by decide +kernel
theorem dX12_lend_12 : decode cX12_lend 12 = .ok (.iconst 1, 1) := by decide +kernel
theorem dX12_lend_13 : decode cX12_lend 13 = .ok (.invokevirtual 193, 3) := by decide +kernel
theorem dX12_lend_16 : decode cX12_lend 16 = .ok (.ireturn, 1) := by decide +kernel
theorem dX12_lend_17 : decode cX12_lend 17 = .ok (.bipush (-2), 2) := by decide +kernel
theorem dX12_lend_19 : decode cX12_lend 19 = .ok (.istore_n 1, 1) := by decide +kernel
theorem dX12_lend_20 : decode cX12_lend 20 = .ok (.iconst 0, 1) := by decide +kernel
theorem dX12_lend_21 : decode cX12_lend 21 = .ok (.istore_n 2, 1) := by decide +kernel
theorem dX12_lend_22 : decode cX12_lend 22 = .ok (.iconst 0, 1) := by decide +kernel
theorem dX12_lend_23 : decode cX12_lend 23 = .ok (.istore_n 3, 1) := by decide +kernel
theorem dX12_lend_24 : decode cX12_lend 24 = .ok (.iload_n 3, 1) := by decide +kernel
theorem dX12_lend_25 : decode cX12_lend 25 = .ok (.aload_n 0, 1) := by decide +kernel
theorem dX12_lend_26 : decode cX12_lend 26 = .ok (.getfield 20, 3) := by decide +kernel
theorem dX12_lend_29 : decode cX12_lend 29 = .ok (.iconst 4, 1) := by decide +kernel
theorem dX12_lend_30 : decode cX12_lend 30 = .ok (.iaload, 1) := by decide +kernel
theorem dX12_lend_31 : decode cX12_lend 31 = .ok (.if_icmp .ge 43, 3) := by decide +kernel
theorem dX12_lend_34 : decode cX12_lend 34 = .ok (.aload_n 0, 1) := by decide +kernel
theorem dX12_lend_35 : decode cX12_lend 35 = .ok (.iload_n 3, 1) := by decide +kernel
theorem dX12_lend_36 : decode cX12_lend 36 = .ok (.invokevirtual 389, 3) := by decide +kernel
theorem dX12_lend_39 : decode cX12_lend 39 = .ok (.istore 4, 2) := by decide +kernel
theorem dX12_lend_41 : decode cX12_lend 41 = .ok (.iload 4, 2) := by decide +kernel
theorem dX12_lend_43 : decode cX12_lend 43 = .ok (.bipush (-2), 2) := by decide +kernel
theorem dX12_lend_45 : decode cX12_lend 45 = .ok (.if_icmp .eq 23, 3) := by decide +kernel
theorem dX12_lend_48 : decode cX12_lend 48 = .ok (.iload_n 1, 1) := by decide +kernel
theorem dX12_lend_49 : decode cX12_lend 49 = .ok (.bipush (-2), 2) := by decide +kernel
theorem dX12_lend_51 : decode cX12_lend 51 = .ok (.if_icmp .eq 12, 3) := by decide +kernel
theorem dX12_lend_54 : decode cX12_lend 54 = .ok (.iload 4, 2) := by decide +kernel
theorem dX12_lend_56 : decode cX12_lend 56 = .ok (.iload_n 2, 1) := by decide +kernel
theorem dX12_lend_57 : decode cX12_lend 57 = .ok (.if_icmp .lt 6, 3) := by decide +kernel
theorem dX12_lend_60 : decode cX12_lend 60 = .ok (.goto 8, 3) := by decide +kernel
theorem dX12_lend_63 : decode cX12_lend 63 = .ok (.iload_n 3, 1) := by decide +kernel
theorem dX12_lend_64 : decode cX12_lend 64 = .ok (.istore_n 1, 1) := by decide +kernel
theorem dX12_lend_65 : decode cX12_lend 65 = .ok (.iload 4, 2) := by decide +kernel
theorem dX12_lend_67 : decode cX12_lend 67 = .ok (.istore_n 2, 1) := by decide +kernel
theorem dX12_lend_68 : decode cX12_lend 68 = .ok (.iinc 3 1, 3) := by decide +kernel
theorem dX12_lend_71 : decode cX12_lend 71 = .ok (.goto (-47), 3) := by decide +kernel
theorem dX12_lend_74 : decode cX12_lend 74 = .ok (.iload_n 1, 1) := by decide +kernel
theorem dX12_lend_75 : decode cX12_lend 75 = .ok (.ireturn, 1) := by decide +kernel
theorem dX12_doTold_0 : decode cX12_doTold 0 = .ok (.aload_n 0, 1) := by decide +kernel
theorem dX12_doTold_1 : decode cX12_doTold 1 = .ok (.aload_n 1, 1) := by decide +kernel
theorem dX12_doTold_2 : decode cX12_doTold 2 = .ok (.aload_n 0, 1) := by decide +kernel
theorem dX12_doTold_3 : decode cX12_doTold 3 = .ok (.getfield 26, 3) := by decide +kernel
theorem dX12_doTold_6 : decode cX12_doTold 6 = .ok (.bipush 12, 2) := by decide +kernel
theorem dX12_doTold_8 : decode cX12_doTold 8 = .ok (.iaload, 1) := by decide +kernel
theorem dX12_doTold_9 : decode cX12_doTold 9 = .ok (.invokevirtual 372, 3) := by decide +kernel
theorem dX12_doTold_12 : decode cX12_doTold 12 = .ok (.istore_n 2, 1) := by decide +kernel
theorem dX12_doTold_13 : decode cX12_doTold 13 = .ok (.iload_n 2, 1) := by decide +kernel
theorem dX12_doTold_14 : decode cX12_doTold 14 = .ok (.bipush (-2), 2) := by decide +kernel
theorem dX12_doTold_16 : decode cX12_doTold 16 = .ok (.if_icmp .eq 17, 3) := by decide +kernel
theorem dX12_doTold_19 : decode cX12_doTold 19 = .ok (.iload_n 2, 1) := by decide +kernel
theorem dX12_doTold_20 : decode cX12_doTold 20 = .ok (.aload_n 0, 1) := by decide +kernel
theorem dX12_doTold_21 : decode cX12_doTold 21 = .ok (.getfield 20, 3) := by decide +kernel
theorem dX12_doTold_24 : decode cX12_doTold 24 = .ok (.iconst 3, 1) := by decide +kernel
theorem dX12_doTold_25 : decode cX12_doTold 25 = .ok (.iaload, 1) := by decide +kernel
theorem dX12_doTold_26 : decode cX12_doTold 26 = .ok (.if_icmp .gt 7, 3) := by decide +kernel
theorem dX12_doTold_29 : decode cX12_doTold 29 = .ok (.iconst 1, 1) := by decide +kernel
theorem dX12_doTold_30 : decode cX12_doTold 30 = .ok (.goto 4, 3) := by decide +kernel
theorem dX12_doTold_33 : decode cX12_doTold 33 = .ok (.iconst 0, 1) := by decide +kernel
theorem dX12_doTold_34 : decode cX12_doTold 34 = .ok (.ireturn, 1) := by decide +kernel
theorem dX12_gap_0 : decode cX12_gap 0 = .ok (.aload_n 0, 1) := by decide +kernel
theorem dX12_gap_1 : decode cX12_gap 1 = .ok (.invokevirtual 190, 3) := by decide +kernel
theorem dX12_gap_4 : decode cX12_gap 4 = .ok (.aload_n 0, 1) := by decide +kernel
theorem dX12_gap_5 : decode cX12_gap 5 = .ok (.getfield 203, 3) := by decide +kernel
theorem dX12_gap_8 : decode cX12_gap 8 = .ok (.ifCond .ne 9, 3) := by decide +kernel
theorem dX12_gap_11 : decode cX12_gap 11 = .ok (.aload_n 0, 1) := by decide +kernel
theorem dX12_gap_12 : decode cX12_gap 12 = .ok (.iconst 1, 1) := by decide +kernel
theorem dX12_gap_13 : decode cX12_gap 13 = .ok (.invokevirtual 193, 3) := by decide +kernel
theorem dX12_gap_16 : decode cX12_gap 16 = .ok (.ireturn, 1) := by decide +kernel
theorem dX12_gap_17 : decode cX12_gap 17 = .ok (.aload_n 0, 1) := by decide +kernel
theorem dX12_gap_18 : decode cX12_gap 18 = .ok (.getfield 20, 3) := by decide +kernel
theorem dX12_gap_21 : decode cX12_gap 21 = .ok (.iconst 2, 1) := by decide +kernel
theorem dX12_gap_22 : decode cX12_gap 22 = .ok (.iaload, 1) := by decide +kernel
theorem dX12_gap_23 : decode cX12_gap 23 = .ok (.istore_n 1, 1) := by decide +kernel
theorem dX12_gap_24 : decode cX12_gap 24 = .ok (.bipush (-2), 2) := by decide +kernel
theorem dX12_gap_26 : decode cX12_gap 26 = .ok (.istore_n 2, 1) := by decide +kernel
theorem dX12_gap_27 : decode cX12_gap 27 = .ok (.iconst 0, 1) := by decide +kernel
theorem dX12_gap_28 : decode cX12_gap 28 = .ok (.istore_n 3, 1) := by decide +kernel
theorem dX12_gap_29 : decode cX12_gap 29 = .ok (.iload_n 3, 1) := by decide +kernel
theorem dX12_gap_30 : decode cX12_gap 30 = .ok (.bipush 100, 2) := by decide +kernel
theorem dX12_gap_32 : decode cX12_gap 32 = .ok (.if_icmp .ge 35, 3) := by decide +kernel
theorem dX12_gap_35 : decode cX12_gap 35 = .ok (.iload_n 2, 1) := by decide +kernel
theorem dX12_gap_36 : decode cX12_gap 36 = .ok (.bipush (-2), 2) := by decide +kernel
theorem dX12_gap_38 : decode cX12_gap 38 = .ok (.if_icmp .ne 29, 3) := by decide +kernel
theorem dX12_gap_41 : decode cX12_gap 41 = .ok (.aload_n 0, 1) := by decide +kernel
theorem dX12_gap_42 : decode cX12_gap 42 = .ok (.getfield 20, 3) := by decide +kernel
theorem dX12_gap_45 : decode cX12_gap 45 = .ok (.iconst 2, 1) := by decide +kernel
theorem dX12_gap_46 : decode cX12_gap 46 = .ok (.iload_n 3, 1) := by decide +kernel
theorem dX12_gap_47 : decode cX12_gap 47 = .ok (.iastore, 1) := by decide +kernel
theorem dX12_gap_48 : decode cX12_gap 48 = .ok (.aload_n 0, 1) := by decide +kernel
theorem dX12_gap_49 : decode cX12_gap 49 = .ok (.aload_n 0, 1) := by decide +kernel
theorem dX12_gap_50 : decode cX12_gap 50 = .ok (.getfield 26, 3) := by decide +kernel
theorem dX12_gap_53 : decode cX12_gap 53 = .ok (.invokevirtual 392, 3) := by decide +kernel
theorem dX12_gap_56 : decode cX12_gap 56 = .ok (.ifCond .eq 5, 3) := by decide +kernel
theorem dX12_gap_59 : decode cX12_gap 59 = .ok (.iload_n 3, 1) := by decide +kernel
theorem dX12_gap_60 : decode cX12_gap 60 = .ok (.istore_n 2, 1) := by decide +kernel
theorem dX12_gap_61 : decode cX12_gap 61 = .ok (.iinc 3 1, 3) := by decide +kernel
theorem dX12_gap_64 : decode cX12_gap 64 = .ok (.goto (-35), 3) := by decide +kernel
theorem dX12_gap_67 : decode cX12_gap 67 = .ok (.aload_n 0, 1) := by decide +kernel
theorem dX12_gap_68 : decode cX12_gap 68 = .ok (.getfield 20, 3) := by decide +kernel
theorem dX12_gap_71 : decode cX12_gap 71 = .ok (.iconst 2, 1) := by decide +kernel
theorem dX12_gap_72 : decode cX12_gap 72 = .ok (.iload_n 1, 1) := by decide +kernel
theorem dX12_gap_73 : decode cX12_gap 73 = .ok (.iastore, 1) := by decide +kernel
theorem dX12_gap_74 : decode cX12_gap 74 = .ok (.iload_n 2, 1) := by decide +kernel
theorem dX12_gap_75 : decode cX12_gap 75 = .ok (.ireturn, 1) := by decide +kernel
theorem dX12_codeOf_0 : decode cX12_codeOf 0 = .ok (.iconst 0, 1) := by decide +kernel
theorem dX12_codeOf_1 : decode cX12_codeOf 1 = .ok (.istore_n 2, 1) := by decide +kernel
theorem dX12_codeOf_2 : decode cX12_codeOf 2 = .ok (.iconst 0, 1) := by decide +kernel
theorem dX12_codeOf_3 : decode cX12_codeOf 3 = .ok (.istore_n 3, 1) := by decide +kernel
theorem dX12_codeOf_4 : decode cX12_codeOf 4 = .ok (.iload_n 3, 1) := by decide +kernel
theorem dX12_codeOf_5 : decode cX12_codeOf 5 = .ok (.aload_n 0, 1) := by decide +kernel
theorem dX12_codeOf_6 : decode cX12_codeOf 6 = .ok (.getfield 20, 3) := by decide +kernel
theorem dX12_codeOf_9 : decode cX12_codeOf 9 = .ok (.iconst 5, 1) := by decide +kernel
theorem dX12_codeOf_10 : decode cX12_codeOf 10 = .ok (.iaload, 1) := by decide +kernel
theorem dX12_codeOf_11 : decode cX12_codeOf 11 = .ok (.if_icmp .ge 17, 3) := by decide +kernel
theorem dX12_codeOf_14 : decode cX12_codeOf 14 = .ok (.iconst 5, 1) := by decide +kernel
theorem dX12_codeOf_15 : decode cX12_codeOf 15 = .ok (.iload_n 2, 1) := by decide +kernel
theorem dX12_codeOf_16 : decode cX12_codeOf 16 = .ok (.imul, 1) := by decide +kernel
theorem dX12_codeOf_17 : decode cX12_codeOf 17 = .ok (.aload_n 1, 1) := by decide +kernel
theorem dX12_codeOf_18 : decode cX12_codeOf 18 = .ok (.iload_n 3, 1) := by decide +kernel
theorem dX12_codeOf_19 : decode cX12_codeOf 19 = .ok (.iaload, 1) := by decide +kernel
theorem dX12_codeOf_20 : decode cX12_codeOf 20 = .ok (.iadd, 1) := by decide +kernel
theorem dX12_codeOf_21 : decode cX12_codeOf 21 = .ok (.istore_n 2, 1) := by decide +kernel
theorem dX12_codeOf_22 : decode cX12_codeOf 22 = .ok (.iinc 3 1, 3) := by decide +kernel
theorem dX12_codeOf_25 : decode cX12_codeOf 25 = .ok (.goto (-21), 3) := by decide +kernel
theorem dX12_codeOf_28 : decode cX12_codeOf 28 = .ok (.iload_n 2, 1) := by decide +kernel
theorem dX12_codeOf_29 : decode cX12_codeOf 29 = .ok (.ireturn, 1) := by decide +kernel
theorem dX12_layRow_0 : decode cX12_layRow 0 = .ok (.iload_n 1, 1) := by decide +kernel
theorem dX12_layRow_1 : decode cX12_layRow 1 = .ok (.istore_n 2, 1) := by decide +kernel
theorem dX12_layRow_2 : decode cX12_layRow 2 = .ok (.iconst 0, 1) := by decide +kernel
theorem dX12_layRow_3 : decode cX12_layRow 3 = .ok (.istore_n 3, 1) := by decide +kernel
theorem dX12_layRow_4 : decode cX12_layRow 4 = .ok (.iload_n 3, 1) := by decide +kernel
theorem dX12_layRow_5 : decode cX12_layRow 5 = .ok (.iconst 5, 1) := by decide +kernel
theorem dX12_layRow_6 : decode cX12_layRow 6 = .ok (.if_icmp .ge 16, 3) := by decide +kernel
theorem dX12_layRow_9 : decode cX12_layRow 9 = .ok (.aload_n 0, 1) := by decide +kernel
theorem dX12_layRow_10 : decode cX12_layRow 10 = .ok (.getfield 41, 3) := by decide +kernel
theorem dX12_layRow_13 : decode cX12_layRow 13 = .ok (.iload_n 3, 1) := by decide +kernel
theorem dX12_layRow_14 : decode cX12_layRow 14 = .ok (.iconst 0, 1) := by decide +kernel
theorem dX12_layRow_15 : decode cX12_layRow 15 = .ok (.iastore, 1) := by decide +kernel
theorem dX12_layRow_16 : decode cX12_layRow 16 = .ok (.iinc 3 1, 3) := by decide +kernel
theorem dX12_layRow_19 : decode cX12_layRow 19 = .ok (.goto (-15), 3) := by decide +kernel
theorem dX12_layRow_22 : decode cX12_layRow 22 = .ok (.aload_n 0, 1) := by decide +kernel
theorem dX12_layRow_23 : decode cX12_layRow 23 = .ok (.getfield 20, 3) := by decide +kernel
theorem dX12_layRow_26 : decode cX12_layRow 26 = .ok (.iconst 5, 1) := by decide +kernel
theorem dX12_layRow_27 : decode cX12_layRow 27 = .ok (.iaload, 1) := by decide +kernel
theorem dX12_layRow_28 : decode cX12_layRow 28 = .ok (.iconst 1, 1) := by decide +kernel
theorem dX12_layRow_29 : decode cX12_layRow 29 = .ok (.isub, 1) := by decide +kernel
theorem dX12_layRow_30 : decode cX12_layRow 30 = .ok (.istore_n 3, 1) := by decide +kernel
theorem dX12_layRow_31 : decode cX12_layRow 31 = .ok (.iload_n 3, 1) := by decide +kernel
theorem dX12_layRow_32 : decode cX12_layRow 32 = .ok (.ifCond .lt 22, 3) := by decide +kernel
theorem dX12_layRow_35 : decode cX12_layRow 35 = .ok (.aload_n 0, 1) := by decide +kernel
theorem dX12_layRow_36 : decode cX12_layRow 36 = .ok (.getfield 41, 3) := by decide +kernel
theorem dX12_layRow_39 : decode cX12_layRow 39 = .ok (.iload_n 3, 1) := by decide +kernel
theorem dX12_layRow_40 : decode cX12_layRow 40 = .ok (.iload_n 2, 1) := by decide +kernel
theorem dX12_layRow_41 : decode cX12_layRow 41 = .ok (.iconst 5, 1) := by decide +kernel
theorem dX12_layRow_42 : decode cX12_layRow 42 = .ok (.irem, 1) := by decide +kernel
theorem dX12_layRow_43 : decode cX12_layRow 43 = .ok (.iastore, 1) := by decide +kernel
theorem dX12_layRow_44 : decode cX12_layRow 44 = .ok (.iload_n 2, 1) := by decide +kernel
theorem dX12_layRow_45 : decode cX12_layRow 45 = .ok (.iconst 5, 1) := by decide +kernel
theorem dX12_layRow_46 : decode cX12_layRow 46 = .ok (.idiv, 1) := by decide +kernel
theorem dX12_layRow_47 : decode cX12_layRow 47 = .ok (.istore_n 2, 1) := by decide +kernel
theorem dX12_layRow_48 : decode cX12_layRow 48 = .ok (.iinc 3 (-1), 3) := by decide +kernel
theorem dX12_layRow_51 : decode cX12_layRow 51 = .ok (.goto (-20), 3) := by decide +kernel
theorem dX12_layRow_54 : decode cX12_layRow 54 = .ok (.return_, 1) := by decide +kernel
theorem dX12_swaps_0 : decode cX12_swaps 0 = .ok (.aload_n 0, 1) := by decide +kernel
theorem dX12_swaps_1 : decode cX12_swaps 1 = .ok (.invokevirtual 190, 3) := by decide +kernel
theorem dX12_swaps_4 : decode cX12_swaps 4 = .ok (.aload_n 0, 1) := by decide +kernel
theorem dX12_swaps_5 : decode cX12_swaps 5 = .ok (.getfield 203, 3) := by decide +kernel
theorem dX12_swaps_8 : decode cX12_swaps 8 = .ok (.ifCond .ne 9, 3) := by decide +kernel
theorem dX12_swaps_11 : decode cX12_swaps 11 = .ok (.aload_n 0, 1) := by decide +kernel
theorem dX12_swaps_12 : decode cX12_swaps 12 = .ok (.iconst 1, 1) := by decide +kernel
theorem dX12_swaps_13 : decode cX12_swaps 13 = .ok (.invokevirtual 193, 3) := by decide +kernel
theorem dX12_swaps_16 : decode cX12_swaps 16 = .ok (.ireturn, 1) := by decide +kernel
theorem dX12_swaps_17 : decode cX12_swaps 17 = .ok (.iconst 0, 1) := by decide +kernel
theorem dX12_swaps_18 : decode cX12_swaps 18 = .ok (.istore_n 1, 1) := by decide +kernel
theorem dX12_swaps_19 : decode cX12_swaps 19 = .ok (.iload_n 1, 1) := by decide +kernel
theorem dX12_swaps_20 : decode cX12_swaps 20 = .ok (.sipush 3125, 3) := by decide +kernel
theorem dX12_swaps_23 : decode cX12_swaps 23 = .ok (.if_icmp .ge 16, 3) := by decide +kernel
theorem dX12_swaps_26 : decode cX12_swaps 26 = .ok (.aload_n 0, 1) := by decide +kernel
theorem dX12_swaps_27 : decode cX12_swaps 27 = .ok (.getfield 75, 3) := by decide +kernel
theorem dX12_swaps_30 : decode cX12_swaps 30 = .ok (.iload_n 1, 1) := by decide +kernel
theorem dX12_swaps_31 : decode cX12_swaps 31 = .ok (.iconst (-1), 1) := by decide +kernel
theorem dX12_swaps_32 : decode cX12_swaps 32 = .ok (.iastore, 1) := by decide +kernel
theorem dX12_swaps_33 : decode cX12_swaps 33 = .ok (.iinc 1 1, 3) := by decide +kernel
theorem dX12_swaps_36 : decode cX12_swaps 36 = .ok (.goto (-17), 3) := by decide +kernel
theorem dX12_swaps_39 : decode cX12_swaps 39 = .ok (.iconst 1, 1) := by decide +kernel
theorem dX12_swaps_40 : decode cX12_swaps 40 = .ok (.istore_n 1, 1) := by decide +kernel
theorem dX12_swaps_41 : decode cX12_swaps 41 = .ok (.aload_n 0, 1) := by decide +kernel
theorem dX12_swaps_42 : decode cX12_swaps 42 = .ok (.getfield 78, 3) := by decide +kernel
theorem dX12_swaps_45 : decode cX12_swaps 45 = .ok (.iconst 0, 1) := by decide +kernel
theorem dX12_swaps_46 : decode cX12_swaps 46 = .ok (.aload_n 0, 1) := by decide +kernel
theorem dX12_swaps_47 : decode cX12_swaps 47 = .ok (.aload_n 0, 1) := by decide +kernel
theorem dX12_swaps_48 : decode cX12_swaps 48 = .ok (.getfield 26, 3) := by decide +kernel
theorem dX12_swaps_51 : decode cX12_swaps 51 = .ok (.invokevirtual 395, 3) := by decide +kernel
theorem dX12_swaps_54 : decode cX12_swaps 54 = .ok (.iastore, 1) := by decide +kernel
theorem dX12_swaps_55 : decode cX12_swaps 55 = .ok (.aload_n 0, 1) := by decide +kernel
theorem dX12_swaps_56 : decode cX12_swaps 56 = .ok (.getfield 75, 3) := by decide +kernel
theorem dX12_swaps_59 : decode cX12_swaps 59 = .ok (.aload_n 0, 1) := by decide +kernel
theorem dX12_swaps_60 : decode cX12_swaps 60 = .ok (.getfield 78, 3) := by decide +kernel
theorem dX12_swaps_63 : decode cX12_swaps 63 = .ok (.iconst 0, 1) := by decide +kernel
theorem dX12_swaps_64 : decode cX12_swaps 64 = .ok (.iaload, 1) := by decide +kernel
theorem dX12_swaps_65 : decode cX12_swaps 65 = .ok (.iconst 0, 1) := by decide +kernel
theorem dX12_swaps_66 : decode cX12_swaps 66 = .ok (.iastore, 1) := by decide +kernel
theorem dX12_swaps_67 : decode cX12_swaps 67 = .ok (.iconst 0, 1) := by decide +kernel
theorem dX12_swaps_68 : decode cX12_swaps 68 = .ok (.istore_n 2, 1) := by decide +kernel
theorem dX12_swaps_69 : decode cX12_swaps 69 = .ok (.iload_n 2, 1) := by decide +kernel
theorem dX12_swaps_70 : decode cX12_swaps 70 = .ok (.iload_n 1, 1) := by decide +kernel
theorem dX12_swaps_71 : decode cX12_swaps 71 = .ok (.if_icmp .ge 155, 3) := by decide +kernel
theorem dX12_swaps_74 : decode cX12_swaps 74 = .ok (.aload_n 0, 1) := by decide +kernel
theorem dX12_swaps_75 : decode cX12_swaps 75 = .ok (.getfield 78, 3) := by decide +kernel
theorem dX12_swaps_78 : decode cX12_swaps 78 = .ok (.iload_n 2, 1) := by decide +kernel
theorem dX12_swaps_79 : decode cX12_swaps 79 = .ok (.iaload, 1) := by decide +kernel
theorem dX12_swaps_80 : decode cX12_swaps 80 = .ok (.istore_n 3, 1) := by decide +kernel
theorem dX12_swaps_81 : decode cX12_swaps 81 = .ok (.aload_n 0, 1) := by decide +kernel
theorem dX12_swaps_82 : decode cX12_swaps 82 = .ok (.iload_n 3, 1) := by decide +kernel
theorem dX12_swaps_83 : decode cX12_swaps 83 = .ok (.invokevirtual 399, 3) := by decide +kernel
theorem dX12_swaps_86 : decode cX12_swaps 86 = .ok (.aload_n 0, 1) := by decide +kernel
theorem dX12_swaps_87 : decode cX12_swaps 87 = .ok (.aload_n 0, 1) := by decide +kernel
theorem dX12_swaps_88 : decode cX12_swaps 88 = .ok (.getfield 41, 3) := by decide +kernel
theorem dX12_swaps_91 : decode cX12_swaps 91 = .ok (.invokevirtual 392, 3) := by decide +kernel
theorem dX12_swaps_94 : decode cX12_swaps 94 = .ok (.ifCond .eq 10, 3) := by decide +kernel
theorem dX12_swaps_97 : decode cX12_swaps 97 = .ok (.aload_n 0, 1) := by decide +kernel
theorem dX12_swaps_98 : decode cX12_swaps 98 = .ok (.getfield 75, 3) := by decide +kernel
theorem dX12_swaps_101 : decode cX12_swaps 101 = .ok (.iload_n 3, 1) := by decide +kernel
theorem dX12_swaps_102 : decode cX12_swaps 102 = .ok (.iaload, 1) := by decide +kernel
theorem dX12_swaps_103 : decode cX12_swaps 103 = .ok (.ireturn, 1) := by decide +kernel
theorem dX12_swaps_104 : decode cX12_swaps 104 = .ok (.iconst 0, 1) := by decide +kernel
theorem dX12_swaps_105 : decode cX12_swaps 105 = .ok (.istore 4, 2) := by decide +kernel
theorem dX12_swaps_107 : decode cX12_swaps 107 = .ok (.iload 4, 2) := by decide +kernel
theorem dX12_swaps_109 : decode cX12_swaps 109 = .ok (.aload_n 0, 1) := by decide +kernel
theorem dX12_swaps_110 : decode cX12_swaps 110 = .ok (.getfield 20, 3) := by decide +kernel
theorem dX12_swaps_113 : decode cX12_swaps 113 = .ok (.iconst 5, 1) := by decide +kernel
theorem dX12_swaps_114 : decode cX12_swaps 114 = .ok (.iaload, 1) := by decide +kernel
theorem dX12_swaps_115 : decode cX12_swaps 115 = .ok (.if_icmp .ge 105, 3) := by decide +kernel
theorem dX12_swaps_118 : decode cX12_swaps 118 = .ok (.iload 4, 2) := by decide +kernel
theorem dX12_swaps_120 : decode cX12_swaps 120 = .ok (.iconst 1, 1) := by decide +kernel
theorem dX12_swaps_121 : decode cX12_swaps 121 = .ok (.iadd, 1) := by decide +kernel
theorem dX12_swaps_122 : decode cX12_swaps 122 = .ok (.istore 5, 2) := by decide +kernel
theorem dX12_swaps_124 : decode cX12_swaps 124 = .ok (.iload 5, 2) := by decide +kernel
theorem dX12_swaps_126 : decode cX12_swaps 126 = .ok (.aload_n 0, 1) := by decide +kernel
theorem dX12_swaps_127 : decode cX12_swaps 127 = .ok (.getfield 20, 3) := by decide +kernel
theorem dX12_swaps_130 : decode cX12_swaps 130 = .ok (.iconst 5, 1) := by decide +kernel
theorem dX12_swaps_131 : decode cX12_swaps 131 = .ok (.iaload, 1) := by decide +kernel
theorem dX12_swaps_132 : decode cX12_swaps 132 = .ok (.if_icmp .ge 82, 3) := by decide +kernel
theorem dX12_swaps_135 : decode cX12_swaps 135 = .ok (.aload_n 0, 1) := by decide +kernel
theorem dX12_swaps_136 : decode cX12_swaps 136 = .ok (.iload_n 3, 1) := by decide +kernel
theorem dX12_swaps_137 : decode cX12_swaps 137 = .ok (.invokevirtual 399, 3) := by decide +kernel
theorem dX12_swaps_140 : decode cX12_swaps 140 = .ok (.aload_n 0, 1) := by decide +kernel
theorem dX12_swaps_141 : decode cX12_swaps 141 = .ok (.iload 4, 2) := by decide +kernel
theorem dX12_swaps_143 : decode cX12_swaps 143 = .ok (.iload 5, 2) := by decide +kernel
theorem dX12_swaps_145 : decode cX12_swaps 145 = .ok (.invokevirtual 296, 3) := by decide +kernel
theorem dX12_swaps_148 : decode cX12_swaps 148 = .ok (.aload_n 0, 1) := by decide +kernel
theorem dX12_swaps_149 : decode cX12_swaps 149 = .ok (.aload_n 0, 1) := by decide +kernel
theorem dX12_swaps_150 : decode cX12_swaps 150 = .ok (.getfield 41, 3) := by decide +kernel
theorem dX12_swaps_153 : decode cX12_swaps 153 = .ok (.invokevirtual 395, 3) := by decide +kernel
theorem dX12_swaps_156 : decode cX12_swaps 156 = .ok (.istore 6, 2) := by decide +kernel
theorem dX12_swaps_158 : decode cX12_swaps 158 = .ok (.aload_n 0, 1) := by decide +kernel
theorem dX12_swaps_159 : decode cX12_swaps 159 = .ok (.getfield 75, 3) := by decide +kernel
theorem dX12_swaps_162 : decode cX12_swaps 162 = .ok (.iload 6, 2) := by decide +kernel
theorem dX12_swaps_164 : decode cX12_swaps 164 = .ok (.iaload, 1) := by decide +kernel
theorem dX12_swaps_165 : decode cX12_swaps 165 = .ok (.ifCond .ge 43, 3) := by decide +kernel
theorem dX12_swaps_168 : decode cX12_swaps 168 = .ok (.aload_n 0, 1) := by decide +kernel
theorem dX12_swaps_169 : decode cX12_swaps 169 = .ok (.aload_n 0, 1) := by decide +kernel
theorem dX12_swaps_170 : decode cX12_swaps 170 = .ok (.getfield 41, 3) := by decide +kernel
theorem dX12_swaps_173 : decode cX12_swaps 173 = .ok (.invokevirtual 286, 3) := by decide +kernel
theorem dX12_swaps_176 : decode cX12_swaps 176 = .ok (.ifCond .ne 6, 3) := by decide +kernel
theorem dX12_swaps_179 : decode cX12_swaps 179 = .ok (.goto 29, 3) := by decide +kernel
theorem dX12_swaps_182 : decode cX12_swaps 182 = .ok (.aload_n 0, 1) := by decide +kernel
theorem dX12_swaps_183 : decode cX12_swaps 183 = .ok (.getfield 75, 3) := by decide +kernel
theorem dX12_swaps_186 : decode cX12_swaps 186 = .ok (.iload 6, 2) := by decide +kernel
theorem dX12_swaps_188 : decode cX12_swaps 188 = .ok (.aload_n 0, 1) := by decide +kernel
theorem dX12_swaps_189 : decode cX12_swaps 189 = .ok (.getfield 75, 3) := by decide +kernel
theorem dX12_swaps_192 : decode cX12_swaps 192 = .ok (.iload_n 3, 1) := by decide +kernel
theorem dX12_swaps_193 : decode cX12_swaps 193 = .ok (.iaload, 1) := by decide +kernel
theorem dX12_swaps_194 : decode cX12_swaps 194 = .ok (.iconst 1, 1) := by decide +kernel
theorem dX12_swaps_195 : decode cX12_swaps 195 = .ok (.iadd, 1) := by decide +kernel
theorem dX12_swaps_196 : decode cX12_swaps 196 = .ok (.iastore, 1) := by decide +kernel
theorem dX12_swaps_197 : decode cX12_swaps 197 = .ok (.aload_n 0, 1) := by decide +kernel
theorem dX12_swaps_198 : decode cX12_swaps 198 = .ok (.getfield 78, 3) := by decide +kernel
theorem dX12_swaps_201 : decode cX12_swaps 201 = .ok (.iload_n 1, 1) := by decide +kernel
theorem dX12_swaps_202 : decode cX12_swaps 202 = .ok (.iload 6, 2) := by decide +kernel
theorem dX12_swaps_204 : decode cX12_swaps 204 = .ok (.iastore, 1) := by decide +kernel
theorem dX12_swaps_205 : decode cX12_swaps 205 = .ok (.iinc 1 1, 3) := by decide +kernel
theorem dX12_swaps_208 : decode cX12_swaps 208 = .ok (.iinc 5 1, 3) := by decide +kernel
theorem dX12_swaps_211 : decode cX12_swaps 211 = .ok (.goto (-87), 3) := by decide +kernel
theorem dX12_swaps_214 : decode cX12_swaps 214 = .ok (.iinc 4 1, 3) := by decide +kernel
theorem dX12_swaps_217 : decode cX12_swaps 217 = .ok (.goto (-110), 3) := by decide +kernel
theorem dX12_swaps_220 : decode cX12_swaps 220 = .ok (.iinc 2 1, 3) := by decide +kernel
theorem dX12_swaps_223 : decode cX12_swaps 223 = .ok (.goto (-154), 3) := by decide +kernel
theorem dX12_swaps_226 : decode cX12_swaps 226 = .ok (.bipush (-2), 2) := by decide +kernel
theorem dX12_swaps_228 : decode cX12_swaps 228 = .ok (.ireturn, 1) := by decide +kernel
theorem dX12_who_0 : decode cX12_who 0 = .ok (.aload_n 0, 1) := by decide +kernel
theorem dX12_who_1 : decode cX12_who 1 = .ok (.invokevirtual 190, 3) := by decide +kernel
theorem dX12_who_4 : decode cX12_who 4 = .ok (.aload_n 0, 1) := by decide +kernel
theorem dX12_who_5 : decode cX12_who 5 = .ok (.getfield 203, 3) := by decide +kernel
theorem dX12_who_8 : decode cX12_who 8 = .ok (.ifCond .ne 9, 3) := by decide +kernel
theorem dX12_who_11 : decode cX12_who 11 = .ok (.aload_n 0, 1) := by decide +kernel
theorem dX12_who_12 : decode cX12_who 12 = .ok (.iconst 1, 1) := by decide +kernel
theorem dX12_who_13 : decode cX12_who 13 = .ok (.invokevirtual 193, 3) := by decide +kernel
theorem dX12_who_16 : decode cX12_who 16 = .ok (.ireturn, 1) := by decide +kernel
theorem dX12_who_17 : decode cX12_who 17 = .ok (.iload_n 1, 1) := by decide +kernel
theorem dX12_who_18 : decode cX12_who 18 = .ok (.iconst 1, 1) := by decide +kernel
theorem dX12_who_19 : decode cX12_who 19 = .ok (.iconst 3, 1) := by decide +kernel
theorem dX12_who_20 : decode cX12_who 20 = .ok (.invokestatic 174, 3) := by decide +kernel
theorem dX12_who_23 : decode cX12_who 23 = .ok (.ifCond .ne 9, 3) := by decide +kernel
theorem dX12_who_26 : decode cX12_who 26 = .ok (.aload_n 0, 1) := by decide +kernel
theorem dX12_who_27 : decode cX12_who 27 = .ok (.iconst 2, 1) := by decide +kernel
theorem dX12_who_28 : decode cX12_who 28 = .ok (.invokevirtual 193, 3) := by decide +kernel
theorem dX12_who_31 : decode cX12_who 31 = .ok (.ireturn, 1) := by decide +kernel
theorem dX12_who_32 : decode cX12_who 32 = .ok (.aload_n 0, 1) := by decide +kernel
theorem dX12_who_33 : decode cX12_who 33 = .ok (.aload_n 0, 1) := by decide +kernel
theorem dX12_who_34 : decode cX12_who 34 = .ok (.getfield 26, 3) := by decide +kernel
theorem dX12_who_37 : decode cX12_who 37 = .ok (.invokevirtual 305, 3) := by decide +kernel
theorem dX12_who_40 : decode cX12_who 40 = .ok (.aload_n 0, 1) := by decide +kernel
theorem dX12_who_41 : decode cX12_who 41 = .ok (.aload_n 0, 1) := by decide +kernel
theorem dX12_who_42 : decode cX12_who 42 = .ok (.getfield 26, 3) := by decide +kernel
theorem dX12_who_45 : decode cX12_who 45 = .ok (.bipush 12, 2) := by decide +kernel
theorem dX12_who_47 : decode cX12_who 47 = .ok (.iaload, 1) := by decide +kernel
theorem dX12_who_48 : decode cX12_who 48 = .ok (.invokevirtual 360, 3) := by decide +kernel
theorem dX12_who_51 : decode cX12_who 51 = .ok (.iconst 1, 1) := by decide +kernel
theorem dX12_who_52 : decode cX12_who 52 = .ok (.istore_n 2, 1) := by decide +kernel
theorem dX12_who_53 : decode cX12_who 53 = .ok (.iconst 0, 1) := by decide +kernel
theorem dX12_who_54 : decode cX12_who 54 = .ok (.istore_n 3, 1) := by decide +kernel
theorem dX12_who_55 : decode cX12_who 55 = .ok (.iload_n 3, 1) := by decide +kernel
theorem dX12_who_56 : decode cX12_who 56 = .ok (.aload_n 0, 1) := by decide +kernel
theorem dX12_who_57 : decode cX12_who 57 = .ok (.getfield 20, 3) := by decide +kernel
theorem dX12_who_60 : decode cX12_who 60 = .ok (.iconst 4, 1) := by decide +kernel
theorem dX12_who_61 : decode cX12_who 61 = .ok (.iaload, 1) := by decide +kernel
theorem dX12_who_62 : decode cX12_who 62 = .ok (.if_icmp .ge 13, 3) := by decide +kernel
theorem dX12_who_65 : decode cX12_who 65 = .ok (.iload_n 2, 1) := by decide +kernel
theorem dX12_who_66 : decode cX12_who 66 = .ok (.iload_n 1, 1) := by decide +kernel
theorem dX12_who_67 : decode cX12_who 67 = .ok (.imul, 1) := by decide +kernel
theorem dX12_who_68 : decode cX12_who 68 = .ok (.istore_n 2, 1) := by decide +kernel
theorem dX12_who_69 : decode cX12_who 69 = .ok (.iinc 3 1, 3) := by decide +kernel
theorem dX12_who_72 : decode cX12_who 72 = .ok (.goto (-17), 3) := by decide +kernel
theorem dX12_who_75 : decode cX12_who 75 = .ok (.iconst 0, 1) := by decide +kernel
theorem dX12_who_76 : decode cX12_who 76 = .ok (.istore_n 3, 1) := by decide +kernel
theorem dX12_who_77 : decode cX12_who 77 = .ok (.iconst 0, 1) := by decide +kernel
theorem dX12_who_78 : decode cX12_who 78 = .ok (.istore 4, 2) := by decide +kernel
theorem dX12_who_80 : decode cX12_who 80 = .ok (.iload 4, 2) := by decide +kernel
theorem dX12_who_82 : decode cX12_who 82 = .ok (.iload_n 2, 1) := by decide +kernel
theorem dX12_who_83 : decode cX12_who 83 = .ok (.if_icmp .ge 66, 3) := by decide +kernel
theorem dX12_who_86 : decode cX12_who 86 = .ok (.iload 4, 2) := by decide +kernel
theorem dX12_who_88 : decode cX12_who 88 = .ok (.istore 5, 2) := by decide +kernel
theorem dX12_who_90 : decode cX12_who 90 = .ok (.iconst 0, 1) := by decide +kernel
theorem dX12_who_91 : decode cX12_who 91 = .ok (.istore 6, 2) := by decide +kernel
theorem dX12_who_93 : decode cX12_who 93 = .ok (.iload 6, 2) := by decide +kernel
theorem dX12_who_95 : decode cX12_who 95 = .ok (.aload_n 0, 1) := by decide +kernel
theorem dX12_who_96 : decode cX12_who 96 = .ok (.getfield 20, 3) := by decide +kernel
theorem dX12_who_99 : decode cX12_who 99 = .ok (.iconst 4, 1) := by decide +kernel
theorem dX12_who_100 : decode cX12_who 100 = .ok (.iaload, 1) := by decide +kernel
theorem dX12_who_101 : decode cX12_who 101 = .ok (.if_icmp .ge 26, 3) := by decide +kernel
theorem dX12_who_104 : decode cX12_who 104 = .ok (.aload_n 0, 1) := by decide +kernel
theorem dX12_who_105 : decode cX12_who 105 = .ok (.getfield 66, 3) := by decide +kernel
theorem dX12_who_108 : decode cX12_who 108 = .ok (.iload 6, 2) := by decide +kernel
theorem dX12_who_110 : decode cX12_who 110 = .ok (.iload 5, 2) := by decide +kernel
theorem dX12_who_112 : decode cX12_who 112 = .ok (.iload_n 1, 1) := by decide +kernel
theorem dX12_who_113 : decode cX12_who 113 = .ok (.irem, 1) := by decide +kernel
theorem dX12_who_114 : decode cX12_who 114 = .ok (.iastore, 1) := by decide +kernel
theorem dX12_who_115 : decode cX12_who 115 = .ok (.iload 5, 2) := by decide +kernel
theorem dX12_who_117 : decode cX12_who 117 = .ok (.iload_n 1, 1) := by decide +kernel
theorem dX12_who_118 : decode cX12_who 118 = .ok (.idiv, 1) := by decide +kernel
theorem dX12_who_119 : decode cX12_who 119 = .ok (.istore 5, 2) := by decide +kernel
theorem dX12_who_121 : decode cX12_who 121 = .ok (.iinc 6 1, 3) := by decide +kernel
theorem dX12_who_124 : decode cX12_who 124 = .ok (.goto (-31), 3) := by decide +kernel
theorem dX12_who_127 : decode cX12_who 127 = .ok (.iload_n 3, 1) := by decide +kernel
theorem dX12_who_128 : decode cX12_who 128 = .ok (.aload_n 0, 1) := by decide +kernel
theorem dX12_who_129 : decode cX12_who 129 = .ok (.iload_n 1, 1) := by decide +kernel
theorem dX12_who_130 : decode cX12_who 130 = .ok (.invokevirtual 366, 3) := by decide +kernel
theorem dX12_who_133 : decode cX12_who 133 = .ok (.ifCond .eq 7, 3) := by decide +kernel
theorem dX12_who_136 : decode cX12_who 136 = .ok (.iconst 1, 1) := by decide +kernel
theorem dX12_who_137 : decode cX12_who 137 = .ok (.goto 4, 3) := by decide +kernel
theorem dX12_who_140 : decode cX12_who 140 = .ok (.iconst 0, 1) := by decide +kernel
theorem dX12_who_141 : decode cX12_who 141 = .ok (.iadd, 1) := by decide +kernel
theorem dX12_who_142 : decode cX12_who 142 = .ok (.istore_n 3, 1) := by decide +kernel
theorem dX12_who_143 : decode cX12_who 143 = .ok (.iinc 4 1, 3) := by decide +kernel
theorem dX12_who_146 : decode cX12_who 146 = .ok (.goto (-66), 3) := by decide +kernel
theorem dX12_who_149 : decode cX12_who 149 = .ok (.iload_n 3, 1) := by decide +kernel
theorem dX12_who_150 : decode cX12_who 150 = .ok (.ireturn, 1) := by decide +kernel
theorem dX12_sawOf_0 : decode cX12_sawOf 0 = .ok (.aload_n 0, 1) := by decide +kernel
theorem dX12_sawOf_1 : decode cX12_sawOf 1 = .ok (.getfield 20, 3) := by decide +kernel
theorem dX12_sawOf_4 : decode cX12_sawOf 4 = .ok (.sipush 152, 3) := by decide +kernel
theorem dX12_sawOf_7 : decode cX12_sawOf 7 = .ok (.iconst 3, 1) := by decide +kernel
theorem dX12_sawOf_8 : decode cX12_sawOf 8 = .ok (.iload_n 1, 1) := by decide +kernel
theorem dX12_sawOf_9 : decode cX12_sawOf 9 = .ok (.imul, 1) := by decide +kernel
theorem dX12_sawOf_10 : decode cX12_sawOf 10 = .ok (.iadd, 1) := by decide +kernel
theorem dX12_sawOf_11 : decode cX12_sawOf 11 = .ok (.iload_n 2, 1) := by decide +kernel
theorem dX12_sawOf_12 : decode cX12_sawOf 12 = .ok (.iadd, 1) := by decide +kernel
theorem dX12_sawOf_13 : decode cX12_sawOf 13 = .ok (.iaload, 1) := by decide +kernel
theorem dX12_sawOf_14 : decode cX12_sawOf 14 = .ok (.ireturn, 1) := by decide +kernel
theorem dX12_isEarlier_0 : decode cX12_isEarlier 0 = .ok (.aload_n 0, 1) := by decide +kernel
theorem dX12_isEarlier_1 : decode cX12_isEarlier 1 = .ok (.iload_n 1, 1) := by decide +kernel
theorem dX12_isEarlier_2 : decode cX12_isEarlier 2 = .ok (.iconst 1, 1) := by decide +kernel
theorem dX12_isEarlier_3 : decode cX12_isEarlier 3 = .ok (.invokevirtual 402, 3) := by decide +kernel
theorem dX12_isEarlier_6 : decode cX12_isEarlier 6 = .ok (.aload_n 0, 1) := by decide +kernel
theorem dX12_isEarlier_7 : decode cX12_isEarlier 7 = .ok (.iload_n 2, 1) := by decide +kernel
theorem dX12_isEarlier_8 : decode cX12_isEarlier 8 = .ok (.iconst 1, 1) := by decide +kernel
theorem dX12_isEarlier_9 : decode cX12_isEarlier 9 = .ok (.invokevirtual 402, 3) := by decide +kernel
theorem dX12_isEarlier_12 : decode cX12_isEarlier 12 = .ok (.if_icmp .lt 23, 3) := by decide +kernel
theorem dX12_isEarlier_15 : decode cX12_isEarlier 15 = .ok (.aload_n 0, 1) := by decide +kernel
theorem dX12_isEarlier_16 : decode cX12_isEarlier 16 = .ok (.iload_n 1, 1) := by decide +kernel
theorem dX12_isEarlier_17 : decode cX12_isEarlier 17 = .ok (.iconst 1, 1) := by decide +kernel
theorem dX12_isEarlier_18 : decode cX12_isEarlier 18 = .ok (.invokevirtual 402, 3) := by decide +kernel
theorem dX12_isEarlier_21 : decode cX12_isEarlier 21 = .ok (.aload_n 0, 1) := by decide +kernel
theorem dX12_isEarlier_22 : decode cX12_isEarlier 22 = .ok (.iload_n 2, 1) := by decide +kernel
theorem dX12_isEarlier_23 : decode cX12_isEarlier 23 = .ok (.iconst 1, 1) := by decide +kernel
theorem dX12_isEarlier_24 : decode cX12_isEarlier 24 = .ok (.invokevirtual 402, 3) := by decide +kernel
theorem dX12_isEarlier_27 : decode cX12_isEarlier 27 = .ok (.if_icmp .ne 12, 3) := by decide +kernel
theorem dX12_isEarlier_30 : decode cX12_isEarlier 30 = .ok (.iload_n 1, 1) := by decide +kernel
theorem dX12_isEarlier_31 : decode cX12_isEarlier 31 = .ok (.iload_n 2, 1) := by decide +kernel
theorem dX12_isEarlier_32 : decode cX12_isEarlier 32 = .ok (.if_icmp .ge 7, 3) := by decide +kernel
theorem dX12_isEarlier_35 : decode cX12_isEarlier 35 = .ok (.iconst 1, 1) := by decide +kernel
theorem dX12_isEarlier_36 : decode cX12_isEarlier 36 = .ok (.goto 4, 3) := by decide +kernel
theorem dX12_isEarlier_39 : decode cX12_isEarlier 39 = .ok (.iconst 0, 1) := by decide +kernel
theorem dX12_isEarlier_40 : decode cX12_isEarlier 40 = .ok (.ireturn, 1) := by decide +kernel
theorem dX12_canBeThen_0 : decode cX12_canBeThen 0 = .ok (.aload_n 0, 1) := by decide +kernel
theorem dX12_canBeThen_1 : decode cX12_canBeThen 1 = .ok (.iload_n 2, 1) := by decide +kernel
theorem dX12_canBeThen_2 : decode cX12_canBeThen 2 = .ok (.iconst 1, 1) := by decide +kernel
theorem dX12_canBeThen_3 : decode cX12_canBeThen 3 = .ok (.invokevirtual 402, 3) := by decide +kernel
theorem dX12_canBeThen_6 : decode cX12_canBeThen 6 = .ok (.aload_n 0, 1) := by decide +kernel
theorem dX12_canBeThen_7 : decode cX12_canBeThen 7 = .ok (.iload_n 1, 1) := by decide +kernel
theorem dX12_canBeThen_8 : decode cX12_canBeThen 8 = .ok (.iconst 1, 1) := by decide +kernel
theorem dX12_canBeThen_9 : decode cX12_canBeThen 9 = .ok (.invokevirtual 402, 3) := by decide +kernel
theorem dX12_canBeThen_12 : decode cX12_canBeThen 12 = .ok (.isub, 1) := by decide +kernel
theorem dX12_canBeThen_13 : decode cX12_canBeThen 13 = .ok (.aload_n 0, 1) := by decide +kernel
theorem dX12_canBeThen_14 : decode cX12_canBeThen 14 = .ok (.aload_n 0, 1) := by decide +kernel
theorem dX12_canBeThen_15 : decode cX12_canBeThen 15 = .ok (.iload_n 1, 1) := by decide +kernel
theorem dX12_canBeThen_16 : decode cX12_canBeThen 16 = .ok (.iconst 0, 1) := by decide +kernel
theorem dX12_canBeThen_17 : decode cX12_canBeThen 17 = .ok (.invokevirtual 402, 3) := by decide +kernel
theorem dX12_canBeThen_20 : decode cX12_canBeThen 20 = .ok (.aload_n 0, 1) := by decide +kernel
theorem dX12_canBeThen_21 : decode cX12_canBeThen 21 = .ok (.iload_n 2, 1) := by decide +kernel
theorem dX12_canBeThen_22 : decode cX12_canBeThen 22 = .ok (.iconst 0, 1) := by decide +kernel
theorem dX12_canBeThen_23 : decode cX12_canBeThen 23 = .ok (.invokevirtual 402, 3) := by decide +kernel
theorem dX12_canBeThen_26 : decode cX12_canBeThen 26 = .ok (.invokevirtual 315, 3) := by decide +kernel
theorem dX12_canBeThen_29 : decode cX12_canBeThen 29 = .ok (.aload_n 0, 1) := by decide +kernel
theorem dX12_canBeThen_30 : decode cX12_canBeThen 30 = .ok (.iload_n 1, 1) := by decide +kernel
theorem dX12_canBeThen_31 : decode cX12_canBeThen 31 = .ok (.iconst 2, 1) := by decide +kernel
theorem dX12_canBeThen_32 : decode cX12_canBeThen 32 = .ok (.invokevirtual 402, 3) := by decide +kernel
theorem dX12_canBeThen_35 : decode cX12_canBeThen 35 = .ok (.aload_n 0, 1) := by decide +kernel
theorem dX12_canBeThen_36 : decode cX12_canBeThen 36 = .ok (.iload_n 2, 1) := by decide +kernel
theorem dX12_canBeThen_37 : decode cX12_canBeThen 37 = .ok (.iconst 2, 1) := by decide +kernel
theorem dX12_canBeThen_38 : decode cX12_canBeThen 38 = .ok (.invokevirtual 402, 3) := by decide +kernel
theorem dX12_canBeThen_41 : decode cX12_canBeThen 41 = .ok (.if_icmp .eq 12, 3) := by decide +kernel
theorem dX12_canBeThen_44 : decode cX12_canBeThen 44 = .ok (.aload_n 0, 1) := by decide +kernel
theorem dX12_canBeThen_45 : decode cX12_canBeThen 45 = .ok (.getfield 20, 3) := by decide +kernel
theorem dX12_canBeThen_48 : decode cX12_canBeThen 48 = .ok (.iconst 1, 1) := by decide +kernel
theorem dX12_canBeThen_49 : decode cX12_canBeThen 49 = .ok (.iaload, 1) := by decide +kernel
theorem dX12_canBeThen_50 : decode cX12_canBeThen 50 = .ok (.goto 4, 3) := by decide +kernel
theorem dX12_canBeThen_53 : decode cX12_canBeThen 53 = .ok (.iconst 0, 1) := by decide +kernel
theorem dX12_canBeThen_54 : decode cX12_canBeThen 54 = .ok (.iadd, 1) := by decide +kernel
theorem dX12_canBeThen_55 : decode cX12_canBeThen 55 = .ok (.if_icmp .lt 7, 3) := by decide +kernel
theorem dX12_canBeThen_58 : decode cX12_canBeThen 58 = .ok (.iconst 1, 1) := by decide +kernel
theorem dX12_canBeThen_59 : decode cX12_canBeThen 59 = .ok (.goto 4, 3) := by decide +kernel
theorem dX12_canBeThen_62 : decode cX12_canBeThen 62 = .ok (.iconst 0, 1) := by decide +kernel
theorem dX12_canBeThen_63 : decode cX12_canBeThen 63 = .ok (.ireturn, 1) := by decide +kernel
theorem dX12_canBeBoth_0 : decode cX12_canBeBoth 0 = .ok (.aload_n 0, 1) := by decide +kernel
theorem dX12_canBeBoth_1 : decode cX12_canBeBoth 1 = .ok (.iload_n 1, 1) := by decide +kernel
theorem dX12_canBeBoth_2 : decode cX12_canBeBoth 2 = .ok (.iload_n 2, 1) := by decide +kernel
theorem dX12_canBeBoth_3 : decode cX12_canBeBoth 3 = .ok (.invokevirtual 405, 3) := by decide +kernel
theorem dX12_canBeBoth_6 : decode cX12_canBeBoth 6 = .ok (.ifCond .eq 12, 3) := by decide +kernel
theorem dX12_canBeBoth_9 : decode cX12_canBeBoth 9 = .ok (.aload_n 0, 1) := by decide +kernel
theorem dX12_canBeBoth_10 : decode cX12_canBeBoth 10 = .ok (.iload_n 1, 1) := by decide +kernel
theorem dX12_canBeBoth_11 : decode cX12_canBeBoth 11 = .ok (.iload_n 2, 1) := by decide +kernel
theorem dX12_canBeBoth_12 : decode cX12_canBeBoth 12 = .ok (.invokevirtual 408, 3) := by decide +kernel
theorem dX12_canBeBoth_15 : decode cX12_canBeBoth 15 = .ok (.goto 9, 3) := by decide +kernel
theorem dX12_canBeBoth_18 : decode cX12_canBeBoth 18 = .ok (.aload_n 0, 1) := by decide +kernel
theorem dX12_canBeBoth_19 : decode cX12_canBeBoth 19 = .ok (.iload_n 2, 1) := by decide +kernel
theorem dX12_canBeBoth_20 : decode cX12_canBeBoth 20 = .ok (.iload_n 1, 1) := by decide +kernel
theorem dX12_canBeBoth_21 : decode cX12_canBeBoth 21 = .ok (.invokevirtual 408, 3) := by decide +kernel
theorem dX12_canBeBoth_24 : decode cX12_canBeBoth 24 = .ok (.ireturn, 1) := by decide +kernel
theorem dX12_canBeAll_0 : decode cX12_canBeAll 0 = .ok (.iconst (-1), 1) := by decide +kernel
theorem dX12_canBeAll_1 : decode cX12_canBeAll 1 = .ok (.istore_n 2, 1) := by decide +kernel
theorem dX12_canBeAll_2 : decode cX12_canBeAll 2 = .ok (.iload_n 1, 1) := by decide +kernel
theorem dX12_canBeAll_3 : decode cX12_canBeAll 3 = .ok (.istore_n 3, 1) := by decide +kernel
theorem dX12_canBeAll_4 : decode cX12_canBeAll 4 = .ok (.iload_n 3, 1) := by decide +kernel
theorem dX12_canBeAll_5 : decode cX12_canBeAll 5 = .ok (.ifCond .eq 87, 3) := by decide +kernel
theorem dX12_canBeAll_8 : decode cX12_canBeAll 8 = .ok (.iconst (-1), 1) := by decide +kernel
theorem dX12_canBeAll_9 : decode cX12_canBeAll 9 = .ok (.istore 4, 2) := by decide +kernel
theorem dX12_canBeAll_11 : decode cX12_canBeAll 11 = .ok (.iconst 0, 1) := by decide +kernel
theorem dX12_canBeAll_12 : decode cX12_canBeAll 12 = .ok (.istore 5, 2) := by decide +kernel
theorem dX12_canBeAll_14 : decode cX12_canBeAll 14 = .ok (.iload 5, 2) := by decide +kernel
theorem dX12_canBeAll_16 : decode cX12_canBeAll 16 = .ok (.aload_n 0, 1) := by decide +kernel
theorem dX12_canBeAll_17 : decode cX12_canBeAll 17 = .ok (.getfield 20, 3) := by decide +kernel
theorem dX12_canBeAll_20 : decode cX12_canBeAll 20 = .ok (.bipush 8, 2) := by decide +kernel
theorem dX12_canBeAll_22 : decode cX12_canBeAll 22 = .ok (.iaload, 1) := by decide +kernel
theorem dX12_canBeAll_23 : decode cX12_canBeAll 23 = .ok (.if_icmp .ge 38, 3) := by decide +kernel
theorem dX12_canBeAll_26 : decode cX12_canBeAll 26 = .ok (.iload_n 3, 1) := by decide +kernel
theorem dX12_canBeAll_27 : decode cX12_canBeAll 27 = .ok (.iload 5, 2) := by decide +kernel
theorem dX12_canBeAll_29 : decode cX12_canBeAll 29 = .ok (.invokestatic 278, 3) := by decide +kernel
theorem dX12_canBeAll_32 : decode cX12_canBeAll 32 = .ok (.ifCond .eq 23, 3) := by decide +kernel
theorem dX12_canBeAll_35 : decode cX12_canBeAll 35 = .ok (.iload 4, 2) := by decide +kernel
theorem dX12_canBeAll_37 : decode cX12_canBeAll 37 = .ok (.ifCond .lt 14, 3) := by decide +kernel
theorem dX12_canBeAll_40 : decode cX12_canBeAll 40 = .ok (.aload_n 0, 1) := by decide +kernel
theorem dX12_canBeAll_41 : decode cX12_canBeAll 41 = .ok (.iload 5, 2) := by decide +kernel
theorem dX12_canBeAll_43 : decode cX12_canBeAll 43 = .ok (.iload 4, 2) := by decide +kernel
theorem dX12_canBeAll_45 : decode cX12_canBeAll 45 = .ok (.invokevirtual 405, 3) := by decide +kernel
theorem dX12_canBeAll_48 : decode cX12_canBeAll 48 = .ok (.ifCond .eq 7, 3) := by decide +kernel
theorem dX12_canBeAll_51 : decode cX12_canBeAll 51 = .ok (.iload 5, 2) := by decide +kernel
theorem dX12_canBeAll_53 : decode cX12_canBeAll 53 = .ok (.istore 4, 2) := by decide +kernel
theorem dX12_canBeAll_55 : decode cX12_canBeAll 55 = .ok (.iinc 5 1, 3) := by decide +kernel
theorem dX12_canBeAll_58 : decode cX12_canBeAll 58 = .ok (.goto (-44), 3) := by decide +kernel
theorem dX12_canBeAll_61 : decode cX12_canBeAll 61 = .ok (.iload_n 2, 1) := by decide +kernel
theorem dX12_canBeAll_62 : decode cX12_canBeAll 62 = .ok (.ifCond .lt 15, 3) := by decide +kernel
theorem dX12_canBeAll_65 : decode cX12_canBeAll 65 = .ok (.aload_n 0, 1) := by decide +kernel
theorem dX12_canBeAll_66 : decode cX12_canBeAll 66 = .ok (.iload_n 2, 1) := by decide +kernel
theorem dX12_canBeAll_67 : decode cX12_canBeAll 67 = .ok (.iload 4, 2) := by decide +kernel
theorem dX12_canBeAll_69 : decode cX12_canBeAll 69 = .ok (.invokevirtual 408, 3) := by decide +kernel
theorem dX12_canBeAll_72 : decode cX12_canBeAll 72 = .ok (.ifCond .ne 5, 3) := by decide +kernel
theorem dX12_canBeAll_75 : decode cX12_canBeAll 75 = .ok (.iconst 0, 1) := by decide +kernel
theorem dX12_canBeAll_76 : decode cX12_canBeAll 76 = .ok (.ireturn, 1) := by decide +kernel
theorem dX12_canBeAll_77 : decode cX12_canBeAll 77 = .ok (.iload 4, 2) := by decide +kernel
theorem dX12_canBeAll_79 : decode cX12_canBeAll 79 = .ok (.istore_n 2, 1) := by decide +kernel
theorem dX12_canBeAll_80 : decode cX12_canBeAll 80 = .ok (.iload_n 3, 1) := by decide +kernel
theorem dX12_canBeAll_81 : decode cX12_canBeAll 81 = .ok (.iconst 1, 1) := by decide +kernel
theorem dX12_canBeAll_82 : decode cX12_canBeAll 82 = .ok (.iload 4, 2) := by decide +kernel
theorem dX12_canBeAll_84 : decode cX12_canBeAll 84 = .ok (.ishl, 1) := by decide +kernel
theorem dX12_canBeAll_85 : decode cX12_canBeAll 85 = .ok (.iconst (-1), 1) := by decide +kernel
theorem dX12_canBeAll_86 : decode cX12_canBeAll 86 = .ok (.ixor, 1) := by decide +kernel
theorem dX12_canBeAll_87 : decode cX12_canBeAll 87 = .ok (.iand, 1) := by decide +kernel
theorem dX12_canBeAll_88 : decode cX12_canBeAll 88 = .ok (.istore_n 3, 1) := by decide +kernel
theorem dX12_canBeAll_89 : decode cX12_canBeAll 89 = .ok (.goto (-85), 3) := by decide +kernel
theorem dX12_canBeAll_92 : decode cX12_canBeAll 92 = .ok (.iconst 1, 1) := by decide +kernel
theorem dX12_canBeAll_93 : decode cX12_canBeAll 93 = .ok (.ireturn, 1) := by decide +kernel
theorem dX12_same_0 : decode cX12_same 0 = .ok (.aload_n 0, 1) := by decide +kernel
theorem dX12_same_1 : decode cX12_same 1 = .ok (.invokevirtual 190, 3) := by decide +kernel
theorem dX12_same_4 : decode cX12_same 4 = .ok (.aload_n 0, 1) := by decide +kernel
theorem dX12_same_5 : decode cX12_same 5 = .ok (.iload_n 1, 1) := by decide +kernel
theorem dX12_same_6 : decode cX12_same 6 = .ok (.invokevirtual 411, 3) := by decide +kernel
theorem dX12_same_9 : decode cX12_same 9 = .ok (.ifCond .eq 33, 3) := by decide +kernel
theorem dX12_same_12 : decode cX12_same 12 = .ok (.aload_n 0, 1) := by decide +kernel
theorem dX12_same_13 : decode cX12_same 13 = .ok (.iload_n 2, 1) := by decide +kernel
theorem dX12_same_14 : decode cX12_same 14 = .ok (.invokevirtual 411, 3) := by decide +kernel
theorem dX12_same_17 : decode cX12_same 17 = .ok (.ifCond .eq 25, 3) := by decide +kernel
theorem dX12_same_20 : decode cX12_same 20 = .ok (.iload_n 1, 1) := by decide +kernel
theorem dX12_same_21 : decode cX12_same 21 = .ok (.iload_n 2, 1) := by decide +kernel
theorem dX12_same_22 : decode cX12_same 22 = .ok (.if_icmp .eq 20, 3) := by decide +kernel
theorem dX12_same_25 : decode cX12_same 25 = .ok (.aload_n 0, 1) := by decide +kernel
theorem dX12_same_26 : decode cX12_same 26 = .ok (.iload_n 1, 1) := by decide +kernel
theorem dX12_same_27 : decode cX12_same 27 = .ok (.iload_n 2, 1) := by decide +kernel
theorem dX12_same_28 : decode cX12_same 28 = .ok (.invokevirtual 414, 3) := by decide +kernel
theorem dX12_same_31 : decode cX12_same 31 = .ok (.ifCond .eq 7, 3) := by decide +kernel
theorem dX12_same_34 : decode cX12_same 34 = .ok (.iconst 1, 1) := by decide +kernel
theorem dX12_same_35 : decode cX12_same 35 = .ok (.goto 12, 3) := by decide +kernel
theorem dX12_same_38 : decode cX12_same 38 = .ok (.iconst 0, 1) := by decide +kernel
theorem dX12_same_39 : decode cX12_same 39 = .ok (.goto 8, 3) := by decide +kernel
theorem dX12_same_42 : decode cX12_same 42 = .ok (.aload_n 0, 1) := by decide +kernel
theorem dX12_same_43 : decode cX12_same 43 = .ok (.iconst 1, 1) := by decide +kernel
theorem dX12_same_44 : decode cX12_same 44 = .ok (.invokevirtual 193, 3) := by decide +kernel
theorem dX12_same_47 : decode cX12_same 47 = .ok (.ireturn, 1) := by decide +kernel
theorem dX12_must__0 : decode cX12_must_ 0 = .ok (.aload_n 0, 1) := by decide +kernel
theorem dX12_must__1 : decode cX12_must_ 1 = .ok (.invokevirtual 190, 3) := by decide +kernel
theorem dX12_must__4 : decode cX12_must_ 4 = .ok (.aload_n 0, 1) := by decide +kernel
theorem dX12_must__5 : decode cX12_must_ 5 = .ok (.getfield 203, 3) := by decide +kernel
theorem dX12_must__8 : decode cX12_must_ 8 = .ok (.ifCond .ne 9, 3) := by decide +kernel
theorem dX12_must__11 : decode cX12_must_ 11 = .ok (.aload_n 0, 1) := by decide +kernel
theorem dX12_must__12 : decode cX12_must_ 12 = .ok (.iconst 1, 1) := by decide +kernel
theorem dX12_must__13 : decode cX12_must_ 13 = .ok (.invokevirtual 193, 3) := by decide +kernel
theorem dX12_must__16 : decode cX12_must_ 16 = .ok (.ireturn, 1) := by decide +kernel
theorem dX12_must__17 : decode cX12_must_ 17 = .ok (.iconst 1, 1) := by decide +kernel
theorem dX12_must__18 : decode cX12_must_ 18 = .ok (.aload_n 0, 1) := by decide +kernel
theorem dX12_must__19 : decode cX12_must_ 19 = .ok (.getfield 20, 3) := by decide +kernel
theorem dX12_must__22 : decode cX12_must_ 22 = .ok (.bipush 8, 2) := by decide +kernel
theorem dX12_must__24 : decode cX12_must_ 24 = .ok (.iaload, 1) := by decide +kernel
theorem dX12_must__25 : decode cX12_must_ 25 = .ok (.ishl, 1) := by decide +kernel
theorem dX12_must__26 : decode cX12_must_ 26 = .ok (.iconst 1, 1) := by decide +kernel
theorem dX12_must__27 : decode cX12_must_ 27 = .ok (.isub, 1) := by decide +kernel
theorem dX12_must__28 : decode cX12_must_ 28 = .ok (.istore_n 1, 1) := by decide +kernel
theorem dX12_must__29 : decode cX12_must_ 29 = .ok (.aload_n 0, 1) := by decide +kernel
theorem dX12_must__30 : decode cX12_must_ 30 = .ok (.getfield 63, 3) := by decide +kernel
theorem dX12_must__33 : decode cX12_must_ 33 = .ok (.iconst 0, 1) := by decide +kernel
theorem dX12_must__34 : decode cX12_must_ 34 = .ok (.iconst 0, 1) := by decide +kernel
theorem dX12_must__35 : decode cX12_must_ 35 = .ok (.iastore, 1) := by decide +kernel
theorem dX12_must__36 : decode cX12_must_ 36 = .ok (.iconst 1, 1) := by decide +kernel
theorem dX12_must__37 : decode cX12_must_ 37 = .ok (.istore_n 2, 1) := by decide +kernel
theorem dX12_must__38 : decode cX12_must_ 38 = .ok (.iload_n 2, 1) := by decide +kernel
theorem dX12_must__39 : decode cX12_must_ 39 = .ok (.iload_n 1, 1) := by decide +kernel
theorem dX12_must__40 : decode cX12_must_ 40 = .ok (.if_icmp .gt 99, 3) := by decide +kernel
theorem dX12_must__43 : decode cX12_must_ 43 = .ok (.aload_n 0, 1) := by decide +kernel
theorem dX12_must__44 : decode cX12_must_ 44 = .ok (.getfield 63, 3) := by decide +kernel
theorem dX12_must__47 : decode cX12_must_ 47 = .ok (.iload_n 2, 1) := by decide +kernel
theorem dX12_must__48 : decode cX12_must_ 48 = .ok (.ldc_w 385, 3) := by decide +kernel
theorem dX12_must__51 : decode cX12_must_ 51 = .ok (.iastore, 1) := by decide +kernel
theorem dX12_must__52 : decode cX12_must_ 52 = .ok (.iload_n 2, 1) := by decide +kernel
theorem dX12_must__53 : decode cX12_must_ 53 = .ok (.iload_n 2, 1) := by decide +kernel
theorem dX12_must__54 : decode cX12_must_ 54 = .ok (.ineg, 1) := by decide +kernel
theorem dX12_must__55 : decode cX12_must_ 55 = .ok (.iand, 1) := by decide +kernel
theorem dX12_must__56 : decode cX12_must_ 56 = .ok (.istore_n 3, 1) := by decide +kernel
theorem dX12_must__57 : decode cX12_must_ 57 = .ok (.iload_n 2, 1) := by decide +kernel
theorem dX12_must__58 : decode cX12_must_ 58 = .ok (.istore 4, 2) := by decide +kernel
theorem dX12_must__60 : decode cX12_must_ 60 = .ok (.iload 4, 2) := by decide +kernel
theorem dX12_must__62 : decode cX12_must_ 62 = .ok (.ifCond .le 71, 3) := by decide +kernel
theorem dX12_must__65 : decode cX12_must_ 65 = .ok (.iload 4, 2) := by decide +kernel
theorem dX12_must__67 : decode cX12_must_ 67 = .ok (.iload_n 3, 1) := by decide +kernel
theorem dX12_must__68 : decode cX12_must_ 68 = .ok (.iand, 1) := by decide +kernel
theorem dX12_must__69 : decode cX12_must_ 69 = .ok (.ifCond .eq 53, 3) := by decide +kernel
theorem dX12_must__72 : decode cX12_must_ 72 = .ok (.aload_n 0, 1) := by decide +kernel
theorem dX12_must__73 : decode cX12_must_ 73 = .ok (.iload 4, 2) := by decide +kernel
theorem dX12_must__75 : decode cX12_must_ 75 = .ok (.invokevirtual 417, 3) := by decide +kernel
theorem dX12_must__78 : decode cX12_must_ 78 = .ok (.ifCond .eq 44, 3) := by decide +kernel
theorem dX12_must__81 : decode cX12_must_ 81 = .ok (.aload_n 0, 1) := by decide +kernel
theorem dX12_must__82 : decode cX12_must_ 82 = .ok (.getfield 63, 3) := by decide +kernel
theorem dX12_must__85 : decode cX12_must_ 85 = .ok (.iload_n 2, 1) := by decide +kernel
theorem dX12_must__86 : decode cX12_must_ 86 = .ok (.iload 4, 2) := by decide +kernel
theorem dX12_must__88 : decode cX12_must_ 88 = .ok (.iconst (-1), 1) := by decide +kernel
theorem dX12_must__89 : decode cX12_must_ 89 = .ok (.ixor, 1) := by decide +kernel
theorem dX12_must__90 : decode cX12_must_ 90 = .ok (.iand, 1) := by decide +kernel
theorem dX12_must__91 : decode cX12_must_ 91 = .ok (.iaload, 1) := by decide +kernel
theorem dX12_must__92 : decode cX12_must_ 92 = .ok (.iconst 1, 1) := by decide +kernel
theorem dX12_must__93 : decode cX12_must_ 93 = .ok (.iadd, 1) := by decide +kernel
theorem dX12_must__94 : decode cX12_must_ 94 = .ok (.aload_n 0, 1) := by decide +kernel
theorem dX12_must__95 : decode cX12_must_ 95 = .ok (.getfield 63, 3) := by decide +kernel
theorem dX12_must__98 : decode cX12_must_ 98 = .ok (.iload_n 2, 1) := by decide +kernel
theorem dX12_must__99 : decode cX12_must_ 99 = .ok (.iaload, 1) := by decide +kernel
theorem dX12_must__100 : decode cX12_must_ 100 = .ok (.if_icmp .ge 22, 3) := by decide +kernel
theorem dX12_must__103 : decode cX12_must_ 103 = .ok (.aload_n 0, 1) := by decide +kernel
theorem dX12_must__104 : decode cX12_must_ 104 = .ok (.getfield 63, 3) := by decide +kernel
theorem dX12_must__107 : decode cX12_must_ 107 = .ok (.iload_n 2, 1) := by decide +kernel
theorem dX12_must__108 : decode cX12_must_ 108 = .ok (.aload_n 0, 1) := by decide +kernel
theorem dX12_must__109 : decode cX12_must_ 109 = .ok (.getfield 63, 3) := by decide +kernel
theorem dX12_must__112 : decode cX12_must_ 112 = .ok (.iload_n 2, 1) := by decide +kernel
theorem dX12_must__113 : decode cX12_must_ 113 = .ok (.iload 4, 2) := by decide +kernel
theorem dX12_must__115 : decode cX12_must_ 115 = .ok (.iconst (-1), 1) := by decide +kernel
theorem dX12_must__116 : decode cX12_must_ 116 = .ok (.ixor, 1) := by decide +kernel
theorem dX12_must__117 : decode cX12_must_ 117 = .ok (.iand, 1) := by decide +kernel
theorem dX12_must__118 : decode cX12_must_ 118 = .ok (.iaload, 1) := by decide +kernel
theorem dX12_must__119 : decode cX12_must_ 119 = .ok (.iconst 1, 1) := by decide +kernel
theorem dX12_must__120 : decode cX12_must_ 120 = .ok (.iadd, 1) := by decide +kernel
theorem dX12_must__121 : decode cX12_must_ 121 = .ok (.iastore, 1) := by decide +kernel
theorem dX12_must__122 : decode cX12_must_ 122 = .ok (.iload 4, 2) := by decide +kernel
theorem dX12_must__124 : decode cX12_must_ 124 = .ok (.iconst 1, 1) := by decide +kernel
theorem dX12_must__125 : decode cX12_must_ 125 = .ok (.isub, 1) := by decide +kernel
theorem dX12_must__126 : decode cX12_must_ 126 = .ok (.iload_n 2, 1) := by decide +kernel
theorem dX12_must__127 : decode cX12_must_ 127 = .ok (.iand, 1) := by decide +kernel
theorem dX12_must__128 : decode cX12_must_ 128 = .ok (.istore 4, 2) := by decide +kernel
theorem dX12_must__130 : decode cX12_must_ 130 = .ok (.goto (-70), 3) := by decide +kernel
theorem dX12_must__133 : decode cX12_must_ 133 = .ok (.iinc 2 1, 3) := by decide +kernel
theorem dX12_must__136 : decode cX12_must_ 136 = .ok (.goto (-98), 3) := by decide +kernel
theorem dX12_must__139 : decode cX12_must_ 139 = .ok (.aload_n 0, 1) := by decide +kernel
theorem dX12_must__140 : decode cX12_must_ 140 = .ok (.getfield 63, 3) := by decide +kernel
theorem dX12_must__143 : decode cX12_must_ 143 = .ok (.iload_n 1, 1) := by decide +kernel
theorem dX12_must__144 : decode cX12_must_ 144 = .ok (.iaload, 1) := by decide +kernel
theorem dX12_must__145 : decode cX12_must_ 145 = .ok (.ireturn, 1) := by decide +kernel
theorem dX12_betrayed_0 : decode cX12_betrayed 0 = .ok (.aload_n 0, 1) := by decide +kernel
theorem dX12_betrayed_1 : decode cX12_betrayed 1 = .ok (.invokevirtual 190, 3) := by decide +kernel
theorem dX12_betrayed_4 : decode cX12_betrayed 4 = .ok (.aload_n 0, 1) := by decide +kernel
theorem dX12_betrayed_5 : decode cX12_betrayed 5 = .ok (.getfield 203, 3) := by decide +kernel
theorem dX12_betrayed_8 : decode cX12_betrayed 8 = .ok (.ifCond .ne 9, 3) := by decide +kernel
theorem dX12_betrayed_11 : decode cX12_betrayed 11 = .ok (.aload_n 0, 1) := by decide +kernel
theorem dX12_betrayed_12 : decode cX12_betrayed 12 = .ok (.iconst 1, 1) := by decide +kernel
theorem dX12_betrayed_13 : decode cX12_betrayed 13 = .ok (.invokevirtual 193, 3) := by decide +kernel
theorem dX12_betrayed_16 : decode cX12_betrayed 16 = .ok (.ireturn, 1) := by decide +kernel
theorem dX12_betrayed_17 : decode cX12_betrayed 17 = .ok (.iconst 0, 1) := by decide +kernel
theorem dX12_betrayed_18 : decode cX12_betrayed 18 = .ok (.istore_n 1, 1) := by decide +kernel
theorem dX12_betrayed_19 : decode cX12_betrayed 19 = .ok (.iload_n 1, 1) := by decide +kernel
theorem dX12_betrayed_20 : decode cX12_betrayed 20 = .ok (.aload_n 0, 1) := by decide +kernel
theorem dX12_betrayed_21 : decode cX12_betrayed 21 = .ok (.getfield 20, 3) := by decide +kernel
theorem dX12_betrayed_24 : decode cX12_betrayed 24 = .ok (.bipush 8, 2) := by decide +kernel
theorem dX12_betrayed_26 : decode cX12_betrayed 26 = .ok (.iaload, 1) := by decide +kernel
theorem dX12_betrayed_27 : decode cX12_betrayed 27 = .ok (.if_icmp .ge 46, 3) := by decide +kernel
theorem dX12_betrayed_30 : decode cX12_betrayed 30 = .ok (.iload_n 1, 1) := by decide +kernel
theorem dX12_betrayed_31 : decode cX12_betrayed 31 = .ok (.iconst 1, 1) := by decide +kernel
theorem dX12_betrayed_32 : decode cX12_betrayed 32 = .ok (.iadd, 1) := by decide +kernel
theorem dX12_betrayed_33 : decode cX12_betrayed 33 = .ok (.istore_n 2, 1) := by decide +kernel
theorem dX12_betrayed_34 : decode cX12_betrayed 34 = .ok (.iload_n 2, 1) := by decide +kernel
theorem dX12_betrayed_35 : decode cX12_betrayed 35 = .ok (.aload_n 0, 1) := by decide +kernel
theorem dX12_betrayed_36 : decode cX12_betrayed 36 = .ok (.getfield 20, 3) := by decide +kernel
theorem dX12_betrayed_39 : decode cX12_betrayed 39 = .ok (.bipush 8, 2) := by decide +kernel
theorem dX12_betrayed_41 : decode cX12_betrayed 41 = .ok (.iaload, 1) := by decide +kernel
theorem dX12_betrayed_42 : decode cX12_betrayed 42 = .ok (.if_icmp .ge 25, 3) := by decide +kernel
theorem dX12_betrayed_45 : decode cX12_betrayed 45 = .ok (.aload_n 0, 1) := by decide +kernel
theorem dX12_betrayed_46 : decode cX12_betrayed 46 = .ok (.iload_n 1, 1) := by decide +kernel
theorem dX12_betrayed_47 : decode cX12_betrayed 47 = .ok (.iload_n 2, 1) := by decide +kernel
theorem dX12_betrayed_48 : decode cX12_betrayed 48 = .ok (.invokevirtual 414, 3) := by decide +kernel
theorem dX12_betrayed_51 : decode cX12_betrayed 51 = .ok (.ifCond .ne 10, 3) := by decide +kernel
theorem dX12_betrayed_54 : decode cX12_betrayed 54 = .ok (.bipush 8, 2) := by decide +kernel
theorem dX12_betrayed_56 : decode cX12_betrayed 56 = .ok (.iload_n 1, 1) := by decide +kernel
theorem dX12_betrayed_57 : decode cX12_betrayed 57 = .ok (.imul, 1) := by decide +kernel
theorem dX12_betrayed_58 : decode cX12_betrayed 58 = .ok (.iload_n 2, 1) := by decide +kernel
theorem dX12_betrayed_59 : decode cX12_betrayed 59 = .ok (.iadd, 1) := by decide +kernel
theorem dX12_betrayed_60 : decode cX12_betrayed 60 = .ok (.ireturn, 1) := by decide +kernel
theorem dX12_betrayed_61 : decode cX12_betrayed 61 = .ok (.iinc 2 1, 3) := by decide +kernel
theorem dX12_betrayed_64 : decode cX12_betrayed 64 = .ok (.goto (-30), 3) := by decide +kernel
theorem dX12_betrayed_67 : decode cX12_betrayed 67 = .ok (.iinc 1 1, 3) := by decide +kernel
theorem dX12_betrayed_70 : decode cX12_betrayed 70 = .ok (.goto (-51), 3) := by decide +kernel
theorem dX12_betrayed_73 : decode cX12_betrayed 73 = .ok (.bipush (-2), 2) := by decide +kernel
theorem dX12_betrayed_75 : decode cX12_betrayed 75 = .ok (.ireturn, 1) := by decide +kernel
theorem dX12_keep_0 : decode cX12_keep 0 = .ok (.iload_n 1, 1) := by decide +kernel
theorem dX12_keep_1 : decode cX12_keep 1 = .ok (.istore_n 3, 1) := by decide +kernel
theorem dX12_keep_2 : decode cX12_keep 2 = .ok (.iload_n 3, 1) := by decide +kernel
theorem dX12_keep_3 : decode cX12_keep 3 = .ok (.bipush 12, 2) := by decide +kernel
theorem dX12_keep_5 : decode cX12_keep 5 = .ok (.if_icmp .ne 34, 3) := by decide +kernel
theorem dX12_keep_8 : decode cX12_keep 8 = .ok (.iconst 0, 1) := by decide +kernel
theorem dX12_keep_9 : decode cX12_keep 9 = .ok (.istore 4, 2) := by decide +kernel
theorem dX12_keep_11 : decode cX12_keep 11 = .ok (.iload 4, 2) := by decide +kernel
theorem dX12_keep_13 : decode cX12_keep 13 = .ok (.sipush 143, 3) := by decide +kernel
theorem dX12_keep_16 : decode cX12_keep 16 = .ok (.if_icmp .ge 20, 3) := by decide +kernel
theorem dX12_keep_19 : decode cX12_keep 19 = .ok (.aload_n 0, 1) := by decide +kernel
theorem dX12_keep_20 : decode cX12_keep 20 = .ok (.iload 4, 2) := by decide +kernel
theorem dX12_keep_22 : decode cX12_keep 22 = .ok (.aload_n 0, 1) := by decide +kernel
theorem dX12_keep_23 : decode cX12_keep 23 = .ok (.iload 4, 2) := by decide +kernel
theorem dX12_keep_25 : decode cX12_keep 25 = .ok (.bipush 13, 2) := by decide +kernel
theorem dX12_keep_27 : decode cX12_keep 27 = .ok (.iadd, 1) := by decide +kernel
theorem dX12_keep_28 : decode cX12_keep 28 = .ok (.iaload, 1) := by decide +kernel
theorem dX12_keep_29 : decode cX12_keep 29 = .ok (.iastore, 1) := by decide +kernel
theorem dX12_keep_30 : decode cX12_keep 30 = .ok (.iinc 4 1, 3) := by decide +kernel
theorem dX12_keep_33 : decode cX12_keep 33 = .ok (.goto (-22), 3) := by decide +kernel
theorem dX12_keep_36 : decode cX12_keep 36 = .ok (.iinc 3 (-1), 3) := by decide +kernel
theorem dX12_keep_39 : decode cX12_keep 39 = .ok (.aload_n 2, 1) := by decide +kernel
theorem dX12_keep_40 : decode cX12_keep 40 = .ok (.iconst 0, 1) := by decide +kernel
theorem dX12_keep_41 : decode cX12_keep 41 = .ok (.aload_n 0, 1) := by decide +kernel
theorem dX12_keep_42 : decode cX12_keep 42 = .ok (.bipush 13, 2) := by decide +kernel
theorem dX12_keep_44 : decode cX12_keep 44 = .ok (.iload_n 3, 1) := by decide +kernel
theorem dX12_keep_45 : decode cX12_keep 45 = .ok (.imul, 1) := by decide +kernel
theorem dX12_keep_46 : decode cX12_keep 46 = .ok (.bipush 13, 2) := by decide +kernel
theorem dX12_keep_48 : decode cX12_keep 48 = .ok (.invokestatic 199, 3) := by decide +kernel
theorem dX12_keep_51 : decode cX12_keep 51 = .ok (.iload_n 3, 1) := by decide +kernel
theorem dX12_keep_52 : decode cX12_keep 52 = .ok (.iconst 1, 1) := by decide +kernel
theorem dX12_keep_53 : decode cX12_keep 53 = .ok (.iadd, 1) := by decide +kernel
theorem dX12_keep_54 : decode cX12_keep 54 = .ok (.ireturn, 1) := by decide +kernel
theorem dX12_did_0 : decode cX12_did 0 = .ok (.aload_n 0, 1) := by decide +kernel
theorem dX12_did_1 : decode cX12_did 1 = .ok (.aload_n 0, 1) := by decide +kernel
theorem dX12_did_2 : decode cX12_did 2 = .ok (.getfield 32, 3) := by decide +kernel
theorem dX12_did_5 : decode cX12_did 5 = .ok (.aload_n 0, 1) := by decide +kernel
theorem dX12_did_6 : decode cX12_did 6 = .ok (.getfield 206, 3) := by decide +kernel
theorem dX12_did_9 : decode cX12_did 9 = .ok (.aload_n 0, 1) := by decide +kernel
theorem dX12_did_10 : decode cX12_did 10 = .ok (.getfield 29, 3) := by decide +kernel
theorem dX12_did_13 : decode cX12_did 13 = .ok (.invokestatic 420, 3) := by decide +kernel
theorem dX12_did_16 : decode cX12_did 16 = .ok (.putfield 206, 3) := by decide +kernel
theorem dX12_did_19 : decode cX12_did 19 = .ok (.aload_n 0, 1) := by decide +kernel
theorem dX12_did_20 : decode cX12_did 20 = .ok (.iconst 0, 1) := by decide +kernel
theorem dX12_did_21 : decode cX12_did 21 = .ok (.putfield 209, 3) := by decide +kernel
theorem dX12_did_24 : decode cX12_did 24 = .ok (.iconst 1, 1) := by decide +kernel
theorem dX12_did_25 : decode cX12_did 25 = .ok (.ireturn, 1) := by decide +kernel
theorem dX12_swap_0 : decode cX12_swap 0 = .ok (.aload_n 0, 1) := by decide +kernel
theorem dX12_swap_1 : decode cX12_swap 1 = .ok (.invokevirtual 190, 3) := by decide +kernel
theorem dX12_swap_4 : decode cX12_swap 4 = .ok (.aload_n 0, 1) := by decide +kernel
theorem dX12_swap_5 : decode cX12_swap 5 = .ok (.iload_n 1, 1) := by decide +kernel
theorem dX12_swap_6 : decode cX12_swap 6 = .ok (.invokevirtual 299, 3) := by decide +kernel
theorem dX12_swap_9 : decode cX12_swap 9 = .ok (.ifCond .eq 16, 3) := by decide +kernel
theorem dX12_swap_12 : decode cX12_swap 12 = .ok (.aload_n 0, 1) := by decide +kernel
theorem dX12_swap_13 : decode cX12_swap 13 = .ok (.iload_n 2, 1) := by decide +kernel
theorem dX12_swap_14 : decode cX12_swap 14 = .ok (.invokevirtual 299, 3) := by decide +kernel
theorem dX12_swap_17 : decode cX12_swap 17 = .ok (.ifCond .eq 8, 3) := by decide +kernel
theorem dX12_swap_20 : decode cX12_swap 20 = .ok (.iload_n 1, 1) := by decide +kernel
theorem dX12_swap_21 : decode cX12_swap 21 = .ok (.iload_n 2, 1) := by decide +kernel
theorem dX12_swap_22 : decode cX12_swap 22 = .ok (.if_icmp .ne 9, 3) := by decide +kernel
theorem dX12_swap_25 : decode cX12_swap 25 = .ok (.aload_n 0, 1) := by decide +kernel
theorem dX12_swap_26 : decode cX12_swap 26 = .ok (.iconst 1, 1) := by decide +kernel
theorem dX12_swap_27 : decode cX12_swap 27 = .ok (.invokevirtual 424, 3) := by decide +kernel
theorem dX12_swap_30 : decode cX12_swap 30 = .ok (.ireturn, 1) := by decide +kernel
theorem dX12_swap_31 : decode cX12_swap 31 = .ok (.aload_n 0, 1) := by decide +kernel
theorem dX12_swap_32 : decode cX12_swap 32 = .ok (.getfield 26, 3) := by decide +kernel
theorem dX12_swap_35 : decode cX12_swap 35 = .ok (.iconst 0, 1) := by decide +kernel
theorem dX12_swap_36 : decode cX12_swap 36 = .ok (.aload_n 0, 1) := by decide +kernel
theorem dX12_swap_37 : decode cX12_swap 37 = .ok (.getfield 29, 3) := by decide +kernel
theorem dX12_swap_40 : decode cX12_swap 40 = .ok (.iconst 0, 1) := by decide +kernel
theorem dX12_swap_41 : decode cX12_swap 41 = .ok (.bipush 13, 2) := by decide +kernel
theorem dX12_swap_43 : decode cX12_swap 43 = .ok (.invokestatic 199, 3) := by decide +kernel
theorem dX12_swap_46 : decode cX12_swap 46 = .ok (.aload_n 0, 1) := by decide +kernel
theorem dX12_swap_47 : decode cX12_swap 47 = .ok (.getfield 26, 3) := by decide +kernel
theorem dX12_swap_50 : decode cX12_swap 50 = .ok (.iconst 0, 1) := by decide +kernel
theorem dX12_swap_51 : decode cX12_swap 51 = .ok (.aload_n 0, 1) := by decide +kernel
theorem dX12_swap_52 : decode cX12_swap 52 = .ok (.getfield 41, 3) := by decide +kernel
theorem dX12_swap_55 : decode cX12_swap 55 = .ok (.iconst 0, 1) := by decide +kernel
theorem dX12_swap_56 : decode cX12_swap 56 = .ok (.iconst 5, 1) := by decide +kernel
theorem dX12_swap_57 : decode cX12_swap 57 = .ok (.invokestatic 199, 3) := by decide +kernel
theorem dX12_swap_60 : decode cX12_swap 60 = .ok (.aload_n 0, 1) := by decide +kernel
theorem dX12_swap_61 : decode cX12_swap 61 = .ok (.iload_n 1, 1) := by decide +kernel
theorem dX12_swap_62 : decode cX12_swap 62 = .ok (.iload_n 2, 1) := by decide +kernel
theorem dX12_swap_63 : decode cX12_swap 63 = .ok (.invokevirtual 296, 3) := by decide +kernel
theorem dX12_swap_66 : decode cX12_swap 66 = .ok (.aload_n 0, 1) := by decide +kernel
theorem dX12_swap_67 : decode cX12_swap 67 = .ok (.aload_n 0, 1) := by decide +kernel
theorem dX12_swap_68 : decode cX12_swap 68 = .ok (.getfield 41, 3) := by decide +kernel
theorem dX12_swap_71 : decode cX12_swap 71 = .ok (.invokevirtual 286, 3) := by decide +kernel
theorem dX12_swap_74 : decode cX12_swap 74 = .ok (.ifCond .ne 9, 3) := by decide +kernel
theorem dX12_swap_77 : decode cX12_swap 77 = .ok (.aload_n 0, 1) := by decide +kernel
theorem dX12_swap_78 : decode cX12_swap 78 = .ok (.iconst 5, 1) := by decide +kernel
theorem dX12_swap_79 : decode cX12_swap 79 = .ok (.invokevirtual 424, 3) := by decide +kernel
theorem dX12_swap_82 : decode cX12_swap 82 = .ok (.ireturn, 1) := by decide +kernel
theorem dX12_swap_83 : decode cX12_swap 83 = .ok (.aload_n 0, 1) := by decide +kernel
theorem dX12_swap_84 : decode cX12_swap 84 = .ok (.getfield 41, 3) := by decide +kernel
theorem dX12_swap_87 : decode cX12_swap 87 = .ok (.iconst 0, 1) := by decide +kernel
theorem dX12_swap_88 : decode cX12_swap 88 = .ok (.aload_n 0, 1) := by decide +kernel
theorem dX12_swap_89 : decode cX12_swap 89 = .ok (.getfield 26, 3) := by decide +kernel
theorem dX12_swap_92 : decode cX12_swap 92 = .ok (.iconst 0, 1) := by decide +kernel
theorem dX12_swap_93 : decode cX12_swap 93 = .ok (.iconst 5, 1) := by decide +kernel
theorem dX12_swap_94 : decode cX12_swap 94 = .ok (.invokestatic 199, 3) := by decide +kernel
theorem dX12_swap_97 : decode cX12_swap 97 = .ok (.aload_n 0, 1) := by decide +kernel
theorem dX12_swap_98 : decode cX12_swap 98 = .ok (.invokevirtual 427, 3) := by decide +kernel
theorem dX12_swap_101 : decode cX12_swap 101 = .ok (.ireturn, 1) := by decide +kernel
theorem dX12_cast_0 : decode cX12_cast 0 = .ok (.aload_n 0, 1) := by decide +kernel
theorem dX12_cast_1 : decode cX12_cast 1 = .ok (.invokevirtual 190, 3) := by decide +kernel
theorem dX12_cast_4 : decode cX12_cast 4 = .ok (.aload_n 0, 1) := by decide +kernel
theorem dX12_cast_5 : decode cX12_cast 5 = .ok (.iload_n 1, 1) := by decide +kernel
theorem dX12_cast_6 : decode cX12_cast 6 = .ok (.invokevirtual 318, 3) := by decide +kernel
theorem dX12_cast_9 : decode cX12_cast 9 = .ok (.ifCond .ne 9, 3) := by decide +kernel
theorem dX12_cast_12 : decode cX12_cast 12 = .ok (.aload_n 0, 1) := by decide +kernel
theorem dX12_cast_13 : decode cX12_cast 13 = .ok (.iconst 1, 1) := by decide +kernel
theorem dX12_cast_14 : decode cX12_cast 14 = .ok (.invokevirtual 424, 3) := by decide +kernel
theorem dX12_cast_17 : decode cX12_cast 17 = .ok (.ireturn, 1) := by decide +kernel
theorem dX12_cast_18 : decode cX12_cast 18 = .ok (.iload_n 2, 1) := by decide +kernel
theorem dX12_cast_19 : decode cX12_cast 19 = .ok (.iconst 0, 1) := by decide +kernel
theorem dX12_cast_20 : decode cX12_cast 20 = .ok (.bipush 6, 2) := by decide +kernel
theorem dX12_cast_22 : decode cX12_cast 22 = .ok (.invokestatic 174, 3) := by decide +kernel
theorem dX12_cast_25 : decode cX12_cast 25 = .ok (.ifCond .ne 9, 3) := by decide +kernel
theorem dX12_cast_28 : decode cX12_cast 28 = .ok (.aload_n 0, 1) := by decide +kernel
theorem dX12_cast_29 : decode cX12_cast 29 = .ok (.iconst 2, 1) := by decide +kernel
theorem dX12_cast_30 : decode cX12_cast 30 = .ok (.invokevirtual 424, 3) := by decide +kernel
theorem dX12_cast_33 : decode cX12_cast 33 = .ok (.ireturn, 1) := by decide +kernel
theorem dX12_cast_34 : decode cX12_cast 34 = .ok (.aload_n 0, 1) := by decide +kernel
theorem dX12_cast_35 : decode cX12_cast 35 = .ok (.getfield 26, 3) := by decide +kernel
theorem dX12_cast_38 : decode cX12_cast 38 = .ok (.iconst 5, 1) := by decide +kernel
theorem dX12_cast_39 : decode cX12_cast 39 = .ok (.iload_n 1, 1) := by decide +kernel
theorem dX12_cast_40 : decode cX12_cast 40 = .ok (.iadd, 1) := by decide +kernel
theorem dX12_cast_41 : decode cX12_cast 41 = .ok (.iaload, 1) := by decide +kernel
theorem dX12_cast_42 : decode cX12_cast 42 = .ok (.iload_n 2, 1) := by decide +kernel
theorem dX12_cast_43 : decode cX12_cast 43 = .ok (.if_icmp .ne 9, 3) := by decide +kernel
theorem dX12_cast_46 : decode cX12_cast 46 = .ok (.aload_n 0, 1) := by decide +kernel
theorem dX12_cast_47 : decode cX12_cast 47 = .ok (.iconst 5, 1) := by decide +kernel
theorem dX12_cast_48 : decode cX12_cast 48 = .ok (.invokevirtual 424, 3) := by decide +kernel
theorem dX12_cast_51 : decode cX12_cast 51 = .ok (.ireturn, 1) := by decide +kernel
theorem dX12_cast_52 : decode cX12_cast 52 = .ok (.aload_n 0, 1) := by decide +kernel
theorem dX12_cast_53 : decode cX12_cast 53 = .ok (.getfield 26, 3) := by decide +kernel
theorem dX12_cast_56 : decode cX12_cast 56 = .ok (.iconst 0, 1) := by decide +kernel
theorem dX12_cast_57 : decode cX12_cast 57 = .ok (.aload_n 0, 1) := by decide +kernel
theorem dX12_cast_58 : decode cX12_cast 58 = .ok (.getfield 29, 3) := by decide +kernel
theorem dX12_cast_61 : decode cX12_cast 61 = .ok (.iconst 0, 1) := by decide +kernel
theorem dX12_cast_62 : decode cX12_cast 62 = .ok (.bipush 13, 2) := by decide +kernel
theorem dX12_cast_64 : decode cX12_cast 64 = .ok (.invokestatic 199, 3) := by decide +kernel
theorem dX12_cast_67 : decode cX12_cast 67 = .ok (.aload_n 0, 1) := by decide +kernel
theorem dX12_cast_68 : decode cX12_cast 68 = .ok (.getfield 26, 3) := by decide +kernel
theorem dX12_cast_71 : decode cX12_cast 71 = .ok (.iconst 5, 1) := by decide +kernel
theorem dX12_cast_72 : decode cX12_cast 72 = .ok (.iload_n 1, 1) := by decide +kernel
theorem dX12_cast_73 : decode cX12_cast 73 = .ok (.iadd, 1) := by decide +kernel
theorem dX12_cast_74 : decode cX12_cast 74 = .ok (.iload_n 2, 1) := by decide +kernel
theorem dX12_cast_75 : decode cX12_cast 75 = .ok (.iastore, 1) := by decide +kernel
theorem dX12_cast_76 : decode cX12_cast 76 = .ok (.aload_n 0, 1) := by decide +kernel
theorem dX12_cast_77 : decode cX12_cast 77 = .ok (.invokevirtual 427, 3) := by decide +kernel
theorem dX12_cast_80 : decode cX12_cast 80 = .ok (.ireturn, 1) := by decide +kernel
theorem dX12_cut_0 : decode cX12_cut 0 = .ok (.aload_n 0, 1) := by decide +kernel
theorem dX12_cut_1 : decode cX12_cut 1 = .ok (.invokevirtual 190, 3) := by decide +kernel
theorem dX12_cut_4 : decode cX12_cut 4 = .ok (.aload_n 0, 1) := by decide +kernel
theorem dX12_cut_5 : decode cX12_cut 5 = .ok (.iload_n 1, 1) := by decide +kernel
theorem dX12_cut_6 : decode cX12_cut 6 = .ok (.invokevirtual 309, 3) := by decide +kernel
theorem dX12_cut_9 : decode cX12_cut 9 = .ok (.ifCond .ne 9, 3) := by decide +kernel
theorem dX12_cut_12 : decode cX12_cut 12 = .ok (.aload_n 0, 1) := by decide +kernel
theorem dX12_cut_13 : decode cX12_cut 13 = .ok (.iconst 1, 1) := by decide +kernel
theorem dX12_cut_14 : decode cX12_cut 14 = .ok (.invokevirtual 424, 3) := by decide +kernel
theorem dX12_cut_17 : decode cX12_cut 17 = .ok (.ireturn, 1) := by decide +kernel
theorem dX12_cut_18 : decode cX12_cut 18 = .ok (.aload_n 0, 1) := by decide +kernel
theorem dX12_cut_19 : decode cX12_cut 19 = .ok (.getfield 26, 3) := by decide +kernel
theorem dX12_cut_22 : decode cX12_cut 22 = .ok (.bipush 12, 2) := by decide +kernel
theorem dX12_cut_24 : decode cX12_cut 24 = .ok (.iaload, 1) := by decide +kernel
theorem dX12_cut_25 : decode cX12_cut 25 = .ok (.iload_n 1, 1) := by decide +kernel
theorem dX12_cut_26 : decode cX12_cut 26 = .ok (.invokestatic 278, 3) := by decide +kernel
theorem dX12_cut_29 : decode cX12_cut 29 = .ok (.iload_n 2, 1) := by decide +kernel
theorem dX12_cut_30 : decode cX12_cut 30 = .ok (.if_icmp .ne 9, 3) := by decide +kernel
theorem dX12_cut_33 : decode cX12_cut 33 = .ok (.aload_n 0, 1) := by decide +kernel
theorem dX12_cut_34 : decode cX12_cut 34 = .ok (.iconst 5, 1) := by decide +kernel
theorem dX12_cut_35 : decode cX12_cut 35 = .ok (.invokevirtual 424, 3) := by decide +kernel
theorem dX12_cut_38 : decode cX12_cut 38 = .ok (.ireturn, 1) := by decide +kernel
theorem dX12_cut_39 : decode cX12_cut 39 = .ok (.aload_n 0, 1) := by decide +kernel
theorem dX12_cut_40 : decode cX12_cut 40 = .ok (.getfield 26, 3) := by decide +kernel
theorem dX12_cut_43 : decode cX12_cut 43 = .ok (.iconst 0, 1) := by decide +kernel
theorem dX12_cut_44 : decode cX12_cut 44 = .ok (.aload_n 0, 1) := by decide +kernel
theorem dX12_cut_45 : decode cX12_cut 45 = .ok (.getfield 29, 3) := by decide +kernel
theorem dX12_cut_48 : decode cX12_cut 48 = .ok (.iconst 0, 1) := by decide +kernel
theorem dX12_cut_49 : decode cX12_cut 49 = .ok (.bipush 13, 2) := by decide +kernel
theorem dX12_cut_51 : decode cX12_cut 51 = .ok (.invokestatic 199, 3) := by decide +kernel
theorem dX12_cut_54 : decode cX12_cut 54 = .ok (.aload_n 0, 1) := by decide +kernel
theorem dX12_cut_55 : decode cX12_cut 55 = .ok (.getfield 26, 3) := by decide +kernel
theorem dX12_cut_58 : decode cX12_cut 58 = .ok (.bipush 12, 2) := by decide +kernel
theorem dX12_cut_60 : decode cX12_cut 60 = .ok (.dup2, 1) := by decide +kernel
theorem dX12_cut_61 : decode cX12_cut 61 = .ok (.iaload, 1) := by decide +kernel
theorem dX12_cut_62 : decode cX12_cut 62 = .ok (.iconst 1, 1) := by decide +kernel
theorem dX12_cut_63 : decode cX12_cut 63 = .ok (.iload_n 1, 1) := by decide +kernel
theorem dX12_cut_64 : decode cX12_cut 64 = .ok (.ishl, 1) := by decide +kernel
theorem dX12_cut_65 : decode cX12_cut 65 = .ok (.ixor, 1) := by decide +kernel
theorem dX12_cut_66 : decode cX12_cut 66 = .ok (.iastore, 1) := by decide +kernel
theorem dX12_cut_67 : decode cX12_cut 67 = .ok (.aload_n 0, 1) := by decide +kernel
theorem dX12_cut_68 : decode cX12_cut 68 = .ok (.invokevirtual 427, 3) := by decide +kernel
theorem dX12_cut_71 : decode cX12_cut 71 = .ok (.ireturn, 1) := by decide +kernel
theorem dX12_undo_0 : decode cX12_undo 0 = .ok (.aload_n 0, 1) := by decide +kernel
theorem dX12_undo_1 : decode cX12_undo 1 = .ok (.invokevirtual 190, 3) := by decide +kernel
theorem dX12_undo_4 : decode cX12_undo 4 = .ok (.aload_n 0, 1) := by decide +kernel
theorem dX12_undo_5 : decode cX12_undo 5 = .ok (.getfield 206, 3) := by decide +kernel
theorem dX12_undo_8 : decode cX12_undo 8 = .ok (.ifCond .ne 10, 3) := by decide +kernel
theorem dX12_undo_11 : decode cX12_undo 11 = .ok (.aload_n 0, 1) := by decide +kernel
theorem dX12_undo_12 : decode cX12_undo 12 = .ok (.bipush 6, 2) := by decide +kernel
theorem dX12_undo_14 : decode cX12_undo 14 = .ok (.invokevirtual 424, 3) := by decide +kernel
theorem dX12_undo_17 : decode cX12_undo 17 = .ok (.ireturn, 1) := by decide +kernel
theorem dX12_undo_18 : decode cX12_undo 18 = .ok (.aload_n 0, 1) := by decide +kernel
theorem dX12_undo_19 : decode cX12_undo 19 = .ok (.aload_n 0, 1) := by decide +kernel
theorem dX12_undo_20 : decode cX12_undo 20 = .ok (.getfield 35, 3) := by decide +kernel
theorem dX12_undo_23 : decode cX12_undo 23 = .ok (.aload_n 0, 1) := by decide +kernel
theorem dX12_undo_24 : decode cX12_undo 24 = .ok (.getfield 209, 3) := by decide +kernel
theorem dX12_undo_27 : decode cX12_undo 27 = .ok (.aload_n 0, 1) := by decide +kernel
theorem dX12_undo_28 : decode cX12_undo 28 = .ok (.getfield 26, 3) := by decide +kernel
theorem dX12_undo_31 : decode cX12_undo 31 = .ok (.invokestatic 420, 3) := by decide +kernel
theorem dX12_undo_34 : decode cX12_undo 34 = .ok (.putfield 209, 3) := by decide +kernel
theorem dX12_undo_37 : decode cX12_undo 37 = .ok (.aload_n 0, 1) := by decide +kernel
theorem dX12_undo_38 : decode cX12_undo 38 = .ok (.dup, 1) := by decide +kernel
theorem dX12_undo_39 : decode cX12_undo 39 = .ok (.getfield 206, 3) := by decide +kernel
theorem dX12_undo_42 : decode cX12_undo 42 = .ok (.iconst 1, 1) := by decide +kernel
theorem dX12_undo_43 : decode cX12_undo 43 = .ok (.isub, 1) := by decide +kernel
theorem dX12_undo_44 : decode cX12_undo 44 = .ok (.putfield 206, 3) := by decide +kernel
theorem dX12_undo_47 : decode cX12_undo 47 = .ok (.aload_n 0, 1) := by decide +kernel
theorem dX12_undo_48 : decode cX12_undo 48 = .ok (.getfield 32, 3) := by decide +kernel
theorem dX12_undo_51 : decode cX12_undo 51 = .ok (.bipush 13, 2) := by decide +kernel
theorem dX12_undo_53 : decode cX12_undo 53 = .ok (.aload_n 0, 1) := by decide +kernel
theorem dX12_undo_54 : decode cX12_undo 54 = .ok (.getfield 206, 3) := by decide +kernel
theorem dX12_undo_57 : decode cX12_undo 57 = .ok (.imul, 1) := by decide +kernel
theorem dX12_undo_58 : decode cX12_undo 58 = .ok (.aload_n 0, 1) := by decide +kernel
theorem dX12_undo_59 : decode cX12_undo 59 = .ok (.getfield 26, 3) := by decide +kernel
theorem dX12_undo_62 : decode cX12_undo 62 = .ok (.iconst 0, 1) := by decide +kernel
theorem dX12_undo_63 : decode cX12_undo 63 = .ok (.bipush 13, 2) := by decide +kernel
theorem dX12_undo_65 : decode cX12_undo 65 = .ok (.invokestatic 199, 3) := by decide +kernel
theorem dX12_undo_68 : decode cX12_undo 68 = .ok (.iconst 1, 1) := by decide +kernel
theorem dX12_undo_69 : decode cX12_undo 69 = .ok (.ireturn, 1) := by decide +kernel
theorem dX12_redo_0 : decode cX12_redo 0 = .ok (.aload_n 0, 1) := by decide +kernel
theorem dX12_redo_1 : decode cX12_redo 1 = .ok (.invokevirtual 190, 3) := by decide +kernel
theorem dX12_redo_4 : decode cX12_redo 4 = .ok (.aload_n 0, 1) := by decide +kernel
theorem dX12_redo_5 : decode cX12_redo 5 = .ok (.getfield 209, 3) := by decide +kernel
theorem dX12_redo_8 : decode cX12_redo 8 = .ok (.ifCond .ne 10, 3) := by decide +kernel
theorem dX12_redo_11 : decode cX12_redo 11 = .ok (.aload_n 0, 1) := by decide +kernel
theorem dX12_redo_12 : decode cX12_redo 12 = .ok (.bipush 6, 2) := by decide +kernel
theorem dX12_redo_14 : decode cX12_redo 14 = .ok (.invokevirtual 424, 3) := by decide +kernel
theorem dX12_redo_17 : decode cX12_redo 17 = .ok (.ireturn, 1) := by decide +kernel
theorem dX12_redo_18 : decode cX12_redo 18 = .ok (.aload_n 0, 1) := by decide +kernel
theorem dX12_redo_19 : decode cX12_redo 19 = .ok (.aload_n 0, 1) := by decide +kernel
theorem dX12_redo_20 : decode cX12_redo 20 = .ok (.getfield 32, 3) := by decide +kernel
theorem dX12_redo_23 : decode cX12_redo 23 = .ok (.aload_n 0, 1) := by decide +kernel
theorem dX12_redo_24 : decode cX12_redo 24 = .ok (.getfield 206, 3) := by decide +kernel
theorem dX12_redo_27 : decode cX12_redo 27 = .ok (.aload_n 0, 1) := by decide +kernel
theorem dX12_redo_28 : decode cX12_redo 28 = .ok (.getfield 26, 3) := by decide +kernel
theorem dX12_redo_31 : decode cX12_redo 31 = .ok (.invokestatic 420, 3) := by decide +kernel
theorem dX12_redo_34 : decode cX12_redo 34 = .ok (.putfield 206, 3) := by decide +kernel
theorem dX12_redo_37 : decode cX12_redo 37 = .ok (.aload_n 0, 1) := by decide +kernel
theorem dX12_redo_38 : decode cX12_redo 38 = .ok (.dup, 1) := by decide +kernel
theorem dX12_redo_39 : decode cX12_redo 39 = .ok (.getfield 209, 3) := by decide +kernel
theorem dX12_redo_42 : decode cX12_redo 42 = .ok (.iconst 1, 1) := by decide +kernel
theorem dX12_redo_43 : decode cX12_redo 43 = .ok (.isub, 1) := by decide +kernel
theorem dX12_redo_44 : decode cX12_redo 44 = .ok (.putfield 209, 3) := by decide +kernel
theorem dX12_redo_47 : decode cX12_redo 47 = .ok (.aload_n 0, 1) := by decide +kernel
theorem dX12_redo_48 : decode cX12_redo 48 = .ok (.getfield 35, 3) := by decide +kernel
theorem dX12_redo_51 : decode cX12_redo 51 = .ok (.bipush 13, 2) := by decide +kernel
theorem dX12_redo_53 : decode cX12_redo 53 = .ok (.aload_n 0, 1) := by decide +kernel
theorem dX12_redo_54 : decode cX12_redo 54 = .ok (.getfield 209, 3) := by decide +kernel
theorem dX12_redo_57 : decode cX12_redo 57 = .ok (.imul, 1) := by decide +kernel
theorem dX12_redo_58 : decode cX12_redo 58 = .ok (.aload_n 0, 1) := by decide +kernel
theorem dX12_redo_59 : decode cX12_redo 59 = .ok (.getfield 26, 3) := by decide +kernel
theorem dX12_redo_62 : decode cX12_redo 62 = .ok (.iconst 0, 1) := by decide +kernel
theorem dX12_redo_63 : decode cX12_redo 63 = .ok (.bipush 13, 2) := by decide +kernel
theorem dX12_redo_65 : decode cX12_redo 65 = .ok (.invokestatic 199, 3) := by decide +kernel
theorem dX12_redo_68 : decode cX12_redo 68 = .ok (.iconst 1, 1) := by decide +kernel
theorem dX12_redo_69 : decode cX12_redo 69 = .ok (.ireturn, 1) := by decide +kernel
theorem dX12_image_0 : decode cX12_image 0 = .ok (.aload_n 0, 1) := by decide +kernel
theorem dX12_image_1 : decode cX12_image 1 = .ok (.invokevirtual 190, 3) := by decide +kernel
theorem dX12_image_4 : decode cX12_image 4 = .ok (.aload_n 0, 1) := by decide +kernel
theorem dX12_image_5 : decode cX12_image 5 = .ok (.getfield 203, 3) := by decide +kernel
theorem dX12_image_8 : decode cX12_image 8 = .ok (.ifCond .ne 9, 3) := by decide +kernel
theorem dX12_image_11 : decode cX12_image 11 = .ok (.aload_n 0, 1) := by decide +kernel
theorem dX12_image_12 : decode cX12_image 12 = .ok (.iconst 1, 1) := by decide +kernel
theorem dX12_image_13 : decode cX12_image 13 = .ok (.invokevirtual 193, 3) := by decide +kernel
theorem dX12_image_16 : decode cX12_image 16 = .ok (.ireturn, 1) := by decide +kernel
theorem dX12_image_17 : decode cX12_image 17 = .ok (.aload_n 0, 1) := by decide +kernel
theorem dX12_image_18 : decode cX12_image 18 = .ok (.getfield 212, 3) := by decide +kernel
theorem dX12_image_21 : decode cX12_image 21 = .ok (.iconst 3, 1) := by decide +kernel
theorem dX12_image_22 : decode cX12_image 22 = .ok (.if_icmp .ne 9, 3) := by decide +kernel
theorem dX12_image_25 : decode cX12_image 25 = .ok (.aload_n 0, 1) := by decide +kernel
theorem dX12_image_26 : decode cX12_image 26 = .ok (.iconst 3, 1) := by decide +kernel
theorem dX12_image_27 : decode cX12_image 27 = .ok (.invokevirtual 193, 3) := by decide +kernel
theorem dX12_image_30 : decode cX12_image 30 = .ok (.ireturn, 1) := by decide +kernel
theorem dX12_image_31 : decode cX12_image 31 = .ok (.aload_n 0, 1) := by decide +kernel
theorem dX12_image_32 : decode cX12_image 32 = .ok (.getfield 26, 3) := by decide +kernel
theorem dX12_image_35 : decode cX12_image 35 = .ok (.iconst 0, 1) := by decide +kernel
theorem dX12_image_36 : decode cX12_image 36 = .ok (.aload_n 0, 1) := by decide +kernel
theorem dX12_image_37 : decode cX12_image 37 = .ok (.getfield 38, 3) := by decide +kernel
theorem dX12_image_40 : decode cX12_image 40 = .ok (.bipush 13, 2) := by decide +kernel
theorem dX12_image_42 : decode cX12_image 42 = .ok (.aload_n 0, 1) := by decide +kernel
theorem dX12_image_43 : decode cX12_image 43 = .ok (.getfield 212, 3) := by decide +kernel
theorem dX12_image_46 : decode cX12_image 46 = .ok (.imul, 1) := by decide +kernel
theorem dX12_image_47 : decode cX12_image 47 = .ok (.bipush 13, 2) := by decide +kernel
theorem dX12_image_49 : decode cX12_image 49 = .ok (.invokestatic 199, 3) := by decide +kernel
theorem dX12_image_52 : decode cX12_image 52 = .ok (.aload_n 0, 1) := by decide +kernel
theorem dX12_image_53 : decode cX12_image 53 = .ok (.dup, 1) := by decide +kernel
theorem dX12_image_54 : decode cX12_image 54 = .ok (.getfield 212, 3) := by decide +kernel
theorem dX12_image_57 : decode cX12_image 57 = .ok (.iconst 1, 1) := by decide +kernel
theorem dX12_image_58 : decode cX12_image 58 = .ok (.iadd, 1) := by decide +kernel
theorem dX12_image_59 : decode cX12_image 59 = .ok (.putfield 212, 3) := by decide +kernel
theorem dX12_image_62 : decode cX12_image 62 = .ok (.aload_n 0, 1) := by decide +kernel
theorem dX12_image_63 : decode cX12_image 63 = .ok (.getfield 212, 3) := by decide +kernel
theorem dX12_image_66 : decode cX12_image 66 = .ok (.iconst 1, 1) := by decide +kernel
theorem dX12_image_67 : decode cX12_image 67 = .ok (.isub, 1) := by decide +kernel
theorem dX12_image_68 : decode cX12_image 68 = .ok (.ireturn, 1) := by decide +kernel
theorem dX12_back_0 : decode cX12_back 0 = .ok (.aload_n 0, 1) := by decide +kernel
theorem dX12_back_1 : decode cX12_back 1 = .ok (.invokevirtual 190, 3) := by decide +kernel
theorem dX12_back_4 : decode cX12_back 4 = .ok (.iload_n 1, 1) := by decide +kernel
theorem dX12_back_5 : decode cX12_back 5 = .ok (.iconst 0, 1) := by decide +kernel
theorem dX12_back_6 : decode cX12_back 6 = .ok (.aload_n 0, 1) := by decide +kernel
theorem dX12_back_7 : decode cX12_back 7 = .ok (.getfield 212, 3) := by decide +kernel
theorem dX12_back_10 : decode cX12_back 10 = .ok (.iconst 1, 1) := by decide +kernel
theorem dX12_back_11 : decode cX12_back 11 = .ok (.isub, 1) := by decide +kernel
theorem dX12_back_12 : decode cX12_back 12 = .ok (.invokestatic 174, 3) := by decide +kernel
theorem dX12_back_15 : decode cX12_back 15 = .ok (.ifCond .ne 9, 3) := by decide +kernel
theorem dX12_back_18 : decode cX12_back 18 = .ok (.aload_n 0, 1) := by decide +kernel
theorem dX12_back_19 : decode cX12_back 19 = .ok (.iconst 1, 1) := by decide +kernel
theorem dX12_back_20 : decode cX12_back 20 = .ok (.invokevirtual 424, 3) := by decide +kernel
theorem dX12_back_23 : decode cX12_back 23 = .ok (.ireturn, 1) := by decide +kernel
theorem dX12_back_24 : decode cX12_back 24 = .ok (.aload_n 0, 1) := by decide +kernel
theorem dX12_back_25 : decode cX12_back 25 = .ok (.getfield 38, 3) := by decide +kernel
theorem dX12_back_28 : decode cX12_back 28 = .ok (.bipush 13, 2) := by decide +kernel
theorem dX12_back_30 : decode cX12_back 30 = .ok (.iload_n 1, 1) := by decide +kernel
theorem dX12_back_31 : decode cX12_back 31 = .ok (.imul, 1) := by decide +kernel
theorem dX12_back_32 : decode cX12_back 32 = .ok (.aload_n 0, 1) := by decide +kernel
theorem dX12_back_33 : decode cX12_back 33 = .ok (.getfield 26, 3) := by decide +kernel
theorem dX12_back_36 : decode cX12_back 36 = .ok (.iconst 0, 1) := by decide +kernel
theorem dX12_back_37 : decode cX12_back 37 = .ok (.bipush 13, 2) := by decide +kernel
theorem dX12_back_39 : decode cX12_back 39 = .ok (.invokestatic 199, 3) := by decide +kernel
theorem dX12_back_42 : decode cX12_back 42 = .ok (.aload_n 0, 1) := by decide +kernel
theorem dX12_back_43 : decode cX12_back 43 = .ok (.iconst 0, 1) := by decide +kernel
theorem dX12_back_44 : decode cX12_back 44 = .ok (.putfield 206, 3) := by decide +kernel
theorem dX12_back_47 : decode cX12_back 47 = .ok (.aload_n 0, 1) := by decide +kernel
theorem dX12_back_48 : decode cX12_back 48 = .ok (.iconst 0, 1) := by decide +kernel
theorem dX12_back_49 : decode cX12_back 49 = .ok (.putfield 209, 3) := by decide +kernel
theorem dX12_back_52 : decode cX12_back 52 = .ok (.iconst 1, 1) := by decide +kernel
theorem dX12_back_53 : decode cX12_back 53 = .ok (.ireturn, 1) := by decide +kernel
theorem dX12_part_0 : decode cX12_part 0 = .ok (.aload_n 0, 1) := by decide +kernel
theorem dX12_part_1 : decode cX12_part 1 = .ok (.invokevirtual 190, 3) := by decide +kernel
theorem dX12_part_4 : decode cX12_part 4 = .ok (.aload_n 0, 1) := by decide +kernel
theorem dX12_part_5 : decode cX12_part 5 = .ok (.iload_n 1, 1) := by decide +kernel
theorem dX12_part_6 : decode cX12_part 6 = .ok (.invokevirtual 318, 3) := by decide +kernel
theorem dX12_part_9 : decode cX12_part 9 = .ok (.ifCond .ne 9, 3) := by decide +kernel
theorem dX12_part_12 : decode cX12_part 12 = .ok (.aload_n 0, 1) := by decide +kernel
theorem dX12_part_13 : decode cX12_part 13 = .ok (.iconst 1, 1) := by decide +kernel
theorem dX12_part_14 : decode cX12_part 14 = .ok (.invokevirtual 193, 3) := by decide +kernel
theorem dX12_part_17 : decode cX12_part 17 = .ok (.ireturn, 1) := by decide +kernel
theorem dX12_part_18 : decode cX12_part 18 = .ok (.iload_n 2, 1) := by decide +kernel
theorem dX12_part_19 : decode cX12_part 19 = .ok (.tableswitch 96 0 5 #[37, 47, 57, 67, 77, 87], 37) := by decide +kernel
theorem dX12_part_56 : decode cX12_part 56 = .ok (.aload_n 0, 1) := by decide +kernel
theorem dX12_part_57 : decode cX12_part 57 = .ok (.getfield 20, 3) := by decide +kernel
theorem dX12_part_60 : decode cX12_part 60 = .ok (.bipush 9, 2) := by decide +kernel
theorem dX12_part_62 : decode cX12_part 62 = .ok (.iload_n 1, 1) := by decide +kernel
theorem dX12_part_63 : decode cX12_part 63 = .ok (.iadd, 1) := by decide +kernel
theorem dX12_part_64 : decode cX12_part 64 = .ok (.iaload, 1) := by decide +kernel
theorem dX12_part_65 : decode cX12_part 65 = .ok (.ireturn, 1) := by decide +kernel
theorem dX12_part_66 : decode cX12_part 66 = .ok (.aload_n 0, 1) := by decide +kernel
theorem dX12_part_67 : decode cX12_part 67 = .ok (.getfield 20, 3) := by decide +kernel
theorem dX12_part_70 : decode cX12_part 70 = .ok (.bipush 16, 2) := by decide +kernel
theorem dX12_part_72 : decode cX12_part 72 = .ok (.iload_n 1, 1) := by decide +kernel
theorem dX12_part_73 : decode cX12_part 73 = .ok (.iadd, 1) := by decide +kernel
theorem dX12_part_74 : decode cX12_part 74 = .ok (.iaload, 1) := by decide +kernel
theorem dX12_part_75 : decode cX12_part 75 = .ok (.ireturn, 1) := by decide +kernel
theorem dX12_part_76 : decode cX12_part 76 = .ok (.aload_n 0, 1) := by decide +kernel
theorem dX12_part_77 : decode cX12_part 77 = .ok (.getfield 20, 3) := by decide +kernel
theorem dX12_part_80 : decode cX12_part 80 = .ok (.bipush 23, 2) := by decide +kernel
theorem dX12_part_82 : decode cX12_part 82 = .ok (.iload_n 1, 1) := by decide +kernel
theorem dX12_part_83 : decode cX12_part 83 = .ok (.iadd, 1) := by decide +kernel
theorem dX12_part_84 : decode cX12_part 84 = .ok (.iaload, 1) := by decide +kernel
theorem dX12_part_85 : decode cX12_part 85 = .ok (.ireturn, 1) := by decide +kernel
theorem dX12_part_86 : decode cX12_part 86 = .ok (.aload_n 0, 1) := by decide +kernel
theorem dX12_part_87 : decode cX12_part 87 = .ok (.getfield 20, 3) := by decide +kernel
theorem dX12_part_90 : decode cX12_part 90 = .ok (.bipush 30, 2) := by decide +kernel
theorem dX12_part_92 : decode cX12_part 92 = .ok (.iload_n 1, 1) := by decide +kernel
theorem dX12_part_93 : decode cX12_part 93 = .ok (.iadd, 1) := by decide +kernel
theorem dX12_part_94 : decode cX12_part 94 = .ok (.iaload, 1) := by decide +kernel
theorem dX12_part_95 : decode cX12_part 95 = .ok (.ireturn, 1) := by decide +kernel
theorem dX12_part_96 : decode cX12_part 96 = .ok (.aload_n 0, 1) := by decide +kernel
theorem dX12_part_97 : decode cX12_part 97 = .ok (.getfield 20, 3) := by decide +kernel
theorem dX12_part_100 : decode cX12_part 100 = .ok (.bipush 37, 2) := by decide +kernel
theorem dX12_part_102 : decode cX12_part 102 = .ok (.iload_n 1, 1) := by decide +kernel
theorem dX12_part_103 : decode cX12_part 103 = .ok (.iadd, 1) := by decide +kernel
theorem dX12_part_104 : decode cX12_part 104 = .ok (.iaload, 1) := by decide +kernel
theorem dX12_part_105 : decode cX12_part 105 = .ok (.ireturn, 1) := by decide +kernel
theorem dX12_part_106 : decode cX12_part 106 = .ok (.aload_n 0, 1) := by decide +kernel
theorem dX12_part_107 : decode cX12_part 107 = .ok (.getfield 26, 3) := by decide +kernel
theorem dX12_part_110 : decode cX12_part 110 = .ok (.iconst 5, 1) := by decide +kernel
theorem dX12_part_111 : decode cX12_part 111 = .ok (.iload_n 1, 1) := by decide +kernel
theorem dX12_part_112 : decode cX12_part 112 = .ok (.iadd, 1) := by decide +kernel
theorem dX12_part_113 : decode cX12_part 113 = .ok (.iaload, 1) := by decide +kernel
theorem dX12_part_114 : decode cX12_part 114 = .ok (.ireturn, 1) := by decide +kernel
theorem dX12_part_115 : decode cX12_part 115 = .ok (.aload_n 0, 1) := by decide +kernel
theorem dX12_part_116 : decode cX12_part 116 = .ok (.iconst 1, 1) := by decide +kernel
theorem dX12_part_117 : decode cX12_part 117 = .ok (.invokevirtual 193, 3) := by decide +kernel
theorem dX12_part_120 : decode cX12_part 120 = .ok (.ireturn, 1) := by decide +kernel
theorem dX12_on_0 : decode cX12_on 0 = .ok (.aload_n 0, 1) := by decide +kernel
theorem dX12_on_1 : decode cX12_on 1 = .ok (.invokevirtual 190, 3) := by decide +kernel
theorem dX12_on_4 : decode cX12_on 4 = .ok (.aload_n 0, 1) := by decide +kernel
theorem dX12_on_5 : decode cX12_on 5 = .ok (.iload_n 1, 1) := by decide +kernel
theorem dX12_on_6 : decode cX12_on 6 = .ok (.invokevirtual 309, 3) := by decide +kernel
theorem dX12_on_9 : decode cX12_on 9 = .ok (.ifCond .ne 9, 3) := by decide +kernel
theorem dX12_on_12 : decode cX12_on 12 = .ok (.aload_n 0, 1) := by decide +kernel
theorem dX12_on_13 : decode cX12_on 13 = .ok (.iconst 1, 1) := by decide +kernel
theorem dX12_on_14 : decode cX12_on 14 = .ok (.invokevirtual 193, 3) := by decide +kernel
theorem dX12_on_17 : decode cX12_on 17 = .ok (.ireturn, 1) := by decide +kernel
theorem dX12_on_18 : decode cX12_on 18 = .ok (.iload_n 2, 1) := by decide +kernel
theorem dX12_on_19 : decode cX12_on 19 = .ok (.tableswitch 93 0 5 #[37, 44, 51, 59, 66, 73], 37) := by decide +kernel
theorem dX12_on_56 : decode cX12_on 56 = .ok (.aload_n 0, 1) := by decide +kernel
theorem dX12_on_57 : decode cX12_on 57 = .ok (.iload_n 1, 1) := by decide +kernel
theorem dX12_on_58 : decode cX12_on 58 = .ok (.iconst 0, 1) := by decide +kernel
theorem dX12_on_59 : decode cX12_on 59 = .ok (.invokevirtual 302, 3) := by decide +kernel
theorem dX12_on_62 : decode cX12_on 62 = .ok (.ireturn, 1) := by decide +kernel
theorem dX12_on_63 : decode cX12_on 63 = .ok (.aload_n 0, 1) := by decide +kernel
theorem dX12_on_64 : decode cX12_on 64 = .ok (.iload_n 1, 1) := by decide +kernel
theorem dX12_on_65 : decode cX12_on 65 = .ok (.iconst 1, 1) := by decide +kernel
theorem dX12_on_66 : decode cX12_on 66 = .ok (.invokevirtual 302, 3) := by decide +kernel
theorem dX12_on_69 : decode cX12_on 69 = .ok (.ireturn, 1) := by decide +kernel
theorem dX12_on_70 : decode cX12_on 70 = .ok (.aload_n 0, 1) := by decide +kernel
theorem dX12_on_71 : decode cX12_on 71 = .ok (.iload_n 1, 1) := by decide +kernel
theorem dX12_on_72 : decode cX12_on 72 = .ok (.bipush 6, 2) := by decide +kernel
theorem dX12_on_74 : decode cX12_on 74 = .ok (.invokevirtual 302, 3) := by decide +kernel
theorem dX12_on_77 : decode cX12_on 77 = .ok (.ireturn, 1) := by decide +kernel
theorem dX12_on_78 : decode cX12_on 78 = .ok (.aload_n 0, 1) := by decide +kernel
theorem dX12_on_79 : decode cX12_on 79 = .ok (.iload_n 1, 1) := by decide +kernel
theorem dX12_on_80 : decode cX12_on 80 = .ok (.iconst 4, 1) := by decide +kernel
theorem dX12_on_81 : decode cX12_on 81 = .ok (.invokevirtual 302, 3) := by decide +kernel
theorem dX12_on_84 : decode cX12_on 84 = .ok (.ireturn, 1) := by decide +kernel
theorem dX12_on_85 : decode cX12_on 85 = .ok (.aload_n 0, 1) := by decide +kernel
theorem dX12_on_86 : decode cX12_on 86 = .ok (.iload_n 1, 1) := by decide +kernel
theorem dX12_on_87 : decode cX12_on 87 = .ok (.iconst 5, 1) := by decide +kernel
theorem dX12_on_88 : decode cX12_on 88 = .ok (.invokevirtual 302, 3) := by decide +kernel
theorem dX12_on_91 : decode cX12_on 91 = .ok (.ireturn, 1) := by decide +kernel
theorem dX12_on_92 : decode cX12_on 92 = .ok (.aload_n 0, 1) := by decide +kernel
theorem dX12_on_93 : decode cX12_on 93 = .ok (.getfield 26, 3) := by decide +kernel
theorem dX12_on_96 : decode cX12_on 96 = .ok (.bipush 12, 2) := by decide +kernel
theorem dX12_on_98 : decode cX12_on 98 = .ok (.iaload, 1) := by decide +kernel
theorem dX12_on_99 : decode cX12_on 99 = .ok (.iload_n 1, 1) := by decide +kernel
theorem dX12_on_100 : decode cX12_on 100 = .ok (.invokestatic 278, 3) := by decide +kernel
theorem dX12_on_103 : decode cX12_on 103 = .ok (.ifCond .eq 7, 3) := by decide +kernel
theorem dX12_on_106 : decode cX12_on 106 = .ok (.iconst 1, 1) := by decide +kernel
theorem dX12_on_107 : decode cX12_on 107 = .ok (.goto 4, 3) := by decide +kernel
theorem dX12_on_110 : decode cX12_on 110 = .ok (.iconst 0, 1) := by decide +kernel
theorem dX12_on_111 : decode cX12_on 111 = .ok (.ireturn, 1) := by decide +kernel
theorem dX12_on_112 : decode cX12_on 112 = .ok (.aload_n 0, 1) := by decide +kernel
theorem dX12_on_113 : decode cX12_on 113 = .ok (.iconst 1, 1) := by decide +kernel
theorem dX12_on_114 : decode cX12_on 114 = .ok (.invokevirtual 193, 3) := by decide +kernel
theorem dX12_on_117 : decode cX12_on 117 = .ok (.ireturn, 1) := by decide +kernel
theorem dX12_led_0 : decode cX12_led 0 = .ok (.iconst 0, 1) := by decide +kernel
theorem dX12_led_1 : decode cX12_led 1 = .ok (.istore_n 3, 1) := by decide +kernel
theorem dX12_led_2 : decode cX12_led 2 = .ok (.aload_n 0, 1) := by decide +kernel
theorem dX12_led_3 : decode cX12_led 3 = .ok (.iload_n 1, 1) := by decide +kernel
theorem dX12_led_4 : decode cX12_led 4 = .ok (.invokevirtual 348, 3) := by decide +kernel
theorem dX12_led_7 : decode cX12_led 7 = .ok (.ifCond .eq 11, 3) := by decide +kernel
theorem dX12_led_10 : decode cX12_led 10 = .ok (.aload_n 0, 1) := by decide +kernel
theorem dX12_led_11 : decode cX12_led 11 = .ok (.aload_n 0, 1) := by decide +kernel
theorem dX12_led_12 : decode cX12_led 12 = .ok (.getfield 26, 3) := by decide +kernel
theorem dX12_led_15 : decode cX12_led 15 = .ok (.invokevirtual 305, 3) := by decide +kernel
theorem dX12_led_18 : decode cX12_led 18 = .ok (.iconst 0, 1) := by decide +kernel
theorem dX12_led_19 : decode cX12_led 19 = .ok (.istore 4, 2) := by decide +kernel
theorem dX12_led_21 : decode cX12_led 21 = .ok (.aload_n 0, 1) := by decide +kernel
theorem dX12_led_22 : decode cX12_led 22 = .ok (.iload_n 1, 1) := by decide +kernel
theorem dX12_led_23 : decode cX12_led 23 = .ok (.invokevirtual 348, 3) := by decide +kernel
theorem dX12_led_26 : decode cX12_led 26 = .ok (.ifCond .eq 62, 3) := by decide +kernel
theorem dX12_led_29 : decode cX12_led 29 = .ok (.iload 4, 2) := by decide +kernel
theorem dX12_led_31 : decode cX12_led 31 = .ok (.aload_n 0, 1) := by decide +kernel
theorem dX12_led_32 : decode cX12_led 32 = .ok (.getfield 20, 3) := by decide +kernel
theorem dX12_led_35 : decode cX12_led 35 = .ok (.bipush 7, 2) := by decide +kernel
theorem dX12_led_37 : decode cX12_led 37 = .ok (.iaload, 1) := by decide +kernel
theorem dX12_led_38 : decode cX12_led 38 = .ok (.if_icmp .ge 50, 3) := by decide +kernel
theorem dX12_led_41 : decode cX12_led 41 = .ok (.aload_n 0, 1) := by decide +kernel
theorem dX12_led_42 : decode cX12_led 42 = .ok (.getfield 53, 3) := by decide +kernel
theorem dX12_led_45 : decode cX12_led 45 = .ok (.iload 4, 2) := by decide +kernel
theorem dX12_led_47 : decode cX12_led 47 = .ok (.iaload, 1) := by decide +kernel
theorem dX12_led_48 : decode cX12_led 48 = .ok (.istore 5, 2) := by decide +kernel
theorem dX12_led_50 : decode cX12_led 50 = .ok (.aload_n 0, 1) := by decide +kernel
theorem dX12_led_51 : decode cX12_led 51 = .ok (.iload_n 1, 1) := by decide +kernel
theorem dX12_led_52 : decode cX12_led 52 = .ok (.invokevirtual 345, 3) := by decide +kernel
theorem dX12_led_55 : decode cX12_led 55 = .ok (.iload 5, 2) := by decide +kernel
theorem dX12_led_57 : decode cX12_led 57 = .ok (.invokestatic 278, 3) := by decide +kernel
theorem dX12_led_60 : decode cX12_led 60 = .ok (.ifCond .ne 6, 3) := by decide +kernel
theorem dX12_led_63 : decode cX12_led 63 = .ok (.goto 19, 3) := by decide +kernel
theorem dX12_led_66 : decode cX12_led 66 = .ok (.iload_n 3, 1) := by decide +kernel
theorem dX12_led_67 : decode cX12_led 67 = .ok (.iload_n 2, 1) := by decide +kernel
theorem dX12_led_68 : decode cX12_led 68 = .ok (.if_icmp .ne 11, 3) := by decide +kernel
theorem dX12_led_71 : decode cX12_led 71 = .ok (.aload_n 0, 1) := by decide +kernel
theorem dX12_led_72 : decode cX12_led 72 = .ok (.iconst 0, 1) := by decide +kernel
theorem dX12_led_73 : decode cX12_led 73 = .ok (.putfield 81, 3) := by decide +kernel
theorem dX12_led_76 : decode cX12_led 76 = .ok (.iload 5, 2) := by decide +kernel
theorem dX12_led_78 : decode cX12_led 78 = .ok (.ireturn, 1) := by decide +kernel
theorem dX12_led_79 : decode cX12_led 79 = .ok (.iinc 3 1, 3) := by decide +kernel
theorem dX12_led_82 : decode cX12_led 82 = .ok (.iinc 4 1, 3) := by decide +kernel
theorem dX12_led_85 : decode cX12_led 85 = .ok (.goto (-64), 3) := by decide +kernel
theorem dX12_led_88 : decode cX12_led 88 = .ok (.aload_n 0, 1) := by decide +kernel
theorem dX12_led_89 : decode cX12_led 89 = .ok (.iconst 1, 1) := by decide +kernel
theorem dX12_led_90 : decode cX12_led 90 = .ok (.putfield 81, 3) := by decide +kernel
theorem dX12_led_93 : decode cX12_led 93 = .ok (.iconst 0, 1) := by decide +kernel
theorem dX12_led_94 : decode cX12_led 94 = .ok (.ireturn, 1) := by decide +kernel
theorem dX12_size_0 : decode cX12_size 0 = .ok (.aload_n 0, 1) := by decide +kernel
theorem dX12_size_1 : decode cX12_size 1 = .ok (.iconst 0, 1) := by decide +kernel
theorem dX12_size_2 : decode cX12_size 2 = .ok (.putfield 81, 3) := by decide +kernel
theorem dX12_size_5 : decode cX12_size 5 = .ok (.iload_n 1, 1) := by decide +kernel
theorem dX12_size_6 : decode cX12_size 6 = .ok (.bipush 9, 2) := by decide +kernel
theorem dX12_size_8 : decode cX12_size 8 = .ok (.if_icmp .ne 8, 3) := by decide +kernel
theorem dX12_size_11 : decode cX12_size 11 = .ok (.aload_n 0, 1) := by decide +kernel
theorem dX12_size_12 : decode cX12_size 12 = .ok (.getfield 87, 3) := by decide +kernel
theorem dX12_size_15 : decode cX12_size 15 = .ok (.ireturn, 1) := by decide +kernel
theorem dX12_size_16 : decode cX12_size 16 = .ok (.aload_n 0, 1) := by decide +kernel
theorem dX12_size_17 : decode cX12_size 17 = .ok (.getfield 203, 3) := by decide +kernel
theorem dX12_size_20 : decode cX12_size 20 = .ok (.ifCond .ne 19, 3) := by decide +kernel
theorem dX12_size_23 : decode cX12_size 23 = .ok (.iload_n 1, 1) := by decide +kernel
theorem dX12_size_24 : decode cX12_size 24 = .ok (.iconst 0, 1) := by decide +kernel
theorem dX12_size_25 : decode cX12_size 25 = .ok (.bipush 8, 2) := by decide +kernel
theorem dX12_size_27 : decode cX12_size 27 = .ok (.invokestatic 174, 3) := by decide +kernel
theorem dX12_size_30 : decode cX12_size 30 = .ok (.ifCond .eq 7, 3) := by decide +kernel
theorem dX12_size_33 : decode cX12_size 33 = .ok (.iconst 0, 1) := by decide +kernel
theorem dX12_size_34 : decode cX12_size 34 = .ok (.goto 4, 3) := by decide +kernel
theorem dX12_size_37 : decode cX12_size 37 = .ok (.iconst (-1), 1) := by decide +kernel
theorem dX12_size_38 : decode cX12_size 38 = .ok (.ireturn, 1) := by decide +kernel
theorem dX12_size_39 : decode cX12_size 39 = .ok (.iload_n 1, 1) := by decide +kernel
theorem dX12_size_40 : decode cX12_size 40 = .ok (.tableswitch 112 0 8 #[52, 59, 66, 74, 82, 90, 97, 102, 107], 52) := by decide +kernel
theorem dX12_size_92 : decode cX12_size 92 = .ok (.aload_n 0, 1) := by decide +kernel
theorem dX12_size_93 : decode cX12_size 93 = .ok (.getfield 20, 3) := by decide +kernel
theorem dX12_size_96 : decode cX12_size 96 = .ok (.iconst 4, 1) := by decide +kernel
theorem dX12_size_97 : decode cX12_size 97 = .ok (.iaload, 1) := by decide +kernel
theorem dX12_size_98 : decode cX12_size 98 = .ok (.ireturn, 1) := by decide +kernel
theorem dX12_size_99 : decode cX12_size 99 = .ok (.aload_n 0, 1) := by decide +kernel
theorem dX12_size_100 : decode cX12_size 100 = .ok (.getfield 20, 3) := by decide +kernel
theorem dX12_size_103 : decode cX12_size 103 = .ok (.iconst 5, 1) := by decide +kernel
theorem dX12_size_104 : decode cX12_size 104 = .ok (.iaload, 1) := by decide +kernel
theorem dX12_size_105 : decode cX12_size 105 = .ok (.ireturn, 1) := by decide +kernel
theorem dX12_size_106 : decode cX12_size 106 = .ok (.aload_n 0, 1) := by decide +kernel
theorem dX12_size_107 : decode cX12_size 107 = .ok (.getfield 20, 3) := by decide +kernel
theorem dX12_size_110 : decode cX12_size 110 = .ok (.bipush 7, 2) := by decide +kernel
theorem dX12_size_112 : decode cX12_size 112 = .ok (.iaload, 1) := by decide +kernel
theorem dX12_size_113 : decode cX12_size 113 = .ok (.ireturn, 1) := by decide +kernel
theorem dX12_size_114 : decode cX12_size 114 = .ok (.aload_n 0, 1) := by decide +kernel
theorem dX12_size_115 : decode cX12_size 115 = .ok (.getfield 20, 3) := by decide +kernel
theorem dX12_size_118 : decode cX12_size 118 = .ok (.bipush 6, 2) := by decide +kernel
theorem dX12_size_120 : decode cX12_size 120 = .ok (.iaload, 1) := by decide +kernel
theorem dX12_size_121 : decode cX12_size 121 = .ok (.ireturn, 1) := by decide +kernel
theorem dX12_size_122 : decode cX12_size 122 = .ok (.aload_n 0, 1) := by decide +kernel
theorem dX12_size_123 : decode cX12_size 123 = .ok (.getfield 20, 3) := by decide +kernel
theorem dX12_size_126 : decode cX12_size 126 = .ok (.bipush 8, 2) := by decide +kernel
theorem dX12_size_128 : decode cX12_size 128 = .ok (.iaload, 1) := by decide +kernel
theorem dX12_size_129 : decode cX12_size 129 = .ok (.ireturn, 1) := by decide +kernel
theorem dX12_size_130 : decode cX12_size 130 = .ok (.aload_n 0, 1) := by decide +kernel
theorem dX12_size_131 : decode cX12_size 131 = .ok (.getfield 20, 3) := by decide +kernel
theorem dX12_size_134 : decode cX12_size 134 = .ok (.iconst 3, 1) := by decide +kernel
theorem dX12_size_135 : decode cX12_size 135 = .ok (.iaload, 1) := by decide +kernel
theorem dX12_size_136 : decode cX12_size 136 = .ok (.ireturn, 1) := by decide +kernel
theorem dX12_size_137 : decode cX12_size 137 = .ok (.aload_n 0, 1) := by decide +kernel
theorem dX12_size_138 : decode cX12_size 138 = .ok (.getfield 206, 3) := by decide +kernel
theorem dX12_size_141 : decode cX12_size 141 = .ok (.ireturn, 1) := by decide +kernel
theorem dX12_size_142 : decode cX12_size 142 = .ok (.aload_n 0, 1) := by decide +kernel
theorem dX12_size_143 : decode cX12_size 143 = .ok (.getfield 209, 3) := by decide +kernel
theorem dX12_size_146 : decode cX12_size 146 = .ok (.ireturn, 1) := by decide +kernel
theorem dX12_size_147 : decode cX12_size 147 = .ok (.aload_n 0, 1) := by decide +kernel
theorem dX12_size_148 : decode cX12_size 148 = .ok (.getfield 212, 3) := by decide +kernel
theorem dX12_size_151 : decode cX12_size 151 = .ok (.ireturn, 1) := by decide +kernel
theorem dX12_size_152 : decode cX12_size 152 = .ok (.iconst (-1), 1) := by decide +kernel
theorem dX12_size_153 : decode cX12_size 153 = .ok (.ireturn, 1) := by decide +kernel
theorem dX12_trouble_0 : decode cX12_trouble 0 = .ok (.aload_n 0, 1) := by decide +kernel
theorem dX12_trouble_1 : decode cX12_trouble 1 = .ok (.iconst 0, 1) := by decide +kernel
theorem dX12_trouble_2 : decode cX12_trouble 2 = .ok (.putfield 81, 3) := by decide +kernel
theorem dX12_trouble_5 : decode cX12_trouble 5 = .ok (.aload_n 0, 1) := by decide +kernel
theorem dX12_trouble_6 : decode cX12_trouble 6 = .ok (.getfield 84, 3) := by decide +kernel
theorem dX12_trouble_9 : decode cX12_trouble 9 = .ok (.ireturn, 1) := by decide +kernel
theorem dJ9_max_7cf53_0 : decode cJ9_max_7cf53 0 = .ok (.iload_n 0, 1) := by decide +kernel
theorem dJ9_max_7cf53_1 : decode cJ9_max_7cf53 1 = .ok (.iload_n 1, 1) := by decide +kernel
theorem dJ9_max_7cf53_2 : decode cJ9_max_7cf53 2 = .ok (.if_icmp .lt 7, 3) := by decide +kernel
theorem dJ9_max_7cf53_5 : decode cJ9_max_7cf53 5 = .ok (.iload_n 0, 1) := by decide +kernel
theorem dJ9_max_7cf53_6 : decode cJ9_max_7cf53 6 = .ok (.goto 4, 3) := by decide +kernel
theorem dJ9_max_7cf53_9 : decode cJ9_max_7cf53 9 = .ok (.iload_n 1, 1) := by decide +kernel
theorem dJ9_max_7cf53_10 : decode cJ9_max_7cf53 10 = .ok (.ireturn, 1) := by decide +kernel
theorem dJ9_min_7cf53_0 : decode cJ9_min_7cf53 0 = .ok (.iload_n 0, 1) := by decide +kernel
theorem dJ9_min_7cf53_1 : decode cJ9_min_7cf53 1 = .ok (.iload_n 1, 1) := by decide +kernel
theorem dJ9_min_7cf53_2 : decode cJ9_min_7cf53 2 = .ok (.if_icmp .gt 7, 3) := by decide +kernel
theorem dJ9_min_7cf53_5 : decode cJ9_min_7cf53 5 = .ok (.iload_n 0, 1) := by decide +kernel
theorem dJ9_min_7cf53_6 : decode cJ9_min_7cf53 6 = .ok (.goto 4, 3) := by decide +kernel
theorem dJ9_min_7cf53_9 : decode cJ9_min_7cf53 9 = .ok (.iload_n 1, 1) := by decide +kernel
theorem dJ9_min_7cf53_10 : decode cJ9_min_7cf53 10 = .ok (.ireturn, 1) := by decide +kernel
theorem dJ0_length_8abf5_0 : decode cJ0_length_8abf5 0 = .ok (.aload_n 0, 1) := by decide +kernel
theorem dJ0_length_8abf5_1 : decode cJ0_length_8abf5 1 = .ok (.getfield 9, 3) := by decide +kernel
theorem dJ0_length_8abf5_4 : decode cJ0_length_8abf5 4 = .ok (.arraylength, 1) := by decide +kernel
theorem dJ0_length_8abf5_5 : decode cJ0_length_8abf5 5 = .ok (.aload_n 0, 1) := by decide +kernel
theorem dJ0_length_8abf5_6 : decode cJ0_length_8abf5 6 = .ok (.invokevirtual 335, 3) := by decide +kernel
theorem dJ0_length_8abf5_9 : decode cJ0_length_8abf5 9 = .ok (.ishr, 1) := by decide +kernel
theorem dJ0_length_8abf5_10 : decode cJ0_length_8abf5 10 = .ok (.ireturn, 1) := by decide +kernel
theorem dJ0_charAt_5068e_0 : decode cJ0_charAt_5068e 0 = .ok (.aload_n 0, 1) := by decide +kernel
theorem dJ0_charAt_5068e_1 : decode cJ0_charAt_5068e 1 = .ok (.invokevirtual 492, 3) := by decide +kernel
theorem dJ0_charAt_5068e_4 : decode cJ0_charAt_5068e 4 = .ok (.ifCond .eq 12, 3) := by decide +kernel
theorem dJ0_charAt_5068e_7 : decode cJ0_charAt_5068e 7 = .ok (.aload_n 0, 1) := by decide +kernel
theorem dJ0_charAt_5068e_8 : decode cJ0_charAt_5068e 8 = .ok (.getfield 9, 3) := by decide +kernel
theorem dJ0_charAt_5068e_11 : decode cJ0_charAt_5068e 11 = .ok (.iload_n 1, 1) := by decide +kernel
theorem dJ0_charAt_5068e_12 : decode cJ0_charAt_5068e 12 = .ok (.invokestatic 495, 3) := by decide +kernel
theorem dJ0_charAt_5068e_15 : decode cJ0_charAt_5068e 15 = .ok (.ireturn, 1) := by decide +kernel
theorem dJ0_charAt_5068e_16 : decode cJ0_charAt_5068e 16 = .ok (.aload_n 0, 1) := by decide +kernel
theorem dJ0_charAt_5068e_17 : decode cJ0_charAt_5068e 17 = .ok (.getfield 9, 3) := by decide +kernel
theorem dJ0_charAt_5068e_20 : decode cJ0_charAt_5068e 20 = .ok (.iload_n 1, 1) := by decide +kernel
theorem dJ0_charAt_5068e_21 : decode cJ0_charAt_5068e 21 = .ok (.invokestatic 498, 3) := by decide +kernel
theorem dJ0_charAt_5068e_24 : decode cJ0_charAt_5068e 24 = .ok (.ireturn, 1) := by decide +kernel
theorem dJ0_coder_7d493_0 : decode cJ0_coder_7d493 0 = .ok (.getstatic 38, 3) := by decide +kernel
theorem dJ0_coder_7d493_3 : decode cJ0_coder_7d493 3 = .ok (.ifCond .eq 10, 3) := by decide +kernel
theorem dJ0_coder_7d493_6 : decode cJ0_coder_7d493 6 = .ok (.aload_n 0, 1) := by decide +kernel
theorem dJ0_coder_7d493_7 : decode cJ0_coder_7d493 7 = .ok (.getfield 15, 3) := by decide +kernel
theorem dJ0_coder_7d493_10 : decode cJ0_coder_7d493 10 = .ok (.goto 4, 3) := by decide +kernel
theorem dJ0_coder_7d493_13 : decode cJ0_coder_7d493 13 = .ok (.iconst 1, 1) := by decide +kernel
theorem dJ0_coder_7d493_14 : decode cJ0_coder_7d493 14 = .ok (.ireturn, 1) := by decide +kernel
theorem dJ0_isLatin1_aae02_0 : decode cJ0_isLatin1_aae02 0 = .ok (.getstatic 38, 3) := by decide +kernel
theorem dJ0_isLatin1_aae02_3 : decode cJ0_isLatin1_aae02 3 = .ok (.ifCond .eq 14, 3) := by decide +kernel
theorem dJ0_isLatin1_aae02_6 : decode cJ0_isLatin1_aae02 6 = .ok (.aload_n 0, 1) := by decide +kernel
theorem dJ0_isLatin1_aae02_7 : decode cJ0_isLatin1_aae02 7 = .ok (.getfield 15, 3) := by decide +kernel
theorem dJ0_isLatin1_aae02_10 : decode cJ0_isLatin1_aae02 10 = .ok (.ifCond .ne 7, 3) := by decide +kernel
theorem dJ0_isLatin1_aae02_13 : decode cJ0_isLatin1_aae02 13 = .ok (.iconst 1, 1) := by decide +kernel
theorem dJ0_isLatin1_aae02_14 : decode cJ0_isLatin1_aae02 14 = .ok (.goto 4, 3) := by decide +kernel
theorem dJ0_isLatin1_aae02_17 : decode cJ0_isLatin1_aae02 17 = .ok (.iconst 0, 1) := by decide +kernel
theorem dJ0_isLatin1_aae02_18 : decode cJ0_isLatin1_aae02 18 = .ok (.ireturn, 1) := by decide +kernel
theorem dJ0_checkIndex_df160_0 : decode cJ0_checkIndex_df160 0 = .ok (.iload_n 0, 1) := by decide +kernel
theorem dJ0_checkIndex_df160_1 : decode cJ0_checkIndex_df160 1 = .ok (.iload_n 1, 1) := by decide +kernel
theorem dJ0_checkIndex_df160_2 : decode cJ0_checkIndex_df160 2 = .ok (.getstatic 1053, 3) := by decide +kernel
theorem dJ0_checkIndex_df160_5 : decode cJ0_checkIndex_df160 5 = .ok (.invokestatic 1059, 3) := by decide +kernel
theorem dJ0_checkIndex_df160_8 : decode cJ0_checkIndex_df160 8 = .ok (.pop, 1) := by decide +kernel
theorem dJ0_checkIndex_df160_9 : decode cJ0_checkIndex_df160 9 = .ok (.return_, 1) := by decide +kernel
theorem dJ1_charAt_3b067_0 : decode cJ1_charAt_3b067 0 = .ok (.iload_n 1, 1) := by decide +kernel
theorem dJ1_charAt_3b067_1 : decode cJ1_charAt_3b067 1 = .ok (.aload_n 0, 1) := by decide +kernel
theorem dJ1_charAt_3b067_2 : decode cJ1_charAt_3b067 2 = .ok (.arraylength, 1) := by decide +kernel
theorem dJ1_charAt_3b067_3 : decode cJ1_charAt_3b067 3 = .ok (.invokestatic 9, 3) := by decide +kernel
theorem dJ1_charAt_3b067_6 : decode cJ1_charAt_3b067 6 = .ok (.aload_n 0, 1) := by decide +kernel
theorem dJ1_charAt_3b067_7 : decode cJ1_charAt_3b067 7 = .ok (.iload_n 1, 1) := by decide +kernel
theorem dJ1_charAt_3b067_8 : decode cJ1_charAt_3b067 8 = .ok (.baload, 1) := by decide +kernel
theorem dJ1_charAt_3b067_9 : decode cJ1_charAt_3b067 9 = .ok (.sipush 255, 3) := by decide +kernel
theorem dJ1_charAt_3b067_12 : decode cJ1_charAt_3b067 12 = .ok (.iand, 1) := by decide +kernel
theorem dJ1_charAt_3b067_13 : decode cJ1_charAt_3b067 13 = .ok (.i2c, 1) := by decide +kernel
theorem dJ1_charAt_3b067_14 : decode cJ1_charAt_3b067 14 = .ok (.ireturn, 1) := by decide +kernel
theorem dJ2_getChar_3b067_0 : decode cJ2_getChar_3b067 0 = .ok (.getstatic 44, 3) := by decide +kernel
theorem dJ2_getChar_3b067_3 : decode cJ2_getChar_3b067 3 = .ok (.ifCond .ne 25, 3) := by decide +kernel
theorem dJ2_getChar_3b067_6 : decode cJ2_getChar_3b067 6 = .ok (.iload_n 1, 1) := by decide +kernel
theorem dJ2_getChar_3b067_7 : decode cJ2_getChar_3b067 7 = .ok (.ifCond .lt 11, 3) := by decide +kernel
theorem dJ2_getChar_3b067_10 : decode cJ2_getChar_3b067 10 = .ok (.iload_n 1, 1) := by decide +kernel
theorem dJ2_getChar_3b067_11 : decode cJ2_getChar_3b067 11 = .ok (.aload_n 0, 1) := by decide +kernel
theorem dJ2_getChar_3b067_12 : decode cJ2_getChar_3b067 12 = .ok (.invokestatic 48, 3) := by decide +kernel
theorem dJ2_getChar_3b067_15 : decode cJ2_getChar_3b067 15 = .ok (.if_icmp .lt 13, 3) := by decide +kernel
theorem dJ2_getChar_3b067_18 : decode cJ2_getChar_3b067 18 = .ok (.new 52, 3) := by decide +kernel
theorem dJ2_getChar_3b067_21 : decode cJ2_getChar_3b067 21 = .ok (.dup, 1) := by decide +kernel
theorem dJ2_getChar_3b067_22 : decode cJ2_getChar_3b067 22 = .ok (.ldc 54, 2) := by decide +kernel
theorem dJ2_getChar_3b067_24 : decode cJ2_getChar_3b067 24 = .ok (.invokespecial 56, 3) := by decide +kernel
theorem dJ2_getChar_3b067_27 : decode cJ2_getChar_3b067 27 = .ok (.athrow, 1) := by decide +kernel
theorem dJ2_getChar_3b067_28 : decode cJ2_getChar_3b067 28 = .ok (.iload_n 1, 1) := by decide +kernel
theorem dJ2_getChar_3b067_29 : decode cJ2_getChar_3b067 29 = .ok (.iconst 1, 1) := by decide +kernel
theorem dJ2_getChar_3b067_30 : decode cJ2_getChar_3b067 30 = .ok (.ishl, 1) := by decide +kernel
theorem dJ2_getChar_3b067_31 : decode cJ2_getChar_3b067 31 = .ok (.istore_n 1, 1) := by decide +kernel
theorem dJ2_getChar_3b067_32 : decode cJ2_getChar_3b067 32 = .ok (.aload_n 0, 1) := by decide +kernel
theorem dJ2_getChar_3b067_33 : decode cJ2_getChar_3b067 33 = .ok (.iload_n 1, 1) := by decide +kernel
theorem dJ2_getChar_3b067_34 : decode cJ2_getChar_3b067 34 = .ok (.iinc 1 1, 3) := by decide +kernel
theorem dJ2_getChar_3b067_37 : decode cJ2_getChar_3b067 37 = .ok (.baload, 1) := by decide +kernel
theorem dJ2_getChar_3b067_38 : decode cJ2_getChar_3b067 38 = .ok (.sipush 255, 3) := by decide +kernel
theorem dJ2_getChar_3b067_41 : decode cJ2_getChar_3b067 41 = .ok (.iand, 1) := by decide +kernel
theorem dJ2_getChar_3b067_42 : decode cJ2_getChar_3b067 42 = .ok (.getstatic 59, 3) := by decide +kernel
theorem dJ2_getChar_3b067_45 : decode cJ2_getChar_3b067 45 = .ok (.ishl, 1) := by decide +kernel
theorem dJ2_getChar_3b067_46 : decode cJ2_getChar_3b067 46 = .ok (.aload_n 0, 1) := by decide +kernel
theorem dJ2_getChar_3b067_47 : decode cJ2_getChar_3b067 47 = .ok (.iload_n 1, 1) := by decide +kernel
theorem dJ2_getChar_3b067_48 : decode cJ2_getChar_3b067 48 = .ok (.baload, 1) := by decide +kernel
theorem dJ2_getChar_3b067_49 : decode cJ2_getChar_3b067 49 = .ok (.sipush 255, 3) := by decide +kernel
theorem dJ2_getChar_3b067_52 : decode cJ2_getChar_3b067 52 = .ok (.iand, 1) := by decide +kernel
theorem dJ2_getChar_3b067_53 : decode cJ2_getChar_3b067 53 = .ok (.getstatic 63, 3) := by decide +kernel
theorem dJ2_getChar_3b067_56 : decode cJ2_getChar_3b067 56 = .ok (.ishl, 1) := by decide +kernel
theorem dJ2_getChar_3b067_57 : decode cJ2_getChar_3b067 57 = .ok (.ior, 1) := by decide +kernel
theorem dJ2_getChar_3b067_58 : decode cJ2_getChar_3b067 58 = .ok (.i2c, 1) := by decide +kernel
theorem dJ2_getChar_3b067_59 : decode cJ2_getChar_3b067 59 = .ok (.ireturn, 1) := by decide +kernel
theorem dJ2_length_9d52b_0 : decode cJ2_length_9d52b 0 = .ok (.aload_n 0, 1) := by decide +kernel
theorem dJ2_length_9d52b_1 : decode cJ2_length_9d52b 1 = .ok (.arraylength, 1) := by decide +kernel
theorem dJ2_length_9d52b_2 : decode cJ2_length_9d52b 2 = .ok (.iconst 1, 1) := by decide +kernel
theorem dJ2_length_9d52b_3 : decode cJ2_length_9d52b 3 = .ok (.ishr, 1) := by decide +kernel
theorem dJ2_length_9d52b_4 : decode cJ2_length_9d52b 4 = .ok (.ireturn, 1) := by decide +kernel
theorem dJ2_charAt_3b067_0 : decode cJ2_charAt_3b067 0 = .ok (.iload_n 1, 1) := by decide +kernel
theorem dJ2_charAt_3b067_1 : decode cJ2_charAt_3b067 1 = .ok (.aload_n 0, 1) := by decide +kernel
theorem dJ2_charAt_3b067_2 : decode cJ2_charAt_3b067 2 = .ok (.invokestatic 67, 3) := by decide +kernel
theorem dJ2_charAt_3b067_5 : decode cJ2_charAt_3b067 5 = .ok (.aload_n 0, 1) := by decide +kernel
theorem dJ2_charAt_3b067_6 : decode cJ2_charAt_3b067 6 = .ok (.iload_n 1, 1) := by decide +kernel
theorem dJ2_charAt_3b067_7 : decode cJ2_charAt_3b067 7 = .ok (.invokestatic 71, 3) := by decide +kernel
theorem dJ2_charAt_3b067_10 : decode cJ2_charAt_3b067 10 = .ok (.ireturn, 1) := by decide +kernel
theorem dJ2_checkIndex_2214a_0 : decode cJ2_checkIndex_2214a 0 = .ok (.iload_n 0, 1) := by decide +kernel
theorem dJ2_checkIndex_2214a_1 : decode cJ2_checkIndex_2214a 1 = .ok (.aload_n 1, 1) := by decide +kernel
theorem dJ2_checkIndex_2214a_2 : decode cJ2_checkIndex_2214a 2 = .ok (.invokestatic 48, 3) := by decide +kernel
theorem dJ2_checkIndex_2214a_5 : decode cJ2_checkIndex_2214a 5 = .ok (.invokestatic 414, 3) := by decide +kernel
theorem dJ2_checkIndex_2214a_8 : decode cJ2_checkIndex_2214a 8 = .ok (.return_, 1) := by decide +kernel
theorem dJ7_fill_53178_0 : decode cJ7_fill_53178 0 = .ok (.iconst 0, 1) := by decide +kernel
theorem dJ7_fill_53178_1 : decode cJ7_fill_53178 1 = .ok (.istore_n 2, 1) := by decide +kernel
theorem dJ7_fill_53178_2 : decode cJ7_fill_53178 2 = .ok (.aload_n 0, 1) := by decide +kernel
theorem dJ7_fill_53178_3 : decode cJ7_fill_53178 3 = .ok (.arraylength, 1) := by decide +kernel
theorem dJ7_fill_53178_4 : decode cJ7_fill_53178 4 = .ok (.istore_n 3, 1) := by decide +kernel
theorem dJ7_fill_53178_5 : decode cJ7_fill_53178 5 = .ok (.iload_n 2, 1) := by decide +kernel
theorem dJ7_fill_53178_6 : decode cJ7_fill_53178 6 = .ok (.iload_n 3, 1) := by decide +kernel
theorem dJ7_fill_53178_7 : decode cJ7_fill_53178 7 = .ok (.if_icmp .ge 13, 3) := by decide +kernel
theorem dJ7_fill_53178_10 : decode cJ7_fill_53178 10 = .ok (.aload_n 0, 1) := by decide +kernel
theorem dJ7_fill_53178_11 : decode cJ7_fill_53178 11 = .ok (.iload_n 2, 1) := by decide +kernel
theorem dJ7_fill_53178_12 : decode cJ7_fill_53178 12 = .ok (.iload_n 1, 1) := by decide +kernel
theorem dJ7_fill_53178_13 : decode cJ7_fill_53178 13 = .ok (.iastore, 1) := by decide +kernel
theorem dJ7_fill_53178_14 : decode cJ7_fill_53178 14 = .ok (.iinc 2 1, 3) := by decide +kernel
theorem dJ7_fill_53178_17 : decode cJ7_fill_53178 17 = .ok (.goto (-12), 3) := by decide +kernel
theorem dJ7_fill_53178_20 : decode cJ7_fill_53178 20 = .ok (.return_, 1) := by decide +kernel
theorem dJ3_checkIndex_8e157_0 : decode cJ3_checkIndex_8e157 0 = .ok (.iload_n 0, 1) := by decide +kernel
theorem dJ3_checkIndex_8e157_1 : decode cJ3_checkIndex_8e157 1 = .ok (.ifCond .lt 8, 3) := by decide +kernel
theorem dJ3_checkIndex_8e157_4 : decode cJ3_checkIndex_8e157 4 = .ok (.iload_n 0, 1) := by decide +kernel
theorem dJ3_checkIndex_8e157_5 : decode cJ3_checkIndex_8e157 5 = .ok (.iload_n 1, 1) := by decide +kernel
theorem dJ3_checkIndex_8e157_6 : decode cJ3_checkIndex_8e157 6 = .ok (.if_icmp .lt 10, 3) := by decide +kernel
theorem dJ3_checkIndex_8e157_9 : decode cJ3_checkIndex_8e157 9 = .ok (.aload_n 2, 1) := by decide +kernel
theorem dJ3_checkIndex_8e157_10 : decode cJ3_checkIndex_8e157 10 = .ok (.iload_n 0, 1) := by decide +kernel
theorem dJ3_checkIndex_8e157_11 : decode cJ3_checkIndex_8e157 11 = .ok (.iload_n 1, 1) := by decide +kernel
theorem dJ3_checkIndex_8e157_12 : decode cJ3_checkIndex_8e157 12 = .ok (.invokestatic 95, 3) := by decide +kernel
theorem dJ3_checkIndex_8e157_15 : decode cJ3_checkIndex_8e157 15 = .ok (.athrow, 1) := by decide +kernel
theorem dJ3_checkIndex_8e157_16 : decode cJ3_checkIndex_8e157 16 = .ok (.iload_n 0, 1) := by decide +kernel
theorem dJ3_checkIndex_8e157_17 : decode cJ3_checkIndex_8e157 17 = .ok (.ireturn, 1) := by decide +kernel
theorem dL_led_0 : decode cL_led 0 = .ok (.aload_n 3, 1) := by decide +kernel
theorem dL_led_1 : decode cL_led 1 = .ok (.iconst 0, 1) := by decide +kernel
theorem dL_led_2 : decode cL_led 2 = .ok (.aload_n 0, 1) := by decide +kernel
theorem dL_led_3 : decode cL_led 3 = .ok (.iload_n 1, 1) := by decide +kernel
theorem dL_led_4 : decode cL_led 4 = .ok (.iload_n 2, 1) := by decide +kernel
theorem dL_led_5 : decode cL_led 5 = .ok (.invokevirtual 7, 3) := by decide +kernel
theorem dL_led_8 : decode cL_led 8 = .ok (.i2l, 1) := by decide +kernel
theorem dL_led_9 : decode cL_led 9 = .ok (.lastore, 1) := by decide +kernel
theorem dL_led_10 : decode cL_led 10 = .ok (.goto 7, 3) := by decide +kernel
theorem dL_led_13 : decode cL_led 13 = .ok (.astore 4, 2) := by decide +kernel
theorem dL_led_15 : decode cL_led 15 = .ok (.iconst 1, 1) := by decide +kernel
theorem dL_led_16 : decode cL_led 16 = .ok (.ireturn, 1) := by decide +kernel
theorem dL_led_17 : decode cL_led 17 = .ok (.iconst 0, 1) := by decide +kernel
theorem dL_led_18 : decode cL_led 18 = .ok (.ireturn, 1) := by decide +kernel
theorem dL_law_0 : decode cL_law 0 = .ok (.new 8, 3) := by decide +kernel
theorem dL_law_3 : decode cL_law 3 = .ok (.dup, 1) := by decide +kernel
theorem dL_law_4 : decode cL_law 4 = .ok (.invokespecial 15, 3) := by decide +kernel
theorem dL_law_7 : decode cL_law 7 = .ok (.astore_n 1, 1) := by decide +kernel
theorem dL_law_8 : decode cL_law 8 = .ok (.new 16, 3) := by decide +kernel
theorem dL_law_11 : decode cL_law 11 = .ok (.dup, 1) := by decide +kernel
theorem dL_law_12 : decode cL_law 12 = .ok (.invokespecial 18, 3) := by decide +kernel
theorem dL_law_15 : decode cL_law 15 = .ok (.astore_n 2, 1) := by decide +kernel
theorem dL_law_16 : decode cL_law 16 = .ok (.iconst 1, 1) := by decide +kernel
theorem dL_law_17 : decode cL_law 17 = .ok (.newarray .long, 2) := by decide +kernel
theorem dL_law_19 : decode cL_law 19 = .ok (.astore_n 3, 1) := by decide +kernel
theorem dL_law_20 : decode cL_law 20 = .ok (.iconst 0, 1) := by decide +kernel
theorem dL_law_21 : decode cL_law 21 = .ok (.istore 4, 2) := by decide +kernel
theorem dL_law_23 : decode cL_law 23 = .ok (.iload 4, 2) := by decide +kernel
theorem dL_law_25 : decode cL_law 25 = .ok (.aload_n 0, 1) := by decide +kernel
theorem dL_law_26 : decode cL_law 26 = .ok (.arraylength, 1) := by decide +kernel
theorem dL_law_27 : decode cL_law 27 = .ok (.bipush 6, 2) := by decide +kernel
theorem dL_law_29 : decode cL_law 29 = .ok (.isub, 1) := by decide +kernel
theorem dL_law_30 : decode cL_law 30 = .ok (.if_icmp .gt 1404, 3) := by decide +kernel
theorem dL_law_33 : decode cL_law 33 = .ok (.aload_n 0, 1) := by decide +kernel
theorem dL_law_34 : decode cL_law 34 = .ok (.iload 4, 2) := by decide +kernel
theorem dL_law_36 : decode cL_law 36 = .ok (.iaload, 1) := by decide +kernel
theorem dL_law_37 : decode cL_law 37 = .ok (.bipush 63, 2) := by decide +kernel
theorem dL_law_39 : decode cL_law 39 = .ok (.iand, 1) := by decide +kernel
theorem dL_law_40 : decode cL_law 40 = .ok (.tableswitch 1388 0 44 #[196, 269, 294, 307, 320, 333, 358, 411, 464, 501, 538, 575, 600, 625, 650, 663, 688, 725, 738, 763, 776, 801, 814, 827, 840, 865, 890, 903, 916, 929, 954, 991, 1004, 1017, 1054, 1091, 1144, 1157, 1170, 1183, 1208, 1245, 1282, 1350, 1375], 196) := by decide +kernel
theorem dL_law_236 : decode cL_law 236 = .ok (.aload_n 1, 1) := by decide +kernel
theorem dL_law_237 : decode cL_law 237 = .ok (.aload_n 0, 1) := by decide +kernel
theorem dL_law_238 : decode cL_law 238 = .ok (.iload 4, 2) := by decide +kernel
theorem dL_law_240 : decode cL_law 240 = .ok (.iconst 1, 1) := by decide +kernel
theorem dL_law_241 : decode cL_law 241 = .ok (.iadd, 1) := by decide +kernel
theorem dL_law_242 : decode cL_law 242 = .ok (.iaload, 1) := by decide +kernel
theorem dL_law_243 : decode cL_law 243 = .ok (.aload_n 0, 1) := by decide +kernel
theorem dL_law_244 : decode cL_law 244 = .ok (.iload 4, 2) := by decide +kernel
theorem dL_law_246 : decode cL_law 246 = .ok (.iconst 2, 1) := by decide +kernel
theorem dL_law_247 : decode cL_law 247 = .ok (.iadd, 1) := by decide +kernel
theorem dL_law_248 : decode cL_law 248 = .ok (.iaload, 1) := by decide +kernel
theorem dL_law_249 : decode cL_law 249 = .ok (.aload_n 0, 1) := by decide +kernel
theorem dL_law_250 : decode cL_law 250 = .ok (.iload 4, 2) := by decide +kernel
theorem dL_law_252 : decode cL_law 252 = .ok (.iconst 3, 1) := by decide +kernel
theorem dL_law_253 : decode cL_law 253 = .ok (.iadd, 1) := by decide +kernel
theorem dL_law_254 : decode cL_law 254 = .ok (.iaload, 1) := by decide +kernel
theorem dL_law_255 : decode cL_law 255 = .ok (.aload_n 0, 1) := by decide +kernel
theorem dL_law_256 : decode cL_law 256 = .ok (.iload 4, 2) := by decide +kernel
theorem dL_law_258 : decode cL_law 258 = .ok (.iconst 4, 1) := by decide +kernel
theorem dL_law_259 : decode cL_law 259 = .ok (.iadd, 1) := by decide +kernel
theorem dL_law_260 : decode cL_law 260 = .ok (.iaload, 1) := by decide +kernel
theorem dL_law_261 : decode cL_law 261 = .ok (.aload_n 0, 1) := by decide +kernel
theorem dL_law_262 : decode cL_law 262 = .ok (.iload 4, 2) := by decide +kernel
theorem dL_law_264 : decode cL_law 264 = .ok (.iconst 5, 1) := by decide +kernel
theorem dL_law_265 : decode cL_law 265 = .ok (.iadd, 1) := by decide +kernel
theorem dL_law_266 : decode cL_law 266 = .ok (.iaload, 1) := by decide +kernel
theorem dL_law_267 : decode cL_law 267 = .ok (.invokevirtual 19, 3) := by decide +kernel
theorem dL_law_270 : decode cL_law 270 = .ok (.aload_n 2, 1) := by decide +kernel
theorem dL_law_271 : decode cL_law 271 = .ok (.aload_n 0, 1) := by decide +kernel
theorem dL_law_272 : decode cL_law 272 = .ok (.iload 4, 2) := by decide +kernel
theorem dL_law_274 : decode cL_law 274 = .ok (.iconst 1, 1) := by decide +kernel
theorem dL_law_275 : decode cL_law 275 = .ok (.iadd, 1) := by decide +kernel
theorem dL_law_276 : decode cL_law 276 = .ok (.iaload, 1) := by decide +kernel
theorem dL_law_277 : decode cL_law 277 = .ok (.aload_n 0, 1) := by decide +kernel
theorem dL_law_278 : decode cL_law 278 = .ok (.iload 4, 2) := by decide +kernel
theorem dL_law_280 : decode cL_law 280 = .ok (.iconst 2, 1) := by decide +kernel
theorem dL_law_281 : decode cL_law 281 = .ok (.iadd, 1) := by decide +kernel
theorem dL_law_282 : decode cL_law 282 = .ok (.iaload, 1) := by decide +kernel
theorem dL_law_283 : decode cL_law 283 = .ok (.aload_n 0, 1) := by decide +kernel
theorem dL_law_284 : decode cL_law 284 = .ok (.iload 4, 2) := by decide +kernel
theorem dL_law_286 : decode cL_law 286 = .ok (.iconst 3, 1) := by decide +kernel
theorem dL_law_287 : decode cL_law 287 = .ok (.iadd, 1) := by decide +kernel
theorem dL_law_288 : decode cL_law 288 = .ok (.iaload, 1) := by decide +kernel
theorem dL_law_289 : decode cL_law 289 = .ok (.aload_n 0, 1) := by decide +kernel
theorem dL_law_290 : decode cL_law 290 = .ok (.iload 4, 2) := by decide +kernel
theorem dL_law_292 : decode cL_law 292 = .ok (.iconst 4, 1) := by decide +kernel
theorem dL_law_293 : decode cL_law 293 = .ok (.iadd, 1) := by decide +kernel
theorem dL_law_294 : decode cL_law 294 = .ok (.iaload, 1) := by decide +kernel
theorem dL_law_295 : decode cL_law 295 = .ok (.aload_n 0, 1) := by decide +kernel
theorem dL_law_296 : decode cL_law 296 = .ok (.iload 4, 2) := by decide +kernel
theorem dL_law_298 : decode cL_law 298 = .ok (.iconst 5, 1) := by decide +kernel
theorem dL_law_299 : decode cL_law 299 = .ok (.iadd, 1) := by decide +kernel
theorem dL_law_300 : decode cL_law 300 = .ok (.iaload, 1) := by decide +kernel
theorem dL_law_301 : decode cL_law 301 = .ok (.invokevirtual 23, 3) := by decide +kernel
theorem dL_law_304 : decode cL_law 304 = .ok (.if_icmp .eq 1124, 3) := by decide +kernel
theorem dL_law_307 : decode cL_law 307 = .ok (.iconst 0, 1) := by decide +kernel
theorem dL_law_308 : decode cL_law 308 = .ok (.ireturn, 1) := by decide +kernel
theorem dL_law_309 : decode cL_law 309 = .ok (.aload_n 1, 1) := by decide +kernel
theorem dL_law_310 : decode cL_law 310 = .ok (.aload_n 0, 1) := by decide +kernel
theorem dL_law_311 : decode cL_law 311 = .ok (.iload 4, 2) := by decide +kernel
theorem dL_law_313 : decode cL_law 313 = .ok (.iconst 1, 1) := by decide +kernel
theorem dL_law_314 : decode cL_law 314 = .ok (.iadd, 1) := by decide +kernel
theorem dL_law_315 : decode cL_law 315 = .ok (.iaload, 1) := by decide +kernel
theorem dL_law_316 : decode cL_law 316 = .ok (.invokevirtual 24, 3) := by decide +kernel
theorem dL_law_319 : decode cL_law 319 = .ok (.aload_n 2, 1) := by decide +kernel
theorem dL_law_320 : decode cL_law 320 = .ok (.aload_n 0, 1) := by decide +kernel
theorem dL_law_321 : decode cL_law 321 = .ok (.iload 4, 2) := by decide +kernel
theorem dL_law_323 : decode cL_law 323 = .ok (.iconst 1, 1) := by decide +kernel
theorem dL_law_324 : decode cL_law 324 = .ok (.iadd, 1) := by decide +kernel
theorem dL_law_325 : decode cL_law 325 = .ok (.iaload, 1) := by decide +kernel
theorem dL_law_326 : decode cL_law 326 = .ok (.invokevirtual 28, 3) := by decide +kernel
theorem dL_law_329 : decode cL_law 329 = .ok (.if_icmp .eq 1099, 3) := by decide +kernel
theorem dL_law_332 : decode cL_law 332 = .ok (.iconst 0, 1) := by decide +kernel
theorem dL_law_333 : decode cL_law 333 = .ok (.ireturn, 1) := by decide +kernel
theorem dL_law_334 : decode cL_law 334 = .ok (.aload_n 1, 1) := by decide +kernel
theorem dL_law_335 : decode cL_law 335 = .ok (.invokevirtual 29, 3) := by decide +kernel
theorem dL_law_338 : decode cL_law 338 = .ok (.aload_n 2, 1) := by decide +kernel
theorem dL_law_339 : decode cL_law 339 = .ok (.invokevirtual 33, 3) := by decide +kernel
theorem dL_law_342 : decode cL_law 342 = .ok (.if_icmp .eq 1086, 3) := by decide +kernel
theorem dL_law_345 : decode cL_law 345 = .ok (.iconst 0, 1) := by decide +kernel
theorem dL_law_346 : decode cL_law 346 = .ok (.ireturn, 1) := by decide +kernel
theorem dL_law_347 : decode cL_law 347 = .ok (.aload_n 1, 1) := by decide +kernel
theorem dL_law_348 : decode cL_law 348 = .ok (.invokevirtual 34, 3) := by decide +kernel
theorem dL_law_351 : decode cL_law 351 = .ok (.aload_n 2, 1) := by decide +kernel
theorem dL_law_352 : decode cL_law 352 = .ok (.invokevirtual 37, 3) := by decide +kernel
theorem dL_law_355 : decode cL_law 355 = .ok (.if_icmp .eq 1073, 3) := by decide +kernel
theorem dL_law_358 : decode cL_law 358 = .ok (.iconst 0, 1) := by decide +kernel
theorem dL_law_359 : decode cL_law 359 = .ok (.ireturn, 1) := by decide +kernel
theorem dL_law_360 : decode cL_law 360 = .ok (.aload_n 1, 1) := by decide +kernel
theorem dL_law_361 : decode cL_law 361 = .ok (.invokevirtual 38, 3) := by decide +kernel
theorem dL_law_364 : decode cL_law 364 = .ok (.aload_n 2, 1) := by decide +kernel
theorem dL_law_365 : decode cL_law 365 = .ok (.invokevirtual 41, 3) := by decide +kernel
theorem dL_law_368 : decode cL_law 368 = .ok (.if_icmp .eq 1060, 3) := by decide +kernel
theorem dL_law_371 : decode cL_law 371 = .ok (.iconst 0, 1) := by decide +kernel
theorem dL_law_372 : decode cL_law 372 = .ok (.ireturn, 1) := by decide +kernel
theorem dL_law_373 : decode cL_law 373 = .ok (.aload_n 1, 1) := by decide +kernel
theorem dL_law_374 : decode cL_law 374 = .ok (.aload_n 0, 1) := by decide +kernel
theorem dL_law_375 : decode cL_law 375 = .ok (.iload 4, 2) := by decide +kernel
theorem dL_law_377 : decode cL_law 377 = .ok (.iconst 1, 1) := by decide +kernel
theorem dL_law_378 : decode cL_law 378 = .ok (.iadd, 1) := by decide +kernel
theorem dL_law_379 : decode cL_law 379 = .ok (.iaload, 1) := by decide +kernel
theorem dL_law_380 : decode cL_law 380 = .ok (.invokevirtual 42, 3) := by decide +kernel
theorem dL_law_383 : decode cL_law 383 = .ok (.aload_n 2, 1) := by decide +kernel
theorem dL_law_384 : decode cL_law 384 = .ok (.aload_n 0, 1) := by decide +kernel
theorem dL_law_385 : decode cL_law 385 = .ok (.iload 4, 2) := by decide +kernel
theorem dL_law_387 : decode cL_law 387 = .ok (.iconst 1, 1) := by decide +kernel
theorem dL_law_388 : decode cL_law 388 = .ok (.iadd, 1) := by decide +kernel
theorem dL_law_389 : decode cL_law 389 = .ok (.iaload, 1) := by decide +kernel
theorem dL_law_390 : decode cL_law 390 = .ok (.invokevirtual 45, 3) := by decide +kernel
theorem dL_law_393 : decode cL_law 393 = .ok (.if_icmp .eq 1035, 3) := by decide +kernel
theorem dL_law_396 : decode cL_law 396 = .ok (.iconst 0, 1) := by decide +kernel
theorem dL_law_397 : decode cL_law 397 = .ok (.ireturn, 1) := by decide +kernel
theorem dL_law_398 : decode cL_law 398 = .ok (.aload_n 1, 1) := by decide +kernel
theorem dL_law_399 : decode cL_law 399 = .ok (.aload_n 0, 1) := by decide +kernel
theorem dL_law_400 : decode cL_law 400 = .ok (.iload 4, 2) := by decide +kernel
theorem dL_law_402 : decode cL_law 402 = .ok (.iconst 1, 1) := by decide +kernel
theorem dL_law_403 : decode cL_law 403 = .ok (.iadd, 1) := by decide +kernel
theorem dL_law_404 : decode cL_law 404 = .ok (.iaload, 1) := by decide +kernel
theorem dL_law_405 : decode cL_law 405 = .ok (.aload_n 0, 1) := by decide +kernel
theorem dL_law_406 : decode cL_law 406 = .ok (.iload 4, 2) := by decide +kernel
theorem dL_law_408 : decode cL_law 408 = .ok (.iconst 2, 1) := by decide +kernel
theorem dL_law_409 : decode cL_law 409 = .ok (.iadd, 1) := by decide +kernel
theorem dL_law_410 : decode cL_law 410 = .ok (.iaload, 1) := by decide +kernel
theorem dL_law_411 : decode cL_law 411 = .ok (.ifCond .eq 7, 3) := by decide +kernel
theorem dL_law_414 : decode cL_law 414 = .ok (.iconst 1, 1) := by decide +kernel
theorem dL_law_415 : decode cL_law 415 = .ok (.goto 4, 3) := by decide +kernel
theorem dL_law_418 : decode cL_law 418 = .ok (.iconst 0, 1) := by decide +kernel
theorem dL_law_419 : decode cL_law 419 = .ok (.invokevirtual 46, 3) := by decide +kernel
theorem dL_law_422 : decode cL_law 422 = .ok (.aload_n 2, 1) := by decide +kernel
theorem dL_law_423 : decode cL_law 423 = .ok (.aload_n 0, 1) := by decide +kernel
theorem dL_law_424 : decode cL_law 424 = .ok (.iload 4, 2) := by decide +kernel
theorem dL_law_426 : decode cL_law 426 = .ok (.iconst 1, 1) := by decide +kernel
theorem dL_law_427 : decode cL_law 427 = .ok (.iadd, 1) := by decide +kernel
theorem dL_law_428 : decode cL_law 428 = .ok (.iaload, 1) := by decide +kernel
theorem dL_law_429 : decode cL_law 429 = .ok (.aload_n 0, 1) := by decide +kernel
theorem dL_law_430 : decode cL_law 430 = .ok (.iload 4, 2) := by decide +kernel
theorem dL_law_432 : decode cL_law 432 = .ok (.iconst 2, 1) := by decide +kernel
theorem dL_law_433 : decode cL_law 433 = .ok (.iadd, 1) := by decide +kernel
theorem dL_law_434 : decode cL_law 434 = .ok (.iaload, 1) := by decide +kernel
theorem dL_law_435 : decode cL_law 435 = .ok (.ifCond .eq 7, 3) := by decide +kernel
theorem dL_law_438 : decode cL_law 438 = .ok (.iconst 1, 1) := by decide +kernel
theorem dL_law_439 : decode cL_law 439 = .ok (.goto 4, 3) := by decide +kernel
theorem dL_law_442 : decode cL_law 442 = .ok (.iconst 0, 1) := by decide +kernel
theorem dL_law_443 : decode cL_law 443 = .ok (.invokevirtual 50, 3) := by decide +kernel
theorem dL_law_446 : decode cL_law 446 = .ok (.if_icmp .eq 982, 3) := by decide +kernel
theorem dL_law_449 : decode cL_law 449 = .ok (.iconst 0, 1) := by decide +kernel
theorem dL_law_450 : decode cL_law 450 = .ok (.ireturn, 1) := by decide +kernel
theorem dL_law_451 : decode cL_law 451 = .ok (.aload_n 1, 1) := by decide +kernel
theorem dL_law_452 : decode cL_law 452 = .ok (.aload_n 0, 1) := by decide +kernel
theorem dL_law_453 : decode cL_law 453 = .ok (.iload 4, 2) := by decide +kernel
theorem dL_law_455 : decode cL_law 455 = .ok (.iconst 1, 1) := by decide +kernel
theorem dL_law_456 : decode cL_law 456 = .ok (.iadd, 1) := by decide +kernel
theorem dL_law_457 : decode cL_law 457 = .ok (.iaload, 1) := by decide +kernel
theorem dL_law_458 : decode cL_law 458 = .ok (.aload_n 0, 1) := by decide +kernel
theorem dL_law_459 : decode cL_law 459 = .ok (.iload 4, 2) := by decide +kernel
theorem dL_law_461 : decode cL_law 461 = .ok (.iconst 2, 1) := by decide +kernel
theorem dL_law_462 : decode cL_law 462 = .ok (.iadd, 1) := by decide +kernel
theorem dL_law_463 : decode cL_law 463 = .ok (.iaload, 1) := by decide +kernel
theorem dL_law_464 : decode cL_law 464 = .ok (.ifCond .eq 7, 3) := by decide +kernel
theorem dL_law_467 : decode cL_law 467 = .ok (.iconst 1, 1) := by decide +kernel
theorem dL_law_468 : decode cL_law 468 = .ok (.goto 4, 3) := by decide +kernel
theorem dL_law_471 : decode cL_law 471 = .ok (.iconst 0, 1) := by decide +kernel
theorem dL_law_472 : decode cL_law 472 = .ok (.invokevirtual 51, 3) := by decide +kernel
theorem dL_law_475 : decode cL_law 475 = .ok (.aload_n 2, 1) := by decide +kernel
theorem dL_law_476 : decode cL_law 476 = .ok (.aload_n 0, 1) := by decide +kernel
theorem dL_law_477 : decode cL_law 477 = .ok (.iload 4, 2) := by decide +kernel
theorem dL_law_479 : decode cL_law 479 = .ok (.iconst 1, 1) := by decide +kernel
theorem dL_law_480 : decode cL_law 480 = .ok (.iadd, 1) := by decide +kernel
theorem dL_law_481 : decode cL_law 481 = .ok (.iaload, 1) := by decide +kernel
theorem dL_law_482 : decode cL_law 482 = .ok (.aload_n 0, 1) := by decide +kernel
theorem dL_law_483 : decode cL_law 483 = .ok (.iload 4, 2) := by decide +kernel
theorem dL_law_485 : decode cL_law 485 = .ok (.iconst 2, 1) := by decide +kernel
theorem dL_law_486 : decode cL_law 486 = .ok (.iadd, 1) := by decide +kernel
theorem dL_law_487 : decode cL_law 487 = .ok (.iaload, 1) := by decide +kernel
theorem dL_law_488 : decode cL_law 488 = .ok (.ifCond .eq 7, 3) := by decide +kernel
theorem dL_law_491 : decode cL_law 491 = .ok (.iconst 1, 1) := by decide +kernel
theorem dL_law_492 : decode cL_law 492 = .ok (.goto 4, 3) := by decide +kernel
theorem dL_law_495 : decode cL_law 495 = .ok (.iconst 0, 1) := by decide +kernel
theorem dL_law_496 : decode cL_law 496 = .ok (.invokevirtual 54, 3) := by decide +kernel
theorem dL_law_499 : decode cL_law 499 = .ok (.if_icmp .eq 929, 3) := by decide +kernel
theorem dL_law_502 : decode cL_law 502 = .ok (.iconst 0, 1) := by decide +kernel
theorem dL_law_503 : decode cL_law 503 = .ok (.ireturn, 1) := by decide +kernel
theorem dL_law_504 : decode cL_law 504 = .ok (.aload_n 1, 1) := by decide +kernel
theorem dL_law_505 : decode cL_law 505 = .ok (.aload_n 0, 1) := by decide +kernel
theorem dL_law_506 : decode cL_law 506 = .ok (.iload 4, 2) := by decide +kernel
theorem dL_law_508 : decode cL_law 508 = .ok (.iconst 1, 1) := by decide +kernel
theorem dL_law_509 : decode cL_law 509 = .ok (.iadd, 1) := by decide +kernel
theorem dL_law_510 : decode cL_law 510 = .ok (.iaload, 1) := by decide +kernel
theorem dL_law_511 : decode cL_law 511 = .ok (.aload_n 0, 1) := by decide +kernel
theorem dL_law_512 : decode cL_law 512 = .ok (.iload 4, 2) := by decide +kernel
theorem dL_law_514 : decode cL_law 514 = .ok (.iconst 2, 1) := by decide +kernel
theorem dL_law_515 : decode cL_law 515 = .ok (.iadd, 1) := by decide +kernel
theorem dL_law_516 : decode cL_law 516 = .ok (.iaload, 1) := by decide +kernel
theorem dL_law_517 : decode cL_law 517 = .ok (.invokevirtual 55, 3) := by decide +kernel
theorem dL_law_520 : decode cL_law 520 = .ok (.aload_n 2, 1) := by decide +kernel
theorem dL_law_521 : decode cL_law 521 = .ok (.aload_n 0, 1) := by decide +kernel
theorem dL_law_522 : decode cL_law 522 = .ok (.iload 4, 2) := by decide +kernel
theorem dL_law_524 : decode cL_law 524 = .ok (.iconst 1, 1) := by decide +kernel
theorem dL_law_525 : decode cL_law 525 = .ok (.iadd, 1) := by decide +kernel
theorem dL_law_526 : decode cL_law 526 = .ok (.iaload, 1) := by decide +kernel
theorem dL_law_527 : decode cL_law 527 = .ok (.aload_n 0, 1) := by decide +kernel
theorem dL_law_528 : decode cL_law 528 = .ok (.iload 4, 2) := by decide +kernel
theorem dL_law_530 : decode cL_law 530 = .ok (.iconst 2, 1) := by decide +kernel
theorem dL_law_531 : decode cL_law 531 = .ok (.iadd, 1) := by decide +kernel
theorem dL_law_532 : decode cL_law 532 = .ok (.iaload, 1) := by decide +kernel
theorem dL_law_533 : decode cL_law 533 = .ok (.invokevirtual 58, 3) := by decide +kernel
theorem dL_law_536 : decode cL_law 536 = .ok (.if_icmp .eq 892, 3) := by decide +kernel
theorem dL_law_539 : decode cL_law 539 = .ok (.iconst 0, 1) := by decide +kernel
theorem dL_law_540 : decode cL_law 540 = .ok (.ireturn, 1) := by decide +kernel
theorem dL_law_541 : decode cL_law 541 = .ok (.aload_n 1, 1) := by decide +kernel
theorem dL_law_542 : decode cL_law 542 = .ok (.aload_n 0, 1) := by decide +kernel
theorem dL_law_543 : decode cL_law 543 = .ok (.iload 4, 2) := by decide +kernel
theorem dL_law_545 : decode cL_law 545 = .ok (.iconst 1, 1) := by decide +kernel
theorem dL_law_546 : decode cL_law 546 = .ok (.iadd, 1) := by decide +kernel
theorem dL_law_547 : decode cL_law 547 = .ok (.iaload, 1) := by decide +kernel
theorem dL_law_548 : decode cL_law 548 = .ok (.aload_n 0, 1) := by decide +kernel
theorem dL_law_549 : decode cL_law 549 = .ok (.iload 4, 2) := by decide +kernel
theorem dL_law_551 : decode cL_law 551 = .ok (.iconst 2, 1) := by decide +kernel
theorem dL_law_552 : decode cL_law 552 = .ok (.iadd, 1) := by decide +kernel
theorem dL_law_553 : decode cL_law 553 = .ok (.iaload, 1) := by decide +kernel
theorem dL_law_554 : decode cL_law 554 = .ok (.invokevirtual 59, 3) := by decide +kernel
theorem dL_law_557 : decode cL_law 557 = .ok (.aload_n 2, 1) := by decide +kernel
theorem dL_law_558 : decode cL_law 558 = .ok (.aload_n 0, 1) := by decide +kernel
theorem dL_law_559 : decode cL_law 559 = .ok (.iload 4, 2) := by decide +kernel
theorem dL_law_561 : decode cL_law 561 = .ok (.iconst 1, 1) := by decide +kernel
theorem dL_law_562 : decode cL_law 562 = .ok (.iadd, 1) := by decide +kernel
theorem dL_law_563 : decode cL_law 563 = .ok (.iaload, 1) := by decide +kernel
theorem dL_law_564 : decode cL_law 564 = .ok (.aload_n 0, 1) := by decide +kernel
theorem dL_law_565 : decode cL_law 565 = .ok (.iload 4, 2) := by decide +kernel
theorem dL_law_567 : decode cL_law 567 = .ok (.iconst 2, 1) := by decide +kernel
theorem dL_law_568 : decode cL_law 568 = .ok (.iadd, 1) := by decide +kernel
theorem dL_law_569 : decode cL_law 569 = .ok (.iaload, 1) := by decide +kernel
theorem dL_law_570 : decode cL_law 570 = .ok (.invokevirtual 62, 3) := by decide +kernel
theorem dL_law_573 : decode cL_law 573 = .ok (.if_icmp .eq 855, 3) := by decide +kernel
theorem dL_law_576 : decode cL_law 576 = .ok (.iconst 0, 1) := by decide +kernel
theorem dL_law_577 : decode cL_law 577 = .ok (.ireturn, 1) := by decide +kernel
theorem dL_law_578 : decode cL_law 578 = .ok (.aload_n 1, 1) := by decide +kernel
theorem dL_law_579 : decode cL_law 579 = .ok (.aload_n 0, 1) := by decide +kernel
theorem dL_law_580 : decode cL_law 580 = .ok (.iload 4, 2) := by decide +kernel
theorem dL_law_582 : decode cL_law 582 = .ok (.iconst 1, 1) := by decide +kernel
theorem dL_law_583 : decode cL_law 583 = .ok (.iadd, 1) := by decide +kernel
theorem dL_law_584 : decode cL_law 584 = .ok (.iaload, 1) := by decide +kernel
theorem dL_law_585 : decode cL_law 585 = .ok (.aload_n 0, 1) := by decide +kernel
theorem dL_law_586 : decode cL_law 586 = .ok (.iload 4, 2) := by decide +kernel
theorem dL_law_588 : decode cL_law 588 = .ok (.iconst 2, 1) := by decide +kernel
theorem dL_law_589 : decode cL_law 589 = .ok (.iadd, 1) := by decide +kernel
theorem dL_law_590 : decode cL_law 590 = .ok (.iaload, 1) := by decide +kernel
theorem dL_law_591 : decode cL_law 591 = .ok (.invokevirtual 63, 3) := by decide +kernel
theorem dL_law_594 : decode cL_law 594 = .ok (.aload_n 2, 1) := by decide +kernel
theorem dL_law_595 : decode cL_law 595 = .ok (.aload_n 0, 1) := by decide +kernel
theorem dL_law_596 : decode cL_law 596 = .ok (.iload 4, 2) := by decide +kernel
theorem dL_law_598 : decode cL_law 598 = .ok (.iconst 1, 1) := by decide +kernel
theorem dL_law_599 : decode cL_law 599 = .ok (.iadd, 1) := by decide +kernel
theorem dL_law_600 : decode cL_law 600 = .ok (.iaload, 1) := by decide +kernel
theorem dL_law_601 : decode cL_law 601 = .ok (.aload_n 0, 1) := by decide +kernel
theorem dL_law_602 : decode cL_law 602 = .ok (.iload 4, 2) := by decide +kernel
theorem dL_law_604 : decode cL_law 604 = .ok (.iconst 2, 1) := by decide +kernel
theorem dL_law_605 : decode cL_law 605 = .ok (.iadd, 1) := by decide +kernel
theorem dL_law_606 : decode cL_law 606 = .ok (.iaload, 1) := by decide +kernel
theorem dL_law_607 : decode cL_law 607 = .ok (.invokevirtual 66, 3) := by decide +kernel
theorem dL_law_610 : decode cL_law 610 = .ok (.if_icmp .eq 818, 3) := by decide +kernel
theorem dL_law_613 : decode cL_law 613 = .ok (.iconst 0, 1) := by decide +kernel
theorem dL_law_614 : decode cL_law 614 = .ok (.ireturn, 1) := by decide +kernel
theorem dL_law_615 : decode cL_law 615 = .ok (.aload_n 1, 1) := by decide +kernel
theorem dL_law_616 : decode cL_law 616 = .ok (.aload_n 0, 1) := by decide +kernel
theorem dL_law_617 : decode cL_law 617 = .ok (.iload 4, 2) := by decide +kernel
theorem dL_law_619 : decode cL_law 619 = .ok (.iconst 1, 1) := by decide +kernel
theorem dL_law_620 : decode cL_law 620 = .ok (.iadd, 1) := by decide +kernel
theorem dL_law_621 : decode cL_law 621 = .ok (.iaload, 1) := by decide +kernel
theorem dL_law_622 : decode cL_law 622 = .ok (.invokevirtual 67, 3) := by decide +kernel
theorem dL_law_625 : decode cL_law 625 = .ok (.aload_n 2, 1) := by decide +kernel
theorem dL_law_626 : decode cL_law 626 = .ok (.aload_n 0, 1) := by decide +kernel
theorem dL_law_627 : decode cL_law 627 = .ok (.iload 4, 2) := by decide +kernel
theorem dL_law_629 : decode cL_law 629 = .ok (.iconst 1, 1) := by decide +kernel
theorem dL_law_630 : decode cL_law 630 = .ok (.iadd, 1) := by decide +kernel
theorem dL_law_631 : decode cL_law 631 = .ok (.iaload, 1) := by decide +kernel
theorem dL_law_632 : decode cL_law 632 = .ok (.invokevirtual 70, 3) := by decide +kernel
theorem dL_law_635 : decode cL_law 635 = .ok (.if_icmp .eq 793, 3) := by decide +kernel
theorem dL_law_638 : decode cL_law 638 = .ok (.iconst 0, 1) := by decide +kernel
theorem dL_law_639 : decode cL_law 639 = .ok (.ireturn, 1) := by decide +kernel
theorem dL_law_640 : decode cL_law 640 = .ok (.aload_n 1, 1) := by decide +kernel
theorem dL_law_641 : decode cL_law 641 = .ok (.aload_n 0, 1) := by decide +kernel
theorem dL_law_642 : decode cL_law 642 = .ok (.iload 4, 2) := by decide +kernel
theorem dL_law_644 : decode cL_law 644 = .ok (.iconst 1, 1) := by decide +kernel
theorem dL_law_645 : decode cL_law 645 = .ok (.iadd, 1) := by decide +kernel
theorem dL_law_646 : decode cL_law 646 = .ok (.iaload, 1) := by decide +kernel
theorem dL_law_647 : decode cL_law 647 = .ok (.invokevirtual 71, 3) := by decide +kernel
theorem dL_law_650 : decode cL_law 650 = .ok (.aload_n 2, 1) := by decide +kernel
theorem dL_law_651 : decode cL_law 651 = .ok (.aload_n 0, 1) := by decide +kernel
theorem dL_law_652 : decode cL_law 652 = .ok (.iload 4, 2) := by decide +kernel
theorem dL_law_654 : decode cL_law 654 = .ok (.iconst 1, 1) := by decide +kernel
theorem dL_law_655 : decode cL_law 655 = .ok (.iadd, 1) := by decide +kernel
theorem dL_law_656 : decode cL_law 656 = .ok (.iaload, 1) := by decide +kernel
theorem dL_law_657 : decode cL_law 657 = .ok (.invokevirtual 74, 3) := by decide +kernel
theorem dL_law_660 : decode cL_law 660 = .ok (.if_icmp .eq 768, 3) := by decide +kernel
theorem dL_law_663 : decode cL_law 663 = .ok (.iconst 0, 1) := by decide +kernel
theorem dL_law_664 : decode cL_law 664 = .ok (.ireturn, 1) := by decide +kernel
theorem dL_law_665 : decode cL_law 665 = .ok (.aload_n 1, 1) := by decide +kernel
theorem dL_law_666 : decode cL_law 666 = .ok (.aload_n 0, 1) := by decide +kernel
theorem dL_law_667 : decode cL_law 667 = .ok (.iload 4, 2) := by decide +kernel
theorem dL_law_669 : decode cL_law 669 = .ok (.iconst 1, 1) := by decide +kernel
theorem dL_law_670 : decode cL_law 670 = .ok (.iadd, 1) := by decide +kernel
theorem dL_law_671 : decode cL_law 671 = .ok (.iaload, 1) := by decide +kernel
theorem dL_law_672 : decode cL_law 672 = .ok (.invokevirtual 75, 3) := by decide +kernel
theorem dL_law_675 : decode cL_law 675 = .ok (.aload_n 2, 1) := by decide +kernel
theorem dL_law_676 : decode cL_law 676 = .ok (.aload_n 0, 1) := by decide +kernel
theorem dL_law_677 : decode cL_law 677 = .ok (.iload 4, 2) := by decide +kernel
theorem dL_law_679 : decode cL_law 679 = .ok (.iconst 1, 1) := by decide +kernel
theorem dL_law_680 : decode cL_law 680 = .ok (.iadd, 1) := by decide +kernel
theorem dL_law_681 : decode cL_law 681 = .ok (.iaload, 1) := by decide +kernel
theorem dL_law_682 : decode cL_law 682 = .ok (.invokevirtual 78, 3) := by decide +kernel
theorem dL_law_685 : decode cL_law 685 = .ok (.if_icmp .eq 743, 3) := by decide +kernel
theorem dL_law_688 : decode cL_law 688 = .ok (.iconst 0, 1) := by decide +kernel
theorem dL_law_689 : decode cL_law 689 = .ok (.ireturn, 1) := by decide +kernel
theorem dL_law_690 : decode cL_law 690 = .ok (.aload_n 1, 1) := by decide +kernel
theorem dL_law_691 : decode cL_law 691 = .ok (.invokevirtual 79, 3) := by decide +kernel
theorem dL_law_694 : decode cL_law 694 = .ok (.aload_n 2, 1) := by decide +kernel
theorem dL_law_695 : decode cL_law 695 = .ok (.invokevirtual 82, 3) := by decide +kernel
theorem dL_law_698 : decode cL_law 698 = .ok (.if_icmp .eq 730, 3) := by decide +kernel
theorem dL_law_701 : decode cL_law 701 = .ok (.iconst 0, 1) := by decide +kernel
theorem dL_law_702 : decode cL_law 702 = .ok (.ireturn, 1) := by decide +kernel
theorem dL_law_703 : decode cL_law 703 = .ok (.aload_n 1, 1) := by decide +kernel
theorem dL_law_704 : decode cL_law 704 = .ok (.aload_n 0, 1) := by decide +kernel
theorem dL_law_705 : decode cL_law 705 = .ok (.iload 4, 2) := by decide +kernel
theorem dL_law_707 : decode cL_law 707 = .ok (.iconst 1, 1) := by decide +kernel
theorem dL_law_708 : decode cL_law 708 = .ok (.iadd, 1) := by decide +kernel
theorem dL_law_709 : decode cL_law 709 = .ok (.iaload, 1) := by decide +kernel
theorem dL_law_710 : decode cL_law 710 = .ok (.invokevirtual 83, 3) := by decide +kernel
theorem dL_law_713 : decode cL_law 713 = .ok (.aload_n 2, 1) := by decide +kernel
theorem dL_law_714 : decode cL_law 714 = .ok (.aload_n 0, 1) := by decide +kernel
theorem dL_law_715 : decode cL_law 715 = .ok (.iload 4, 2) := by decide +kernel
theorem dL_law_717 : decode cL_law 717 = .ok (.iconst 1, 1) := by decide +kernel
theorem dL_law_718 : decode cL_law 718 = .ok (.iadd, 1) := by decide +kernel
theorem dL_law_719 : decode cL_law 719 = .ok (.iaload, 1) := by decide +kernel
theorem dL_law_720 : decode cL_law 720 = .ok (.invokevirtual 86, 3) := by decide +kernel
theorem dL_law_723 : decode cL_law 723 = .ok (.if_icmp .eq 705, 3) := by decide +kernel
theorem dL_law_726 : decode cL_law 726 = .ok (.iconst 0, 1) := by decide +kernel
theorem dL_law_727 : decode cL_law 727 = .ok (.ireturn, 1) := by decide +kernel
theorem dL_law_728 : decode cL_law 728 = .ok (.aload_n 1, 1) := by decide +kernel
theorem dL_law_729 : decode cL_law 729 = .ok (.aload_n 0, 1) := by decide +kernel
theorem dL_law_730 : decode cL_law 730 = .ok (.iload 4, 2) := by decide +kernel
theorem dL_law_732 : decode cL_law 732 = .ok (.iconst 1, 1) := by decide +kernel
theorem dL_law_733 : decode cL_law 733 = .ok (.iadd, 1) := by decide +kernel
theorem dL_law_734 : decode cL_law 734 = .ok (.iaload, 1) := by decide +kernel
theorem dL_law_735 : decode cL_law 735 = .ok (.aload_n 0, 1) := by decide +kernel
theorem dL_law_736 : decode cL_law 736 = .ok (.iload 4, 2) := by decide +kernel
theorem dL_law_738 : decode cL_law 738 = .ok (.iconst 2, 1) := by decide +kernel
theorem dL_law_739 : decode cL_law 739 = .ok (.iadd, 1) := by decide +kernel
theorem dL_law_740 : decode cL_law 740 = .ok (.iaload, 1) := by decide +kernel
theorem dL_law_741 : decode cL_law 741 = .ok (.invokevirtual 87, 3) := by decide +kernel
theorem dL_law_744 : decode cL_law 744 = .ok (.aload_n 2, 1) := by decide +kernel
theorem dL_law_745 : decode cL_law 745 = .ok (.aload_n 0, 1) := by decide +kernel
theorem dL_law_746 : decode cL_law 746 = .ok (.iload 4, 2) := by decide +kernel
theorem dL_law_748 : decode cL_law 748 = .ok (.iconst 1, 1) := by decide +kernel
theorem dL_law_749 : decode cL_law 749 = .ok (.iadd, 1) := by decide +kernel
theorem dL_law_750 : decode cL_law 750 = .ok (.iaload, 1) := by decide +kernel
theorem dL_law_751 : decode cL_law 751 = .ok (.aload_n 0, 1) := by decide +kernel
theorem dL_law_752 : decode cL_law 752 = .ok (.iload 4, 2) := by decide +kernel
theorem dL_law_754 : decode cL_law 754 = .ok (.iconst 2, 1) := by decide +kernel
theorem dL_law_755 : decode cL_law 755 = .ok (.iadd, 1) := by decide +kernel
theorem dL_law_756 : decode cL_law 756 = .ok (.iaload, 1) := by decide +kernel
theorem dL_law_757 : decode cL_law 757 = .ok (.invokevirtual 90, 3) := by decide +kernel
theorem dL_law_760 : decode cL_law 760 = .ok (.if_icmp .eq 668, 3) := by decide +kernel
theorem dL_law_763 : decode cL_law 763 = .ok (.iconst 0, 1) := by decide +kernel
theorem dL_law_764 : decode cL_law 764 = .ok (.ireturn, 1) := by decide +kernel
theorem dL_law_765 : decode cL_law 765 = .ok (.aload_n 1, 1) := by decide +kernel
theorem dL_law_766 : decode cL_law 766 = .ok (.invokevirtual 91, 3) := by decide +kernel
theorem dL_law_769 : decode cL_law 769 = .ok (.aload_n 2, 1) := by decide +kernel
theorem dL_law_770 : decode cL_law 770 = .ok (.invokevirtual 94, 3) := by decide +kernel
theorem dL_law_773 : decode cL_law 773 = .ok (.if_icmp .eq 655, 3) := by decide +kernel
theorem dL_law_776 : decode cL_law 776 = .ok (.iconst 0, 1) := by decide +kernel
theorem dL_law_777 : decode cL_law 777 = .ok (.ireturn, 1) := by decide +kernel
theorem dL_law_778 : decode cL_law 778 = .ok (.aload_n 1, 1) := by decide +kernel
theorem dL_law_779 : decode cL_law 779 = .ok (.aload_n 0, 1) := by decide +kernel
theorem dL_law_780 : decode cL_law 780 = .ok (.iload 4, 2) := by decide +kernel
theorem dL_law_782 : decode cL_law 782 = .ok (.iconst 1, 1) := by decide +kernel
theorem dL_law_783 : decode cL_law 783 = .ok (.iadd, 1) := by decide +kernel
theorem dL_law_784 : decode cL_law 784 = .ok (.iaload, 1) := by decide +kernel
theorem dL_law_785 : decode cL_law 785 = .ok (.invokevirtual 95, 3) := by decide +kernel
theorem dL_law_788 : decode cL_law 788 = .ok (.aload_n 2, 1) := by decide +kernel
theorem dL_law_789 : decode cL_law 789 = .ok (.aload_n 0, 1) := by decide +kernel
theorem dL_law_790 : decode cL_law 790 = .ok (.iload 4, 2) := by decide +kernel
theorem dL_law_792 : decode cL_law 792 = .ok (.iconst 1, 1) := by decide +kernel
theorem dL_law_793 : decode cL_law 793 = .ok (.iadd, 1) := by decide +kernel
theorem dL_law_794 : decode cL_law 794 = .ok (.iaload, 1) := by decide +kernel
theorem dL_law_795 : decode cL_law 795 = .ok (.invokevirtual 98, 3) := by decide +kernel
theorem dL_law_798 : decode cL_law 798 = .ok (.if_icmp .eq 630, 3) := by decide +kernel
theorem dL_law_801 : decode cL_law 801 = .ok (.iconst 0, 1) := by decide +kernel
theorem dL_law_802 : decode cL_law 802 = .ok (.ireturn, 1) := by decide +kernel
theorem dL_law_803 : decode cL_law 803 = .ok (.aload_n 1, 1) := by decide +kernel
theorem dL_law_804 : decode cL_law 804 = .ok (.invokevirtual 99, 3) := by decide +kernel
theorem dL_law_807 : decode cL_law 807 = .ok (.aload_n 2, 1) := by decide +kernel
theorem dL_law_808 : decode cL_law 808 = .ok (.invokevirtual 102, 3) := by decide +kernel
theorem dL_law_811 : decode cL_law 811 = .ok (.if_icmp .eq 617, 3) := by decide +kernel
theorem dL_law_814 : decode cL_law 814 = .ok (.iconst 0, 1) := by decide +kernel
theorem dL_law_815 : decode cL_law 815 = .ok (.ireturn, 1) := by decide +kernel
theorem dL_law_816 : decode cL_law 816 = .ok (.aload_n 1, 1) := by decide +kernel
theorem dL_law_817 : decode cL_law 817 = .ok (.aload_n 0, 1) := by decide +kernel
theorem dL_law_818 : decode cL_law 818 = .ok (.iload 4, 2) := by decide +kernel
theorem dL_law_820 : decode cL_law 820 = .ok (.iconst 1, 1) := by decide +kernel
theorem dL_law_821 : decode cL_law 821 = .ok (.iadd, 1) := by decide +kernel
theorem dL_law_822 : decode cL_law 822 = .ok (.iaload, 1) := by decide +kernel
theorem dL_law_823 : decode cL_law 823 = .ok (.invokevirtual 103, 3) := by decide +kernel
theorem dL_law_826 : decode cL_law 826 = .ok (.aload_n 2, 1) := by decide +kernel
theorem dL_law_827 : decode cL_law 827 = .ok (.aload_n 0, 1) := by decide +kernel
theorem dL_law_828 : decode cL_law 828 = .ok (.iload 4, 2) := by decide +kernel
theorem dL_law_830 : decode cL_law 830 = .ok (.iconst 1, 1) := by decide +kernel
theorem dL_law_831 : decode cL_law 831 = .ok (.iadd, 1) := by decide +kernel
theorem dL_law_832 : decode cL_law 832 = .ok (.iaload, 1) := by decide +kernel
theorem dL_law_833 : decode cL_law 833 = .ok (.invokevirtual 106, 3) := by decide +kernel
theorem dL_law_836 : decode cL_law 836 = .ok (.if_icmp .eq 592, 3) := by decide +kernel
theorem dL_law_839 : decode cL_law 839 = .ok (.iconst 0, 1) := by decide +kernel
theorem dL_law_840 : decode cL_law 840 = .ok (.ireturn, 1) := by decide +kernel
theorem dL_law_841 : decode cL_law 841 = .ok (.aload_n 1, 1) := by decide +kernel
theorem dL_law_842 : decode cL_law 842 = .ok (.invokevirtual 107, 3) := by decide +kernel
theorem dL_law_845 : decode cL_law 845 = .ok (.aload_n 2, 1) := by decide +kernel
theorem dL_law_846 : decode cL_law 846 = .ok (.invokevirtual 110, 3) := by decide +kernel
theorem dL_law_849 : decode cL_law 849 = .ok (.if_icmp .eq 579, 3) := by decide +kernel
theorem dL_law_852 : decode cL_law 852 = .ok (.iconst 0, 1) := by decide +kernel
theorem dL_law_853 : decode cL_law 853 = .ok (.ireturn, 1) := by decide +kernel
theorem dL_law_854 : decode cL_law 854 = .ok (.aload_n 1, 1) := by decide +kernel
theorem dL_law_855 : decode cL_law 855 = .ok (.invokevirtual 111, 3) := by decide +kernel
theorem dL_law_858 : decode cL_law 858 = .ok (.aload_n 2, 1) := by decide +kernel
theorem dL_law_859 : decode cL_law 859 = .ok (.invokevirtual 114, 3) := by decide +kernel
theorem dL_law_862 : decode cL_law 862 = .ok (.if_icmp .eq 566, 3) := by decide +kernel
theorem dL_law_865 : decode cL_law 865 = .ok (.iconst 0, 1) := by decide +kernel
theorem dL_law_866 : decode cL_law 866 = .ok (.ireturn, 1) := by decide +kernel
theorem dL_law_867 : decode cL_law 867 = .ok (.aload_n 1, 1) := by decide +kernel
theorem dL_law_868 : decode cL_law 868 = .ok (.invokevirtual 115, 3) := by decide +kernel
theorem dL_law_871 : decode cL_law 871 = .ok (.aload_n 2, 1) := by decide +kernel
theorem dL_law_872 : decode cL_law 872 = .ok (.invokevirtual 118, 3) := by decide +kernel
theorem dL_law_875 : decode cL_law 875 = .ok (.if_icmp .eq 553, 3) := by decide +kernel
theorem dL_law_878 : decode cL_law 878 = .ok (.iconst 0, 1) := by decide +kernel
theorem dL_law_879 : decode cL_law 879 = .ok (.ireturn, 1) := by decide +kernel
theorem dL_law_880 : decode cL_law 880 = .ok (.aload_n 1, 1) := by decide +kernel
theorem dL_law_881 : decode cL_law 881 = .ok (.aload_n 0, 1) := by decide +kernel
theorem dL_law_882 : decode cL_law 882 = .ok (.iload 4, 2) := by decide +kernel
theorem dL_law_884 : decode cL_law 884 = .ok (.iconst 1, 1) := by decide +kernel
theorem dL_law_885 : decode cL_law 885 = .ok (.iadd, 1) := by decide +kernel
theorem dL_law_886 : decode cL_law 886 = .ok (.iaload, 1) := by decide +kernel
theorem dL_law_887 : decode cL_law 887 = .ok (.invokevirtual 119, 3) := by decide +kernel
theorem dL_law_890 : decode cL_law 890 = .ok (.aload_n 2, 1) := by decide +kernel
theorem dL_law_891 : decode cL_law 891 = .ok (.aload_n 0, 1) := by decide +kernel
theorem dL_law_892 : decode cL_law 892 = .ok (.iload 4, 2) := by decide +kernel
theorem dL_law_894 : decode cL_law 894 = .ok (.iconst 1, 1) := by decide +kernel
theorem dL_law_895 : decode cL_law 895 = .ok (.iadd, 1) := by decide +kernel
theorem dL_law_896 : decode cL_law 896 = .ok (.iaload, 1) := by decide +kernel
theorem dL_law_897 : decode cL_law 897 = .ok (.invokevirtual 122, 3) := by decide +kernel
theorem dL_law_900 : decode cL_law 900 = .ok (.if_icmp .eq 528, 3) := by decide +kernel
theorem dL_law_903 : decode cL_law 903 = .ok (.iconst 0, 1) := by decide +kernel
theorem dL_law_904 : decode cL_law 904 = .ok (.ireturn, 1) := by decide +kernel
theorem dL_law_905 : decode cL_law 905 = .ok (.aload_n 1, 1) := by decide +kernel
theorem dL_law_906 : decode cL_law 906 = .ok (.aload_n 0, 1) := by decide +kernel
theorem dL_law_907 : decode cL_law 907 = .ok (.iload 4, 2) := by decide +kernel
theorem dL_law_909 : decode cL_law 909 = .ok (.iconst 1, 1) := by decide +kernel
theorem dL_law_910 : decode cL_law 910 = .ok (.iadd, 1) := by decide +kernel
theorem dL_law_911 : decode cL_law 911 = .ok (.iaload, 1) := by decide +kernel
theorem dL_law_912 : decode cL_law 912 = .ok (.invokevirtual 123, 3) := by decide +kernel
theorem dL_law_915 : decode cL_law 915 = .ok (.aload_n 2, 1) := by decide +kernel
theorem dL_law_916 : decode cL_law 916 = .ok (.aload_n 0, 1) := by decide +kernel
theorem dL_law_917 : decode cL_law 917 = .ok (.iload 4, 2) := by decide +kernel
theorem dL_law_919 : decode cL_law 919 = .ok (.iconst 1, 1) := by decide +kernel
theorem dL_law_920 : decode cL_law 920 = .ok (.iadd, 1) := by decide +kernel
theorem dL_law_921 : decode cL_law 921 = .ok (.iaload, 1) := by decide +kernel
theorem dL_law_922 : decode cL_law 922 = .ok (.invokevirtual 126, 3) := by decide +kernel
theorem dL_law_925 : decode cL_law 925 = .ok (.if_icmp .eq 503, 3) := by decide +kernel
theorem dL_law_928 : decode cL_law 928 = .ok (.iconst 0, 1) := by decide +kernel
theorem dL_law_929 : decode cL_law 929 = .ok (.ireturn, 1) := by decide +kernel
theorem dL_law_930 : decode cL_law 930 = .ok (.aload_n 1, 1) := by decide +kernel
theorem dL_law_931 : decode cL_law 931 = .ok (.invokevirtual 127, 3) := by decide +kernel
theorem dL_law_934 : decode cL_law 934 = .ok (.aload_n 2, 1) := by decide +kernel
theorem dL_law_935 : decode cL_law 935 = .ok (.invokevirtual 130, 3) := by decide +kernel
theorem dL_law_938 : decode cL_law 938 = .ok (.if_icmp .eq 490, 3) := by decide +kernel
theorem dL_law_941 : decode cL_law 941 = .ok (.iconst 0, 1) := by decide +kernel
theorem dL_law_942 : decode cL_law 942 = .ok (.ireturn, 1) := by decide +kernel
theorem dL_law_943 : decode cL_law 943 = .ok (.aload_n 1, 1) := by decide +kernel
theorem dL_law_944 : decode cL_law 944 = .ok (.invokevirtual 131, 3) := by decide +kernel
theorem dL_law_947 : decode cL_law 947 = .ok (.aload_n 2, 1) := by decide +kernel
theorem dL_law_948 : decode cL_law 948 = .ok (.invokevirtual 134, 3) := by decide +kernel
theorem dL_law_951 : decode cL_law 951 = .ok (.if_icmp .eq 477, 3) := by decide +kernel
theorem dL_law_954 : decode cL_law 954 = .ok (.iconst 0, 1) := by decide +kernel
theorem dL_law_955 : decode cL_law 955 = .ok (.ireturn, 1) := by decide +kernel
theorem dL_law_956 : decode cL_law 956 = .ok (.aload_n 1, 1) := by decide +kernel
theorem dL_law_957 : decode cL_law 957 = .ok (.invokevirtual 135, 3) := by decide +kernel
theorem dL_law_960 : decode cL_law 960 = .ok (.aload_n 2, 1) := by decide +kernel
theorem dL_law_961 : decode cL_law 961 = .ok (.invokevirtual 138, 3) := by decide +kernel
theorem dL_law_964 : decode cL_law 964 = .ok (.if_icmp .eq 464, 3) := by decide +kernel
theorem dL_law_967 : decode cL_law 967 = .ok (.iconst 0, 1) := by decide +kernel
theorem dL_law_968 : decode cL_law 968 = .ok (.ireturn, 1) := by decide +kernel
theorem dL_law_969 : decode cL_law 969 = .ok (.aload_n 1, 1) := by decide +kernel
theorem dL_law_970 : decode cL_law 970 = .ok (.aload_n 0, 1) := by decide +kernel
theorem dL_law_971 : decode cL_law 971 = .ok (.iload 4, 2) := by decide +kernel
theorem dL_law_973 : decode cL_law 973 = .ok (.iconst 1, 1) := by decide +kernel
theorem dL_law_974 : decode cL_law 974 = .ok (.iadd, 1) := by decide +kernel
theorem dL_law_975 : decode cL_law 975 = .ok (.iaload, 1) := by decide +kernel
theorem dL_law_976 : decode cL_law 976 = .ok (.invokevirtual 139, 3) := by decide +kernel
theorem dL_law_979 : decode cL_law 979 = .ok (.aload_n 2, 1) := by decide +kernel
theorem dL_law_980 : decode cL_law 980 = .ok (.aload_n 0, 1) := by decide +kernel
theorem dL_law_981 : decode cL_law 981 = .ok (.iload 4, 2) := by decide +kernel
theorem dL_law_983 : decode cL_law 983 = .ok (.iconst 1, 1) := by decide +kernel
theorem dL_law_984 : decode cL_law 984 = .ok (.iadd, 1) := by decide +kernel
theorem dL_law_985 : decode cL_law 985 = .ok (.iaload, 1) := by decide +kernel
theorem dL_law_986 : decode cL_law 986 = .ok (.invokevirtual 142, 3) := by decide +kernel
theorem dL_law_989 : decode cL_law 989 = .ok (.if_icmp .eq 439, 3) := by decide +kernel
theorem dL_law_992 : decode cL_law 992 = .ok (.iconst 0, 1) := by decide +kernel
theorem dL_law_993 : decode cL_law 993 = .ok (.ireturn, 1) := by decide +kernel
theorem dL_law_994 : decode cL_law 994 = .ok (.aload_n 1, 1) := by decide +kernel
theorem dL_law_995 : decode cL_law 995 = .ok (.aload_n 0, 1) := by decide +kernel
theorem dL_law_996 : decode cL_law 996 = .ok (.iload 4, 2) := by decide +kernel
theorem dL_law_998 : decode cL_law 998 = .ok (.iconst 1, 1) := by decide +kernel
theorem dL_law_999 : decode cL_law 999 = .ok (.iadd, 1) := by decide +kernel
theorem dL_law_1000 : decode cL_law 1000 = .ok (.iaload, 1) := by decide +kernel
theorem dL_law_1001 : decode cL_law 1001 = .ok (.aload_n 0, 1) := by decide +kernel
theorem dL_law_1002 : decode cL_law 1002 = .ok (.iload 4, 2) := by decide +kernel
theorem dL_law_1004 : decode cL_law 1004 = .ok (.iconst 2, 1) := by decide +kernel
theorem dL_law_1005 : decode cL_law 1005 = .ok (.iadd, 1) := by decide +kernel
theorem dL_law_1006 : decode cL_law 1006 = .ok (.iaload, 1) := by decide +kernel
theorem dL_law_1007 : decode cL_law 1007 = .ok (.invokevirtual 143, 3) := by decide +kernel
theorem dL_law_1010 : decode cL_law 1010 = .ok (.aload_n 2, 1) := by decide +kernel
theorem dL_law_1011 : decode cL_law 1011 = .ok (.aload_n 0, 1) := by decide +kernel
theorem dL_law_1012 : decode cL_law 1012 = .ok (.iload 4, 2) := by decide +kernel
theorem dL_law_1014 : decode cL_law 1014 = .ok (.iconst 1, 1) := by decide +kernel
theorem dL_law_1015 : decode cL_law 1015 = .ok (.iadd, 1) := by decide +kernel
theorem dL_law_1016 : decode cL_law 1016 = .ok (.iaload, 1) := by decide +kernel
theorem dL_law_1017 : decode cL_law 1017 = .ok (.aload_n 0, 1) := by decide +kernel
theorem dL_law_1018 : decode cL_law 1018 = .ok (.iload 4, 2) := by decide +kernel
theorem dL_law_1020 : decode cL_law 1020 = .ok (.iconst 2, 1) := by decide +kernel
theorem dL_law_1021 : decode cL_law 1021 = .ok (.iadd, 1) := by decide +kernel
theorem dL_law_1022 : decode cL_law 1022 = .ok (.iaload, 1) := by decide +kernel
theorem dL_law_1023 : decode cL_law 1023 = .ok (.invokevirtual 146, 3) := by decide +kernel
theorem dL_law_1026 : decode cL_law 1026 = .ok (.if_icmp .eq 402, 3) := by decide +kernel
theorem dL_law_1029 : decode cL_law 1029 = .ok (.iconst 0, 1) := by decide +kernel
theorem dL_law_1030 : decode cL_law 1030 = .ok (.ireturn, 1) := by decide +kernel
theorem dL_law_1031 : decode cL_law 1031 = .ok (.aload_n 1, 1) := by decide +kernel
theorem dL_law_1032 : decode cL_law 1032 = .ok (.invokevirtual 147, 3) := by decide +kernel
theorem dL_law_1035 : decode cL_law 1035 = .ok (.aload_n 2, 1) := by decide +kernel
theorem dL_law_1036 : decode cL_law 1036 = .ok (.invokevirtual 150, 3) := by decide +kernel
theorem dL_law_1039 : decode cL_law 1039 = .ok (.if_icmp .eq 389, 3) := by decide +kernel
theorem dL_law_1042 : decode cL_law 1042 = .ok (.iconst 0, 1) := by decide +kernel
theorem dL_law_1043 : decode cL_law 1043 = .ok (.ireturn, 1) := by decide +kernel
theorem dL_law_1044 : decode cL_law 1044 = .ok (.aload_n 1, 1) := by decide +kernel
theorem dL_law_1045 : decode cL_law 1045 = .ok (.invokevirtual 151, 3) := by decide +kernel
theorem dL_law_1048 : decode cL_law 1048 = .ok (.aload_n 2, 1) := by decide +kernel
theorem dL_law_1049 : decode cL_law 1049 = .ok (.invokevirtual 154, 3) := by decide +kernel
theorem dL_law_1052 : decode cL_law 1052 = .ok (.if_icmp .eq 376, 3) := by decide +kernel
theorem dL_law_1055 : decode cL_law 1055 = .ok (.iconst 0, 1) := by decide +kernel
theorem dL_law_1056 : decode cL_law 1056 = .ok (.ireturn, 1) := by decide +kernel
theorem dL_law_1057 : decode cL_law 1057 = .ok (.aload_n 1, 1) := by decide +kernel
theorem dL_law_1058 : decode cL_law 1058 = .ok (.aload_n 0, 1) := by decide +kernel
theorem dL_law_1059 : decode cL_law 1059 = .ok (.iload 4, 2) := by decide +kernel
theorem dL_law_1061 : decode cL_law 1061 = .ok (.iconst 1, 1) := by decide +kernel
theorem dL_law_1062 : decode cL_law 1062 = .ok (.iadd, 1) := by decide +kernel
theorem dL_law_1063 : decode cL_law 1063 = .ok (.iaload, 1) := by decide +kernel
theorem dL_law_1064 : decode cL_law 1064 = .ok (.aload_n 0, 1) := by decide +kernel
theorem dL_law_1065 : decode cL_law 1065 = .ok (.iload 4, 2) := by decide +kernel
theorem dL_law_1067 : decode cL_law 1067 = .ok (.iconst 2, 1) := by decide +kernel
theorem dL_law_1068 : decode cL_law 1068 = .ok (.iadd, 1) := by decide +kernel
theorem dL_law_1069 : decode cL_law 1069 = .ok (.iaload, 1) := by decide +kernel
theorem dL_law_1070 : decode cL_law 1070 = .ok (.invokevirtual 155, 3) := by decide +kernel
theorem dL_law_1073 : decode cL_law 1073 = .ok (.aload_n 2, 1) := by decide +kernel
theorem dL_law_1074 : decode cL_law 1074 = .ok (.aload_n 0, 1) := by decide +kernel
theorem dL_law_1075 : decode cL_law 1075 = .ok (.iload 4, 2) := by decide +kernel
theorem dL_law_1077 : decode cL_law 1077 = .ok (.iconst 1, 1) := by decide +kernel
theorem dL_law_1078 : decode cL_law 1078 = .ok (.iadd, 1) := by decide +kernel
theorem dL_law_1079 : decode cL_law 1079 = .ok (.iaload, 1) := by decide +kernel
theorem dL_law_1080 : decode cL_law 1080 = .ok (.aload_n 0, 1) := by decide +kernel
theorem dL_law_1081 : decode cL_law 1081 = .ok (.iload 4, 2) := by decide +kernel
theorem dL_law_1083 : decode cL_law 1083 = .ok (.iconst 2, 1) := by decide +kernel
theorem dL_law_1084 : decode cL_law 1084 = .ok (.iadd, 1) := by decide +kernel
theorem dL_law_1085 : decode cL_law 1085 = .ok (.iaload, 1) := by decide +kernel
theorem dL_law_1086 : decode cL_law 1086 = .ok (.invokevirtual 159, 3) := by decide +kernel
theorem dL_law_1089 : decode cL_law 1089 = .ok (.if_icmp .eq 339, 3) := by decide +kernel
theorem dL_law_1092 : decode cL_law 1092 = .ok (.iconst 0, 1) := by decide +kernel
theorem dL_law_1093 : decode cL_law 1093 = .ok (.ireturn, 1) := by decide +kernel
theorem dL_law_1094 : decode cL_law 1094 = .ok (.aload_n 1, 1) := by decide +kernel
theorem dL_law_1095 : decode cL_law 1095 = .ok (.aload_n 0, 1) := by decide +kernel
theorem dL_law_1096 : decode cL_law 1096 = .ok (.iload 4, 2) := by decide +kernel
theorem dL_law_1098 : decode cL_law 1098 = .ok (.iconst 1, 1) := by decide +kernel
theorem dL_law_1099 : decode cL_law 1099 = .ok (.iadd, 1) := by decide +kernel
theorem dL_law_1100 : decode cL_law 1100 = .ok (.iaload, 1) := by decide +kernel
theorem dL_law_1101 : decode cL_law 1101 = .ok (.aload_n 0, 1) := by decide +kernel
theorem dL_law_1102 : decode cL_law 1102 = .ok (.iload 4, 2) := by decide +kernel
theorem dL_law_1104 : decode cL_law 1104 = .ok (.iconst 2, 1) := by decide +kernel
theorem dL_law_1105 : decode cL_law 1105 = .ok (.iadd, 1) := by decide +kernel
theorem dL_law_1106 : decode cL_law 1106 = .ok (.iaload, 1) := by decide +kernel
theorem dL_law_1107 : decode cL_law 1107 = .ok (.invokevirtual 160, 3) := by decide +kernel
theorem dL_law_1110 : decode cL_law 1110 = .ok (.aload_n 2, 1) := by decide +kernel
theorem dL_law_1111 : decode cL_law 1111 = .ok (.aload_n 0, 1) := by decide +kernel
theorem dL_law_1112 : decode cL_law 1112 = .ok (.iload 4, 2) := by decide +kernel
theorem dL_law_1114 : decode cL_law 1114 = .ok (.iconst 1, 1) := by decide +kernel
theorem dL_law_1115 : decode cL_law 1115 = .ok (.iadd, 1) := by decide +kernel
theorem dL_law_1116 : decode cL_law 1116 = .ok (.iaload, 1) := by decide +kernel
theorem dL_law_1117 : decode cL_law 1117 = .ok (.aload_n 0, 1) := by decide +kernel
theorem dL_law_1118 : decode cL_law 1118 = .ok (.iload 4, 2) := by decide +kernel
theorem dL_law_1120 : decode cL_law 1120 = .ok (.iconst 2, 1) := by decide +kernel
theorem dL_law_1121 : decode cL_law 1121 = .ok (.iadd, 1) := by decide +kernel
theorem dL_law_1122 : decode cL_law 1122 = .ok (.iaload, 1) := by decide +kernel
theorem dL_law_1123 : decode cL_law 1123 = .ok (.invokevirtual 163, 3) := by decide +kernel
theorem dL_law_1126 : decode cL_law 1126 = .ok (.if_icmp .eq 302, 3) := by decide +kernel
theorem dL_law_1129 : decode cL_law 1129 = .ok (.iconst 0, 1) := by decide +kernel
theorem dL_law_1130 : decode cL_law 1130 = .ok (.ireturn, 1) := by decide +kernel
theorem dL_law_1131 : decode cL_law 1131 = .ok (.aload_n 1, 1) := by decide +kernel
theorem dL_law_1132 : decode cL_law 1132 = .ok (.aload_n 0, 1) := by decide +kernel
theorem dL_law_1133 : decode cL_law 1133 = .ok (.iload 4, 2) := by decide +kernel
theorem dL_law_1135 : decode cL_law 1135 = .ok (.iconst 1, 1) := by decide +kernel
theorem dL_law_1136 : decode cL_law 1136 = .ok (.iadd, 1) := by decide +kernel
theorem dL_law_1137 : decode cL_law 1137 = .ok (.iaload, 1) := by decide +kernel
theorem dL_law_1138 : decode cL_law 1138 = .ok (.aload_n 0, 1) := by decide +kernel
theorem dL_law_1139 : decode cL_law 1139 = .ok (.iload 4, 2) := by decide +kernel
theorem dL_law_1141 : decode cL_law 1141 = .ok (.iconst 2, 1) := by decide +kernel
theorem dL_law_1142 : decode cL_law 1142 = .ok (.iadd, 1) := by decide +kernel
theorem dL_law_1143 : decode cL_law 1143 = .ok (.iaload, 1) := by decide +kernel
theorem dL_law_1144 : decode cL_law 1144 = .ok (.ifCond .eq 7, 3) := by decide +kernel
theorem dL_law_1147 : decode cL_law 1147 = .ok (.iconst 1, 1) := by decide +kernel
theorem dL_law_1148 : decode cL_law 1148 = .ok (.goto 4, 3) := by decide +kernel
theorem dL_law_1151 : decode cL_law 1151 = .ok (.iconst 0, 1) := by decide +kernel
theorem dL_law_1152 : decode cL_law 1152 = .ok (.invokevirtual 164, 3) := by decide +kernel
theorem dL_law_1155 : decode cL_law 1155 = .ok (.aload_n 2, 1) := by decide +kernel
theorem dL_law_1156 : decode cL_law 1156 = .ok (.aload_n 0, 1) := by decide +kernel
theorem dL_law_1157 : decode cL_law 1157 = .ok (.iload 4, 2) := by decide +kernel
theorem dL_law_1159 : decode cL_law 1159 = .ok (.iconst 1, 1) := by decide +kernel
theorem dL_law_1160 : decode cL_law 1160 = .ok (.iadd, 1) := by decide +kernel
theorem dL_law_1161 : decode cL_law 1161 = .ok (.iaload, 1) := by decide +kernel
theorem dL_law_1162 : decode cL_law 1162 = .ok (.aload_n 0, 1) := by decide +kernel
theorem dL_law_1163 : decode cL_law 1163 = .ok (.iload 4, 2) := by decide +kernel
theorem dL_law_1165 : decode cL_law 1165 = .ok (.iconst 2, 1) := by decide +kernel
theorem dL_law_1166 : decode cL_law 1166 = .ok (.iadd, 1) := by decide +kernel
theorem dL_law_1167 : decode cL_law 1167 = .ok (.iaload, 1) := by decide +kernel
theorem dL_law_1168 : decode cL_law 1168 = .ok (.ifCond .eq 7, 3) := by decide +kernel
theorem dL_law_1171 : decode cL_law 1171 = .ok (.iconst 1, 1) := by decide +kernel
theorem dL_law_1172 : decode cL_law 1172 = .ok (.goto 4, 3) := by decide +kernel
theorem dL_law_1175 : decode cL_law 1175 = .ok (.iconst 0, 1) := by decide +kernel
theorem dL_law_1176 : decode cL_law 1176 = .ok (.invokevirtual 168, 3) := by decide +kernel
theorem dL_law_1179 : decode cL_law 1179 = .ok (.if_icmp .eq 249, 3) := by decide +kernel
theorem dL_law_1182 : decode cL_law 1182 = .ok (.iconst 0, 1) := by decide +kernel
theorem dL_law_1183 : decode cL_law 1183 = .ok (.ireturn, 1) := by decide +kernel
theorem dL_law_1184 : decode cL_law 1184 = .ok (.aload_n 1, 1) := by decide +kernel
theorem dL_law_1185 : decode cL_law 1185 = .ok (.invokevirtual 169, 3) := by decide +kernel
theorem dL_law_1188 : decode cL_law 1188 = .ok (.aload_n 2, 1) := by decide +kernel
theorem dL_law_1189 : decode cL_law 1189 = .ok (.invokevirtual 173, 3) := by decide +kernel
theorem dL_law_1192 : decode cL_law 1192 = .ok (.if_icmp .eq 236, 3) := by decide +kernel
theorem dL_law_1195 : decode cL_law 1195 = .ok (.iconst 0, 1) := by decide +kernel
theorem dL_law_1196 : decode cL_law 1196 = .ok (.ireturn, 1) := by decide +kernel
theorem dL_law_1197 : decode cL_law 1197 = .ok (.aload_n 1, 1) := by decide +kernel
theorem dL_law_1198 : decode cL_law 1198 = .ok (.invokevirtual 174, 3) := by decide +kernel
theorem dL_law_1201 : decode cL_law 1201 = .ok (.aload_n 2, 1) := by decide +kernel
theorem dL_law_1202 : decode cL_law 1202 = .ok (.invokevirtual 177, 3) := by decide +kernel
theorem dL_law_1205 : decode cL_law 1205 = .ok (.if_icmp .eq 223, 3) := by decide +kernel
theorem dL_law_1208 : decode cL_law 1208 = .ok (.iconst 0, 1) := by decide +kernel
theorem dL_law_1209 : decode cL_law 1209 = .ok (.ireturn, 1) := by decide +kernel
theorem dL_law_1210 : decode cL_law 1210 = .ok (.aload_n 1, 1) := by decide +kernel
theorem dL_law_1211 : decode cL_law 1211 = .ok (.invokevirtual 178, 3) := by decide +kernel
theorem dL_law_1214 : decode cL_law 1214 = .ok (.aload_n 2, 1) := by decide +kernel
theorem dL_law_1215 : decode cL_law 1215 = .ok (.invokevirtual 181, 3) := by decide +kernel
theorem dL_law_1218 : decode cL_law 1218 = .ok (.if_icmp .eq 210, 3) := by decide +kernel
theorem dL_law_1221 : decode cL_law 1221 = .ok (.iconst 0, 1) := by decide +kernel
theorem dL_law_1222 : decode cL_law 1222 = .ok (.ireturn, 1) := by decide +kernel
theorem dL_law_1223 : decode cL_law 1223 = .ok (.aload_n 1, 1) := by decide +kernel
theorem dL_law_1224 : decode cL_law 1224 = .ok (.aload_n 0, 1) := by decide +kernel
theorem dL_law_1225 : decode cL_law 1225 = .ok (.iload 4, 2) := by decide +kernel
theorem dL_law_1227 : decode cL_law 1227 = .ok (.iconst 1, 1) := by decide +kernel
theorem dL_law_1228 : decode cL_law 1228 = .ok (.iadd, 1) := by decide +kernel
theorem dL_law_1229 : decode cL_law 1229 = .ok (.iaload, 1) := by decide +kernel
theorem dL_law_1230 : decode cL_law 1230 = .ok (.invokevirtual 182, 3) := by decide +kernel
theorem dL_law_1233 : decode cL_law 1233 = .ok (.aload_n 2, 1) := by decide +kernel
theorem dL_law_1234 : decode cL_law 1234 = .ok (.aload_n 0, 1) := by decide +kernel
theorem dL_law_1235 : decode cL_law 1235 = .ok (.iload 4, 2) := by decide +kernel
theorem dL_law_1237 : decode cL_law 1237 = .ok (.iconst 1, 1) := by decide +kernel
theorem dL_law_1238 : decode cL_law 1238 = .ok (.iadd, 1) := by decide +kernel
theorem dL_law_1239 : decode cL_law 1239 = .ok (.iaload, 1) := by decide +kernel
theorem dL_law_1240 : decode cL_law 1240 = .ok (.invokevirtual 186, 3) := by decide +kernel
theorem dL_law_1243 : decode cL_law 1243 = .ok (.if_icmp .eq 185, 3) := by decide +kernel
theorem dL_law_1246 : decode cL_law 1246 = .ok (.iconst 0, 1) := by decide +kernel
theorem dL_law_1247 : decode cL_law 1247 = .ok (.ireturn, 1) := by decide +kernel
theorem dL_law_1248 : decode cL_law 1248 = .ok (.aload_n 1, 1) := by decide +kernel
theorem dL_law_1249 : decode cL_law 1249 = .ok (.aload_n 0, 1) := by decide +kernel
theorem dL_law_1250 : decode cL_law 1250 = .ok (.iload 4, 2) := by decide +kernel
theorem dL_law_1252 : decode cL_law 1252 = .ok (.iconst 1, 1) := by decide +kernel
theorem dL_law_1253 : decode cL_law 1253 = .ok (.iadd, 1) := by decide +kernel
theorem dL_law_1254 : decode cL_law 1254 = .ok (.iaload, 1) := by decide +kernel
theorem dL_law_1255 : decode cL_law 1255 = .ok (.aload_n 0, 1) := by decide +kernel
theorem dL_law_1256 : decode cL_law 1256 = .ok (.iload 4, 2) := by decide +kernel
theorem dL_law_1258 : decode cL_law 1258 = .ok (.iconst 2, 1) := by decide +kernel
theorem dL_law_1259 : decode cL_law 1259 = .ok (.iadd, 1) := by decide +kernel
theorem dL_law_1260 : decode cL_law 1260 = .ok (.iaload, 1) := by decide +kernel
theorem dL_law_1261 : decode cL_law 1261 = .ok (.invokevirtual 187, 3) := by decide +kernel
theorem dL_law_1264 : decode cL_law 1264 = .ok (.aload_n 2, 1) := by decide +kernel
theorem dL_law_1265 : decode cL_law 1265 = .ok (.aload_n 0, 1) := by decide +kernel
theorem dL_law_1266 : decode cL_law 1266 = .ok (.iload 4, 2) := by decide +kernel
theorem dL_law_1268 : decode cL_law 1268 = .ok (.iconst 1, 1) := by decide +kernel
theorem dL_law_1269 : decode cL_law 1269 = .ok (.iadd, 1) := by decide +kernel
theorem dL_law_1270 : decode cL_law 1270 = .ok (.iaload, 1) := by decide +kernel
theorem dL_law_1271 : decode cL_law 1271 = .ok (.aload_n 0, 1) := by decide +kernel
theorem dL_law_1272 : decode cL_law 1272 = .ok (.iload 4, 2) := by decide +kernel
theorem dL_law_1274 : decode cL_law 1274 = .ok (.iconst 2, 1) := by decide +kernel
theorem dL_law_1275 : decode cL_law 1275 = .ok (.iadd, 1) := by decide +kernel
theorem dL_law_1276 : decode cL_law 1276 = .ok (.iaload, 1) := by decide +kernel
theorem dL_law_1277 : decode cL_law 1277 = .ok (.invokevirtual 190, 3) := by decide +kernel
theorem dL_law_1280 : decode cL_law 1280 = .ok (.if_icmp .eq 148, 3) := by decide +kernel
theorem dL_law_1283 : decode cL_law 1283 = .ok (.iconst 0, 1) := by decide +kernel
theorem dL_law_1284 : decode cL_law 1284 = .ok (.ireturn, 1) := by decide +kernel
theorem dL_law_1285 : decode cL_law 1285 = .ok (.aload_n 1, 1) := by decide +kernel
theorem dL_law_1286 : decode cL_law 1286 = .ok (.aload_n 0, 1) := by decide +kernel
theorem dL_law_1287 : decode cL_law 1287 = .ok (.iload 4, 2) := by decide +kernel
theorem dL_law_1289 : decode cL_law 1289 = .ok (.iconst 1, 1) := by decide +kernel
theorem dL_law_1290 : decode cL_law 1290 = .ok (.iadd, 1) := by decide +kernel
theorem dL_law_1291 : decode cL_law 1291 = .ok (.iaload, 1) := by decide +kernel
theorem dL_law_1292 : decode cL_law 1292 = .ok (.aload_n 0, 1) := by decide +kernel
theorem dL_law_1293 : decode cL_law 1293 = .ok (.iload 4, 2) := by decide +kernel
theorem dL_law_1295 : decode cL_law 1295 = .ok (.iconst 2, 1) := by decide +kernel
theorem dL_law_1296 : decode cL_law 1296 = .ok (.iadd, 1) := by decide +kernel
theorem dL_law_1297 : decode cL_law 1297 = .ok (.iaload, 1) := by decide +kernel
theorem dL_law_1298 : decode cL_law 1298 = .ok (.invokevirtual 191, 3) := by decide +kernel
theorem dL_law_1301 : decode cL_law 1301 = .ok (.aload_n 2, 1) := by decide +kernel
theorem dL_law_1302 : decode cL_law 1302 = .ok (.aload_n 0, 1) := by decide +kernel
theorem dL_law_1303 : decode cL_law 1303 = .ok (.iload 4, 2) := by decide +kernel
theorem dL_law_1305 : decode cL_law 1305 = .ok (.iconst 1, 1) := by decide +kernel
theorem dL_law_1306 : decode cL_law 1306 = .ok (.iadd, 1) := by decide +kernel
theorem dL_law_1307 : decode cL_law 1307 = .ok (.iaload, 1) := by decide +kernel
theorem dL_law_1308 : decode cL_law 1308 = .ok (.aload_n 0, 1) := by decide +kernel
theorem dL_law_1309 : decode cL_law 1309 = .ok (.iload 4, 2) := by decide +kernel
theorem dL_law_1311 : decode cL_law 1311 = .ok (.iconst 2, 1) := by decide +kernel
theorem dL_law_1312 : decode cL_law 1312 = .ok (.iadd, 1) := by decide +kernel
theorem dL_law_1313 : decode cL_law 1313 = .ok (.iaload, 1) := by decide +kernel
theorem dL_law_1314 : decode cL_law 1314 = .ok (.invokevirtual 194, 3) := by decide +kernel
theorem dL_law_1317 : decode cL_law 1317 = .ok (.if_icmp .eq 111, 3) := by decide +kernel
theorem dL_law_1320 : decode cL_law 1320 = .ok (.iconst 0, 1) := by decide +kernel
theorem dL_law_1321 : decode cL_law 1321 = .ok (.ireturn, 1) := by decide +kernel
theorem dL_law_1322 : decode cL_law 1322 = .ok (.aload_n 1, 1) := by decide +kernel
theorem dL_law_1323 : decode cL_law 1323 = .ok (.aload_n 0, 1) := by decide +kernel
theorem dL_law_1324 : decode cL_law 1324 = .ok (.iload 4, 2) := by decide +kernel
theorem dL_law_1326 : decode cL_law 1326 = .ok (.iconst 1, 1) := by decide +kernel
theorem dL_law_1327 : decode cL_law 1327 = .ok (.iadd, 1) := by decide +kernel
theorem dL_law_1328 : decode cL_law 1328 = .ok (.iaload, 1) := by decide +kernel
theorem dL_law_1329 : decode cL_law 1329 = .ok (.aload_n 0, 1) := by decide +kernel
theorem dL_law_1330 : decode cL_law 1330 = .ok (.iload 4, 2) := by decide +kernel
theorem dL_law_1332 : decode cL_law 1332 = .ok (.iconst 2, 1) := by decide +kernel
theorem dL_law_1333 : decode cL_law 1333 = .ok (.iadd, 1) := by decide +kernel
theorem dL_law_1334 : decode cL_law 1334 = .ok (.iaload, 1) := by decide +kernel
theorem dL_law_1335 : decode cL_law 1335 = .ok (.aload_n 3, 1) := by decide +kernel
theorem dL_law_1336 : decode cL_law 1336 = .ok (.invokestatic 195, 3) := by decide +kernel
theorem dL_law_1339 : decode cL_law 1339 = .ok (.istore 5, 2) := by decide +kernel
theorem dL_law_1341 : decode cL_law 1341 = .ok (.aload_n 2, 1) := by decide +kernel
theorem dL_law_1342 : decode cL_law 1342 = .ok (.aload_n 0, 1) := by decide +kernel
theorem dL_law_1343 : decode cL_law 1343 = .ok (.iload 4, 2) := by decide +kernel
theorem dL_law_1345 : decode cL_law 1345 = .ok (.iconst 1, 1) := by decide +kernel
theorem dL_law_1346 : decode cL_law 1346 = .ok (.iadd, 1) := by decide +kernel
theorem dL_law_1347 : decode cL_law 1347 = .ok (.iaload, 1) := by decide +kernel
theorem dL_law_1348 : decode cL_law 1348 = .ok (.aload_n 0, 1) := by decide +kernel
theorem dL_law_1349 : decode cL_law 1349 = .ok (.iload 4, 2) := by decide +kernel
theorem dL_law_1351 : decode cL_law 1351 = .ok (.iconst 2, 1) := by decide +kernel
theorem dL_law_1352 : decode cL_law 1352 = .ok (.iadd, 1) := by decide +kernel
theorem dL_law_1353 : decode cL_law 1353 = .ok (.iaload, 1) := by decide +kernel
theorem dL_law_1354 : decode cL_law 1354 = .ok (.invokevirtual 200, 3) := by decide +kernel
theorem dL_law_1357 : decode cL_law 1357 = .ok (.istore 6, 2) := by decide +kernel
theorem dL_law_1359 : decode cL_law 1359 = .ok (.aload_n 2, 1) := by decide +kernel
theorem dL_law_1360 : decode cL_law 1360 = .ok (.invokevirtual 201, 3) := by decide +kernel
theorem dL_law_1363 : decode cL_law 1363 = .ok (.iload 5, 2) := by decide +kernel
theorem dL_law_1365 : decode cL_law 1365 = .ok (.if_icmp .eq 5, 3) := by decide +kernel
theorem dL_law_1368 : decode cL_law 1368 = .ok (.iconst 0, 1) := by decide +kernel
theorem dL_law_1369 : decode cL_law 1369 = .ok (.ireturn, 1) := by decide +kernel
theorem dL_law_1370 : decode cL_law 1370 = .ok (.iload 5, 2) := by decide +kernel
theorem dL_law_1372 : decode cL_law 1372 = .ok (.ifCond .ne 15, 3) := by decide +kernel
theorem dL_law_1375 : decode cL_law 1375 = .ok (.aload_n 3, 1) := by decide +kernel
theorem dL_law_1376 : decode cL_law 1376 = .ok (.iconst 0, 1) := by decide +kernel
theorem dL_law_1377 : decode cL_law 1377 = .ok (.laload, 1) := by decide +kernel
theorem dL_law_1378 : decode cL_law 1378 = .ok (.iload 6, 2) := by decide +kernel
theorem dL_law_1380 : decode cL_law 1380 = .ok (.i2l, 1) := by decide +kernel
theorem dL_law_1381 : decode cL_law 1381 = .ok (.lcmp, 1) := by decide +kernel
theorem dL_law_1382 : decode cL_law 1382 = .ok (.ifCond .eq 5, 3) := by decide +kernel
theorem dL_law_1385 : decode cL_law 1385 = .ok (.iconst 0, 1) := by decide +kernel
theorem dL_law_1386 : decode cL_law 1386 = .ok (.ireturn, 1) := by decide +kernel
theorem dL_law_1387 : decode cL_law 1387 = .ok (.goto 41, 3) := by decide +kernel
theorem dL_law_1390 : decode cL_law 1390 = .ok (.aload_n 1, 1) := by decide +kernel
theorem dL_law_1391 : decode cL_law 1391 = .ok (.aload_n 0, 1) := by decide +kernel
theorem dL_law_1392 : decode cL_law 1392 = .ok (.iload 4, 2) := by decide +kernel
theorem dL_law_1394 : decode cL_law 1394 = .ok (.iconst 1, 1) := by decide +kernel
theorem dL_law_1395 : decode cL_law 1395 = .ok (.iadd, 1) := by decide +kernel
theorem dL_law_1396 : decode cL_law 1396 = .ok (.iaload, 1) := by decide +kernel
theorem dL_law_1397 : decode cL_law 1397 = .ok (.invokevirtual 204, 3) := by decide +kernel
theorem dL_law_1400 : decode cL_law 1400 = .ok (.aload_n 2, 1) := by decide +kernel
theorem dL_law_1401 : decode cL_law 1401 = .ok (.aload_n 0, 1) := by decide +kernel
theorem dL_law_1402 : decode cL_law 1402 = .ok (.iload 4, 2) := by decide +kernel
theorem dL_law_1404 : decode cL_law 1404 = .ok (.iconst 1, 1) := by decide +kernel
theorem dL_law_1405 : decode cL_law 1405 = .ok (.iadd, 1) := by decide +kernel
theorem dL_law_1406 : decode cL_law 1406 = .ok (.iaload, 1) := by decide +kernel
theorem dL_law_1407 : decode cL_law 1407 = .ok (.invokevirtual 207, 3) := by decide +kernel
theorem dL_law_1410 : decode cL_law 1410 = .ok (.if_icmp .eq 18, 3) := by decide +kernel
theorem dL_law_1413 : decode cL_law 1413 = .ok (.iconst 0, 1) := by decide +kernel
theorem dL_law_1414 : decode cL_law 1414 = .ok (.ireturn, 1) := by decide +kernel
theorem dL_law_1415 : decode cL_law 1415 = .ok (.aload_n 1, 1) := by decide +kernel
theorem dL_law_1416 : decode cL_law 1416 = .ok (.invokevirtual 208, 3) := by decide +kernel
theorem dL_law_1419 : decode cL_law 1419 = .ok (.aload_n 2, 1) := by decide +kernel
theorem dL_law_1420 : decode cL_law 1420 = .ok (.invokevirtual 211, 3) := by decide +kernel
theorem dL_law_1423 : decode cL_law 1423 = .ok (.if_icmp .eq 5, 3) := by decide +kernel
theorem dL_law_1426 : decode cL_law 1426 = .ok (.iconst 0, 1) := by decide +kernel
theorem dL_law_1427 : decode cL_law 1427 = .ok (.ireturn, 1) := by decide +kernel
theorem dL_law_1428 : decode cL_law 1428 = .ok (.iinc 4 6, 3) := by decide +kernel
theorem dL_law_1431 : decode cL_law 1431 = .ok (.goto (-1408), 3) := by decide +kernel
theorem dL_law_1434 : decode cL_law 1434 = .ok (.iconst 1, 1) := by decide +kernel
theorem dL_law_1435 : decode cL_law 1435 = .ok (.ireturn, 1) := by decide +kernel
