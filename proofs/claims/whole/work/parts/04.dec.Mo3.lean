theorem d_Mo_openFlow_34 : decode b_Mo_openFlow 34 = .ok (.getfield 56, 3) := by decide +kernel
theorem d_Mo_openFlow_37 : decode b_Mo_openFlow 37 = .ok (.iload 8, 2) := by decide +kernel
theorem d_Mo_openFlow_39 : decode b_Mo_openFlow 39 = .ok (.iload_n 1, 1) := by decide +kernel
theorem d_Mo_openFlow_40 : decode b_Mo_openFlow 40 = .ok (.iastore, 1) := by decide +kernel
theorem d_Mo_openFlow_41 : decode b_Mo_openFlow 41 = .ok (.aload_n 0, 1) := by decide +kernel
theorem d_Mo_openFlow_42 : decode b_Mo_openFlow 42 = .ok (.getfield 59, 3) := by decide +kernel
theorem d_Mo_openFlow_45 : decode b_Mo_openFlow 45 = .ok (.iload 8, 2) := by decide +kernel
theorem d_Mo_openFlow_47 : decode b_Mo_openFlow 47 = .ok (.iload_n 3, 1) := by decide +kernel
theorem d_Mo_openFlow_48 : decode b_Mo_openFlow 48 = .ok (.iastore, 1) := by decide +kernel
theorem d_Mo_openFlow_49 : decode b_Mo_openFlow 49 = .ok (.aload_n 0, 1) := by decide +kernel
theorem d_Mo_openFlow_50 : decode b_Mo_openFlow 50 = .ok (.getfield 62, 3) := by decide +kernel
theorem d_Mo_openFlow_53 : decode b_Mo_openFlow 53 = .ok (.iload 8, 2) := by decide +kernel
theorem d_Mo_openFlow_55 : decode b_Mo_openFlow 55 = .ok (.iload 4, 2) := by decide +kernel
theorem d_Mo_openFlow_57 : decode b_Mo_openFlow 57 = .ok (.iastore, 1) := by decide +kernel
theorem d_Mo_openFlow_58 : decode b_Mo_openFlow 58 = .ok (.aload_n 0, 1) := by decide +kernel
theorem d_Mo_openFlow_59 : decode b_Mo_openFlow 59 = .ok (.getfield 65, 3) := by decide +kernel
theorem d_Mo_openFlow_62 : decode b_Mo_openFlow 62 = .ok (.iload 8, 2) := by decide +kernel
theorem d_Mo_openFlow_64 : decode b_Mo_openFlow 64 = .ok (.iload 5, 2) := by decide +kernel
theorem d_Mo_openFlow_66 : decode b_Mo_openFlow 66 = .ok (.iastore, 1) := by decide +kernel
theorem d_Mo_openFlow_67 : decode b_Mo_openFlow 67 = .ok (.aload_n 0, 1) := by decide +kernel
theorem d_Mo_openFlow_68 : decode b_Mo_openFlow 68 = .ok (.getfield 68, 3) := by decide +kernel
theorem d_Mo_openFlow_71 : decode b_Mo_openFlow 71 = .ok (.iload 8, 2) := by decide +kernel
theorem d_Mo_openFlow_73 : decode b_Mo_openFlow 73 = .ok (.iload 6, 2) := by decide +kernel
theorem d_Mo_openFlow_75 : decode b_Mo_openFlow 75 = .ok (.iastore, 1) := by decide +kernel
theorem d_Mo_openFlow_76 : decode b_Mo_openFlow 76 = .ok (.aload_n 0, 1) := by decide +kernel
theorem d_Mo_openFlow_77 : decode b_Mo_openFlow 77 = .ok (.getfield 71, 3) := by decide +kernel
theorem d_Mo_openFlow_80 : decode b_Mo_openFlow 80 = .ok (.iload 8, 2) := by decide +kernel
theorem d_Mo_openFlow_82 : decode b_Mo_openFlow 82 = .ok (.iload 7, 2) := by decide +kernel
theorem d_Mo_openFlow_84 : decode b_Mo_openFlow 84 = .ok (.iastore, 1) := by decide +kernel
theorem d_Mo_openFlow_85 : decode b_Mo_openFlow 85 = .ok (.aload_n 0, 1) := by decide +kernel
theorem d_Mo_openFlow_86 : decode b_Mo_openFlow 86 = .ok (.getfield 74, 3) := by decide +kernel
theorem d_Mo_openFlow_89 : decode b_Mo_openFlow 89 = .ok (.iload 8, 2) := by decide +kernel
theorem d_Mo_openFlow_91 : decode b_Mo_openFlow 91 = .ok (.aload_n 0, 1) := by decide +kernel
theorem d_Mo_openFlow_92 : decode b_Mo_openFlow 92 = .ok (.getfield 174, 3) := by decide +kernel
theorem d_Mo_openFlow_95 : decode b_Mo_openFlow 95 = .ok (.iastore, 1) := by decide +kernel
theorem d_Mo_openFlow_96 : decode b_Mo_openFlow 96 = .ok (.aload_n 0, 1) := by decide +kernel
theorem d_Mo_openFlow_97 : decode b_Mo_openFlow 97 = .ok (.getfield 77, 3) := by decide +kernel
theorem d_Mo_openFlow_100 : decode b_Mo_openFlow 100 = .ok (.iload 8, 2) := by decide +kernel
theorem d_Mo_openFlow_102 : decode b_Mo_openFlow 102 = .ok (.iload_n 2, 1) := by decide +kernel
theorem d_Mo_openFlow_103 : decode b_Mo_openFlow 103 = .ok (.iastore, 1) := by decide +kernel
theorem d_Mo_openFlow_104 : decode b_Mo_openFlow 104 = .ok (.return_, 1) := by decide +kernel
theorem d_Mo_inward_0 : decode b_Mo_inward 0 = .ok (.iload_n 1, 1) := by decide +kernel
theorem d_Mo_inward_1 : decode b_Mo_inward 1 = .ok (.invokestatic 151, 3) := by decide +kernel
theorem d_Mo_inward_4 : decode b_Mo_inward 4 = .ok (.ifCond .eq 13, 3) := by decide +kernel
theorem d_Mo_inward_7 : decode b_Mo_inward 7 = .ok (.iload_n 2, 1) := by decide +kernel
theorem d_Mo_inward_8 : decode b_Mo_inward 8 = .ok (.ifCond .lt 9, 3) := by decide +kernel
theorem d_Mo_inward_11 : decode b_Mo_inward 11 = .ok (.iload_n 2, 1) := by decide +kernel
theorem d_Mo_inward_12 : decode b_Mo_inward 12 = .ok (.bipush 15, 2) := by decide +kernel
theorem d_Mo_inward_14 : decode b_Mo_inward 14 = .ok (.if_icmp .le 5, 3) := by decide +kernel
theorem d_Mo_inward_17 : decode b_Mo_inward 17 = .ok (.iconst (-1), 1) := by decide +kernel
theorem d_Mo_inward_18 : decode b_Mo_inward 18 = .ok (.ireturn, 1) := by decide +kernel
theorem d_Mo_inward_19 : decode b_Mo_inward 19 = .ok (.aload_n 0, 1) := by decide +kernel
theorem d_Mo_inward_20 : decode b_Mo_inward 20 = .ok (.getfield 89, 3) := by decide +kernel
theorem d_Mo_inward_23 : decode b_Mo_inward 23 = .ok (.iconst 0, 1) := by decide +kernel
theorem d_Mo_inward_24 : decode b_Mo_inward 24 = .ok (.iaload, 1) := by decide +kernel
theorem d_Mo_inward_25 : decode b_Mo_inward 25 = .ok (.invokestatic 186, 3) := by decide +kernel
theorem d_Mo_inward_28 : decode b_Mo_inward 28 = .ok (.ifCond .eq 15, 3) := by decide +kernel
theorem d_Mo_inward_31 : decode b_Mo_inward 31 = .ok (.aload_n 0, 1) := by decide +kernel
theorem d_Mo_inward_32 : decode b_Mo_inward 32 = .ok (.getfield 89, 3) := by decide +kernel
theorem d_Mo_inward_35 : decode b_Mo_inward 35 = .ok (.iconst 2, 1) := by decide +kernel
theorem d_Mo_inward_36 : decode b_Mo_inward 36 = .ok (.iaload, 1) := by decide +kernel
theorem d_Mo_inward_37 : decode b_Mo_inward 37 = .ok (.sipush 200, 3) := by decide +kernel
theorem d_Mo_inward_40 : decode b_Mo_inward 40 = .ok (.if_icmp .eq 10, 3) := by decide +kernel
theorem d_Mo_inward_43 : decode b_Mo_inward 43 = .ok (.aload_n 0, 1) := by decide +kernel
theorem d_Mo_inward_44 : decode b_Mo_inward 44 = .ok (.bipush (-5), 2) := by decide +kernel
theorem d_Mo_inward_46 : decode b_Mo_inward 46 = .ok (.invokevirtual 189, 3) := by decide +kernel
theorem d_Mo_inward_49 : decode b_Mo_inward 49 = .ok (.ireturn, 1) := by decide +kernel
theorem d_Mo_inward_50 : decode b_Mo_inward 50 = .ok (.aload_n 0, 1) := by decide +kernel
theorem d_Mo_inward_51 : decode b_Mo_inward 51 = .ok (.iload_n 1, 1) := by decide +kernel
theorem d_Mo_inward_52 : decode b_Mo_inward 52 = .ok (.aload_n 0, 1) := by decide +kernel
theorem d_Mo_inward_53 : decode b_Mo_inward 53 = .ok (.getfield 89, 3) := by decide +kernel
theorem d_Mo_inward_56 : decode b_Mo_inward 56 = .ok (.iconst 3, 1) := by decide +kernel
theorem d_Mo_inward_57 : decode b_Mo_inward 57 = .ok (.iaload, 1) := by decide +kernel
theorem d_Mo_inward_58 : decode b_Mo_inward 58 = .ok (.invokevirtual 160, 3) := by decide +kernel
theorem d_Mo_inward_61 : decode b_Mo_inward 61 = .ok (.ifCond .ne 10, 3) := by decide +kernel
theorem d_Mo_inward_64 : decode b_Mo_inward 64 = .ok (.aload_n 0, 1) := by decide +kernel
theorem d_Mo_inward_65 : decode b_Mo_inward 65 = .ok (.bipush (-4), 2) := by decide +kernel
theorem d_Mo_inward_67 : decode b_Mo_inward 67 = .ok (.invokevirtual 189, 3) := by decide +kernel
theorem d_Mo_inward_70 : decode b_Mo_inward 70 = .ok (.ireturn, 1) := by decide +kernel
theorem d_Mo_inward_71 : decode b_Mo_inward 71 = .ok (.aload_n 0, 1) := by decide +kernel
theorem d_Mo_inward_72 : decode b_Mo_inward 72 = .ok (.getfield 145, 3) := by decide +kernel
theorem d_Mo_inward_75 : decode b_Mo_inward 75 = .ok (.istore_n 3, 1) := by decide +kernel
theorem d_Mo_inward_76 : decode b_Mo_inward 76 = .ok (.aload_n 0, 1) := by decide +kernel
theorem d_Mo_inward_77 : decode b_Mo_inward 77 = .ok (.getfield 148, 3) := by decide +kernel
theorem d_Mo_inward_80 : decode b_Mo_inward 80 = .ok (.istore 4, 2) := by decide +kernel
theorem d_Mo_inward_82 : decode b_Mo_inward 82 = .ok (.aload_n 0, 1) := by decide +kernel
theorem d_Mo_inward_83 : decode b_Mo_inward 83 = .ok (.iload_n 1, 1) := by decide +kernel
theorem d_Mo_inward_84 : decode b_Mo_inward 84 = .ok (.iload_n 3, 1) := by decide +kernel
theorem d_Mo_inward_85 : decode b_Mo_inward 85 = .ok (.iload 4, 2) := by decide +kernel
theorem d_Mo_inward_87 : decode b_Mo_inward 87 = .ok (.aload_n 0, 1) := by decide +kernel
theorem d_Mo_inward_88 : decode b_Mo_inward 88 = .ok (.getfield 89, 3) := by decide +kernel
theorem d_Mo_inward_91 : decode b_Mo_inward 91 = .ok (.iconst 0, 1) := by decide +kernel
theorem d_Mo_inward_92 : decode b_Mo_inward 92 = .ok (.iaload, 1) := by decide +kernel
theorem d_Mo_inward_93 : decode b_Mo_inward 93 = .ok (.aload_n 0, 1) := by decide +kernel
theorem d_Mo_inward_94 : decode b_Mo_inward 94 = .ok (.getfield 89, 3) := by decide +kernel
theorem d_Mo_inward_97 : decode b_Mo_inward 97 = .ok (.iconst 1, 1) := by decide +kernel
theorem d_Mo_inward_98 : decode b_Mo_inward 98 = .ok (.iaload, 1) := by decide +kernel
theorem d_Mo_inward_99 : decode b_Mo_inward 99 = .ok (.invokevirtual 193, 3) := by decide +kernel
theorem d_Mo_inward_102 : decode b_Mo_inward 102 = .ok (.istore 5, 2) := by decide +kernel
theorem d_Mo_inward_104 : decode b_Mo_inward 104 = .ok (.iload 5, 2) := by decide +kernel
theorem d_Mo_inward_106 : decode b_Mo_inward 106 = .ok (.ifCond .lt 44, 3) := by decide +kernel
theorem d_Mo_inward_109 : decode b_Mo_inward 109 = .ok (.aload_n 0, 1) := by decide +kernel
theorem d_Mo_inward_110 : decode b_Mo_inward 110 = .ok (.iload 5, 2) := by decide +kernel
theorem d_Mo_inward_112 : decode b_Mo_inward 112 = .ok (.iconst 1, 1) := by decide +kernel
theorem d_Mo_inward_113 : decode b_Mo_inward 113 = .ok (.iload_n 2, 1) := by decide +kernel
theorem d_Mo_inward_114 : decode b_Mo_inward 114 = .ok (.invokevirtual 197, 3) := by decide +kernel
theorem d_Mo_inward_117 : decode b_Mo_inward 117 = .ok (.ifCond .eq 26, 3) := by decide +kernel
theorem d_Mo_inward_120 : decode b_Mo_inward 120 = .ok (.aload_n 0, 1) := by decide +kernel
theorem d_Mo_inward_121 : decode b_Mo_inward 121 = .ok (.iconst 0, 1) := by decide +kernel
theorem d_Mo_inward_122 : decode b_Mo_inward 122 = .ok (.aload_n 0, 1) := by decide +kernel
theorem d_Mo_inward_123 : decode b_Mo_inward 123 = .ok (.getfield 89, 3) := by decide +kernel
theorem d_Mo_inward_126 : decode b_Mo_inward 126 = .ok (.iconst 0, 1) := by decide +kernel
theorem d_Mo_inward_127 : decode b_Mo_inward 127 = .ok (.iaload, 1) := by decide +kernel
theorem d_Mo_inward_128 : decode b_Mo_inward 128 = .ok (.aload_n 0, 1) := by decide +kernel
theorem d_Mo_inward_129 : decode b_Mo_inward 129 = .ok (.getfield 89, 3) := by decide +kernel
theorem d_Mo_inward_132 : decode b_Mo_inward 132 = .ok (.iconst 1, 1) := by decide +kernel
theorem d_Mo_inward_133 : decode b_Mo_inward 133 = .ok (.iaload, 1) := by decide +kernel
theorem d_Mo_inward_134 : decode b_Mo_inward 134 = .ok (.iload_n 3, 1) := by decide +kernel
theorem d_Mo_inward_135 : decode b_Mo_inward 135 = .ok (.iload 4, 2) := by decide +kernel
theorem d_Mo_inward_137 : decode b_Mo_inward 137 = .ok (.invokevirtual 200, 3) := by decide +kernel
theorem d_Mo_inward_140 : decode b_Mo_inward 140 = .ok (.goto 9, 3) := by decide +kernel
theorem d_Mo_inward_143 : decode b_Mo_inward 143 = .ok (.aload_n 0, 1) := by decide +kernel
theorem d_Mo_inward_144 : decode b_Mo_inward 144 = .ok (.bipush (-6), 2) := by decide +kernel
theorem d_Mo_inward_146 : decode b_Mo_inward 146 = .ok (.invokevirtual 189, 3) := by decide +kernel
theorem d_Mo_inward_149 : decode b_Mo_inward 149 = .ok (.ireturn, 1) := by decide +kernel
theorem d_Mo_inward_150 : decode b_Mo_inward 150 = .ok (.aload_n 0, 1) := by decide +kernel
theorem d_Mo_inward_151 : decode b_Mo_inward 151 = .ok (.iconst 0, 1) := by decide +kernel
theorem d_Mo_inward_152 : decode b_Mo_inward 152 = .ok (.iload_n 1, 1) := by decide +kernel
theorem d_Mo_inward_153 : decode b_Mo_inward 153 = .ok (.aload_n 0, 1) := by decide +kernel
theorem d_Mo_inward_154 : decode b_Mo_inward 154 = .ok (.getfield 89, 3) := by decide +kernel
theorem d_Mo_inward_157 : decode b_Mo_inward 157 = .ok (.iconst 0, 1) := by decide +kernel
theorem d_Mo_inward_158 : decode b_Mo_inward 158 = .ok (.iaload, 1) := by decide +kernel
theorem d_Mo_inward_159 : decode b_Mo_inward 159 = .ok (.iload_n 3, 1) := by decide +kernel
theorem d_Mo_inward_160 : decode b_Mo_inward 160 = .ok (.iload 4, 2) := by decide +kernel
theorem d_Mo_inward_162 : decode b_Mo_inward 162 = .ok (.invokevirtual 203, 3) := by decide +kernel
theorem d_Mo_inward_165 : decode b_Mo_inward 165 = .ok (.ifCond .eq 10, 3) := by decide +kernel
theorem d_Mo_inward_168 : decode b_Mo_inward 168 = .ok (.aload_n 0, 1) := by decide +kernel
theorem d_Mo_inward_169 : decode b_Mo_inward 169 = .ok (.bipush (-4), 2) := by decide +kernel
theorem d_Mo_inward_171 : decode b_Mo_inward 171 = .ok (.invokevirtual 189, 3) := by decide +kernel
theorem d_Mo_inward_174 : decode b_Mo_inward 174 = .ok (.ireturn, 1) := by decide +kernel
theorem d_Mo_inward_175 : decode b_Mo_inward 175 = .ok (.iload_n 1, 1) := by decide +kernel
theorem d_Mo_inward_176 : decode b_Mo_inward 176 = .ok (.ifCond .ne 15, 3) := by decide +kernel
theorem d_Mo_inward_179 : decode b_Mo_inward 179 = .ok (.iload_n 2, 1) := by decide +kernel
theorem d_Mo_inward_180 : decode b_Mo_inward 180 = .ok (.iconst 1, 1) := by decide +kernel
theorem d_Mo_inward_181 : decode b_Mo_inward 181 = .ok (.if_icmp .eq 10, 3) := by decide +kernel
theorem d_Mo_inward_184 : decode b_Mo_inward 184 = .ok (.aload_n 0, 1) := by decide +kernel
theorem d_Mo_inward_185 : decode b_Mo_inward 185 = .ok (.bipush (-6), 2) := by decide +kernel
theorem d_Mo_inward_187 : decode b_Mo_inward 187 = .ok (.invokevirtual 189, 3) := by decide +kernel
theorem d_Mo_inward_190 : decode b_Mo_inward 190 = .ok (.ireturn, 1) := by decide +kernel
theorem d_Mo_inward_191 : decode b_Mo_inward 191 = .ok (.aload_n 0, 1) := by decide +kernel
theorem d_Mo_inward_192 : decode b_Mo_inward 192 = .ok (.getfield 142, 3) := by decide +kernel
theorem d_Mo_inward_195 : decode b_Mo_inward 195 = .ok (.bipush 16, 2) := by decide +kernel
theorem d_Mo_inward_197 : decode b_Mo_inward 197 = .ok (.if_icmp .ne 10, 3) := by decide +kernel
theorem d_Mo_inward_200 : decode b_Mo_inward 200 = .ok (.aload_n 0, 1) := by decide +kernel
theorem d_Mo_inward_201 : decode b_Mo_inward 201 = .ok (.bipush (-7), 2) := by decide +kernel
theorem d_Mo_inward_203 : decode b_Mo_inward 203 = .ok (.invokevirtual 189, 3) := by decide +kernel
theorem d_Mo_inward_206 : decode b_Mo_inward 206 = .ok (.ireturn, 1) := by decide +kernel
theorem d_Mo_inward_207 : decode b_Mo_inward 207 = .ok (.aload_n 0, 1) := by decide +kernel
theorem d_Mo_inward_208 : decode b_Mo_inward 208 = .ok (.iload_n 1, 1) := by decide +kernel
theorem d_Mo_inward_209 : decode b_Mo_inward 209 = .ok (.iconst 1, 1) := by decide +kernel
theorem d_Mo_inward_210 : decode b_Mo_inward 210 = .ok (.iload_n 3, 1) := by decide +kernel
theorem d_Mo_inward_211 : decode b_Mo_inward 211 = .ok (.iload 4, 2) := by decide +kernel
theorem d_Mo_inward_213 : decode b_Mo_inward 213 = .ok (.aload_n 0, 1) := by decide +kernel
theorem d_Mo_inward_214 : decode b_Mo_inward 214 = .ok (.getfield 89, 3) := by decide +kernel
theorem d_Mo_inward_217 : decode b_Mo_inward 217 = .ok (.iconst 0, 1) := by decide +kernel
theorem d_Mo_inward_218 : decode b_Mo_inward 218 = .ok (.iaload, 1) := by decide +kernel
theorem d_Mo_inward_219 : decode b_Mo_inward 219 = .ok (.aload_n 0, 1) := by decide +kernel
theorem d_Mo_inward_220 : decode b_Mo_inward 220 = .ok (.getfield 89, 3) := by decide +kernel
theorem d_Mo_inward_223 : decode b_Mo_inward 223 = .ok (.iconst 1, 1) := by decide +kernel
theorem d_Mo_inward_224 : decode b_Mo_inward 224 = .ok (.iaload, 1) := by decide +kernel
theorem d_Mo_inward_225 : decode b_Mo_inward 225 = .ok (.aload_n 0, 1) := by decide +kernel
theorem d_Mo_inward_226 : decode b_Mo_inward 226 = .ok (.getfield 89, 3) := by decide +kernel
theorem d_Mo_inward_229 : decode b_Mo_inward 229 = .ok (.iconst 3, 1) := by decide +kernel
theorem d_Mo_inward_230 : decode b_Mo_inward 230 = .ok (.iaload, 1) := by decide +kernel
theorem d_Mo_inward_231 : decode b_Mo_inward 231 = .ok (.invokevirtual 212, 3) := by decide +kernel
theorem d_Mo_inward_234 : decode b_Mo_inward 234 = .ok (.aload_n 0, 1) := by decide +kernel
theorem d_Mo_inward_235 : decode b_Mo_inward 235 = .ok (.iconst 0, 1) := by decide +kernel
theorem d_Mo_inward_236 : decode b_Mo_inward 236 = .ok (.aload_n 0, 1) := by decide +kernel
theorem d_Mo_inward_237 : decode b_Mo_inward 237 = .ok (.getfield 89, 3) := by decide +kernel
theorem d_Mo_inward_240 : decode b_Mo_inward 240 = .ok (.iconst 0, 1) := by decide +kernel
theorem d_Mo_inward_241 : decode b_Mo_inward 241 = .ok (.iaload, 1) := by decide +kernel
theorem d_Mo_inward_242 : decode b_Mo_inward 242 = .ok (.aload_n 0, 1) := by decide +kernel
theorem d_Mo_inward_243 : decode b_Mo_inward 243 = .ok (.getfield 89, 3) := by decide +kernel
theorem d_Mo_inward_246 : decode b_Mo_inward 246 = .ok (.iconst 1, 1) := by decide +kernel
theorem d_Mo_inward_247 : decode b_Mo_inward 247 = .ok (.iaload, 1) := by decide +kernel
theorem d_Mo_inward_248 : decode b_Mo_inward 248 = .ok (.iload_n 3, 1) := by decide +kernel
theorem d_Mo_inward_249 : decode b_Mo_inward 249 = .ok (.iload 4, 2) := by decide +kernel
theorem d_Mo_inward_251 : decode b_Mo_inward 251 = .ok (.invokevirtual 200, 3) := by decide +kernel
theorem d_Mo_inward_254 : decode b_Mo_inward 254 = .ok (.ireturn, 1) := by decide +kernel
theorem d_Mo_report_0 : decode b_Mo_report 0 = .ok (.iload_n 1, 1) := by decide +kernel
theorem d_Mo_report_1 : decode b_Mo_report 1 = .ok (.invokestatic 151, 3) := by decide +kernel
theorem d_Mo_report_4 : decode b_Mo_report 4 = .ok (.ifCond .ne 5, 3) := by decide +kernel
theorem d_Mo_report_7 : decode b_Mo_report 7 = .ok (.iconst (-1), 1) := by decide +kernel
theorem d_Mo_report_8 : decode b_Mo_report 8 = .ok (.ireturn, 1) := by decide +kernel
theorem d_Mo_report_9 : decode b_Mo_report 9 = .ok (.iconst 0, 1) := by decide +kernel
theorem d_Mo_report_10 : decode b_Mo_report 10 = .ok (.istore_n 2, 1) := by decide +kernel
theorem d_Mo_report_11 : decode b_Mo_report 11 = .ok (.iload_n 2, 1) := by decide +kernel
theorem d_Mo_report_12 : decode b_Mo_report 12 = .ok (.aload_n 0, 1) := by decide +kernel
theorem d_Mo_report_13 : decode b_Mo_report 13 = .ok (.getfield 142, 3) := by decide +kernel
theorem d_Mo_report_16 : decode b_Mo_report 16 = .ok (.if_icmp .ge 116, 3) := by decide +kernel
theorem d_Mo_report_19 : decode b_Mo_report 19 = .ok (.aload_n 0, 1) := by decide +kernel
theorem d_Mo_report_20 : decode b_Mo_report 20 = .ok (.getfield 56, 3) := by decide +kernel
theorem d_Mo_report_23 : decode b_Mo_report 23 = .ok (.iload_n 2, 1) := by decide +kernel
theorem d_Mo_report_24 : decode b_Mo_report 24 = .ok (.iaload, 1) := by decide +kernel
theorem d_Mo_report_25 : decode b_Mo_report 25 = .ok (.iload_n 1, 1) := by decide +kernel
theorem d_Mo_report_26 : decode b_Mo_report 26 = .ok (.if_icmp .ne 34, 3) := by decide +kernel
theorem d_Mo_report_29 : decode b_Mo_report 29 = .ok (.aload_n 0, 1) := by decide +kernel
theorem d_Mo_report_30 : decode b_Mo_report 30 = .ok (.getfield 71, 3) := by decide +kernel
theorem d_Mo_report_33 : decode b_Mo_report 33 = .ok (.iload_n 2, 1) := by decide +kernel
theorem d_Mo_report_34 : decode b_Mo_report 34 = .ok (.iaload, 1) := by decide +kernel
theorem d_Mo_report_35 : decode b_Mo_report 35 = .ok (.aload_n 0, 1) := by decide +kernel
theorem d_Mo_report_36 : decode b_Mo_report 36 = .ok (.getfield 89, 3) := by decide +kernel
theorem d_Mo_report_39 : decode b_Mo_report 39 = .ok (.iconst 1, 1) := by decide +kernel
theorem d_Mo_report_40 : decode b_Mo_report 40 = .ok (.iaload, 1) := by decide +kernel
theorem d_Mo_report_41 : decode b_Mo_report 41 = .ok (.if_icmp .ne 19, 3) := by decide +kernel
theorem d_Mo_report_44 : decode b_Mo_report 44 = .ok (.aload_n 0, 1) := by decide +kernel
theorem d_Mo_report_45 : decode b_Mo_report 45 = .ok (.getfield 89, 3) := by decide +kernel
theorem d_Mo_report_48 : decode b_Mo_report 48 = .ok (.iconst 0, 1) := by decide +kernel
theorem d_Mo_report_49 : decode b_Mo_report 49 = .ok (.iaload, 1) := by decide +kernel
theorem d_Mo_report_50 : decode b_Mo_report 50 = .ok (.sipush 200, 3) := by decide +kernel
theorem d_Mo_report_53 : decode b_Mo_report 53 = .ok (.if_icmp .ne 7, 3) := by decide +kernel
theorem d_Mo_report_56 : decode b_Mo_report 56 = .ok (.iconst 1, 1) := by decide +kernel
theorem d_Mo_report_57 : decode b_Mo_report 57 = .ok (.goto 4, 3) := by decide +kernel
theorem d_Mo_report_60 : decode b_Mo_report 60 = .ok (.iconst 0, 1) := by decide +kernel
theorem d_Mo_report_61 : decode b_Mo_report 61 = .ok (.istore_n 3, 1) := by decide +kernel
theorem d_Mo_report_62 : decode b_Mo_report 62 = .ok (.iload_n 3, 1) := by decide +kernel
theorem d_Mo_report_63 : decode b_Mo_report 63 = .ok (.ifCond .eq 63, 3) := by decide +kernel
theorem d_Mo_report_66 : decode b_Mo_report 66 = .ok (.aload_n 0, 1) := by decide +kernel
theorem d_Mo_report_67 : decode b_Mo_report 67 = .ok (.getfield 65, 3) := by decide +kernel
theorem d_Mo_report_70 : decode b_Mo_report 70 = .ok (.iload_n 2, 1) := by decide +kernel
theorem d_Mo_report_71 : decode b_Mo_report 71 = .ok (.iaload, 1) := by decide +kernel
theorem d_Mo_report_72 : decode b_Mo_report 72 = .ok (.aload_n 0, 1) := by decide +kernel
theorem d_Mo_report_73 : decode b_Mo_report 73 = .ok (.getfield 89, 3) := by decide +kernel
theorem d_Mo_report_76 : decode b_Mo_report 76 = .ok (.iconst 2, 1) := by decide +kernel
theorem d_Mo_report_77 : decode b_Mo_report 77 = .ok (.iaload, 1) := by decide +kernel
theorem d_Mo_report_78 : decode b_Mo_report 78 = .ok (.if_icmp .ne 48, 3) := by decide +kernel
theorem d_Mo_report_81 : decode b_Mo_report 81 = .ok (.aload_n 0, 1) := by decide +kernel
theorem d_Mo_report_82 : decode b_Mo_report 82 = .ok (.getfield 68, 3) := by decide +kernel
theorem d_Mo_report_85 : decode b_Mo_report 85 = .ok (.iload_n 2, 1) := by decide +kernel
theorem d_Mo_report_86 : decode b_Mo_report 86 = .ok (.iaload, 1) := by decide +kernel
theorem d_Mo_report_87 : decode b_Mo_report 87 = .ok (.aload_n 0, 1) := by decide +kernel
theorem d_Mo_report_88 : decode b_Mo_report 88 = .ok (.getfield 89, 3) := by decide +kernel
theorem d_Mo_report_91 : decode b_Mo_report 91 = .ok (.iconst 3, 1) := by decide +kernel
theorem d_Mo_report_92 : decode b_Mo_report 92 = .ok (.iaload, 1) := by decide +kernel
theorem d_Mo_report_93 : decode b_Mo_report 93 = .ok (.if_icmp .ne 33, 3) := by decide +kernel
theorem d_Mo_report_96 : decode b_Mo_report 96 = .ok (.aload_n 0, 1) := by decide +kernel
theorem d_Mo_report_97 : decode b_Mo_report 97 = .ok (.iconst 0, 1) := by decide +kernel
theorem d_Mo_report_98 : decode b_Mo_report 98 = .ok (.aload_n 0, 1) := by decide +kernel
theorem d_Mo_report_99 : decode b_Mo_report 99 = .ok (.getfield 59, 3) := by decide +kernel
theorem d_Mo_report_102 : decode b_Mo_report 102 = .ok (.iload_n 2, 1) := by decide +kernel
theorem d_Mo_report_103 : decode b_Mo_report 103 = .ok (.iaload, 1) := by decide +kernel
theorem d_Mo_report_104 : decode b_Mo_report 104 = .ok (.aload_n 0, 1) := by decide +kernel
theorem d_Mo_report_105 : decode b_Mo_report 105 = .ok (.getfield 62, 3) := by decide +kernel
theorem d_Mo_report_108 : decode b_Mo_report 108 = .ok (.iload_n 2, 1) := by decide +kernel
theorem d_Mo_report_109 : decode b_Mo_report 109 = .ok (.iaload, 1) := by decide +kernel
theorem d_Mo_report_110 : decode b_Mo_report 110 = .ok (.aload_n 0, 1) := by decide +kernel
theorem d_Mo_report_111 : decode b_Mo_report 111 = .ok (.getfield 89, 3) := by decide +kernel
theorem d_Mo_report_114 : decode b_Mo_report 114 = .ok (.iconst 2, 1) := by decide +kernel
theorem d_Mo_report_115 : decode b_Mo_report 115 = .ok (.iaload, 1) := by decide +kernel
theorem d_Mo_report_116 : decode b_Mo_report 116 = .ok (.aload_n 0, 1) := by decide +kernel
theorem d_Mo_report_117 : decode b_Mo_report 117 = .ok (.getfield 89, 3) := by decide +kernel
theorem d_Mo_report_120 : decode b_Mo_report 120 = .ok (.iconst 3, 1) := by decide +kernel
theorem d_Mo_report_121 : decode b_Mo_report 121 = .ok (.iaload, 1) := by decide +kernel
theorem d_Mo_report_122 : decode b_Mo_report 122 = .ok (.invokevirtual 200, 3) := by decide +kernel
theorem d_Mo_report_125 : decode b_Mo_report 125 = .ok (.ireturn, 1) := by decide +kernel
theorem d_Mo_report_126 : decode b_Mo_report 126 = .ok (.iinc 2 1, 3) := by decide +kernel
theorem d_Mo_report_129 : decode b_Mo_report 129 = .ok (.goto (-118), 3) := by decide +kernel
theorem d_Mo_report_132 : decode b_Mo_report 132 = .ok (.aload_n 0, 1) := by decide +kernel
theorem d_Mo_report_133 : decode b_Mo_report 133 = .ok (.bipush (-4), 2) := by decide +kernel
theorem d_Mo_report_135 : decode b_Mo_report 135 = .ok (.invokevirtual 189, 3) := by decide +kernel
theorem d_Mo_report_138 : decode b_Mo_report 138 = .ok (.ireturn, 1) := by decide +kernel
theorem d_Mo_unseal_0 : decode b_Mo_unseal 0 = .ok (.iload_n 2, 1) := by decide +kernel
theorem d_Mo_unseal_1 : decode b_Mo_unseal 1 = .ok (.iconst 1, 1) := by decide +kernel
theorem d_Mo_unseal_2 : decode b_Mo_unseal 2 = .ok (.if_icmp .lt 30, 3) := by decide +kernel
theorem d_Mo_unseal_5 : decode b_Mo_unseal 5 = .ok (.iload_n 2, 1) := by decide +kernel
theorem d_Mo_unseal_6 : decode b_Mo_unseal 6 = .ok (.sipush 9999, 3) := by decide +kernel
theorem d_Mo_unseal_9 : decode b_Mo_unseal 9 = .ok (.if_icmp .gt 23, 3) := by decide +kernel
theorem d_Mo_unseal_12 : decode b_Mo_unseal 12 = .ok (.iload 4, 2) := by decide +kernel
theorem d_Mo_unseal_14 : decode b_Mo_unseal 14 = .ok (.invokestatic 151, 3) := by decide +kernel
theorem d_Mo_unseal_17 : decode b_Mo_unseal 17 = .ok (.ifCond .eq 15, 3) := by decide +kernel
theorem d_Mo_unseal_20 : decode b_Mo_unseal 20 = .ok (.iload 5, 2) := by decide +kernel
theorem d_Mo_unseal_22 : decode b_Mo_unseal 22 = .ok (.ifCond .lt 10, 3) := by decide +kernel
theorem d_Mo_unseal_25 : decode b_Mo_unseal 25 = .ok (.iload 5, 2) := by decide +kernel
theorem d_Mo_unseal_27 : decode b_Mo_unseal 27 = .ok (.bipush 15, 2) := by decide +kernel
theorem d_Mo_unseal_29 : decode b_Mo_unseal 29 = .ok (.if_icmp .le 5, 3) := by decide +kernel
theorem d_Mo_unseal_32 : decode b_Mo_unseal 32 = .ok (.iconst (-1), 1) := by decide +kernel
theorem d_Mo_unseal_33 : decode b_Mo_unseal 33 = .ok (.ireturn, 1) := by decide +kernel
theorem d_Mo_unseal_34 : decode b_Mo_unseal 34 = .ok (.aload_n 0, 1) := by decide +kernel
theorem d_Mo_unseal_35 : decode b_Mo_unseal 35 = .ok (.getfield 95, 3) := by decide +kernel
theorem d_Mo_unseal_38 : decode b_Mo_unseal 38 = .ok (.iconst 1, 1) := by decide +kernel
theorem d_Mo_unseal_39 : decode b_Mo_unseal 39 = .ok (.if_icmp .le 28, 3) := by decide +kernel
theorem d_Mo_unseal_42 : decode b_Mo_unseal 42 = .ok (.iload_n 1, 1) := by decide +kernel
theorem d_Mo_unseal_43 : decode b_Mo_unseal 43 = .ok (.aload_n 0, 1) := by decide +kernel
theorem d_Mo_unseal_44 : decode b_Mo_unseal 44 = .ok (.getfield 95, 3) := by decide +kernel
theorem d_Mo_unseal_47 : decode b_Mo_unseal 47 = .ok (.iconst 1, 1) := by decide +kernel
theorem d_Mo_unseal_48 : decode b_Mo_unseal 48 = .ok (.isub, 1) := by decide +kernel
theorem d_Mo_unseal_49 : decode b_Mo_unseal 49 = .ok (.if_icmp .ne 18, 3) := by decide +kernel
theorem d_Mo_unseal_52 : decode b_Mo_unseal 52 = .ok (.aload_n 0, 1) := by decide +kernel
theorem d_Mo_unseal_53 : decode b_Mo_unseal 53 = .ok (.getfield 219, 3) := by decide +kernel
theorem d_Mo_unseal_56 : decode b_Mo_unseal 56 = .ok (.aload_n 0, 1) := by decide +kernel
theorem d_Mo_unseal_57 : decode b_Mo_unseal 57 = .ok (.getfield 174, 3) := by decide +kernel
theorem d_Mo_unseal_60 : decode b_Mo_unseal 60 = .ok (.if_icmp .le 7, 3) := by decide +kernel
theorem d_Mo_unseal_63 : decode b_Mo_unseal 63 = .ok (.iconst 1, 1) := by decide +kernel
theorem d_Mo_unseal_64 : decode b_Mo_unseal 64 = .ok (.goto 4, 3) := by decide +kernel
theorem d_Mo_unseal_67 : decode b_Mo_unseal 67 = .ok (.iconst 0, 1) := by decide +kernel
theorem d_Mo_unseal_68 : decode b_Mo_unseal 68 = .ok (.istore 6, 2) := by decide +kernel
theorem d_Mo_unseal_70 : decode b_Mo_unseal 70 = .ok (.iload_n 1, 1) := by decide +kernel
theorem d_Mo_unseal_71 : decode b_Mo_unseal 71 = .ok (.aload_n 0, 1) := by decide +kernel
theorem d_Mo_unseal_72 : decode b_Mo_unseal 72 = .ok (.getfield 95, 3) := by decide +kernel
theorem d_Mo_unseal_75 : decode b_Mo_unseal 75 = .ok (.if_icmp .eq 15, 3) := by decide +kernel
theorem d_Mo_unseal_78 : decode b_Mo_unseal 78 = .ok (.iload 6, 2) := by decide +kernel
theorem d_Mo_unseal_80 : decode b_Mo_unseal 80 = .ok (.ifCond .ne 10, 3) := by decide +kernel
theorem d_Mo_unseal_83 : decode b_Mo_unseal 83 = .ok (.aload_n 0, 1) := by decide +kernel
theorem d_Mo_unseal_84 : decode b_Mo_unseal 84 = .ok (.bipush (-10), 2) := by decide +kernel
theorem d_Mo_unseal_86 : decode b_Mo_unseal 86 = .ok (.invokevirtual 189, 3) := by decide +kernel
theorem d_Mo_unseal_89 : decode b_Mo_unseal 89 = .ok (.ireturn, 1) := by decide +kernel
theorem d_Mo_unseal_90 : decode b_Mo_unseal 90 = .ok (.iload_n 2, 1) := by decide +kernel
theorem d_Mo_unseal_91 : decode b_Mo_unseal 91 = .ok (.aload_n 0, 1) := by decide +kernel
theorem d_Mo_unseal_92 : decode b_Mo_unseal 92 = .ok (.iload_n 1, 1) := by decide +kernel
theorem d_Mo_unseal_93 : decode b_Mo_unseal 93 = .ok (.invokevirtual 222, 3) := by decide +kernel
theorem d_Mo_unseal_96 : decode b_Mo_unseal 96 = .ok (.bipush 32, 2) := by decide +kernel
theorem d_Mo_unseal_98 : decode b_Mo_unseal 98 = .ok (.isub, 1) := by decide +kernel
theorem d_Mo_unseal_99 : decode b_Mo_unseal 99 = .ok (.if_icmp .gt 10, 3) := by decide +kernel
theorem d_Mo_unseal_102 : decode b_Mo_unseal 102 = .ok (.aload_n 0, 1) := by decide +kernel
theorem d_Mo_unseal_103 : decode b_Mo_unseal 103 = .ok (.bipush (-8), 2) := by decide +kernel
theorem d_Mo_unseal_105 : decode b_Mo_unseal 105 = .ok (.invokevirtual 189, 3) := by decide +kernel
theorem d_Mo_unseal_108 : decode b_Mo_unseal 108 = .ok (.ireturn, 1) := by decide +kernel
theorem d_Mo_unseal_109 : decode b_Mo_unseal 109 = .ok (.iconst 0, 1) := by decide +kernel
theorem d_Mo_unseal_110 : decode b_Mo_unseal 110 = .ok (.istore 7, 2) := by decide +kernel
theorem d_Mo_unseal_112 : decode b_Mo_unseal 112 = .ok (.iload 7, 2) := by decide +kernel
theorem d_Mo_unseal_114 : decode b_Mo_unseal 114 = .ok (.aload_n 0, 1) := by decide +kernel
theorem d_Mo_unseal_115 : decode b_Mo_unseal 115 = .ok (.getfield 216, 3) := by decide +kernel
theorem d_Mo_unseal_118 : decode b_Mo_unseal 118 = .ok (.if_icmp .ge 38, 3) := by decide +kernel
theorem d_Mo_unseal_121 : decode b_Mo_unseal 121 = .ok (.aload_n 0, 1) := by decide +kernel
theorem d_Mo_unseal_122 : decode b_Mo_unseal 122 = .ok (.getfield 83, 3) := by decide +kernel
theorem d_Mo_unseal_125 : decode b_Mo_unseal 125 = .ok (.iload 7, 2) := by decide +kernel
theorem d_Mo_unseal_127 : decode b_Mo_unseal 127 = .ok (.iaload, 1) := by decide +kernel
theorem d_Mo_unseal_128 : decode b_Mo_unseal 128 = .ok (.iload_n 1, 1) := by decide +kernel
theorem d_Mo_unseal_129 : decode b_Mo_unseal 129 = .ok (.if_icmp .ne 21, 3) := by decide +kernel
theorem d_Mo_unseal_132 : decode b_Mo_unseal 132 = .ok (.aload_n 0, 1) := by decide +kernel
theorem d_Mo_unseal_133 : decode b_Mo_unseal 133 = .ok (.getfield 86, 3) := by decide +kernel
theorem d_Mo_unseal_136 : decode b_Mo_unseal 136 = .ok (.iload 7, 2) := by decide +kernel
theorem d_Mo_unseal_138 : decode b_Mo_unseal 138 = .ok (.iaload, 1) := by decide +kernel
theorem d_Mo_unseal_139 : decode b_Mo_unseal 139 = .ok (.iload_n 2, 1) := by decide +kernel
theorem d_Mo_unseal_140 : decode b_Mo_unseal 140 = .ok (.if_icmp .ne 10, 3) := by decide +kernel
theorem d_Mo_unseal_143 : decode b_Mo_unseal 143 = .ok (.aload_n 0, 1) := by decide +kernel
theorem d_Mo_unseal_144 : decode b_Mo_unseal 144 = .ok (.bipush (-8), 2) := by decide +kernel
theorem d_Mo_unseal_146 : decode b_Mo_unseal 146 = .ok (.invokevirtual 189, 3) := by decide +kernel
theorem d_Mo_unseal_149 : decode b_Mo_unseal 149 = .ok (.ireturn, 1) := by decide +kernel
theorem d_Mo_unseal_150 : decode b_Mo_unseal 150 = .ok (.iinc 7 1, 3) := by decide +kernel
theorem d_Mo_unseal_153 : decode b_Mo_unseal 153 = .ok (.goto (-41), 3) := by decide +kernel
theorem d_Mo_unseal_156 : decode b_Mo_unseal 156 = .ok (.iload_n 3, 1) := by decide +kernel
theorem d_Mo_unseal_157 : decode b_Mo_unseal 157 = .ok (.ifCond .ne 10, 3) := by decide +kernel
theorem d_Mo_unseal_160 : decode b_Mo_unseal 160 = .ok (.aload_n 0, 1) := by decide +kernel
theorem d_Mo_unseal_161 : decode b_Mo_unseal 161 = .ok (.bipush (-9), 2) := by decide +kernel
theorem d_Mo_unseal_163 : decode b_Mo_unseal 163 = .ok (.invokevirtual 189, 3) := by decide +kernel
theorem d_Mo_unseal_166 : decode b_Mo_unseal 166 = .ok (.ireturn, 1) := by decide +kernel
theorem d_Mo_unseal_167 : decode b_Mo_unseal 167 = .ok (.aload_n 0, 1) := by decide +kernel
theorem d_Mo_unseal_168 : decode b_Mo_unseal 168 = .ok (.getfield 83, 3) := by decide +kernel
theorem d_Mo_unseal_171 : decode b_Mo_unseal 171 = .ok (.aload_n 0, 1) := by decide +kernel
theorem d_Mo_unseal_172 : decode b_Mo_unseal 172 = .ok (.getfield 216, 3) := by decide +kernel
theorem d_Mo_unseal_175 : decode b_Mo_unseal 175 = .ok (.iload_n 1, 1) := by decide +kernel
theorem d_Mo_unseal_176 : decode b_Mo_unseal 176 = .ok (.iastore, 1) := by decide +kernel
theorem d_Mo_unseal_177 : decode b_Mo_unseal 177 = .ok (.aload_n 0, 1) := by decide +kernel
theorem d_Mo_unseal_178 : decode b_Mo_unseal 178 = .ok (.getfield 86, 3) := by decide +kernel
theorem d_Mo_unseal_181 : decode b_Mo_unseal 181 = .ok (.aload_n 0, 1) := by decide +kernel
theorem d_Mo_unseal_182 : decode b_Mo_unseal 182 = .ok (.getfield 216, 3) := by decide +kernel
theorem d_Mo_unseal_185 : decode b_Mo_unseal 185 = .ok (.iload_n 2, 1) := by decide +kernel
theorem d_Mo_unseal_186 : decode b_Mo_unseal 186 = .ok (.iastore, 1) := by decide +kernel
theorem d_Mo_unseal_187 : decode b_Mo_unseal 187 = .ok (.aload_n 0, 1) := by decide +kernel
theorem d_Mo_unseal_188 : decode b_Mo_unseal 188 = .ok (.dup, 1) := by decide +kernel
theorem d_Mo_unseal_189 : decode b_Mo_unseal 189 = .ok (.getfield 216, 3) := by decide +kernel
theorem d_Mo_unseal_192 : decode b_Mo_unseal 192 = .ok (.iconst 1, 1) := by decide +kernel
theorem d_Mo_unseal_193 : decode b_Mo_unseal 193 = .ok (.iadd, 1) := by decide +kernel
theorem d_Mo_unseal_194 : decode b_Mo_unseal 194 = .ok (.putfield 216, 3) := by decide +kernel
theorem d_Mo_unseal_197 : decode b_Mo_unseal 197 = .ok (.aload_n 0, 1) := by decide +kernel
theorem d_Mo_unseal_198 : decode b_Mo_unseal 198 = .ok (.getfield 89, 3) := by decide +kernel
theorem d_Mo_unseal_201 : decode b_Mo_unseal 201 = .ok (.iconst 0, 1) := by decide +kernel
theorem d_Mo_unseal_202 : decode b_Mo_unseal 202 = .ok (.iaload, 1) := by decide +kernel
theorem d_Mo_unseal_203 : decode b_Mo_unseal 203 = .ok (.invokestatic 186, 3) := by decide +kernel
theorem d_Mo_unseal_206 : decode b_Mo_unseal 206 = .ok (.ifCond .eq 15, 3) := by decide +kernel
theorem d_Mo_unseal_209 : decode b_Mo_unseal 209 = .ok (.aload_n 0, 1) := by decide +kernel
theorem d_Mo_unseal_210 : decode b_Mo_unseal 210 = .ok (.getfield 89, 3) := by decide +kernel
theorem d_Mo_unseal_213 : decode b_Mo_unseal 213 = .ok (.iconst 2, 1) := by decide +kernel
theorem d_Mo_unseal_214 : decode b_Mo_unseal 214 = .ok (.iaload, 1) := by decide +kernel
theorem d_Mo_unseal_215 : decode b_Mo_unseal 215 = .ok (.invokestatic 154, 3) := by decide +kernel
theorem d_Mo_unseal_218 : decode b_Mo_unseal 218 = .ok (.ifCond .ne 10, 3) := by decide +kernel
theorem d_Mo_unseal_221 : decode b_Mo_unseal 221 = .ok (.aload_n 0, 1) := by decide +kernel
theorem d_Mo_unseal_222 : decode b_Mo_unseal 222 = .ok (.bipush (-5), 2) := by decide +kernel
theorem d_Mo_unseal_224 : decode b_Mo_unseal 224 = .ok (.invokevirtual 189, 3) := by decide +kernel
theorem d_Mo_unseal_227 : decode b_Mo_unseal 227 = .ok (.ireturn, 1) := by decide +kernel
theorem d_Mo_unseal_228 : decode b_Mo_unseal 228 = .ok (.aload_n 0, 1) := by decide +kernel
theorem d_Mo_unseal_229 : decode b_Mo_unseal 229 = .ok (.iconst 0, 1) := by decide +kernel
theorem d_Mo_unseal_230 : decode b_Mo_unseal 230 = .ok (.iload 4, 2) := by decide +kernel
theorem d_Mo_unseal_232 : decode b_Mo_unseal 232 = .ok (.aload_n 0, 1) := by decide +kernel
theorem d_Mo_unseal_233 : decode b_Mo_unseal 233 = .ok (.getfield 89, 3) := by decide +kernel
theorem d_Mo_unseal_236 : decode b_Mo_unseal 236 = .ok (.iconst 0, 1) := by decide +kernel
theorem d_Mo_unseal_237 : decode b_Mo_unseal 237 = .ok (.iaload, 1) := by decide +kernel
theorem d_Mo_unseal_238 : decode b_Mo_unseal 238 = .ok (.aload_n 0, 1) := by decide +kernel
theorem d_Mo_unseal_239 : decode b_Mo_unseal 239 = .ok (.getfield 89, 3) := by decide +kernel
theorem d_Mo_unseal_242 : decode b_Mo_unseal 242 = .ok (.iconst 2, 1) := by decide +kernel
theorem d_Mo_unseal_243 : decode b_Mo_unseal 243 = .ok (.iaload, 1) := by decide +kernel
theorem d_Mo_unseal_244 : decode b_Mo_unseal 244 = .ok (.aload_n 0, 1) := by decide +kernel
theorem d_Mo_unseal_245 : decode b_Mo_unseal 245 = .ok (.getfield 89, 3) := by decide +kernel
theorem d_Mo_unseal_248 : decode b_Mo_unseal 248 = .ok (.iconst 3, 1) := by decide +kernel
theorem d_Mo_unseal_249 : decode b_Mo_unseal 249 = .ok (.iaload, 1) := by decide +kernel
theorem d_Mo_unseal_250 : decode b_Mo_unseal 250 = .ok (.invokevirtual 203, 3) := by decide +kernel
theorem d_Mo_unseal_253 : decode b_Mo_unseal 253 = .ok (.iconst 2, 1) := by decide +kernel
theorem d_Mo_unseal_254 : decode b_Mo_unseal 254 = .ok (.if_icmp .eq 10, 3) := by decide +kernel
theorem d_Mo_unseal_257 : decode b_Mo_unseal 257 = .ok (.aload_n 0, 1) := by decide +kernel
theorem d_Mo_unseal_258 : decode b_Mo_unseal 258 = .ok (.bipush (-4), 2) := by decide +kernel
theorem d_Mo_unseal_260 : decode b_Mo_unseal 260 = .ok (.invokevirtual 189, 3) := by decide +kernel
theorem d_Mo_unseal_263 : decode b_Mo_unseal 263 = .ok (.ireturn, 1) := by decide +kernel
theorem d_Mo_unseal_264 : decode b_Mo_unseal 264 = .ok (.aload_n 0, 1) := by decide +kernel
theorem d_Mo_unseal_265 : decode b_Mo_unseal 265 = .ok (.iconst 0, 1) := by decide +kernel
theorem d_Mo_unseal_266 : decode b_Mo_unseal 266 = .ok (.aload_n 0, 1) := by decide +kernel
theorem d_Mo_unseal_267 : decode b_Mo_unseal 267 = .ok (.getfield 89, 3) := by decide +kernel
theorem d_Mo_unseal_270 : decode b_Mo_unseal 270 = .ok (.iconst 0, 1) := by decide +kernel
theorem d_Mo_unseal_271 : decode b_Mo_unseal 271 = .ok (.iaload, 1) := by decide +kernel
theorem d_Mo_unseal_272 : decode b_Mo_unseal 272 = .ok (.aload_n 0, 1) := by decide +kernel
theorem d_Mo_unseal_273 : decode b_Mo_unseal 273 = .ok (.getfield 89, 3) := by decide +kernel
theorem d_Mo_unseal_276 : decode b_Mo_unseal 276 = .ok (.iconst 1, 1) := by decide +kernel
theorem d_Mo_unseal_277 : decode b_Mo_unseal 277 = .ok (.iaload, 1) := by decide +kernel
theorem d_Mo_unseal_278 : decode b_Mo_unseal 278 = .ok (.aload_n 0, 1) := by decide +kernel
theorem d_Mo_unseal_279 : decode b_Mo_unseal 279 = .ok (.getfield 89, 3) := by decide +kernel
theorem d_Mo_unseal_282 : decode b_Mo_unseal 282 = .ok (.iconst 2, 1) := by decide +kernel
theorem d_Mo_unseal_283 : decode b_Mo_unseal 283 = .ok (.iaload, 1) := by decide +kernel
theorem d_Mo_unseal_284 : decode b_Mo_unseal 284 = .ok (.aload_n 0, 1) := by decide +kernel
theorem d_Mo_unseal_285 : decode b_Mo_unseal 285 = .ok (.getfield 89, 3) := by decide +kernel
theorem d_Mo_unseal_288 : decode b_Mo_unseal 288 = .ok (.iconst 3, 1) := by decide +kernel
theorem d_Mo_unseal_289 : decode b_Mo_unseal 289 = .ok (.iaload, 1) := by decide +kernel
theorem d_Mo_unseal_290 : decode b_Mo_unseal 290 = .ok (.invokevirtual 200, 3) := by decide +kernel
theorem d_Mo_unseal_293 : decode b_Mo_unseal 293 = .ok (.ireturn, 1) := by decide +kernel
theorem d_Mo_top_0 : decode b_Mo_top 0 = .ok (.iconst 0, 1) := by decide +kernel
theorem d_Mo_top_1 : decode b_Mo_top 1 = .ok (.istore_n 2, 1) := by decide +kernel
theorem d_Mo_top_2 : decode b_Mo_top 2 = .ok (.iconst 0, 1) := by decide +kernel
theorem d_Mo_top_3 : decode b_Mo_top 3 = .ok (.istore_n 3, 1) := by decide +kernel
theorem d_Mo_top_4 : decode b_Mo_top 4 = .ok (.iload_n 3, 1) := by decide +kernel
theorem d_Mo_top_5 : decode b_Mo_top 5 = .ok (.aload_n 0, 1) := by decide +kernel
theorem d_Mo_top_6 : decode b_Mo_top 6 = .ok (.getfield 216, 3) := by decide +kernel
theorem d_Mo_top_9 : decode b_Mo_top 9 = .ok (.if_icmp .ge 36, 3) := by decide +kernel
theorem d_Mo_top_12 : decode b_Mo_top 12 = .ok (.aload_n 0, 1) := by decide +kernel
theorem d_Mo_top_13 : decode b_Mo_top 13 = .ok (.getfield 83, 3) := by decide +kernel
theorem d_Mo_top_16 : decode b_Mo_top 16 = .ok (.iload_n 3, 1) := by decide +kernel
theorem d_Mo_top_17 : decode b_Mo_top 17 = .ok (.iaload, 1) := by decide +kernel
theorem d_Mo_top_18 : decode b_Mo_top 18 = .ok (.iload_n 1, 1) := by decide +kernel
theorem d_Mo_top_19 : decode b_Mo_top 19 = .ok (.if_icmp .ne 20, 3) := by decide +kernel
theorem d_Mo_top_22 : decode b_Mo_top 22 = .ok (.aload_n 0, 1) := by decide +kernel
theorem d_Mo_top_23 : decode b_Mo_top 23 = .ok (.getfield 86, 3) := by decide +kernel
theorem d_Mo_top_26 : decode b_Mo_top 26 = .ok (.iload_n 3, 1) := by decide +kernel
theorem d_Mo_top_27 : decode b_Mo_top 27 = .ok (.iaload, 1) := by decide +kernel
theorem d_Mo_top_28 : decode b_Mo_top 28 = .ok (.iload_n 2, 1) := by decide +kernel
theorem d_Mo_top_29 : decode b_Mo_top 29 = .ok (.if_icmp .le 10, 3) := by decide +kernel
theorem d_Mo_top_32 : decode b_Mo_top 32 = .ok (.aload_n 0, 1) := by decide +kernel
theorem d_Mo_top_33 : decode b_Mo_top 33 = .ok (.getfield 86, 3) := by decide +kernel
theorem d_Mo_top_36 : decode b_Mo_top 36 = .ok (.iload_n 3, 1) := by decide +kernel
theorem d_Mo_top_37 : decode b_Mo_top 37 = .ok (.iaload, 1) := by decide +kernel
theorem d_Mo_top_38 : decode b_Mo_top 38 = .ok (.istore_n 2, 1) := by decide +kernel
theorem d_Mo_top_39 : decode b_Mo_top 39 = .ok (.iinc 3 1, 3) := by decide +kernel
theorem d_Mo_top_42 : decode b_Mo_top 42 = .ok (.goto (-38), 3) := by decide +kernel
theorem d_Mo_top_45 : decode b_Mo_top 45 = .ok (.iload_n 2, 1) := by decide +kernel
theorem d_Mo_top_46 : decode b_Mo_top 46 = .ok (.ireturn, 1) := by decide +kernel
theorem d_Mo_rekey_0 : decode b_Mo_rekey 0 = .ok (.aload_n 0, 1) := by decide +kernel
theorem d_Mo_rekey_1 : decode b_Mo_rekey 1 = .ok (.aload_n 0, 1) := by decide +kernel
theorem d_Mo_rekey_2 : decode b_Mo_rekey 2 = .ok (.getfield 174, 3) := by decide +kernel
theorem d_Mo_rekey_5 : decode b_Mo_rekey 5 = .ok (.bipush 20, 2) := by decide +kernel
theorem d_Mo_rekey_7 : decode b_Mo_rekey 7 = .ok (.iadd, 1) := by decide +kernel
theorem d_Mo_rekey_8 : decode b_Mo_rekey 8 = .ok (.putfield 219, 3) := by decide +kernel
theorem d_Mo_rekey_11 : decode b_Mo_rekey 11 = .ok (.aload_n 0, 1) := by decide +kernel
theorem d_Mo_rekey_12 : decode b_Mo_rekey 12 = .ok (.dup, 1) := by decide +kernel
theorem d_Mo_rekey_13 : decode b_Mo_rekey 13 = .ok (.getfield 95, 3) := by decide +kernel
theorem d_Mo_rekey_16 : decode b_Mo_rekey 16 = .ok (.iconst 1, 1) := by decide +kernel
theorem d_Mo_rekey_17 : decode b_Mo_rekey 17 = .ok (.iadd, 1) := by decide +kernel
theorem d_Mo_rekey_18 : decode b_Mo_rekey 18 = .ok (.putfield 95, 3) := by decide +kernel
theorem d_Mo_rekey_21 : decode b_Mo_rekey 21 = .ok (.aload_n 0, 1) := by decide +kernel
theorem d_Mo_rekey_22 : decode b_Mo_rekey 22 = .ok (.iconst 0, 1) := by decide +kernel
theorem d_Mo_rekey_23 : decode b_Mo_rekey 23 = .ok (.putfield 206, 3) := by decide +kernel
theorem d_Mo_rekey_26 : decode b_Mo_rekey 26 = .ok (.aload_n 0, 1) := by decide +kernel
theorem d_Mo_rekey_27 : decode b_Mo_rekey 27 = .ok (.getfield 95, 3) := by decide +kernel
theorem d_Mo_rekey_30 : decode b_Mo_rekey 30 = .ok (.ireturn, 1) := by decide +kernel
theorem d_Mo_tick_0 : decode b_Mo_tick 0 = .ok (.iload_n 1, 1) := by decide +kernel
theorem d_Mo_tick_1 : decode b_Mo_tick 1 = .ok (.iconst 1, 1) := by decide +kernel
theorem d_Mo_tick_2 : decode b_Mo_tick 2 = .ok (.if_icmp .lt 9, 3) := by decide +kernel
theorem d_Mo_tick_5 : decode b_Mo_tick 5 = .ok (.iload_n 1, 1) := by decide +kernel
theorem d_Mo_tick_6 : decode b_Mo_tick 6 = .ok (.bipush 100, 2) := by decide +kernel
theorem d_Mo_tick_8 : decode b_Mo_tick 8 = .ok (.if_icmp .le 5, 3) := by decide +kernel
theorem d_Mo_tick_11 : decode b_Mo_tick 11 = .ok (.iconst (-1), 1) := by decide +kernel
theorem d_Mo_tick_12 : decode b_Mo_tick 12 = .ok (.ireturn, 1) := by decide +kernel
theorem d_Mo_tick_13 : decode b_Mo_tick 13 = .ok (.aload_n 0, 1) := by decide +kernel
theorem d_Mo_tick_14 : decode b_Mo_tick 14 = .ok (.dup, 1) := by decide +kernel
theorem d_Mo_tick_15 : decode b_Mo_tick 15 = .ok (.getfield 174, 3) := by decide +kernel
theorem d_Mo_tick_18 : decode b_Mo_tick 18 = .ok (.iload_n 1, 1) := by decide +kernel
theorem d_Mo_tick_19 : decode b_Mo_tick 19 = .ok (.iadd, 1) := by decide +kernel
theorem d_Mo_tick_20 : decode b_Mo_tick 20 = .ok (.putfield 174, 3) := by decide +kernel
theorem d_Mo_tick_23 : decode b_Mo_tick 23 = .ok (.aload_n 0, 1) := by decide +kernel
theorem d_Mo_tick_24 : decode b_Mo_tick 24 = .ok (.getfield 142, 3) := by decide +kernel
theorem d_Mo_tick_27 : decode b_Mo_tick 27 = .ok (.iconst 1, 1) := by decide +kernel
theorem d_Mo_tick_28 : decode b_Mo_tick 28 = .ok (.isub, 1) := by decide +kernel
theorem d_Mo_tick_29 : decode b_Mo_tick 29 = .ok (.istore_n 2, 1) := by decide +kernel
theorem d_Mo_tick_30 : decode b_Mo_tick 30 = .ok (.iload_n 2, 1) := by decide +kernel
theorem d_Mo_tick_31 : decode b_Mo_tick 31 = .ok (.ifCond .lt 37, 3) := by decide +kernel
theorem d_Mo_tick_34 : decode b_Mo_tick 34 = .ok (.aload_n 0, 1) := by decide +kernel
theorem d_Mo_tick_35 : decode b_Mo_tick 35 = .ok (.getfield 174, 3) := by decide +kernel
theorem d_Mo_tick_38 : decode b_Mo_tick 38 = .ok (.aload_n 0, 1) := by decide +kernel
theorem d_Mo_tick_39 : decode b_Mo_tick 39 = .ok (.getfield 74, 3) := by decide +kernel
theorem d_Mo_tick_42 : decode b_Mo_tick 42 = .ok (.iload_n 2, 1) := by decide +kernel
theorem d_Mo_tick_43 : decode b_Mo_tick 43 = .ok (.iaload, 1) := by decide +kernel
theorem d_Mo_tick_44 : decode b_Mo_tick 44 = .ok (.isub, 1) := by decide +kernel
theorem d_Mo_tick_45 : decode b_Mo_tick 45 = .ok (.aload_n 0, 1) := by decide +kernel
theorem d_Mo_tick_46 : decode b_Mo_tick 46 = .ok (.getfield 53, 3) := by decide +kernel
theorem d_Mo_tick_49 : decode b_Mo_tick 49 = .ok (.iload_n 2, 1) := by decide +kernel
theorem d_Mo_tick_50 : decode b_Mo_tick 50 = .ok (.iaload, 1) := by decide +kernel
theorem d_Mo_tick_51 : decode b_Mo_tick 51 = .ok (.invokestatic 225, 3) := by decide +kernel
theorem d_Mo_tick_54 : decode b_Mo_tick 54 = .ok (.if_icmp .lt 8, 3) := by decide +kernel
theorem d_Mo_tick_57 : decode b_Mo_tick 57 = .ok (.aload_n 0, 1) := by decide +kernel
theorem d_Mo_tick_58 : decode b_Mo_tick 58 = .ok (.iload_n 2, 1) := by decide +kernel
theorem d_Mo_tick_59 : decode b_Mo_tick 59 = .ok (.invokevirtual 168, 3) := by decide +kernel
theorem d_Mo_tick_62 : decode b_Mo_tick 62 = .ok (.iinc 2 (-1), 3) := by decide +kernel
theorem d_Mo_tick_65 : decode b_Mo_tick 65 = .ok (.goto (-35), 3) := by decide +kernel
theorem d_Mo_tick_68 : decode b_Mo_tick 68 = .ok (.aload_n 0, 1) := by decide +kernel
theorem d_Mo_tick_69 : decode b_Mo_tick 69 = .ok (.getfield 174, 3) := by decide +kernel
theorem d_Mo_tick_72 : decode b_Mo_tick 72 = .ok (.ireturn, 1) := by decide +kernel
theorem d_Mo_limit_0 : decode b_Mo_limit 0 = .ok (.iload_n 0, 1) := by decide +kernel
theorem d_Mo_limit_1 : decode b_Mo_limit 1 = .ok (.iconst 3, 1) := by decide +kernel
theorem d_Mo_limit_2 : decode b_Mo_limit 2 = .ok (.if_icmp .ne 6, 3) := by decide +kernel
theorem d_Mo_limit_5 : decode b_Mo_limit 5 = .ok (.bipush 60, 2) := by decide +kernel
theorem d_Mo_limit_7 : decode b_Mo_limit 7 = .ok (.ireturn, 1) := by decide +kernel
theorem d_Mo_limit_8 : decode b_Mo_limit 8 = .ok (.iload_n 0, 1) := by decide +kernel
theorem d_Mo_limit_9 : decode b_Mo_limit 9 = .ok (.iconst 4, 1) := by decide +kernel
theorem d_Mo_limit_10 : decode b_Mo_limit 10 = .ok (.if_icmp .eq 9, 3) := by decide +kernel
theorem d_Mo_limit_13 : decode b_Mo_limit 13 = .ok (.iload_n 0, 1) := by decide +kernel
theorem d_Mo_limit_14 : decode b_Mo_limit 14 = .ok (.bipush 7, 2) := by decide +kernel
theorem d_Mo_limit_16 : decode b_Mo_limit 16 = .ok (.if_icmp .ne 6, 3) := by decide +kernel
theorem d_Mo_limit_19 : decode b_Mo_limit 19 = .ok (.bipush 30, 2) := by decide +kernel
theorem d_Mo_limit_21 : decode b_Mo_limit 21 = .ok (.ireturn, 1) := by decide +kernel
theorem d_Mo_limit_22 : decode b_Mo_limit 22 = .ok (.iload_n 0, 1) := by decide +kernel
theorem d_Mo_limit_23 : decode b_Mo_limit 23 = .ok (.iconst 5, 1) := by decide +kernel
theorem d_Mo_limit_24 : decode b_Mo_limit 24 = .ok (.if_icmp .ne 7, 3) := by decide +kernel
theorem d_Mo_limit_27 : decode b_Mo_limit 27 = .ok (.iconst 5, 1) := by decide +kernel
theorem d_Mo_limit_28 : decode b_Mo_limit 28 = .ok (.goto 5, 3) := by decide +kernel
theorem d_Mo_limit_31 : decode b_Mo_limit 31 = .ok (.bipush 10, 2) := by decide +kernel
theorem d_Mo_limit_33 : decode b_Mo_limit 33 = .ok (.ireturn, 1) := by decide +kernel
theorem d_Mo_emission_0 : decode b_Mo_emission 0 = .ok (.aload_n 0, 1) := by decide +kernel
theorem d_Mo_emission_1 : decode b_Mo_emission 1 = .ok (.getfield 180, 3) := by decide +kernel
theorem d_Mo_emission_4 : decode b_Mo_emission 4 = .ok (.ifCond .eq 12, 3) := by decide +kernel
theorem d_Mo_emission_7 : decode b_Mo_emission 7 = .ok (.iload_n 1, 1) := by decide +kernel
theorem d_Mo_emission_8 : decode b_Mo_emission 8 = .ok (.ifCond .lt 8, 3) := by decide +kernel
theorem d_Mo_emission_11 : decode b_Mo_emission 11 = .ok (.iload_n 1, 1) := by decide +kernel
theorem d_Mo_emission_12 : decode b_Mo_emission 12 = .ok (.iconst 3, 1) := by decide +kernel
theorem d_Mo_emission_13 : decode b_Mo_emission 13 = .ok (.if_icmp .le 7, 3) := by decide +kernel
theorem d_Mo_emission_16 : decode b_Mo_emission 16 = .ok (.iconst (-1), 1) := by decide +kernel
theorem d_Mo_emission_17 : decode b_Mo_emission 17 = .ok (.goto 9, 3) := by decide +kernel
theorem d_Mo_emission_20 : decode b_Mo_emission 20 = .ok (.aload_n 0, 1) := by decide +kernel
theorem d_Mo_emission_21 : decode b_Mo_emission 21 = .ok (.getfield 92, 3) := by decide +kernel
theorem d_Mo_emission_24 : decode b_Mo_emission 24 = .ok (.iload_n 1, 1) := by decide +kernel
theorem d_Mo_emission_25 : decode b_Mo_emission 25 = .ok (.iaload, 1) := by decide +kernel
theorem d_Mo_emission_26 : decode b_Mo_emission 26 = .ok (.ireturn, 1) := by decide +kernel
theorem d_Mo_flow_0 : decode b_Mo_flow 0 = .ok (.iload_n 1, 1) := by decide +kernel
theorem d_Mo_flow_1 : decode b_Mo_flow 1 = .ok (.ifCond .lt 21, 3) := by decide +kernel
theorem d_Mo_flow_4 : decode b_Mo_flow 4 = .ok (.iload_n 1, 1) := by decide +kernel
theorem d_Mo_flow_5 : decode b_Mo_flow 5 = .ok (.aload_n 0, 1) := by decide +kernel
theorem d_Mo_flow_6 : decode b_Mo_flow 6 = .ok (.getfield 142, 3) := by decide +kernel
theorem d_Mo_flow_9 : decode b_Mo_flow 9 = .ok (.if_icmp .ge 13, 3) := by decide +kernel
theorem d_Mo_flow_12 : decode b_Mo_flow 12 = .ok (.iload_n 2, 1) := by decide +kernel
theorem d_Mo_flow_13 : decode b_Mo_flow 13 = .ok (.ifCond .lt 9, 3) := by decide +kernel
theorem d_Mo_flow_16 : decode b_Mo_flow 16 = .ok (.iload_n 2, 1) := by decide +kernel
theorem d_Mo_flow_17 : decode b_Mo_flow 17 = .ok (.bipush 7, 2) := by decide +kernel
theorem d_Mo_flow_19 : decode b_Mo_flow 19 = .ok (.if_icmp .le 5, 3) := by decide +kernel
theorem d_Mo_flow_22 : decode b_Mo_flow 22 = .ok (.iconst (-1), 1) := by decide +kernel
theorem d_Mo_flow_23 : decode b_Mo_flow 23 = .ok (.ireturn, 1) := by decide +kernel
theorem d_Mo_flow_24 : decode b_Mo_flow 24 = .ok (.iload_n 2, 1) := by decide +kernel
theorem d_Mo_flow_25 : decode b_Mo_flow 25 = .ok (.iconst 4, 1) := by decide +kernel
theorem d_Mo_flow_26 : decode b_Mo_flow 26 = .ok (.if_icmp .ge 51, 3) := by decide +kernel
theorem d_Mo_flow_29 : decode b_Mo_flow 29 = .ok (.iload_n 2, 1) := by decide +kernel
theorem d_Mo_flow_30 : decode b_Mo_flow 30 = .ok (.ifCond .ne 12, 3) := by decide +kernel
theorem d_Mo_flow_33 : decode b_Mo_flow 33 = .ok (.aload_n 0, 1) := by decide +kernel
theorem d_Mo_flow_34 : decode b_Mo_flow 34 = .ok (.getfield 53, 3) := by decide +kernel
theorem d_Mo_flow_37 : decode b_Mo_flow 37 = .ok (.iload_n 1, 1) := by decide +kernel
theorem d_Mo_flow_38 : decode b_Mo_flow 38 = .ok (.iaload, 1) := by decide +kernel
theorem d_Mo_flow_39 : decode b_Mo_flow 39 = .ok (.goto 37, 3) := by decide +kernel
theorem d_Mo_flow_42 : decode b_Mo_flow 42 = .ok (.iload_n 2, 1) := by decide +kernel
theorem d_Mo_flow_43 : decode b_Mo_flow 43 = .ok (.iconst 1, 1) := by decide +kernel
theorem d_Mo_flow_44 : decode b_Mo_flow 44 = .ok (.if_icmp .ne 12, 3) := by decide +kernel
theorem d_Mo_flow_47 : decode b_Mo_flow 47 = .ok (.aload_n 0, 1) := by decide +kernel
theorem d_Mo_flow_48 : decode b_Mo_flow 48 = .ok (.getfield 56, 3) := by decide +kernel
theorem d_Mo_flow_51 : decode b_Mo_flow 51 = .ok (.iload_n 1, 1) := by decide +kernel
theorem d_Mo_flow_52 : decode b_Mo_flow 52 = .ok (.iaload, 1) := by decide +kernel
theorem d_Mo_flow_53 : decode b_Mo_flow 53 = .ok (.goto 23, 3) := by decide +kernel
theorem d_Mo_flow_56 : decode b_Mo_flow 56 = .ok (.iload_n 2, 1) := by decide +kernel
theorem d_Mo_flow_57 : decode b_Mo_flow 57 = .ok (.iconst 2, 1) := by decide +kernel
theorem d_Mo_flow_58 : decode b_Mo_flow 58 = .ok (.if_icmp .ne 12, 3) := by decide +kernel
theorem d_Mo_flow_61 : decode b_Mo_flow 61 = .ok (.aload_n 0, 1) := by decide +kernel
theorem d_Mo_flow_62 : decode b_Mo_flow 62 = .ok (.getfield 59, 3) := by decide +kernel
theorem d_Mo_flow_65 : decode b_Mo_flow 65 = .ok (.iload_n 1, 1) := by decide +kernel
theorem d_Mo_flow_66 : decode b_Mo_flow 66 = .ok (.iaload, 1) := by decide +kernel
theorem d_Mo_flow_67 : decode b_Mo_flow 67 = .ok (.goto 9, 3) := by decide +kernel
theorem d_Mo_flow_70 : decode b_Mo_flow 70 = .ok (.aload_n 0, 1) := by decide +kernel
theorem d_Mo_flow_71 : decode b_Mo_flow 71 = .ok (.getfield 62, 3) := by decide +kernel
theorem d_Mo_flow_74 : decode b_Mo_flow 74 = .ok (.iload_n 1, 1) := by decide +kernel
theorem d_Mo_flow_75 : decode b_Mo_flow 75 = .ok (.iaload, 1) := by decide +kernel
theorem d_Mo_flow_76 : decode b_Mo_flow 76 = .ok (.ireturn, 1) := by decide +kernel
theorem d_Mo_flow_77 : decode b_Mo_flow 77 = .ok (.iload_n 2, 1) := by decide +kernel
theorem d_Mo_flow_78 : decode b_Mo_flow 78 = .ok (.iconst 4, 1) := by decide +kernel
theorem d_Mo_flow_79 : decode b_Mo_flow 79 = .ok (.if_icmp .ne 12, 3) := by decide +kernel
theorem d_Mo_flow_82 : decode b_Mo_flow 82 = .ok (.aload_n 0, 1) := by decide +kernel
theorem d_Mo_flow_83 : decode b_Mo_flow 83 = .ok (.getfield 65, 3) := by decide +kernel
theorem d_Mo_flow_86 : decode b_Mo_flow 86 = .ok (.iload_n 1, 1) := by decide +kernel
theorem d_Mo_flow_87 : decode b_Mo_flow 87 = .ok (.iaload, 1) := by decide +kernel
theorem d_Mo_flow_88 : decode b_Mo_flow 88 = .ok (.goto 38, 3) := by decide +kernel
theorem d_Mo_flow_91 : decode b_Mo_flow 91 = .ok (.iload_n 2, 1) := by decide +kernel
theorem d_Mo_flow_92 : decode b_Mo_flow 92 = .ok (.iconst 5, 1) := by decide +kernel
theorem d_Mo_flow_93 : decode b_Mo_flow 93 = .ok (.if_icmp .ne 12, 3) := by decide +kernel
theorem d_Mo_flow_96 : decode b_Mo_flow 96 = .ok (.aload_n 0, 1) := by decide +kernel
theorem d_Mo_flow_97 : decode b_Mo_flow 97 = .ok (.getfield 68, 3) := by decide +kernel
theorem d_Mo_flow_100 : decode b_Mo_flow 100 = .ok (.iload_n 1, 1) := by decide +kernel
theorem d_Mo_flow_101 : decode b_Mo_flow 101 = .ok (.iaload, 1) := by decide +kernel
theorem d_Mo_flow_102 : decode b_Mo_flow 102 = .ok (.goto 24, 3) := by decide +kernel
theorem d_Mo_flow_105 : decode b_Mo_flow 105 = .ok (.iload_n 2, 1) := by decide +kernel
theorem d_Mo_flow_106 : decode b_Mo_flow 106 = .ok (.bipush 6, 2) := by decide +kernel
theorem d_Mo_flow_108 : decode b_Mo_flow 108 = .ok (.if_icmp .ne 12, 3) := by decide +kernel
theorem d_Mo_flow_111 : decode b_Mo_flow 111 = .ok (.aload_n 0, 1) := by decide +kernel
theorem d_Mo_flow_112 : decode b_Mo_flow 112 = .ok (.getfield 71, 3) := by decide +kernel
theorem d_Mo_flow_115 : decode b_Mo_flow 115 = .ok (.iload_n 1, 1) := by decide +kernel
theorem d_Mo_flow_116 : decode b_Mo_flow 116 = .ok (.iaload, 1) := by decide +kernel
theorem d_Mo_flow_117 : decode b_Mo_flow 117 = .ok (.goto 9, 3) := by decide +kernel
theorem d_Mo_flow_120 : decode b_Mo_flow 120 = .ok (.aload_n 0, 1) := by decide +kernel
theorem d_Mo_flow_121 : decode b_Mo_flow 121 = .ok (.getfield 74, 3) := by decide +kernel
theorem d_Mo_flow_124 : decode b_Mo_flow 124 = .ok (.iload_n 1, 1) := by decide +kernel
theorem d_Mo_flow_125 : decode b_Mo_flow 125 = .ok (.iaload, 1) := by decide +kernel
theorem d_Mo_flow_126 : decode b_Mo_flow 126 = .ok (.ireturn, 1) := by decide +kernel
theorem d_Mo_count_0 : decode b_Mo_count 0 = .ok (.iload_n 1, 1) := by decide +kernel
theorem d_Mo_count_1 : decode b_Mo_count 1 = .ok (.ifCond .lt 9, 3) := by decide +kernel
theorem d_Mo_count_4 : decode b_Mo_count 4 = .ok (.iload_n 1, 1) := by decide +kernel
theorem d_Mo_count_5 : decode b_Mo_count 5 = .ok (.bipush 11, 2) := by decide +kernel
theorem d_Mo_count_7 : decode b_Mo_count 7 = .ok (.if_icmp .le 5, 3) := by decide +kernel
theorem d_Mo_count_10 : decode b_Mo_count 10 = .ok (.iconst (-1), 1) := by decide +kernel
theorem d_Mo_count_11 : decode b_Mo_count 11 = .ok (.ireturn, 1) := by decide +kernel
theorem d_Mo_count_12 : decode b_Mo_count 12 = .ok (.iload_n 1, 1) := by decide +kernel
theorem d_Mo_count_13 : decode b_Mo_count 13 = .ok (.iconst 3, 1) := by decide +kernel
theorem d_Mo_count_14 : decode b_Mo_count 14 = .ok (.if_icmp .ge 31, 3) := by decide +kernel
theorem d_Mo_count_17 : decode b_Mo_count 17 = .ok (.iload_n 1, 1) := by decide +kernel
theorem d_Mo_count_18 : decode b_Mo_count 18 = .ok (.ifCond .ne 10, 3) := by decide +kernel
theorem d_Mo_count_21 : decode b_Mo_count 21 = .ok (.aload_n 0, 1) := by decide +kernel
theorem d_Mo_count_22 : decode b_Mo_count 22 = .ok (.getfield 119, 3) := by decide +kernel
theorem d_Mo_count_25 : decode b_Mo_count 25 = .ok (.goto 19, 3) := by decide +kernel
theorem d_Mo_count_28 : decode b_Mo_count 28 = .ok (.iload_n 1, 1) := by decide +kernel
theorem d_Mo_count_29 : decode b_Mo_count 29 = .ok (.iconst 1, 1) := by decide +kernel
theorem d_Mo_count_30 : decode b_Mo_count 30 = .ok (.if_icmp .ne 10, 3) := by decide +kernel
theorem d_Mo_count_33 : decode b_Mo_count 33 = .ok (.aload_n 0, 1) := by decide +kernel
theorem d_Mo_count_34 : decode b_Mo_count 34 = .ok (.getfield 142, 3) := by decide +kernel
theorem d_Mo_count_37 : decode b_Mo_count 37 = .ok (.goto 7, 3) := by decide +kernel
theorem d_Mo_count_40 : decode b_Mo_count 40 = .ok (.aload_n 0, 1) := by decide +kernel
theorem d_Mo_count_41 : decode b_Mo_count 41 = .ok (.getfield 139, 3) := by decide +kernel
theorem d_Mo_count_44 : decode b_Mo_count 44 = .ok (.ireturn, 1) := by decide +kernel
theorem d_Mo_count_45 : decode b_Mo_count 45 = .ok (.iload_n 1, 1) := by decide +kernel
theorem d_Mo_count_46 : decode b_Mo_count 46 = .ok (.bipush 6, 2) := by decide +kernel
theorem d_Mo_count_48 : decode b_Mo_count 48 = .ok (.if_icmp .ge 32, 3) := by decide +kernel
theorem d_Mo_count_51 : decode b_Mo_count 51 = .ok (.iload_n 1, 1) := by decide +kernel
theorem d_Mo_count_52 : decode b_Mo_count 52 = .ok (.iconst 3, 1) := by decide +kernel
theorem d_Mo_count_53 : decode b_Mo_count 53 = .ok (.if_icmp .ne 10, 3) := by decide +kernel
theorem d_Mo_count_56 : decode b_Mo_count 56 = .ok (.aload_n 0, 1) := by decide +kernel
theorem d_Mo_count_57 : decode b_Mo_count 57 = .ok (.invokevirtual 228, 3) := by decide +kernel
theorem d_Mo_count_60 : decode b_Mo_count 60 = .ok (.goto 19, 3) := by decide +kernel
theorem d_Mo_count_63 : decode b_Mo_count 63 = .ok (.iload_n 1, 1) := by decide +kernel
theorem d_Mo_count_64 : decode b_Mo_count 64 = .ok (.iconst 4, 1) := by decide +kernel
theorem d_Mo_count_65 : decode b_Mo_count 65 = .ok (.if_icmp .ne 10, 3) := by decide +kernel
theorem d_Mo_count_68 : decode b_Mo_count 68 = .ok (.aload_n 0, 1) := by decide +kernel
theorem d_Mo_count_69 : decode b_Mo_count 69 = .ok (.getfield 183, 3) := by decide +kernel
theorem d_Mo_count_72 : decode b_Mo_count 72 = .ok (.goto 7, 3) := by decide +kernel
theorem d_Mo_count_75 : decode b_Mo_count 75 = .ok (.aload_n 0, 1) := by decide +kernel
theorem d_Mo_count_76 : decode b_Mo_count 76 = .ok (.getfield 177, 3) := by decide +kernel
theorem d_Mo_count_79 : decode b_Mo_count 79 = .ok (.ireturn, 1) := by decide +kernel
theorem d_Mo_count_80 : decode b_Mo_count 80 = .ok (.iload_n 1, 1) := by decide +kernel
theorem d_Mo_count_81 : decode b_Mo_count 81 = .ok (.bipush 9, 2) := by decide +kernel
theorem d_Mo_count_83 : decode b_Mo_count 83 = .ok (.if_icmp .ge 34, 3) := by decide +kernel
theorem d_Mo_count_86 : decode b_Mo_count 86 = .ok (.iload_n 1, 1) := by decide +kernel
theorem d_Mo_count_87 : decode b_Mo_count 87 = .ok (.bipush 6, 2) := by decide +kernel
theorem d_Mo_count_89 : decode b_Mo_count 89 = .ok (.if_icmp .ne 10, 3) := by decide +kernel
theorem d_Mo_count_92 : decode b_Mo_count 92 = .ok (.aload_n 0, 1) := by decide +kernel
theorem d_Mo_count_93 : decode b_Mo_count 93 = .ok (.getfield 174, 3) := by decide +kernel
theorem d_Mo_count_96 : decode b_Mo_count 96 = .ok (.goto 20, 3) := by decide +kernel
theorem d_Mo_count_99 : decode b_Mo_count 99 = .ok (.iload_n 1, 1) := by decide +kernel
theorem d_Mo_count_100 : decode b_Mo_count 100 = .ok (.bipush 7, 2) := by decide +kernel
theorem d_Mo_count_102 : decode b_Mo_count 102 = .ok (.if_icmp .ne 10, 3) := by decide +kernel
theorem d_Mo_count_105 : decode b_Mo_count 105 = .ok (.aload_n 0, 1) := by decide +kernel
theorem d_Mo_count_106 : decode b_Mo_count 106 = .ok (.getfield 95, 3) := by decide +kernel
theorem d_Mo_count_109 : decode b_Mo_count 109 = .ok (.goto 7, 3) := by decide +kernel
theorem d_Mo_count_112 : decode b_Mo_count 112 = .ok (.aload_n 0, 1) := by decide +kernel
theorem d_Mo_count_113 : decode b_Mo_count 113 = .ok (.getfield 206, 3) := by decide +kernel
theorem d_Mo_count_116 : decode b_Mo_count 116 = .ok (.ireturn, 1) := by decide +kernel
theorem d_Mo_count_117 : decode b_Mo_count 117 = .ok (.iload_n 1, 1) := by decide +kernel
theorem d_Mo_count_118 : decode b_Mo_count 118 = .ok (.bipush 9, 2) := by decide +kernel
theorem d_Mo_count_120 : decode b_Mo_count 120 = .ok (.if_icmp .ne 14, 3) := by decide +kernel
theorem d_Mo_count_123 : decode b_Mo_count 123 = .ok (.aload_n 0, 1) := by decide +kernel
theorem d_Mo_count_124 : decode b_Mo_count 124 = .ok (.aload_n 0, 1) := by decide +kernel
theorem d_Mo_count_125 : decode b_Mo_count 125 = .ok (.getfield 95, 3) := by decide +kernel
theorem d_Mo_count_128 : decode b_Mo_count 128 = .ok (.invokevirtual 222, 3) := by decide +kernel
theorem d_Mo_count_131 : decode b_Mo_count 131 = .ok (.goto 20, 3) := by decide +kernel
theorem d_Mo_count_134 : decode b_Mo_count 134 = .ok (.iload_n 1, 1) := by decide +kernel
theorem d_Mo_count_135 : decode b_Mo_count 135 = .ok (.bipush 10, 2) := by decide +kernel
