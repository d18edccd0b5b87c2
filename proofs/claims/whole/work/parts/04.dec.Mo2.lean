theorem d_Mo_endFlow_80 : decode b_Mo_endFlow 80 = .ok (.iload_n 2, 1) := by decide +kernel
theorem d_Mo_endFlow_81 : decode b_Mo_endFlow 81 = .ok (.aload_n 0, 1) := by decide +kernel
theorem d_Mo_endFlow_82 : decode b_Mo_endFlow 82 = .ok (.getfield 65, 3) := by decide +kernel
theorem d_Mo_endFlow_85 : decode b_Mo_endFlow 85 = .ok (.iload_n 2, 1) := by decide +kernel
theorem d_Mo_endFlow_86 : decode b_Mo_endFlow 86 = .ok (.iconst 1, 1) := by decide +kernel
theorem d_Mo_endFlow_87 : decode b_Mo_endFlow 87 = .ok (.iadd, 1) := by decide +kernel
theorem d_Mo_endFlow_88 : decode b_Mo_endFlow 88 = .ok (.iaload, 1) := by decide +kernel
theorem d_Mo_endFlow_89 : decode b_Mo_endFlow 89 = .ok (.iastore, 1) := by decide +kernel
theorem d_Mo_endFlow_90 : decode b_Mo_endFlow 90 = .ok (.aload_n 0, 1) := by decide +kernel
theorem d_Mo_endFlow_91 : decode b_Mo_endFlow 91 = .ok (.getfield 68, 3) := by decide +kernel
theorem d_Mo_endFlow_94 : decode b_Mo_endFlow 94 = .ok (.iload_n 2, 1) := by decide +kernel
theorem d_Mo_endFlow_95 : decode b_Mo_endFlow 95 = .ok (.aload_n 0, 1) := by decide +kernel
theorem d_Mo_endFlow_96 : decode b_Mo_endFlow 96 = .ok (.getfield 68, 3) := by decide +kernel
theorem d_Mo_endFlow_99 : decode b_Mo_endFlow 99 = .ok (.iload_n 2, 1) := by decide +kernel
theorem d_Mo_endFlow_100 : decode b_Mo_endFlow 100 = .ok (.iconst 1, 1) := by decide +kernel
theorem d_Mo_endFlow_101 : decode b_Mo_endFlow 101 = .ok (.iadd, 1) := by decide +kernel
theorem d_Mo_endFlow_102 : decode b_Mo_endFlow 102 = .ok (.iaload, 1) := by decide +kernel
theorem d_Mo_endFlow_103 : decode b_Mo_endFlow 103 = .ok (.iastore, 1) := by decide +kernel
theorem d_Mo_endFlow_104 : decode b_Mo_endFlow 104 = .ok (.aload_n 0, 1) := by decide +kernel
theorem d_Mo_endFlow_105 : decode b_Mo_endFlow 105 = .ok (.getfield 71, 3) := by decide +kernel
theorem d_Mo_endFlow_108 : decode b_Mo_endFlow 108 = .ok (.iload_n 2, 1) := by decide +kernel
theorem d_Mo_endFlow_109 : decode b_Mo_endFlow 109 = .ok (.aload_n 0, 1) := by decide +kernel
theorem d_Mo_endFlow_110 : decode b_Mo_endFlow 110 = .ok (.getfield 71, 3) := by decide +kernel
theorem d_Mo_endFlow_113 : decode b_Mo_endFlow 113 = .ok (.iload_n 2, 1) := by decide +kernel
theorem d_Mo_endFlow_114 : decode b_Mo_endFlow 114 = .ok (.iconst 1, 1) := by decide +kernel
theorem d_Mo_endFlow_115 : decode b_Mo_endFlow 115 = .ok (.iadd, 1) := by decide +kernel
theorem d_Mo_endFlow_116 : decode b_Mo_endFlow 116 = .ok (.iaload, 1) := by decide +kernel
theorem d_Mo_endFlow_117 : decode b_Mo_endFlow 117 = .ok (.iastore, 1) := by decide +kernel
theorem d_Mo_endFlow_118 : decode b_Mo_endFlow 118 = .ok (.aload_n 0, 1) := by decide +kernel
theorem d_Mo_endFlow_119 : decode b_Mo_endFlow 119 = .ok (.getfield 74, 3) := by decide +kernel
theorem d_Mo_endFlow_122 : decode b_Mo_endFlow 122 = .ok (.iload_n 2, 1) := by decide +kernel
theorem d_Mo_endFlow_123 : decode b_Mo_endFlow 123 = .ok (.aload_n 0, 1) := by decide +kernel
theorem d_Mo_endFlow_124 : decode b_Mo_endFlow 124 = .ok (.getfield 74, 3) := by decide +kernel
theorem d_Mo_endFlow_127 : decode b_Mo_endFlow 127 = .ok (.iload_n 2, 1) := by decide +kernel
theorem d_Mo_endFlow_128 : decode b_Mo_endFlow 128 = .ok (.iconst 1, 1) := by decide +kernel
theorem d_Mo_endFlow_129 : decode b_Mo_endFlow 129 = .ok (.iadd, 1) := by decide +kernel
theorem d_Mo_endFlow_130 : decode b_Mo_endFlow 130 = .ok (.iaload, 1) := by decide +kernel
theorem d_Mo_endFlow_131 : decode b_Mo_endFlow 131 = .ok (.iastore, 1) := by decide +kernel
theorem d_Mo_endFlow_132 : decode b_Mo_endFlow 132 = .ok (.aload_n 0, 1) := by decide +kernel
theorem d_Mo_endFlow_133 : decode b_Mo_endFlow 133 = .ok (.getfield 77, 3) := by decide +kernel
theorem d_Mo_endFlow_136 : decode b_Mo_endFlow 136 = .ok (.iload_n 2, 1) := by decide +kernel
theorem d_Mo_endFlow_137 : decode b_Mo_endFlow 137 = .ok (.aload_n 0, 1) := by decide +kernel
theorem d_Mo_endFlow_138 : decode b_Mo_endFlow 138 = .ok (.getfield 77, 3) := by decide +kernel
theorem d_Mo_endFlow_141 : decode b_Mo_endFlow 141 = .ok (.iload_n 2, 1) := by decide +kernel
theorem d_Mo_endFlow_142 : decode b_Mo_endFlow 142 = .ok (.iconst 1, 1) := by decide +kernel
theorem d_Mo_endFlow_143 : decode b_Mo_endFlow 143 = .ok (.iadd, 1) := by decide +kernel
theorem d_Mo_endFlow_144 : decode b_Mo_endFlow 144 = .ok (.iaload, 1) := by decide +kernel
theorem d_Mo_endFlow_145 : decode b_Mo_endFlow 145 = .ok (.iastore, 1) := by decide +kernel
theorem d_Mo_endFlow_146 : decode b_Mo_endFlow 146 = .ok (.aload_n 0, 1) := by decide +kernel
theorem d_Mo_endFlow_147 : decode b_Mo_endFlow 147 = .ok (.getfield 80, 3) := by decide +kernel
theorem d_Mo_endFlow_150 : decode b_Mo_endFlow 150 = .ok (.iload_n 2, 1) := by decide +kernel
theorem d_Mo_endFlow_151 : decode b_Mo_endFlow 151 = .ok (.aload_n 0, 1) := by decide +kernel
theorem d_Mo_endFlow_152 : decode b_Mo_endFlow 152 = .ok (.getfield 80, 3) := by decide +kernel
theorem d_Mo_endFlow_155 : decode b_Mo_endFlow 155 = .ok (.iload_n 2, 1) := by decide +kernel
theorem d_Mo_endFlow_156 : decode b_Mo_endFlow 156 = .ok (.iconst 1, 1) := by decide +kernel
theorem d_Mo_endFlow_157 : decode b_Mo_endFlow 157 = .ok (.iadd, 1) := by decide +kernel
theorem d_Mo_endFlow_158 : decode b_Mo_endFlow 158 = .ok (.iaload, 1) := by decide +kernel
theorem d_Mo_endFlow_159 : decode b_Mo_endFlow 159 = .ok (.iastore, 1) := by decide +kernel
theorem d_Mo_endFlow_160 : decode b_Mo_endFlow 160 = .ok (.iinc 2 1, 3) := by decide +kernel
theorem d_Mo_endFlow_163 : decode b_Mo_endFlow 163 = .ok (.goto (-151), 3) := by decide +kernel
theorem d_Mo_endFlow_166 : decode b_Mo_endFlow 166 = .ok (.return_, 1) := by decide +kernel
theorem d_Mo_header_0 : decode b_Mo_header 0 = .ok (.iload_n 1, 1) := by decide +kernel
theorem d_Mo_header_1 : decode b_Mo_header 1 = .ok (.invokestatic 157, 3) := by decide +kernel
theorem d_Mo_header_4 : decode b_Mo_header 4 = .ok (.ifCond .eq 25, 3) := by decide +kernel
theorem d_Mo_header_7 : decode b_Mo_header 7 = .ok (.iload_n 2, 1) := by decide +kernel
theorem d_Mo_header_8 : decode b_Mo_header 8 = .ok (.invokestatic 157, 3) := by decide +kernel
theorem d_Mo_header_11 : decode b_Mo_header 11 = .ok (.ifCond .eq 18, 3) := by decide +kernel
theorem d_Mo_header_14 : decode b_Mo_header 14 = .ok (.iload_n 3, 1) := by decide +kernel
theorem d_Mo_header_15 : decode b_Mo_header 15 = .ok (.invokestatic 157, 3) := by decide +kernel
theorem d_Mo_header_18 : decode b_Mo_header 18 = .ok (.ifCond .eq 11, 3) := by decide +kernel
theorem d_Mo_header_21 : decode b_Mo_header 21 = .ok (.iload 4, 2) := by decide +kernel
theorem d_Mo_header_23 : decode b_Mo_header 23 = .ok (.invokestatic 157, 3) := by decide +kernel
theorem d_Mo_header_26 : decode b_Mo_header 26 = .ok (.ifCond .ne 5, 3) := by decide +kernel
theorem d_Mo_header_29 : decode b_Mo_header 29 = .ok (.iconst (-1), 1) := by decide +kernel
theorem d_Mo_header_30 : decode b_Mo_header 30 = .ok (.ireturn, 1) := by decide +kernel
theorem d_Mo_header_31 : decode b_Mo_header 31 = .ok (.aload_n 0, 1) := by decide +kernel
theorem d_Mo_header_32 : decode b_Mo_header 32 = .ok (.getfield 89, 3) := by decide +kernel
theorem d_Mo_header_35 : decode b_Mo_header 35 = .ok (.iconst 0, 1) := by decide +kernel
theorem d_Mo_header_36 : decode b_Mo_header 36 = .ok (.iload_n 1, 1) := by decide +kernel
theorem d_Mo_header_37 : decode b_Mo_header 37 = .ok (.iastore, 1) := by decide +kernel
theorem d_Mo_header_38 : decode b_Mo_header 38 = .ok (.aload_n 0, 1) := by decide +kernel
theorem d_Mo_header_39 : decode b_Mo_header 39 = .ok (.getfield 89, 3) := by decide +kernel
theorem d_Mo_header_42 : decode b_Mo_header 42 = .ok (.iconst 1, 1) := by decide +kernel
theorem d_Mo_header_43 : decode b_Mo_header 43 = .ok (.iload_n 2, 1) := by decide +kernel
theorem d_Mo_header_44 : decode b_Mo_header 44 = .ok (.iastore, 1) := by decide +kernel
theorem d_Mo_header_45 : decode b_Mo_header 45 = .ok (.aload_n 0, 1) := by decide +kernel
theorem d_Mo_header_46 : decode b_Mo_header 46 = .ok (.getfield 89, 3) := by decide +kernel
theorem d_Mo_header_49 : decode b_Mo_header 49 = .ok (.iconst 2, 1) := by decide +kernel
theorem d_Mo_header_50 : decode b_Mo_header 50 = .ok (.iload_n 3, 1) := by decide +kernel
theorem d_Mo_header_51 : decode b_Mo_header 51 = .ok (.iastore, 1) := by decide +kernel
theorem d_Mo_header_52 : decode b_Mo_header 52 = .ok (.aload_n 0, 1) := by decide +kernel
theorem d_Mo_header_53 : decode b_Mo_header 53 = .ok (.getfield 89, 3) := by decide +kernel
theorem d_Mo_header_56 : decode b_Mo_header 56 = .ok (.iconst 3, 1) := by decide +kernel
theorem d_Mo_header_57 : decode b_Mo_header 57 = .ok (.iload 4, 2) := by decide +kernel
theorem d_Mo_header_59 : decode b_Mo_header 59 = .ok (.iastore, 1) := by decide +kernel
theorem d_Mo_header_60 : decode b_Mo_header 60 = .ok (.iconst 0, 1) := by decide +kernel
theorem d_Mo_header_61 : decode b_Mo_header 61 = .ok (.ireturn, 1) := by decide +kernel
theorem d_Mo_outward_0 : decode b_Mo_outward 0 = .ok (.iload_n 1, 1) := by decide +kernel
theorem d_Mo_outward_1 : decode b_Mo_outward 1 = .ok (.invokestatic 151, 3) := by decide +kernel
theorem d_Mo_outward_4 : decode b_Mo_outward 4 = .ok (.ifCond .eq 13, 3) := by decide +kernel
theorem d_Mo_outward_7 : decode b_Mo_outward 7 = .ok (.iload_n 2, 1) := by decide +kernel
theorem d_Mo_outward_8 : decode b_Mo_outward 8 = .ok (.ifCond .lt 9, 3) := by decide +kernel
theorem d_Mo_outward_11 : decode b_Mo_outward 11 = .ok (.iload_n 2, 1) := by decide +kernel
theorem d_Mo_outward_12 : decode b_Mo_outward 12 = .ok (.bipush 15, 2) := by decide +kernel
theorem d_Mo_outward_14 : decode b_Mo_outward 14 = .ok (.if_icmp .le 5, 3) := by decide +kernel
theorem d_Mo_outward_17 : decode b_Mo_outward 17 = .ok (.iconst (-1), 1) := by decide +kernel
theorem d_Mo_outward_18 : decode b_Mo_outward 18 = .ok (.ireturn, 1) := by decide +kernel
theorem d_Mo_outward_19 : decode b_Mo_outward 19 = .ok (.aload_n 0, 1) := by decide +kernel
theorem d_Mo_outward_20 : decode b_Mo_outward 20 = .ok (.getfield 89, 3) := by decide +kernel
theorem d_Mo_outward_23 : decode b_Mo_outward 23 = .ok (.iconst 0, 1) := by decide +kernel
theorem d_Mo_outward_24 : decode b_Mo_outward 24 = .ok (.iaload, 1) := by decide +kernel
theorem d_Mo_outward_25 : decode b_Mo_outward 25 = .ok (.invokestatic 154, 3) := by decide +kernel
theorem d_Mo_outward_28 : decode b_Mo_outward 28 = .ok (.ifCond .eq 15, 3) := by decide +kernel
theorem d_Mo_outward_31 : decode b_Mo_outward 31 = .ok (.aload_n 0, 1) := by decide +kernel
theorem d_Mo_outward_32 : decode b_Mo_outward 32 = .ok (.getfield 89, 3) := by decide +kernel
theorem d_Mo_outward_35 : decode b_Mo_outward 35 = .ok (.iconst 2, 1) := by decide +kernel
theorem d_Mo_outward_36 : decode b_Mo_outward 36 = .ok (.iaload, 1) := by decide +kernel
theorem d_Mo_outward_37 : decode b_Mo_outward 37 = .ok (.invokestatic 186, 3) := by decide +kernel
theorem d_Mo_outward_40 : decode b_Mo_outward 40 = .ok (.ifCond .ne 10, 3) := by decide +kernel
theorem d_Mo_outward_43 : decode b_Mo_outward 43 = .ok (.aload_n 0, 1) := by decide +kernel
theorem d_Mo_outward_44 : decode b_Mo_outward 44 = .ok (.bipush (-5), 2) := by decide +kernel
theorem d_Mo_outward_46 : decode b_Mo_outward 46 = .ok (.invokevirtual 189, 3) := by decide +kernel
theorem d_Mo_outward_49 : decode b_Mo_outward 49 = .ok (.ireturn, 1) := by decide +kernel
theorem d_Mo_outward_50 : decode b_Mo_outward 50 = .ok (.aload_n 0, 1) := by decide +kernel
theorem d_Mo_outward_51 : decode b_Mo_outward 51 = .ok (.iload_n 1, 1) := by decide +kernel
theorem d_Mo_outward_52 : decode b_Mo_outward 52 = .ok (.aload_n 0, 1) := by decide +kernel
theorem d_Mo_outward_53 : decode b_Mo_outward 53 = .ok (.getfield 89, 3) := by decide +kernel
theorem d_Mo_outward_56 : decode b_Mo_outward 56 = .ok (.iconst 0, 1) := by decide +kernel
theorem d_Mo_outward_57 : decode b_Mo_outward 57 = .ok (.iaload, 1) := by decide +kernel
theorem d_Mo_outward_58 : decode b_Mo_outward 58 = .ok (.aload_n 0, 1) := by decide +kernel
theorem d_Mo_outward_59 : decode b_Mo_outward 59 = .ok (.getfield 89, 3) := by decide +kernel
theorem d_Mo_outward_62 : decode b_Mo_outward 62 = .ok (.iconst 1, 1) := by decide +kernel
theorem d_Mo_outward_63 : decode b_Mo_outward 63 = .ok (.iaload, 1) := by decide +kernel
theorem d_Mo_outward_64 : decode b_Mo_outward 64 = .ok (.aload_n 0, 1) := by decide +kernel
theorem d_Mo_outward_65 : decode b_Mo_outward 65 = .ok (.getfield 89, 3) := by decide +kernel
theorem d_Mo_outward_68 : decode b_Mo_outward 68 = .ok (.iconst 2, 1) := by decide +kernel
theorem d_Mo_outward_69 : decode b_Mo_outward 69 = .ok (.iaload, 1) := by decide +kernel
theorem d_Mo_outward_70 : decode b_Mo_outward 70 = .ok (.aload_n 0, 1) := by decide +kernel
theorem d_Mo_outward_71 : decode b_Mo_outward 71 = .ok (.getfield 89, 3) := by decide +kernel
theorem d_Mo_outward_74 : decode b_Mo_outward 74 = .ok (.iconst 3, 1) := by decide +kernel
theorem d_Mo_outward_75 : decode b_Mo_outward 75 = .ok (.iaload, 1) := by decide +kernel
theorem d_Mo_outward_76 : decode b_Mo_outward 76 = .ok (.invokevirtual 193, 3) := by decide +kernel
theorem d_Mo_outward_79 : decode b_Mo_outward 79 = .ok (.istore_n 3, 1) := by decide +kernel
theorem d_Mo_outward_80 : decode b_Mo_outward 80 = .ok (.aload_n 0, 1) := by decide +kernel
theorem d_Mo_outward_81 : decode b_Mo_outward 81 = .ok (.iload_n 1, 1) := by decide +kernel
theorem d_Mo_outward_82 : decode b_Mo_outward 82 = .ok (.aload_n 0, 1) := by decide +kernel
theorem d_Mo_outward_83 : decode b_Mo_outward 83 = .ok (.getfield 89, 3) := by decide +kernel
theorem d_Mo_outward_86 : decode b_Mo_outward 86 = .ok (.iconst 0, 1) := by decide +kernel
theorem d_Mo_outward_87 : decode b_Mo_outward 87 = .ok (.iaload, 1) := by decide +kernel
theorem d_Mo_outward_88 : decode b_Mo_outward 88 = .ok (.aload_n 0, 1) := by decide +kernel
theorem d_Mo_outward_89 : decode b_Mo_outward 89 = .ok (.getfield 89, 3) := by decide +kernel
theorem d_Mo_outward_92 : decode b_Mo_outward 92 = .ok (.iconst 1, 1) := by decide +kernel
theorem d_Mo_outward_93 : decode b_Mo_outward 93 = .ok (.iaload, 1) := by decide +kernel
theorem d_Mo_outward_94 : decode b_Mo_outward 94 = .ok (.invokevirtual 164, 3) := by decide +kernel
theorem d_Mo_outward_97 : decode b_Mo_outward 97 = .ok (.istore 4, 2) := by decide +kernel
theorem d_Mo_outward_99 : decode b_Mo_outward 99 = .ok (.iload_n 3, 1) := by decide +kernel
theorem d_Mo_outward_100 : decode b_Mo_outward 100 = .ok (.ifCond .lt 45, 3) := by decide +kernel
theorem d_Mo_outward_103 : decode b_Mo_outward 103 = .ok (.aload_n 0, 1) := by decide +kernel
theorem d_Mo_outward_104 : decode b_Mo_outward 104 = .ok (.iload_n 3, 1) := by decide +kernel
theorem d_Mo_outward_105 : decode b_Mo_outward 105 = .ok (.iconst 0, 1) := by decide +kernel
theorem d_Mo_outward_106 : decode b_Mo_outward 106 = .ok (.iload_n 2, 1) := by decide +kernel
theorem d_Mo_outward_107 : decode b_Mo_outward 107 = .ok (.invokevirtual 197, 3) := by decide +kernel
theorem d_Mo_outward_110 : decode b_Mo_outward 110 = .ok (.ifCond .eq 28, 3) := by decide +kernel
theorem d_Mo_outward_113 : decode b_Mo_outward 113 = .ok (.aload_n 0, 1) := by decide +kernel
theorem d_Mo_outward_114 : decode b_Mo_outward 114 = .ok (.iconst 0, 1) := by decide +kernel
theorem d_Mo_outward_115 : decode b_Mo_outward 115 = .ok (.sipush 200, 3) := by decide +kernel
theorem d_Mo_outward_118 : decode b_Mo_outward 118 = .ok (.iload 4, 2) := by decide +kernel
theorem d_Mo_outward_120 : decode b_Mo_outward 120 = .ok (.aload_n 0, 1) := by decide +kernel
theorem d_Mo_outward_121 : decode b_Mo_outward 121 = .ok (.getfield 89, 3) := by decide +kernel
theorem d_Mo_outward_124 : decode b_Mo_outward 124 = .ok (.iconst 2, 1) := by decide +kernel
theorem d_Mo_outward_125 : decode b_Mo_outward 125 = .ok (.iaload, 1) := by decide +kernel
theorem d_Mo_outward_126 : decode b_Mo_outward 126 = .ok (.aload_n 0, 1) := by decide +kernel
theorem d_Mo_outward_127 : decode b_Mo_outward 127 = .ok (.getfield 89, 3) := by decide +kernel
theorem d_Mo_outward_130 : decode b_Mo_outward 130 = .ok (.iconst 3, 1) := by decide +kernel
theorem d_Mo_outward_131 : decode b_Mo_outward 131 = .ok (.iaload, 1) := by decide +kernel
theorem d_Mo_outward_132 : decode b_Mo_outward 132 = .ok (.invokevirtual 200, 3) := by decide +kernel
theorem d_Mo_outward_135 : decode b_Mo_outward 135 = .ok (.goto 9, 3) := by decide +kernel
theorem d_Mo_outward_138 : decode b_Mo_outward 138 = .ok (.aload_n 0, 1) := by decide +kernel
theorem d_Mo_outward_139 : decode b_Mo_outward 139 = .ok (.bipush (-6), 2) := by decide +kernel
theorem d_Mo_outward_141 : decode b_Mo_outward 141 = .ok (.invokevirtual 189, 3) := by decide +kernel
theorem d_Mo_outward_144 : decode b_Mo_outward 144 = .ok (.ireturn, 1) := by decide +kernel
theorem d_Mo_outward_145 : decode b_Mo_outward 145 = .ok (.aload_n 0, 1) := by decide +kernel
theorem d_Mo_outward_146 : decode b_Mo_outward 146 = .ok (.iconst 1, 1) := by decide +kernel
theorem d_Mo_outward_147 : decode b_Mo_outward 147 = .ok (.iload_n 1, 1) := by decide +kernel
theorem d_Mo_outward_148 : decode b_Mo_outward 148 = .ok (.aload_n 0, 1) := by decide +kernel
theorem d_Mo_outward_149 : decode b_Mo_outward 149 = .ok (.getfield 89, 3) := by decide +kernel
theorem d_Mo_outward_152 : decode b_Mo_outward 152 = .ok (.iconst 0, 1) := by decide +kernel
theorem d_Mo_outward_153 : decode b_Mo_outward 153 = .ok (.iaload, 1) := by decide +kernel
theorem d_Mo_outward_154 : decode b_Mo_outward 154 = .ok (.aload_n 0, 1) := by decide +kernel
theorem d_Mo_outward_155 : decode b_Mo_outward 155 = .ok (.getfield 89, 3) := by decide +kernel
theorem d_Mo_outward_158 : decode b_Mo_outward 158 = .ok (.iconst 2, 1) := by decide +kernel
theorem d_Mo_outward_159 : decode b_Mo_outward 159 = .ok (.iaload, 1) := by decide +kernel
theorem d_Mo_outward_160 : decode b_Mo_outward 160 = .ok (.aload_n 0, 1) := by decide +kernel
theorem d_Mo_outward_161 : decode b_Mo_outward 161 = .ok (.getfield 89, 3) := by decide +kernel
theorem d_Mo_outward_164 : decode b_Mo_outward 164 = .ok (.iconst 3, 1) := by decide +kernel
theorem d_Mo_outward_165 : decode b_Mo_outward 165 = .ok (.iaload, 1) := by decide +kernel
theorem d_Mo_outward_166 : decode b_Mo_outward 166 = .ok (.invokevirtual 203, 3) := by decide +kernel
theorem d_Mo_outward_169 : decode b_Mo_outward 169 = .ok (.istore 5, 2) := by decide +kernel
theorem d_Mo_outward_171 : decode b_Mo_outward 171 = .ok (.iload 5, 2) := by decide +kernel
theorem d_Mo_outward_173 : decode b_Mo_outward 173 = .ok (.iconst 1, 1) := by decide +kernel
theorem d_Mo_outward_174 : decode b_Mo_outward 174 = .ok (.if_icmp .ne 10, 3) := by decide +kernel
theorem d_Mo_outward_177 : decode b_Mo_outward 177 = .ok (.aload_n 0, 1) := by decide +kernel
theorem d_Mo_outward_178 : decode b_Mo_outward 178 = .ok (.bipush (-4), 2) := by decide +kernel
theorem d_Mo_outward_180 : decode b_Mo_outward 180 = .ok (.invokevirtual 189, 3) := by decide +kernel
theorem d_Mo_outward_183 : decode b_Mo_outward 183 = .ok (.ireturn, 1) := by decide +kernel
theorem d_Mo_outward_184 : decode b_Mo_outward 184 = .ok (.iload 5, 2) := by decide +kernel
theorem d_Mo_outward_186 : decode b_Mo_outward 186 = .ok (.iconst 2, 1) := by decide +kernel
theorem d_Mo_outward_187 : decode b_Mo_outward 187 = .ok (.if_icmp .ne 49, 3) := by decide +kernel
theorem d_Mo_outward_190 : decode b_Mo_outward 190 = .ok (.aload_n 0, 1) := by decide +kernel
theorem d_Mo_outward_191 : decode b_Mo_outward 191 = .ok (.getfield 206, 3) := by decide +kernel
theorem d_Mo_outward_194 : decode b_Mo_outward 194 = .ok (.bipush 40, 2) := by decide +kernel
theorem d_Mo_outward_196 : decode b_Mo_outward 196 = .ok (.if_icmp .ne 10, 3) := by decide +kernel
theorem d_Mo_outward_199 : decode b_Mo_outward 199 = .ok (.aload_n 0, 1) := by decide +kernel
theorem d_Mo_outward_200 : decode b_Mo_outward 200 = .ok (.bipush (-11), 2) := by decide +kernel
theorem d_Mo_outward_202 : decode b_Mo_outward 202 = .ok (.invokevirtual 189, 3) := by decide +kernel
theorem d_Mo_outward_205 : decode b_Mo_outward 205 = .ok (.ireturn, 1) := by decide +kernel
theorem d_Mo_outward_206 : decode b_Mo_outward 206 = .ok (.aload_n 0, 1) := by decide +kernel
theorem d_Mo_outward_207 : decode b_Mo_outward 207 = .ok (.dup, 1) := by decide +kernel
theorem d_Mo_outward_208 : decode b_Mo_outward 208 = .ok (.getfield 206, 3) := by decide +kernel
theorem d_Mo_outward_211 : decode b_Mo_outward 211 = .ok (.iconst 1, 1) := by decide +kernel
theorem d_Mo_outward_212 : decode b_Mo_outward 212 = .ok (.iadd, 1) := by decide +kernel
theorem d_Mo_outward_213 : decode b_Mo_outward 213 = .ok (.putfield 206, 3) := by decide +kernel
theorem d_Mo_outward_216 : decode b_Mo_outward 216 = .ok (.aload_n 0, 1) := by decide +kernel
theorem d_Mo_outward_217 : decode b_Mo_outward 217 = .ok (.iconst 1, 1) := by decide +kernel
theorem d_Mo_outward_218 : decode b_Mo_outward 218 = .ok (.sipush 200, 3) := by decide +kernel
theorem d_Mo_outward_221 : decode b_Mo_outward 221 = .ok (.aload_n 0, 1) := by decide +kernel
theorem d_Mo_outward_222 : decode b_Mo_outward 222 = .ok (.getfield 95, 3) := by decide +kernel
theorem d_Mo_outward_225 : decode b_Mo_outward 225 = .ok (.sipush 250, 3) := by decide +kernel
theorem d_Mo_outward_228 : decode b_Mo_outward 228 = .ok (.aload_n 0, 1) := by decide +kernel
theorem d_Mo_outward_229 : decode b_Mo_outward 229 = .ok (.getfield 206, 3) := by decide +kernel
theorem d_Mo_outward_232 : decode b_Mo_outward 232 = .ok (.invokevirtual 200, 3) := by decide +kernel
theorem d_Mo_outward_235 : decode b_Mo_outward 235 = .ok (.ireturn, 1) := by decide +kernel
theorem d_Mo_outward_236 : decode b_Mo_outward 236 = .ok (.iload_n 1, 1) := by decide +kernel
theorem d_Mo_outward_237 : decode b_Mo_outward 237 = .ok (.ifCond .ne 15, 3) := by decide +kernel
theorem d_Mo_outward_240 : decode b_Mo_outward 240 = .ok (.iload_n 2, 1) := by decide +kernel
theorem d_Mo_outward_241 : decode b_Mo_outward 241 = .ok (.iconst 1, 1) := by decide +kernel
theorem d_Mo_outward_242 : decode b_Mo_outward 242 = .ok (.if_icmp .eq 10, 3) := by decide +kernel
theorem d_Mo_outward_245 : decode b_Mo_outward 245 = .ok (.aload_n 0, 1) := by decide +kernel
theorem d_Mo_outward_246 : decode b_Mo_outward 246 = .ok (.bipush (-6), 2) := by decide +kernel
theorem d_Mo_outward_248 : decode b_Mo_outward 248 = .ok (.invokevirtual 189, 3) := by decide +kernel
theorem d_Mo_outward_251 : decode b_Mo_outward 251 = .ok (.ireturn, 1) := by decide +kernel
theorem d_Mo_outward_252 : decode b_Mo_outward 252 = .ok (.iload 4, 2) := by decide +kernel
theorem d_Mo_outward_254 : decode b_Mo_outward 254 = .ok (.ifCond .ge 10, 3) := by decide +kernel
theorem d_Mo_outward_257 : decode b_Mo_outward 257 = .ok (.aload_n 0, 1) := by decide +kernel
theorem d_Mo_outward_258 : decode b_Mo_outward 258 = .ok (.iload_n 1, 1) := by decide +kernel
theorem d_Mo_outward_259 : decode b_Mo_outward 259 = .ok (.invokevirtual 209, 3) := by decide +kernel
theorem d_Mo_outward_262 : decode b_Mo_outward 262 = .ok (.istore 4, 2) := by decide +kernel
theorem d_Mo_outward_264 : decode b_Mo_outward 264 = .ok (.aload_n 0, 1) := by decide +kernel
theorem d_Mo_outward_265 : decode b_Mo_outward 265 = .ok (.getfield 142, 3) := by decide +kernel
theorem d_Mo_outward_268 : decode b_Mo_outward 268 = .ok (.bipush 16, 2) := by decide +kernel
theorem d_Mo_outward_270 : decode b_Mo_outward 270 = .ok (.if_icmp .eq 8, 3) := by decide +kernel
theorem d_Mo_outward_273 : decode b_Mo_outward 273 = .ok (.iload 4, 2) := by decide +kernel
theorem d_Mo_outward_275 : decode b_Mo_outward 275 = .ok (.ifCond .ge 10, 3) := by decide +kernel
theorem d_Mo_outward_278 : decode b_Mo_outward 278 = .ok (.aload_n 0, 1) := by decide +kernel
theorem d_Mo_outward_279 : decode b_Mo_outward 279 = .ok (.bipush (-7), 2) := by decide +kernel
theorem d_Mo_outward_281 : decode b_Mo_outward 281 = .ok (.invokevirtual 189, 3) := by decide +kernel
theorem d_Mo_outward_284 : decode b_Mo_outward 284 = .ok (.ireturn, 1) := by decide +kernel
theorem d_Mo_outward_285 : decode b_Mo_outward 285 = .ok (.aload_n 0, 1) := by decide +kernel
theorem d_Mo_outward_286 : decode b_Mo_outward 286 = .ok (.iload_n 1, 1) := by decide +kernel
theorem d_Mo_outward_287 : decode b_Mo_outward 287 = .ok (.iconst 0, 1) := by decide +kernel
theorem d_Mo_outward_288 : decode b_Mo_outward 288 = .ok (.aload_n 0, 1) := by decide +kernel
theorem d_Mo_outward_289 : decode b_Mo_outward 289 = .ok (.getfield 89, 3) := by decide +kernel
theorem d_Mo_outward_292 : decode b_Mo_outward 292 = .ok (.iconst 0, 1) := by decide +kernel
theorem d_Mo_outward_293 : decode b_Mo_outward 293 = .ok (.iaload, 1) := by decide +kernel
theorem d_Mo_outward_294 : decode b_Mo_outward 294 = .ok (.aload_n 0, 1) := by decide +kernel
theorem d_Mo_outward_295 : decode b_Mo_outward 295 = .ok (.getfield 89, 3) := by decide +kernel
theorem d_Mo_outward_298 : decode b_Mo_outward 298 = .ok (.iconst 1, 1) := by decide +kernel
theorem d_Mo_outward_299 : decode b_Mo_outward 299 = .ok (.iaload, 1) := by decide +kernel
theorem d_Mo_outward_300 : decode b_Mo_outward 300 = .ok (.aload_n 0, 1) := by decide +kernel
theorem d_Mo_outward_301 : decode b_Mo_outward 301 = .ok (.getfield 89, 3) := by decide +kernel
theorem d_Mo_outward_304 : decode b_Mo_outward 304 = .ok (.iconst 2, 1) := by decide +kernel
theorem d_Mo_outward_305 : decode b_Mo_outward 305 = .ok (.iaload, 1) := by decide +kernel
theorem d_Mo_outward_306 : decode b_Mo_outward 306 = .ok (.aload_n 0, 1) := by decide +kernel
theorem d_Mo_outward_307 : decode b_Mo_outward 307 = .ok (.getfield 89, 3) := by decide +kernel
theorem d_Mo_outward_310 : decode b_Mo_outward 310 = .ok (.iconst 3, 1) := by decide +kernel
theorem d_Mo_outward_311 : decode b_Mo_outward 311 = .ok (.iaload, 1) := by decide +kernel
theorem d_Mo_outward_312 : decode b_Mo_outward 312 = .ok (.iload 4, 2) := by decide +kernel
theorem d_Mo_outward_314 : decode b_Mo_outward 314 = .ok (.invokevirtual 212, 3) := by decide +kernel
theorem d_Mo_outward_317 : decode b_Mo_outward 317 = .ok (.aload_n 0, 1) := by decide +kernel
theorem d_Mo_outward_318 : decode b_Mo_outward 318 = .ok (.iconst 0, 1) := by decide +kernel
theorem d_Mo_outward_319 : decode b_Mo_outward 319 = .ok (.sipush 200, 3) := by decide +kernel
theorem d_Mo_outward_322 : decode b_Mo_outward 322 = .ok (.iload 4, 2) := by decide +kernel
theorem d_Mo_outward_324 : decode b_Mo_outward 324 = .ok (.aload_n 0, 1) := by decide +kernel
theorem d_Mo_outward_325 : decode b_Mo_outward 325 = .ok (.getfield 89, 3) := by decide +kernel
theorem d_Mo_outward_328 : decode b_Mo_outward 328 = .ok (.iconst 2, 1) := by decide +kernel
theorem d_Mo_outward_329 : decode b_Mo_outward 329 = .ok (.iaload, 1) := by decide +kernel
theorem d_Mo_outward_330 : decode b_Mo_outward 330 = .ok (.aload_n 0, 1) := by decide +kernel
theorem d_Mo_outward_331 : decode b_Mo_outward 331 = .ok (.getfield 89, 3) := by decide +kernel
theorem d_Mo_outward_334 : decode b_Mo_outward 334 = .ok (.iconst 3, 1) := by decide +kernel
theorem d_Mo_outward_335 : decode b_Mo_outward 335 = .ok (.iaload, 1) := by decide +kernel
theorem d_Mo_outward_336 : decode b_Mo_outward 336 = .ok (.invokevirtual 200, 3) := by decide +kernel
theorem d_Mo_outward_339 : decode b_Mo_outward 339 = .ok (.ireturn, 1) := by decide +kernel
theorem d_Mo_outside_0 : decode b_Mo_outside 0 = .ok (.iload_n 0, 1) := by decide +kernel
theorem d_Mo_outside_1 : decode b_Mo_outside 1 = .ok (.bipush 127, 2) := by decide +kernel
theorem d_Mo_outside_3 : decode b_Mo_outside 3 = .ok (.if_icmp .le 21, 3) := by decide +kernel
theorem d_Mo_outside_6 : decode b_Mo_outside 6 = .ok (.iload_n 0, 1) := by decide +kernel
theorem d_Mo_outside_7 : decode b_Mo_outside 7 = .ok (.sipush 255, 3) := by decide +kernel
theorem d_Mo_outside_10 : decode b_Mo_outside 10 = .ok (.if_icmp .gt 14, 3) := by decide +kernel
theorem d_Mo_outside_13 : decode b_Mo_outside 13 = .ok (.iload_n 0, 1) := by decide +kernel
theorem d_Mo_outside_14 : decode b_Mo_outside 14 = .ok (.sipush 200, 3) := by decide +kernel
theorem d_Mo_outside_17 : decode b_Mo_outside 17 = .ok (.if_icmp .eq 7, 3) := by decide +kernel
theorem d_Mo_outside_20 : decode b_Mo_outside 20 = .ok (.iconst 1, 1) := by decide +kernel
theorem d_Mo_outside_21 : decode b_Mo_outside 21 = .ok (.goto 4, 3) := by decide +kernel
theorem d_Mo_outside_24 : decode b_Mo_outside 24 = .ok (.iconst 0, 1) := by decide +kernel
theorem d_Mo_outside_25 : decode b_Mo_outside 25 = .ok (.ireturn, 1) := by decide +kernel
theorem d_Mo_stop_0 : decode b_Mo_stop 0 = .ok (.aload_n 0, 1) := by decide +kernel
theorem d_Mo_stop_1 : decode b_Mo_stop 1 = .ok (.dup, 1) := by decide +kernel
theorem d_Mo_stop_2 : decode b_Mo_stop 2 = .ok (.getfield 177, 3) := by decide +kernel
theorem d_Mo_stop_5 : decode b_Mo_stop 5 = .ok (.iconst 1, 1) := by decide +kernel
theorem d_Mo_stop_6 : decode b_Mo_stop 6 = .ok (.iadd, 1) := by decide +kernel
theorem d_Mo_stop_7 : decode b_Mo_stop 7 = .ok (.putfield 177, 3) := by decide +kernel
theorem d_Mo_stop_10 : decode b_Mo_stop 10 = .ok (.iload_n 1, 1) := by decide +kernel
theorem d_Mo_stop_11 : decode b_Mo_stop 11 = .ok (.ireturn, 1) := by decide +kernel
theorem d_Mo_flowOf_0 : decode b_Mo_flowOf 0 = .ok (.iconst 0, 1) := by decide +kernel
theorem d_Mo_flowOf_1 : decode b_Mo_flowOf 1 = .ok (.istore 6, 2) := by decide +kernel
theorem d_Mo_flowOf_3 : decode b_Mo_flowOf 3 = .ok (.iload 6, 2) := by decide +kernel
theorem d_Mo_flowOf_5 : decode b_Mo_flowOf 5 = .ok (.aload_n 0, 1) := by decide +kernel
theorem d_Mo_flowOf_6 : decode b_Mo_flowOf 6 = .ok (.getfield 142, 3) := by decide +kernel
theorem d_Mo_flowOf_9 : decode b_Mo_flowOf 9 = .ok (.if_icmp .ge 81, 3) := by decide +kernel
theorem d_Mo_flowOf_12 : decode b_Mo_flowOf 12 = .ok (.aload_n 0, 1) := by decide +kernel
theorem d_Mo_flowOf_13 : decode b_Mo_flowOf 13 = .ok (.getfield 59, 3) := by decide +kernel
theorem d_Mo_flowOf_16 : decode b_Mo_flowOf 16 = .ok (.iload 6, 2) := by decide +kernel
theorem d_Mo_flowOf_18 : decode b_Mo_flowOf 18 = .ok (.iaload, 1) := by decide +kernel
theorem d_Mo_flowOf_19 : decode b_Mo_flowOf 19 = .ok (.iload_n 2, 1) := by decide +kernel
theorem d_Mo_flowOf_20 : decode b_Mo_flowOf 20 = .ok (.if_icmp .ne 42, 3) := by decide +kernel
theorem d_Mo_flowOf_23 : decode b_Mo_flowOf 23 = .ok (.aload_n 0, 1) := by decide +kernel
theorem d_Mo_flowOf_24 : decode b_Mo_flowOf 24 = .ok (.getfield 62, 3) := by decide +kernel
theorem d_Mo_flowOf_27 : decode b_Mo_flowOf 27 = .ok (.iload 6, 2) := by decide +kernel
theorem d_Mo_flowOf_29 : decode b_Mo_flowOf 29 = .ok (.iaload, 1) := by decide +kernel
theorem d_Mo_flowOf_30 : decode b_Mo_flowOf 30 = .ok (.iload_n 3, 1) := by decide +kernel
theorem d_Mo_flowOf_31 : decode b_Mo_flowOf 31 = .ok (.if_icmp .ne 31, 3) := by decide +kernel
theorem d_Mo_flowOf_34 : decode b_Mo_flowOf 34 = .ok (.aload_n 0, 1) := by decide +kernel
theorem d_Mo_flowOf_35 : decode b_Mo_flowOf 35 = .ok (.getfield 65, 3) := by decide +kernel
theorem d_Mo_flowOf_38 : decode b_Mo_flowOf 38 = .ok (.iload 6, 2) := by decide +kernel
theorem d_Mo_flowOf_40 : decode b_Mo_flowOf 40 = .ok (.iaload, 1) := by decide +kernel
theorem d_Mo_flowOf_41 : decode b_Mo_flowOf 41 = .ok (.iload 4, 2) := by decide +kernel
theorem d_Mo_flowOf_43 : decode b_Mo_flowOf 43 = .ok (.if_icmp .ne 19, 3) := by decide +kernel
theorem d_Mo_flowOf_46 : decode b_Mo_flowOf 46 = .ok (.aload_n 0, 1) := by decide +kernel
theorem d_Mo_flowOf_47 : decode b_Mo_flowOf 47 = .ok (.getfield 68, 3) := by decide +kernel
theorem d_Mo_flowOf_50 : decode b_Mo_flowOf 50 = .ok (.iload 6, 2) := by decide +kernel
theorem d_Mo_flowOf_52 : decode b_Mo_flowOf 52 = .ok (.iaload, 1) := by decide +kernel
theorem d_Mo_flowOf_53 : decode b_Mo_flowOf 53 = .ok (.iload 5, 2) := by decide +kernel
theorem d_Mo_flowOf_55 : decode b_Mo_flowOf 55 = .ok (.if_icmp .ne 7, 3) := by decide +kernel
theorem d_Mo_flowOf_58 : decode b_Mo_flowOf 58 = .ok (.iconst 1, 1) := by decide +kernel
theorem d_Mo_flowOf_59 : decode b_Mo_flowOf 59 = .ok (.goto 4, 3) := by decide +kernel
theorem d_Mo_flowOf_62 : decode b_Mo_flowOf 62 = .ok (.iconst 0, 1) := by decide +kernel
theorem d_Mo_flowOf_63 : decode b_Mo_flowOf 63 = .ok (.istore 7, 2) := by decide +kernel
theorem d_Mo_flowOf_65 : decode b_Mo_flowOf 65 = .ok (.iload 7, 2) := by decide +kernel
theorem d_Mo_flowOf_67 : decode b_Mo_flowOf 67 = .ok (.ifCond .eq 17, 3) := by decide +kernel
theorem d_Mo_flowOf_70 : decode b_Mo_flowOf 70 = .ok (.aload_n 0, 1) := by decide +kernel
theorem d_Mo_flowOf_71 : decode b_Mo_flowOf 71 = .ok (.getfield 56, 3) := by decide +kernel
theorem d_Mo_flowOf_74 : decode b_Mo_flowOf 74 = .ok (.iload 6, 2) := by decide +kernel
theorem d_Mo_flowOf_76 : decode b_Mo_flowOf 76 = .ok (.iaload, 1) := by decide +kernel
theorem d_Mo_flowOf_77 : decode b_Mo_flowOf 77 = .ok (.iload_n 1, 1) := by decide +kernel
theorem d_Mo_flowOf_78 : decode b_Mo_flowOf 78 = .ok (.if_icmp .ne 6, 3) := by decide +kernel
theorem d_Mo_flowOf_81 : decode b_Mo_flowOf 81 = .ok (.iload 6, 2) := by decide +kernel
theorem d_Mo_flowOf_83 : decode b_Mo_flowOf 83 = .ok (.ireturn, 1) := by decide +kernel
theorem d_Mo_flowOf_84 : decode b_Mo_flowOf 84 = .ok (.iinc 6 1, 3) := by decide +kernel
theorem d_Mo_flowOf_87 : decode b_Mo_flowOf 87 = .ok (.goto (-84), 3) := by decide +kernel
theorem d_Mo_flowOf_90 : decode b_Mo_flowOf 90 = .ok (.iconst (-1), 1) := by decide +kernel
theorem d_Mo_flowOf_91 : decode b_Mo_flowOf 91 = .ok (.ireturn, 1) := by decide +kernel
theorem d_Mo_packet_0 : decode b_Mo_packet 0 = .ok (.aload_n 0, 1) := by decide +kernel
theorem d_Mo_packet_1 : decode b_Mo_packet 1 = .ok (.getfield 53, 3) := by decide +kernel
theorem d_Mo_packet_4 : decode b_Mo_packet 4 = .ok (.iload_n 1, 1) := by decide +kernel
theorem d_Mo_packet_5 : decode b_Mo_packet 5 = .ok (.iaload, 1) := by decide +kernel
theorem d_Mo_packet_6 : decode b_Mo_packet 6 = .ok (.istore 4, 2) := by decide +kernel
theorem d_Mo_packet_8 : decode b_Mo_packet 8 = .ok (.aload_n 0, 1) := by decide +kernel
theorem d_Mo_packet_9 : decode b_Mo_packet 9 = .ok (.getfield 56, 3) := by decide +kernel
theorem d_Mo_packet_12 : decode b_Mo_packet 12 = .ok (.iload_n 1, 1) := by decide +kernel
theorem d_Mo_packet_13 : decode b_Mo_packet 13 = .ok (.iaload, 1) := by decide +kernel
theorem d_Mo_packet_14 : decode b_Mo_packet 14 = .ok (.ifCond .eq 24, 3) := by decide +kernel
theorem d_Mo_packet_17 : decode b_Mo_packet 17 = .ok (.iload_n 2, 1) := by decide +kernel
theorem d_Mo_packet_18 : decode b_Mo_packet 18 = .ok (.aload_n 0, 1) := by decide +kernel
theorem d_Mo_packet_19 : decode b_Mo_packet 19 = .ok (.getfield 77, 3) := by decide +kernel
theorem d_Mo_packet_22 : decode b_Mo_packet 22 = .ok (.iload_n 1, 1) := by decide +kernel
theorem d_Mo_packet_23 : decode b_Mo_packet 23 = .ok (.iaload, 1) := by decide +kernel
theorem d_Mo_packet_24 : decode b_Mo_packet 24 = .ok (.if_icmp .eq 75, 3) := by decide +kernel
theorem d_Mo_packet_27 : decode b_Mo_packet 27 = .ok (.aload_n 0, 1) := by decide +kernel
theorem d_Mo_packet_28 : decode b_Mo_packet 28 = .ok (.getfield 53, 3) := by decide +kernel
theorem d_Mo_packet_31 : decode b_Mo_packet 31 = .ok (.iload_n 1, 1) := by decide +kernel
theorem d_Mo_packet_32 : decode b_Mo_packet 32 = .ok (.bipush 7, 2) := by decide +kernel
theorem d_Mo_packet_34 : decode b_Mo_packet 34 = .ok (.iastore, 1) := by decide +kernel
theorem d_Mo_packet_35 : decode b_Mo_packet 35 = .ok (.goto 64, 3) := by decide +kernel
theorem d_Mo_packet_38 : decode b_Mo_packet 38 = .ok (.iload_n 3, 1) := by decide +kernel
theorem d_Mo_packet_39 : decode b_Mo_packet 39 = .ok (.bipush 8, 2) := by decide +kernel
theorem d_Mo_packet_41 : decode b_Mo_packet 41 = .ok (.iand, 1) := by decide +kernel
theorem d_Mo_packet_42 : decode b_Mo_packet 42 = .ok (.ifCond .eq 10, 3) := by decide +kernel
theorem d_Mo_packet_45 : decode b_Mo_packet 45 = .ok (.aload_n 0, 1) := by decide +kernel
theorem d_Mo_packet_46 : decode b_Mo_packet 46 = .ok (.iload_n 1, 1) := by decide +kernel
theorem d_Mo_packet_47 : decode b_Mo_packet 47 = .ok (.invokevirtual 168, 3) := by decide +kernel
theorem d_Mo_packet_50 : decode b_Mo_packet 50 = .ok (.iconst 1, 1) := by decide +kernel
theorem d_Mo_packet_51 : decode b_Mo_packet 51 = .ok (.ireturn, 1) := by decide +kernel
theorem d_Mo_packet_52 : decode b_Mo_packet 52 = .ok (.aload_n 0, 1) := by decide +kernel
theorem d_Mo_packet_53 : decode b_Mo_packet 53 = .ok (.iload_n 1, 1) := by decide +kernel
theorem d_Mo_packet_54 : decode b_Mo_packet 54 = .ok (.iload_n 2, 1) := by decide +kernel
theorem d_Mo_packet_55 : decode b_Mo_packet 55 = .ok (.iload_n 3, 1) := by decide +kernel
theorem d_Mo_packet_56 : decode b_Mo_packet 56 = .ok (.invokevirtual 171, 3) := by decide +kernel
theorem d_Mo_packet_59 : decode b_Mo_packet 59 = .ok (.istore 4, 2) := by decide +kernel
theorem d_Mo_packet_61 : decode b_Mo_packet 61 = .ok (.iload 4, 2) := by decide +kernel
theorem d_Mo_packet_63 : decode b_Mo_packet 63 = .ok (.ifCond .ne 5, 3) := by decide +kernel
theorem d_Mo_packet_66 : decode b_Mo_packet 66 = .ok (.iconst 0, 1) := by decide +kernel
theorem d_Mo_packet_67 : decode b_Mo_packet 67 = .ok (.ireturn, 1) := by decide +kernel
theorem d_Mo_packet_68 : decode b_Mo_packet 68 = .ok (.iload 4, 2) := by decide +kernel
theorem d_Mo_packet_70 : decode b_Mo_packet 70 = .ok (.iconst 4, 1) := by decide +kernel
theorem d_Mo_packet_71 : decode b_Mo_packet 71 = .ok (.if_icmp .ne 20, 3) := by decide +kernel
theorem d_Mo_packet_74 : decode b_Mo_packet 74 = .ok (.aload_n 0, 1) := by decide +kernel
theorem d_Mo_packet_75 : decode b_Mo_packet 75 = .ok (.getfield 53, 3) := by decide +kernel
theorem d_Mo_packet_78 : decode b_Mo_packet 78 = .ok (.iload_n 1, 1) := by decide +kernel
theorem d_Mo_packet_79 : decode b_Mo_packet 79 = .ok (.iaload, 1) := by decide +kernel
theorem d_Mo_packet_80 : decode b_Mo_packet 80 = .ok (.iconst 4, 1) := by decide +kernel
theorem d_Mo_packet_81 : decode b_Mo_packet 81 = .ok (.if_icmp .ge 10, 3) := by decide +kernel
theorem d_Mo_packet_84 : decode b_Mo_packet 84 = .ok (.aload_n 0, 1) := by decide +kernel
theorem d_Mo_packet_85 : decode b_Mo_packet 85 = .ok (.getfield 80, 3) := by decide +kernel
theorem d_Mo_packet_88 : decode b_Mo_packet 88 = .ok (.iload_n 1, 1) := by decide +kernel
theorem d_Mo_packet_89 : decode b_Mo_packet 89 = .ok (.iload_n 2, 1) := by decide +kernel
theorem d_Mo_packet_90 : decode b_Mo_packet 90 = .ok (.iastore, 1) := by decide +kernel
theorem d_Mo_packet_91 : decode b_Mo_packet 91 = .ok (.aload_n 0, 1) := by decide +kernel
theorem d_Mo_packet_92 : decode b_Mo_packet 92 = .ok (.getfield 53, 3) := by decide +kernel
theorem d_Mo_packet_95 : decode b_Mo_packet 95 = .ok (.iload_n 1, 1) := by decide +kernel
theorem d_Mo_packet_96 : decode b_Mo_packet 96 = .ok (.iload 4, 2) := by decide +kernel
theorem d_Mo_packet_98 : decode b_Mo_packet 98 = .ok (.iastore, 1) := by decide +kernel
theorem d_Mo_packet_99 : decode b_Mo_packet 99 = .ok (.aload_n 0, 1) := by decide +kernel
theorem d_Mo_packet_100 : decode b_Mo_packet 100 = .ok (.getfield 74, 3) := by decide +kernel
theorem d_Mo_packet_103 : decode b_Mo_packet 103 = .ok (.iload_n 1, 1) := by decide +kernel
theorem d_Mo_packet_104 : decode b_Mo_packet 104 = .ok (.aload_n 0, 1) := by decide +kernel
theorem d_Mo_packet_105 : decode b_Mo_packet 105 = .ok (.getfield 174, 3) := by decide +kernel
theorem d_Mo_packet_108 : decode b_Mo_packet 108 = .ok (.iastore, 1) := by decide +kernel
theorem d_Mo_packet_109 : decode b_Mo_packet 109 = .ok (.iconst 1, 1) := by decide +kernel
theorem d_Mo_packet_110 : decode b_Mo_packet 110 = .ok (.ireturn, 1) := by decide +kernel
theorem d_Mo_next_0 : decode b_Mo_next 0 = .ok (.iload_n 3, 1) := by decide +kernel
theorem d_Mo_next_1 : decode b_Mo_next 1 = .ok (.iconst 1, 1) := by decide +kernel
theorem d_Mo_next_2 : decode b_Mo_next 2 = .ok (.iand, 1) := by decide +kernel
theorem d_Mo_next_3 : decode b_Mo_next 3 = .ok (.ifCond .eq 7, 3) := by decide +kernel
theorem d_Mo_next_6 : decode b_Mo_next 6 = .ok (.iconst 1, 1) := by decide +kernel
theorem d_Mo_next_7 : decode b_Mo_next 7 = .ok (.goto 4, 3) := by decide +kernel
theorem d_Mo_next_10 : decode b_Mo_next 10 = .ok (.iconst 0, 1) := by decide +kernel
theorem d_Mo_next_11 : decode b_Mo_next 11 = .ok (.istore 4, 2) := by decide +kernel
theorem d_Mo_next_13 : decode b_Mo_next 13 = .ok (.iload_n 3, 1) := by decide +kernel
theorem d_Mo_next_14 : decode b_Mo_next 14 = .ok (.iconst 2, 1) := by decide +kernel
theorem d_Mo_next_15 : decode b_Mo_next 15 = .ok (.iand, 1) := by decide +kernel
theorem d_Mo_next_16 : decode b_Mo_next 16 = .ok (.ifCond .eq 7, 3) := by decide +kernel
theorem d_Mo_next_19 : decode b_Mo_next 19 = .ok (.iconst 1, 1) := by decide +kernel
theorem d_Mo_next_20 : decode b_Mo_next 20 = .ok (.goto 4, 3) := by decide +kernel
theorem d_Mo_next_23 : decode b_Mo_next 23 = .ok (.iconst 0, 1) := by decide +kernel
theorem d_Mo_next_24 : decode b_Mo_next 24 = .ok (.istore 5, 2) := by decide +kernel
theorem d_Mo_next_26 : decode b_Mo_next 26 = .ok (.iload_n 3, 1) := by decide +kernel
theorem d_Mo_next_27 : decode b_Mo_next 27 = .ok (.iconst 4, 1) := by decide +kernel
theorem d_Mo_next_28 : decode b_Mo_next 28 = .ok (.iand, 1) := by decide +kernel
theorem d_Mo_next_29 : decode b_Mo_next 29 = .ok (.ifCond .eq 7, 3) := by decide +kernel
theorem d_Mo_next_32 : decode b_Mo_next 32 = .ok (.iconst 1, 1) := by decide +kernel
theorem d_Mo_next_33 : decode b_Mo_next 33 = .ok (.goto 4, 3) := by decide +kernel
theorem d_Mo_next_36 : decode b_Mo_next 36 = .ok (.iconst 0, 1) := by decide +kernel
theorem d_Mo_next_37 : decode b_Mo_next 37 = .ok (.istore 6, 2) := by decide +kernel
theorem d_Mo_next_39 : decode b_Mo_next 39 = .ok (.iload_n 2, 1) := by decide +kernel
theorem d_Mo_next_40 : decode b_Mo_next 40 = .ok (.aload_n 0, 1) := by decide +kernel
theorem d_Mo_next_41 : decode b_Mo_next 41 = .ok (.getfield 77, 3) := by decide +kernel
theorem d_Mo_next_44 : decode b_Mo_next 44 = .ok (.iload_n 1, 1) := by decide +kernel
theorem d_Mo_next_45 : decode b_Mo_next 45 = .ok (.iaload, 1) := by decide +kernel
theorem d_Mo_next_46 : decode b_Mo_next 46 = .ok (.if_icmp .ne 7, 3) := by decide +kernel
theorem d_Mo_next_49 : decode b_Mo_next 49 = .ok (.iconst 1, 1) := by decide +kernel
theorem d_Mo_next_50 : decode b_Mo_next 50 = .ok (.goto 4, 3) := by decide +kernel
theorem d_Mo_next_53 : decode b_Mo_next 53 = .ok (.iconst 0, 1) := by decide +kernel
theorem d_Mo_next_54 : decode b_Mo_next 54 = .ok (.istore 7, 2) := by decide +kernel
theorem d_Mo_next_56 : decode b_Mo_next 56 = .ok (.aload_n 0, 1) := by decide +kernel
theorem d_Mo_next_57 : decode b_Mo_next 57 = .ok (.getfield 53, 3) := by decide +kernel
theorem d_Mo_next_60 : decode b_Mo_next 60 = .ok (.iload_n 1, 1) := by decide +kernel
theorem d_Mo_next_61 : decode b_Mo_next 61 = .ok (.iaload, 1) := by decide +kernel
theorem d_Mo_next_62 : decode b_Mo_next 62 = .ok (.istore 8, 2) := by decide +kernel
theorem d_Mo_next_64 : decode b_Mo_next 64 = .ok (.iload 8, 2) := by decide +kernel
theorem d_Mo_next_66 : decode b_Mo_next 66 = .ok (.iconst 2, 1) := by decide +kernel
theorem d_Mo_next_67 : decode b_Mo_next 67 = .ok (.if_icmp .gt 25, 3) := by decide +kernel
theorem d_Mo_next_70 : decode b_Mo_next 70 = .ok (.iload 4, 2) := by decide +kernel
theorem d_Mo_next_72 : decode b_Mo_next 72 = .ok (.ifCond .eq 20, 3) := by decide +kernel
theorem d_Mo_next_75 : decode b_Mo_next 75 = .ok (.iload 5, 2) := by decide +kernel
theorem d_Mo_next_77 : decode b_Mo_next 77 = .ok (.ifCond .eq 15, 3) := by decide +kernel
theorem d_Mo_next_80 : decode b_Mo_next 80 = .ok (.iload 6, 2) := by decide +kernel
theorem d_Mo_next_82 : decode b_Mo_next 82 = .ok (.ifCond .ne 10, 3) := by decide +kernel
theorem d_Mo_next_85 : decode b_Mo_next 85 = .ok (.iload 7, 2) := by decide +kernel
theorem d_Mo_next_87 : decode b_Mo_next 87 = .ok (.ifCond .ne 5, 3) := by decide +kernel
theorem d_Mo_next_90 : decode b_Mo_next 90 = .ok (.iconst 2, 1) := by decide +kernel
theorem d_Mo_next_91 : decode b_Mo_next 91 = .ok (.ireturn, 1) := by decide +kernel
theorem d_Mo_next_92 : decode b_Mo_next 92 = .ok (.iload 8, 2) := by decide +kernel
theorem d_Mo_next_94 : decode b_Mo_next 94 = .ok (.iconst 1, 1) := by decide +kernel
theorem d_Mo_next_95 : decode b_Mo_next 95 = .ok (.if_icmp .ne 19, 3) := by decide +kernel
theorem d_Mo_next_98 : decode b_Mo_next 98 = .ok (.iload_n 3, 1) := by decide +kernel
theorem d_Mo_next_99 : decode b_Mo_next 99 = .ok (.iconst 1, 1) := by decide +kernel
theorem d_Mo_next_100 : decode b_Mo_next 100 = .ok (.if_icmp .ne 12, 3) := by decide +kernel
theorem d_Mo_next_103 : decode b_Mo_next 103 = .ok (.iload 7, 2) := by decide +kernel
theorem d_Mo_next_105 : decode b_Mo_next 105 = .ok (.ifCond .eq 7, 3) := by decide +kernel
theorem d_Mo_next_108 : decode b_Mo_next 108 = .ok (.iconst 1, 1) := by decide +kernel
theorem d_Mo_next_109 : decode b_Mo_next 109 = .ok (.goto 4, 3) := by decide +kernel
theorem d_Mo_next_112 : decode b_Mo_next 112 = .ok (.iconst 0, 1) := by decide +kernel
theorem d_Mo_next_113 : decode b_Mo_next 113 = .ok (.ireturn, 1) := by decide +kernel
theorem d_Mo_next_114 : decode b_Mo_next 114 = .ok (.iload 8, 2) := by decide +kernel
theorem d_Mo_next_116 : decode b_Mo_next 116 = .ok (.iconst 2, 1) := by decide +kernel
theorem d_Mo_next_117 : decode b_Mo_next 117 = .ok (.if_icmp .ne 15, 3) := by decide +kernel
theorem d_Mo_next_120 : decode b_Mo_next 120 = .ok (.iload 7, 2) := by decide +kernel
theorem d_Mo_next_122 : decode b_Mo_next 122 = .ok (.ifCond .eq 8, 3) := by decide +kernel
theorem d_Mo_next_125 : decode b_Mo_next 125 = .ok (.iload 5, 2) := by decide +kernel
theorem d_Mo_next_127 : decode b_Mo_next 127 = .ok (.ifCond .ne 5, 3) := by decide +kernel
theorem d_Mo_next_130 : decode b_Mo_next 130 = .ok (.iconst 0, 1) := by decide +kernel
theorem d_Mo_next_131 : decode b_Mo_next 131 = .ok (.ireturn, 1) := by decide +kernel
theorem d_Mo_next_132 : decode b_Mo_next 132 = .ok (.iload 4, 2) := by decide +kernel
theorem d_Mo_next_134 : decode b_Mo_next 134 = .ok (.ifCond .eq 5, 3) := by decide +kernel
theorem d_Mo_next_137 : decode b_Mo_next 137 = .ok (.iconst 0, 1) := by decide +kernel
theorem d_Mo_next_138 : decode b_Mo_next 138 = .ok (.ireturn, 1) := by decide +kernel
theorem d_Mo_next_139 : decode b_Mo_next 139 = .ok (.iload 8, 2) := by decide +kernel
theorem d_Mo_next_141 : decode b_Mo_next 141 = .ok (.iconst 3, 1) := by decide +kernel
theorem d_Mo_next_142 : decode b_Mo_next 142 = .ok (.if_icmp .gt 14, 3) := by decide +kernel
theorem d_Mo_next_145 : decode b_Mo_next 145 = .ok (.iload 6, 2) := by decide +kernel
theorem d_Mo_next_147 : decode b_Mo_next 147 = .ok (.ifCond .eq 7, 3) := by decide +kernel
theorem d_Mo_next_150 : decode b_Mo_next 150 = .ok (.iconst 4, 1) := by decide +kernel
theorem d_Mo_next_151 : decode b_Mo_next 151 = .ok (.goto 4, 3) := by decide +kernel
theorem d_Mo_next_154 : decode b_Mo_next 154 = .ok (.iconst 3, 1) := by decide +kernel
theorem d_Mo_next_155 : decode b_Mo_next 155 = .ok (.ireturn, 1) := by decide +kernel
theorem d_Mo_next_156 : decode b_Mo_next 156 = .ok (.iload 8, 2) := by decide +kernel
theorem d_Mo_next_158 : decode b_Mo_next 158 = .ok (.iconst 4, 1) := by decide +kernel
theorem d_Mo_next_159 : decode b_Mo_next 159 = .ok (.if_icmp .ne 22, 3) := by decide +kernel
theorem d_Mo_next_162 : decode b_Mo_next 162 = .ok (.iload 6, 2) := by decide +kernel
theorem d_Mo_next_164 : decode b_Mo_next 164 = .ok (.ifCond .eq 17, 3) := by decide +kernel
theorem d_Mo_next_167 : decode b_Mo_next 167 = .ok (.iload_n 2, 1) := by decide +kernel
theorem d_Mo_next_168 : decode b_Mo_next 168 = .ok (.aload_n 0, 1) := by decide +kernel
theorem d_Mo_next_169 : decode b_Mo_next 169 = .ok (.getfield 80, 3) := by decide +kernel
theorem d_Mo_next_172 : decode b_Mo_next 172 = .ok (.iload_n 1, 1) := by decide +kernel
theorem d_Mo_next_173 : decode b_Mo_next 173 = .ok (.iaload, 1) := by decide +kernel
theorem d_Mo_next_174 : decode b_Mo_next 174 = .ok (.if_icmp .eq 7, 3) := by decide +kernel
theorem d_Mo_next_177 : decode b_Mo_next 177 = .ok (.iconst 5, 1) := by decide +kernel
theorem d_Mo_next_178 : decode b_Mo_next 178 = .ok (.goto 5, 3) := by decide +kernel
theorem d_Mo_next_181 : decode b_Mo_next 181 = .ok (.iload 8, 2) := by decide +kernel
theorem d_Mo_next_183 : decode b_Mo_next 183 = .ok (.ireturn, 1) := by decide +kernel
theorem d_Mo_emit_0 : decode b_Mo_emit 0 = .ok (.aload_n 0, 1) := by decide +kernel
theorem d_Mo_emit_1 : decode b_Mo_emit 1 = .ok (.getfield 92, 3) := by decide +kernel
theorem d_Mo_emit_4 : decode b_Mo_emit 4 = .ok (.iconst 0, 1) := by decide +kernel
theorem d_Mo_emit_5 : decode b_Mo_emit 5 = .ok (.iload_n 2, 1) := by decide +kernel
theorem d_Mo_emit_6 : decode b_Mo_emit 6 = .ok (.iastore, 1) := by decide +kernel
theorem d_Mo_emit_7 : decode b_Mo_emit 7 = .ok (.aload_n 0, 1) := by decide +kernel
theorem d_Mo_emit_8 : decode b_Mo_emit 8 = .ok (.getfield 92, 3) := by decide +kernel
theorem d_Mo_emit_11 : decode b_Mo_emit 11 = .ok (.iconst 1, 1) := by decide +kernel
theorem d_Mo_emit_12 : decode b_Mo_emit 12 = .ok (.iload_n 3, 1) := by decide +kernel
theorem d_Mo_emit_13 : decode b_Mo_emit 13 = .ok (.iastore, 1) := by decide +kernel
theorem d_Mo_emit_14 : decode b_Mo_emit 14 = .ok (.aload_n 0, 1) := by decide +kernel
theorem d_Mo_emit_15 : decode b_Mo_emit 15 = .ok (.getfield 92, 3) := by decide +kernel
theorem d_Mo_emit_18 : decode b_Mo_emit 18 = .ok (.iconst 2, 1) := by decide +kernel
theorem d_Mo_emit_19 : decode b_Mo_emit 19 = .ok (.iload 4, 2) := by decide +kernel
theorem d_Mo_emit_21 : decode b_Mo_emit 21 = .ok (.iastore, 1) := by decide +kernel
theorem d_Mo_emit_22 : decode b_Mo_emit 22 = .ok (.aload_n 0, 1) := by decide +kernel
theorem d_Mo_emit_23 : decode b_Mo_emit 23 = .ok (.getfield 92, 3) := by decide +kernel
theorem d_Mo_emit_26 : decode b_Mo_emit 26 = .ok (.iconst 3, 1) := by decide +kernel
theorem d_Mo_emit_27 : decode b_Mo_emit 27 = .ok (.iload 5, 2) := by decide +kernel
theorem d_Mo_emit_29 : decode b_Mo_emit 29 = .ok (.iastore, 1) := by decide +kernel
theorem d_Mo_emit_30 : decode b_Mo_emit 30 = .ok (.aload_n 0, 1) := by decide +kernel
theorem d_Mo_emit_31 : decode b_Mo_emit 31 = .ok (.iconst 1, 1) := by decide +kernel
theorem d_Mo_emit_32 : decode b_Mo_emit 32 = .ok (.putfield 180, 3) := by decide +kernel
theorem d_Mo_emit_35 : decode b_Mo_emit 35 = .ok (.aload_n 0, 1) := by decide +kernel
theorem d_Mo_emit_36 : decode b_Mo_emit 36 = .ok (.dup, 1) := by decide +kernel
theorem d_Mo_emit_37 : decode b_Mo_emit 37 = .ok (.getfield 183, 3) := by decide +kernel
theorem d_Mo_emit_40 : decode b_Mo_emit 40 = .ok (.iconst 1, 1) := by decide +kernel
theorem d_Mo_emit_41 : decode b_Mo_emit 41 = .ok (.iadd, 1) := by decide +kernel
theorem d_Mo_emit_42 : decode b_Mo_emit 42 = .ok (.putfield 183, 3) := by decide +kernel
theorem d_Mo_emit_45 : decode b_Mo_emit 45 = .ok (.iload_n 1, 1) := by decide +kernel
theorem d_Mo_emit_46 : decode b_Mo_emit 46 = .ok (.ireturn, 1) := by decide +kernel
theorem d_Mo_policy_0 : decode b_Mo_policy 0 = .ok (.iconst 0, 1) := by decide +kernel
theorem d_Mo_policy_1 : decode b_Mo_policy 1 = .ok (.istore 6, 2) := by decide +kernel
theorem d_Mo_policy_3 : decode b_Mo_policy 3 = .ok (.iload 6, 2) := by decide +kernel
theorem d_Mo_policy_5 : decode b_Mo_policy 5 = .ok (.aload_n 0, 1) := by decide +kernel
theorem d_Mo_policy_6 : decode b_Mo_policy 6 = .ok (.getfield 119, 3) := by decide +kernel
theorem d_Mo_policy_9 : decode b_Mo_policy 9 = .ok (.if_icmp .ge 152, 3) := by decide +kernel
theorem d_Mo_policy_12 : decode b_Mo_policy 12 = .ok (.aload_n 0, 1) := by decide +kernel
theorem d_Mo_policy_13 : decode b_Mo_policy 13 = .ok (.getfield 20, 3) := by decide +kernel
theorem d_Mo_policy_16 : decode b_Mo_policy 16 = .ok (.iload 6, 2) := by decide +kernel
theorem d_Mo_policy_18 : decode b_Mo_policy 18 = .ok (.iaload, 1) := by decide +kernel
theorem d_Mo_policy_19 : decode b_Mo_policy 19 = .ok (.iconst 2, 1) := by decide +kernel
theorem d_Mo_policy_20 : decode b_Mo_policy 20 = .ok (.if_icmp .eq 14, 3) := by decide +kernel
theorem d_Mo_policy_23 : decode b_Mo_policy 23 = .ok (.aload_n 0, 1) := by decide +kernel
theorem d_Mo_policy_24 : decode b_Mo_policy 24 = .ok (.getfield 20, 3) := by decide +kernel
theorem d_Mo_policy_27 : decode b_Mo_policy 27 = .ok (.iload 6, 2) := by decide +kernel
theorem d_Mo_policy_29 : decode b_Mo_policy 29 = .ok (.iaload, 1) := by decide +kernel
theorem d_Mo_policy_30 : decode b_Mo_policy 30 = .ok (.iload_n 1, 1) := by decide +kernel
theorem d_Mo_policy_31 : decode b_Mo_policy 31 = .ok (.if_icmp .ne 124, 3) := by decide +kernel
theorem d_Mo_policy_34 : decode b_Mo_policy 34 = .ok (.aload_n 0, 1) := by decide +kernel
theorem d_Mo_policy_35 : decode b_Mo_policy 35 = .ok (.getfield 23, 3) := by decide +kernel
theorem d_Mo_policy_38 : decode b_Mo_policy 38 = .ok (.iload 6, 2) := by decide +kernel
theorem d_Mo_policy_40 : decode b_Mo_policy 40 = .ok (.iaload, 1) := by decide +kernel
theorem d_Mo_policy_41 : decode b_Mo_policy 41 = .ok (.iconst 3, 1) := by decide +kernel
theorem d_Mo_policy_42 : decode b_Mo_policy 42 = .ok (.if_icmp .eq 17, 3) := by decide +kernel
theorem d_Mo_policy_45 : decode b_Mo_policy 45 = .ok (.aload_n 0, 1) := by decide +kernel
theorem d_Mo_policy_46 : decode b_Mo_policy 46 = .ok (.getfield 23, 3) := by decide +kernel
theorem d_Mo_policy_49 : decode b_Mo_policy 49 = .ok (.iload 6, 2) := by decide +kernel
theorem d_Mo_policy_51 : decode b_Mo_policy 51 = .ok (.iaload, 1) := by decide +kernel
theorem d_Mo_policy_52 : decode b_Mo_policy 52 = .ok (.iload_n 2, 1) := by decide +kernel
theorem d_Mo_policy_53 : decode b_Mo_policy 53 = .ok (.if_icmp .eq 6, 3) := by decide +kernel
theorem d_Mo_policy_56 : decode b_Mo_policy 56 = .ok (.goto 99, 3) := by decide +kernel
theorem d_Mo_policy_59 : decode b_Mo_policy 59 = .ok (.iload_n 3, 1) := by decide +kernel
theorem d_Mo_policy_60 : decode b_Mo_policy 60 = .ok (.aload_n 0, 1) := by decide +kernel
theorem d_Mo_policy_61 : decode b_Mo_policy 61 = .ok (.getfield 26, 3) := by decide +kernel
theorem d_Mo_policy_64 : decode b_Mo_policy 64 = .ok (.iload 6, 2) := by decide +kernel
theorem d_Mo_policy_66 : decode b_Mo_policy 66 = .ok (.iconst 3, 1) := by decide +kernel
theorem d_Mo_policy_67 : decode b_Mo_policy 67 = .ok (.imul, 1) := by decide +kernel
theorem d_Mo_policy_68 : decode b_Mo_policy 68 = .ok (.iaload, 1) := by decide +kernel
theorem d_Mo_policy_69 : decode b_Mo_policy 69 = .ok (.aload_n 0, 1) := by decide +kernel
theorem d_Mo_policy_70 : decode b_Mo_policy 70 = .ok (.getfield 29, 3) := by decide +kernel
theorem d_Mo_policy_73 : decode b_Mo_policy 73 = .ok (.iload 6, 2) := by decide +kernel
theorem d_Mo_policy_75 : decode b_Mo_policy 75 = .ok (.iconst 3, 1) := by decide +kernel
theorem d_Mo_policy_76 : decode b_Mo_policy 76 = .ok (.imul, 1) := by decide +kernel
theorem d_Mo_policy_77 : decode b_Mo_policy 77 = .ok (.iaload, 1) := by decide +kernel
theorem d_Mo_policy_78 : decode b_Mo_policy 78 = .ok (.invokestatic 136, 3) := by decide +kernel
theorem d_Mo_policy_81 : decode b_Mo_policy 81 = .ok (.ifCond .eq 74, 3) := by decide +kernel
theorem d_Mo_policy_84 : decode b_Mo_policy 84 = .ok (.iload 4, 2) := by decide +kernel
theorem d_Mo_policy_86 : decode b_Mo_policy 86 = .ok (.aload_n 0, 1) := by decide +kernel
theorem d_Mo_policy_87 : decode b_Mo_policy 87 = .ok (.getfield 26, 3) := by decide +kernel
theorem d_Mo_policy_90 : decode b_Mo_policy 90 = .ok (.iload 6, 2) := by decide +kernel
theorem d_Mo_policy_92 : decode b_Mo_policy 92 = .ok (.iconst 3, 1) := by decide +kernel
theorem d_Mo_policy_93 : decode b_Mo_policy 93 = .ok (.imul, 1) := by decide +kernel
theorem d_Mo_policy_94 : decode b_Mo_policy 94 = .ok (.iconst 1, 1) := by decide +kernel
theorem d_Mo_policy_95 : decode b_Mo_policy 95 = .ok (.iadd, 1) := by decide +kernel
theorem d_Mo_policy_96 : decode b_Mo_policy 96 = .ok (.iaload, 1) := by decide +kernel
theorem d_Mo_policy_97 : decode b_Mo_policy 97 = .ok (.aload_n 0, 1) := by decide +kernel
theorem d_Mo_policy_98 : decode b_Mo_policy 98 = .ok (.getfield 29, 3) := by decide +kernel
theorem d_Mo_policy_101 : decode b_Mo_policy 101 = .ok (.iload 6, 2) := by decide +kernel
theorem d_Mo_policy_103 : decode b_Mo_policy 103 = .ok (.iconst 3, 1) := by decide +kernel
theorem d_Mo_policy_104 : decode b_Mo_policy 104 = .ok (.imul, 1) := by decide +kernel
theorem d_Mo_policy_105 : decode b_Mo_policy 105 = .ok (.iconst 1, 1) := by decide +kernel
theorem d_Mo_policy_106 : decode b_Mo_policy 106 = .ok (.iadd, 1) := by decide +kernel
theorem d_Mo_policy_107 : decode b_Mo_policy 107 = .ok (.iaload, 1) := by decide +kernel
theorem d_Mo_policy_108 : decode b_Mo_policy 108 = .ok (.invokestatic 136, 3) := by decide +kernel
theorem d_Mo_policy_111 : decode b_Mo_policy 111 = .ok (.ifCond .ne 6, 3) := by decide +kernel
theorem d_Mo_policy_114 : decode b_Mo_policy 114 = .ok (.goto 41, 3) := by decide +kernel
theorem d_Mo_policy_117 : decode b_Mo_policy 117 = .ok (.iload 5, 2) := by decide +kernel
theorem d_Mo_policy_119 : decode b_Mo_policy 119 = .ok (.aload_n 0, 1) := by decide +kernel
theorem d_Mo_policy_120 : decode b_Mo_policy 120 = .ok (.getfield 26, 3) := by decide +kernel
theorem d_Mo_policy_123 : decode b_Mo_policy 123 = .ok (.iload 6, 2) := by decide +kernel
theorem d_Mo_policy_125 : decode b_Mo_policy 125 = .ok (.iconst 3, 1) := by decide +kernel
theorem d_Mo_policy_126 : decode b_Mo_policy 126 = .ok (.imul, 1) := by decide +kernel
theorem d_Mo_policy_127 : decode b_Mo_policy 127 = .ok (.iconst 2, 1) := by decide +kernel
theorem d_Mo_policy_128 : decode b_Mo_policy 128 = .ok (.iadd, 1) := by decide +kernel
theorem d_Mo_policy_129 : decode b_Mo_policy 129 = .ok (.iaload, 1) := by decide +kernel
theorem d_Mo_policy_130 : decode b_Mo_policy 130 = .ok (.aload_n 0, 1) := by decide +kernel
theorem d_Mo_policy_131 : decode b_Mo_policy 131 = .ok (.getfield 29, 3) := by decide +kernel
theorem d_Mo_policy_134 : decode b_Mo_policy 134 = .ok (.iload 6, 2) := by decide +kernel
theorem d_Mo_policy_136 : decode b_Mo_policy 136 = .ok (.iconst 3, 1) := by decide +kernel
theorem d_Mo_policy_137 : decode b_Mo_policy 137 = .ok (.imul, 1) := by decide +kernel
theorem d_Mo_policy_138 : decode b_Mo_policy 138 = .ok (.iconst 2, 1) := by decide +kernel
theorem d_Mo_policy_139 : decode b_Mo_policy 139 = .ok (.iadd, 1) := by decide +kernel
theorem d_Mo_policy_140 : decode b_Mo_policy 140 = .ok (.iaload, 1) := by decide +kernel
theorem d_Mo_policy_141 : decode b_Mo_policy 141 = .ok (.invokestatic 136, 3) := by decide +kernel
theorem d_Mo_policy_144 : decode b_Mo_policy 144 = .ok (.ifCond .eq 11, 3) := by decide +kernel
theorem d_Mo_policy_147 : decode b_Mo_policy 147 = .ok (.aload_n 0, 1) := by decide +kernel
theorem d_Mo_policy_148 : decode b_Mo_policy 148 = .ok (.getfield 17, 3) := by decide +kernel
theorem d_Mo_policy_151 : decode b_Mo_policy 151 = .ok (.iload 6, 2) := by decide +kernel
theorem d_Mo_policy_153 : decode b_Mo_policy 153 = .ok (.iaload, 1) := by decide +kernel
theorem d_Mo_policy_154 : decode b_Mo_policy 154 = .ok (.ireturn, 1) := by decide +kernel
theorem d_Mo_policy_155 : decode b_Mo_policy 155 = .ok (.iinc 6 1, 3) := by decide +kernel
theorem d_Mo_policy_158 : decode b_Mo_policy 158 = .ok (.goto (-155), 3) := by decide +kernel
theorem d_Mo_policy_161 : decode b_Mo_policy 161 = .ok (.iconst 1, 1) := by decide +kernel
theorem d_Mo_policy_162 : decode b_Mo_policy 162 = .ok (.ireturn, 1) := by decide +kernel
theorem d_Mo_fits_0 : decode b_Mo_fits 0 = .ok (.iload_n 0, 1) := by decide +kernel
theorem d_Mo_fits_1 : decode b_Mo_fits 1 = .ok (.iload_n 1, 1) := by decide +kernel
theorem d_Mo_fits_2 : decode b_Mo_fits 2 = .ok (.if_icmp .lt 12, 3) := by decide +kernel
theorem d_Mo_fits_5 : decode b_Mo_fits 5 = .ok (.iload_n 0, 1) := by decide +kernel
theorem d_Mo_fits_6 : decode b_Mo_fits 6 = .ok (.iload_n 2, 1) := by decide +kernel
theorem d_Mo_fits_7 : decode b_Mo_fits 7 = .ok (.if_icmp .gt 7, 3) := by decide +kernel
theorem d_Mo_fits_10 : decode b_Mo_fits 10 = .ok (.iconst 1, 1) := by decide +kernel
theorem d_Mo_fits_11 : decode b_Mo_fits 11 = .ok (.goto 4, 3) := by decide +kernel
theorem d_Mo_fits_14 : decode b_Mo_fits 14 = .ok (.iconst 0, 1) := by decide +kernel
theorem d_Mo_fits_15 : decode b_Mo_fits 15 = .ok (.ireturn, 1) := by decide +kernel
theorem d_Mo_freePort_0 : decode b_Mo_freePort 0 = .ok (.bipush 100, 2) := by decide +kernel
theorem d_Mo_freePort_2 : decode b_Mo_freePort 2 = .ok (.istore_n 2, 1) := by decide +kernel
theorem d_Mo_freePort_3 : decode b_Mo_freePort 3 = .ok (.iload_n 2, 1) := by decide +kernel
theorem d_Mo_freePort_4 : decode b_Mo_freePort 4 = .ok (.bipush 112, 2) := by decide +kernel
theorem d_Mo_freePort_6 : decode b_Mo_freePort 6 = .ok (.if_icmp .ge 20, 3) := by decide +kernel
theorem d_Mo_freePort_9 : decode b_Mo_freePort 9 = .ok (.aload_n 0, 1) := by decide +kernel
theorem d_Mo_freePort_10 : decode b_Mo_freePort 10 = .ok (.iload_n 1, 1) := by decide +kernel
theorem d_Mo_freePort_11 : decode b_Mo_freePort 11 = .ok (.iload_n 2, 1) := by decide +kernel
theorem d_Mo_freePort_12 : decode b_Mo_freePort 12 = .ok (.invokevirtual 160, 3) := by decide +kernel
theorem d_Mo_freePort_15 : decode b_Mo_freePort 15 = .ok (.ifCond .ne 5, 3) := by decide +kernel
theorem d_Mo_freePort_18 : decode b_Mo_freePort 18 = .ok (.iload_n 2, 1) := by decide +kernel
theorem d_Mo_freePort_19 : decode b_Mo_freePort 19 = .ok (.ireturn, 1) := by decide +kernel
theorem d_Mo_freePort_20 : decode b_Mo_freePort 20 = .ok (.iinc 2 1, 3) := by decide +kernel
theorem d_Mo_freePort_23 : decode b_Mo_freePort 23 = .ok (.goto (-20), 3) := by decide +kernel
theorem d_Mo_freePort_26 : decode b_Mo_freePort 26 = .ok (.iconst (-1), 1) := by decide +kernel
theorem d_Mo_freePort_27 : decode b_Mo_freePort 27 = .ok (.ireturn, 1) := by decide +kernel
theorem d_Mo_openFlow_0 : decode b_Mo_openFlow 0 = .ok (.aload_n 0, 1) := by decide +kernel
theorem d_Mo_openFlow_1 : decode b_Mo_openFlow 1 = .ok (.getfield 142, 3) := by decide +kernel
theorem d_Mo_openFlow_4 : decode b_Mo_openFlow 4 = .ok (.istore 8, 2) := by decide +kernel
theorem d_Mo_openFlow_6 : decode b_Mo_openFlow 6 = .ok (.aload_n 0, 1) := by decide +kernel
theorem d_Mo_openFlow_7 : decode b_Mo_openFlow 7 = .ok (.dup, 1) := by decide +kernel
theorem d_Mo_openFlow_8 : decode b_Mo_openFlow 8 = .ok (.getfield 142, 3) := by decide +kernel
theorem d_Mo_openFlow_11 : decode b_Mo_openFlow 11 = .ok (.iconst 1, 1) := by decide +kernel
theorem d_Mo_openFlow_12 : decode b_Mo_openFlow 12 = .ok (.iadd, 1) := by decide +kernel
theorem d_Mo_openFlow_13 : decode b_Mo_openFlow 13 = .ok (.putfield 142, 3) := by decide +kernel
theorem d_Mo_openFlow_16 : decode b_Mo_openFlow 16 = .ok (.aload_n 0, 1) := by decide +kernel
theorem d_Mo_openFlow_17 : decode b_Mo_openFlow 17 = .ok (.getfield 53, 3) := by decide +kernel
theorem d_Mo_openFlow_20 : decode b_Mo_openFlow 20 = .ok (.iload 8, 2) := by decide +kernel
theorem d_Mo_openFlow_22 : decode b_Mo_openFlow 22 = .ok (.iload_n 1, 1) := by decide +kernel
theorem d_Mo_openFlow_23 : decode b_Mo_openFlow 23 = .ok (.ifCond .ne 7, 3) := by decide +kernel
theorem d_Mo_openFlow_26 : decode b_Mo_openFlow 26 = .ok (.iconst 1, 1) := by decide +kernel
theorem d_Mo_openFlow_27 : decode b_Mo_openFlow 27 = .ok (.goto 5, 3) := by decide +kernel
theorem d_Mo_openFlow_30 : decode b_Mo_openFlow 30 = .ok (.bipush 6, 2) := by decide +kernel
theorem d_Mo_openFlow_32 : decode b_Mo_openFlow 32 = .ok (.iastore, 1) := by decide +kernel
theorem d_Mo_openFlow_33 : decode b_Mo_openFlow 33 = .ok (.aload_n 0, 1) := by decide +kernel
