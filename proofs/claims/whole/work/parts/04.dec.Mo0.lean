theorem d_Mo_init_0 : decode b_Mo_init 0 = .ok (.aload_n 0, 1) := by decide +kernel
theorem d_Mo_init_1 : decode b_Mo_init 1 = .ok (.invokespecial 1, 3) := by decide +kernel
theorem d_Mo_init_4 : decode b_Mo_init 4 = .ok (.aload_n 0, 1) := by decide +kernel
theorem d_Mo_init_5 : decode b_Mo_init 5 = .ok (.bipush 40, 2) := by decide +kernel
theorem d_Mo_init_7 : decode b_Mo_init 7 = .ok (.newarray .int, 2) := by decide +kernel
theorem d_Mo_init_9 : decode b_Mo_init 9 = .ok (.putfield 7, 3) := by decide +kernel
theorem d_Mo_init_12 : decode b_Mo_init 12 = .ok (.aload_n 0, 1) := by decide +kernel
theorem d_Mo_init_13 : decode b_Mo_init 13 = .ok (.iconst (-1), 1) := by decide +kernel
theorem d_Mo_init_14 : decode b_Mo_init 14 = .ok (.putfield 13, 3) := by decide +kernel
theorem d_Mo_init_17 : decode b_Mo_init 17 = .ok (.aload_n 0, 1) := by decide +kernel
theorem d_Mo_init_18 : decode b_Mo_init 18 = .ok (.bipush 17, 2) := by decide +kernel
theorem d_Mo_init_20 : decode b_Mo_init 20 = .ok (.newarray .int, 2) := by decide +kernel
theorem d_Mo_init_22 : decode b_Mo_init 22 = .ok (.putfield 17, 3) := by decide +kernel
theorem d_Mo_init_25 : decode b_Mo_init 25 = .ok (.aload_n 0, 1) := by decide +kernel
theorem d_Mo_init_26 : decode b_Mo_init 26 = .ok (.bipush 17, 2) := by decide +kernel
theorem d_Mo_init_28 : decode b_Mo_init 28 = .ok (.newarray .int, 2) := by decide +kernel
theorem d_Mo_init_30 : decode b_Mo_init 30 = .ok (.putfield 20, 3) := by decide +kernel
theorem d_Mo_init_33 : decode b_Mo_init 33 = .ok (.aload_n 0, 1) := by decide +kernel
theorem d_Mo_init_34 : decode b_Mo_init 34 = .ok (.bipush 17, 2) := by decide +kernel
theorem d_Mo_init_36 : decode b_Mo_init 36 = .ok (.newarray .int, 2) := by decide +kernel
theorem d_Mo_init_38 : decode b_Mo_init 38 = .ok (.putfield 23, 3) := by decide +kernel
theorem d_Mo_init_41 : decode b_Mo_init 41 = .ok (.aload_n 0, 1) := by decide +kernel
theorem d_Mo_init_42 : decode b_Mo_init 42 = .ok (.bipush 51, 2) := by decide +kernel
theorem d_Mo_init_44 : decode b_Mo_init 44 = .ok (.newarray .int, 2) := by decide +kernel
theorem d_Mo_init_46 : decode b_Mo_init 46 = .ok (.putfield 26, 3) := by decide +kernel
theorem d_Mo_init_49 : decode b_Mo_init 49 = .ok (.aload_n 0, 1) := by decide +kernel
theorem d_Mo_init_50 : decode b_Mo_init 50 = .ok (.bipush 51, 2) := by decide +kernel
theorem d_Mo_init_52 : decode b_Mo_init 52 = .ok (.newarray .int, 2) := by decide +kernel
theorem d_Mo_init_54 : decode b_Mo_init 54 = .ok (.putfield 29, 3) := by decide +kernel
theorem d_Mo_init_57 : decode b_Mo_init 57 = .ok (.aload_n 0, 1) := by decide +kernel
theorem d_Mo_init_58 : decode b_Mo_init 58 = .ok (.iconst 3, 1) := by decide +kernel
theorem d_Mo_init_59 : decode b_Mo_init 59 = .ok (.newarray .int, 2) := by decide +kernel
theorem d_Mo_init_61 : decode b_Mo_init 61 = .ok (.putfield 32, 3) := by decide +kernel
theorem d_Mo_init_64 : decode b_Mo_init 64 = .ok (.aload_n 0, 1) := by decide +kernel
theorem d_Mo_init_65 : decode b_Mo_init 65 = .ok (.iconst 3, 1) := by decide +kernel
theorem d_Mo_init_66 : decode b_Mo_init 66 = .ok (.newarray .int, 2) := by decide +kernel
theorem d_Mo_init_68 : decode b_Mo_init 68 = .ok (.putfield 35, 3) := by decide +kernel
theorem d_Mo_init_71 : decode b_Mo_init 71 = .ok (.aload_n 0, 1) := by decide +kernel
theorem d_Mo_init_72 : decode b_Mo_init 72 = .ok (.bipush 40, 2) := by decide +kernel
theorem d_Mo_init_74 : decode b_Mo_init 74 = .ok (.newarray .int, 2) := by decide +kernel
theorem d_Mo_init_76 : decode b_Mo_init 76 = .ok (.putfield 38, 3) := by decide +kernel
theorem d_Mo_init_79 : decode b_Mo_init 79 = .ok (.aload_n 0, 1) := by decide +kernel
theorem d_Mo_init_80 : decode b_Mo_init 80 = .ok (.iconst 5, 1) := by decide +kernel
theorem d_Mo_init_81 : decode b_Mo_init 81 = .ok (.newarray .int, 2) := by decide +kernel
theorem d_Mo_init_83 : decode b_Mo_init 83 = .ok (.putfield 41, 3) := by decide +kernel
theorem d_Mo_init_86 : decode b_Mo_init 86 = .ok (.aload_n 0, 1) := by decide +kernel
theorem d_Mo_init_87 : decode b_Mo_init 87 = .ok (.iconst 5, 1) := by decide +kernel
theorem d_Mo_init_88 : decode b_Mo_init 88 = .ok (.newarray .int, 2) := by decide +kernel
theorem d_Mo_init_90 : decode b_Mo_init 90 = .ok (.putfield 44, 3) := by decide +kernel
theorem d_Mo_init_93 : decode b_Mo_init 93 = .ok (.aload_n 0, 1) := by decide +kernel
theorem d_Mo_init_94 : decode b_Mo_init 94 = .ok (.iconst 5, 1) := by decide +kernel
theorem d_Mo_init_95 : decode b_Mo_init 95 = .ok (.newarray .int, 2) := by decide +kernel
theorem d_Mo_init_97 : decode b_Mo_init 97 = .ok (.putfield 47, 3) := by decide +kernel
theorem d_Mo_init_100 : decode b_Mo_init 100 = .ok (.aload_n 0, 1) := by decide +kernel
theorem d_Mo_init_101 : decode b_Mo_init 101 = .ok (.iconst 5, 1) := by decide +kernel
theorem d_Mo_init_102 : decode b_Mo_init 102 = .ok (.newarray .int, 2) := by decide +kernel
theorem d_Mo_init_104 : decode b_Mo_init 104 = .ok (.putfield 50, 3) := by decide +kernel
theorem d_Mo_init_107 : decode b_Mo_init 107 = .ok (.aload_n 0, 1) := by decide +kernel
theorem d_Mo_init_108 : decode b_Mo_init 108 = .ok (.bipush 17, 2) := by decide +kernel
theorem d_Mo_init_110 : decode b_Mo_init 110 = .ok (.newarray .int, 2) := by decide +kernel
theorem d_Mo_init_112 : decode b_Mo_init 112 = .ok (.putfield 53, 3) := by decide +kernel
theorem d_Mo_init_115 : decode b_Mo_init 115 = .ok (.aload_n 0, 1) := by decide +kernel
theorem d_Mo_init_116 : decode b_Mo_init 116 = .ok (.bipush 17, 2) := by decide +kernel
theorem d_Mo_init_118 : decode b_Mo_init 118 = .ok (.newarray .int, 2) := by decide +kernel
theorem d_Mo_init_120 : decode b_Mo_init 120 = .ok (.putfield 56, 3) := by decide +kernel
theorem d_Mo_init_123 : decode b_Mo_init 123 = .ok (.aload_n 0, 1) := by decide +kernel
theorem d_Mo_init_124 : decode b_Mo_init 124 = .ok (.bipush 17, 2) := by decide +kernel
theorem d_Mo_init_126 : decode b_Mo_init 126 = .ok (.newarray .int, 2) := by decide +kernel
theorem d_Mo_init_128 : decode b_Mo_init 128 = .ok (.putfield 59, 3) := by decide +kernel
theorem d_Mo_init_131 : decode b_Mo_init 131 = .ok (.aload_n 0, 1) := by decide +kernel
theorem d_Mo_init_132 : decode b_Mo_init 132 = .ok (.bipush 17, 2) := by decide +kernel
theorem d_Mo_init_134 : decode b_Mo_init 134 = .ok (.newarray .int, 2) := by decide +kernel
theorem d_Mo_init_136 : decode b_Mo_init 136 = .ok (.putfield 62, 3) := by decide +kernel
theorem d_Mo_init_139 : decode b_Mo_init 139 = .ok (.aload_n 0, 1) := by decide +kernel
theorem d_Mo_init_140 : decode b_Mo_init 140 = .ok (.bipush 17, 2) := by decide +kernel
theorem d_Mo_init_142 : decode b_Mo_init 142 = .ok (.newarray .int, 2) := by decide +kernel
theorem d_Mo_init_144 : decode b_Mo_init 144 = .ok (.putfield 65, 3) := by decide +kernel
theorem d_Mo_init_147 : decode b_Mo_init 147 = .ok (.aload_n 0, 1) := by decide +kernel
theorem d_Mo_init_148 : decode b_Mo_init 148 = .ok (.bipush 17, 2) := by decide +kernel
theorem d_Mo_init_150 : decode b_Mo_init 150 = .ok (.newarray .int, 2) := by decide +kernel
theorem d_Mo_init_152 : decode b_Mo_init 152 = .ok (.putfield 68, 3) := by decide +kernel
theorem d_Mo_init_155 : decode b_Mo_init 155 = .ok (.aload_n 0, 1) := by decide +kernel
theorem d_Mo_init_156 : decode b_Mo_init 156 = .ok (.bipush 17, 2) := by decide +kernel
theorem d_Mo_init_158 : decode b_Mo_init 158 = .ok (.newarray .int, 2) := by decide +kernel
theorem d_Mo_init_160 : decode b_Mo_init 160 = .ok (.putfield 71, 3) := by decide +kernel
theorem d_Mo_init_163 : decode b_Mo_init 163 = .ok (.aload_n 0, 1) := by decide +kernel
theorem d_Mo_init_164 : decode b_Mo_init 164 = .ok (.bipush 17, 2) := by decide +kernel
theorem d_Mo_init_166 : decode b_Mo_init 166 = .ok (.newarray .int, 2) := by decide +kernel
theorem d_Mo_init_168 : decode b_Mo_init 168 = .ok (.putfield 74, 3) := by decide +kernel
theorem d_Mo_init_171 : decode b_Mo_init 171 = .ok (.aload_n 0, 1) := by decide +kernel
theorem d_Mo_init_172 : decode b_Mo_init 172 = .ok (.bipush 17, 2) := by decide +kernel
theorem d_Mo_init_174 : decode b_Mo_init 174 = .ok (.newarray .int, 2) := by decide +kernel
theorem d_Mo_init_176 : decode b_Mo_init 176 = .ok (.putfield 77, 3) := by decide +kernel
theorem d_Mo_init_179 : decode b_Mo_init 179 = .ok (.aload_n 0, 1) := by decide +kernel
theorem d_Mo_init_180 : decode b_Mo_init 180 = .ok (.bipush 17, 2) := by decide +kernel
theorem d_Mo_init_182 : decode b_Mo_init 182 = .ok (.newarray .int, 2) := by decide +kernel
theorem d_Mo_init_184 : decode b_Mo_init 184 = .ok (.putfield 80, 3) := by decide +kernel
theorem d_Mo_init_187 : decode b_Mo_init 187 = .ok (.aload_n 0, 1) := by decide +kernel
theorem d_Mo_init_188 : decode b_Mo_init 188 = .ok (.sipush 512, 3) := by decide +kernel
theorem d_Mo_init_191 : decode b_Mo_init 191 = .ok (.newarray .int, 2) := by decide +kernel
theorem d_Mo_init_193 : decode b_Mo_init 193 = .ok (.putfield 83, 3) := by decide +kernel
theorem d_Mo_init_196 : decode b_Mo_init 196 = .ok (.aload_n 0, 1) := by decide +kernel
theorem d_Mo_init_197 : decode b_Mo_init 197 = .ok (.sipush 512, 3) := by decide +kernel
theorem d_Mo_init_200 : decode b_Mo_init 200 = .ok (.newarray .int, 2) := by decide +kernel
theorem d_Mo_init_202 : decode b_Mo_init 202 = .ok (.putfield 86, 3) := by decide +kernel
theorem d_Mo_init_205 : decode b_Mo_init 205 = .ok (.aload_n 0, 1) := by decide +kernel
theorem d_Mo_init_206 : decode b_Mo_init 206 = .ok (.iconst 4, 1) := by decide +kernel
theorem d_Mo_init_207 : decode b_Mo_init 207 = .ok (.newarray .int, 2) := by decide +kernel
theorem d_Mo_init_209 : decode b_Mo_init 209 = .ok (.putfield 89, 3) := by decide +kernel
theorem d_Mo_init_212 : decode b_Mo_init 212 = .ok (.aload_n 0, 1) := by decide +kernel
theorem d_Mo_init_213 : decode b_Mo_init 213 = .ok (.iconst 4, 1) := by decide +kernel
theorem d_Mo_init_214 : decode b_Mo_init 214 = .ok (.newarray .int, 2) := by decide +kernel
theorem d_Mo_init_216 : decode b_Mo_init 216 = .ok (.putfield 92, 3) := by decide +kernel
theorem d_Mo_init_219 : decode b_Mo_init 219 = .ok (.aload_n 0, 1) := by decide +kernel
theorem d_Mo_init_220 : decode b_Mo_init 220 = .ok (.iconst 1, 1) := by decide +kernel
theorem d_Mo_init_221 : decode b_Mo_init 221 = .ok (.putfield 95, 3) := by decide +kernel
theorem d_Mo_init_224 : decode b_Mo_init 224 = .ok (.return_, 1) := by decide +kernel
theorem d_Mo_type_0 : decode b_Mo_type 0 = .ok (.iload_n 1, 1) := by decide +kernel
theorem d_Mo_type_1 : decode b_Mo_type 1 = .ok (.bipush 80, 2) := by decide +kernel
theorem d_Mo_type_3 : decode b_Mo_type 3 = .ok (.if_icmp .eq 51, 3) := by decide +kernel
theorem d_Mo_type_6 : decode b_Mo_type 6 = .ok (.iload_n 1, 1) := by decide +kernel
theorem d_Mo_type_7 : decode b_Mo_type 7 = .ok (.bipush 68, 2) := by decide +kernel
theorem d_Mo_type_9 : decode b_Mo_type 9 = .ok (.if_icmp .eq 45, 3) := by decide +kernel
theorem d_Mo_type_12 : decode b_Mo_type 12 = .ok (.iload_n 1, 1) := by decide +kernel
theorem d_Mo_type_13 : decode b_Mo_type 13 = .ok (.bipush 83, 2) := by decide +kernel
theorem d_Mo_type_15 : decode b_Mo_type 15 = .ok (.if_icmp .eq 39, 3) := by decide +kernel
theorem d_Mo_type_18 : decode b_Mo_type 18 = .ok (.iload_n 1, 1) := by decide +kernel
theorem d_Mo_type_19 : decode b_Mo_type 19 = .ok (.bipush 105, 2) := by decide +kernel
theorem d_Mo_type_21 : decode b_Mo_type 21 = .ok (.if_icmp .eq 33, 3) := by decide +kernel
theorem d_Mo_type_24 : decode b_Mo_type 24 = .ok (.iload_n 1, 1) := by decide +kernel
theorem d_Mo_type_25 : decode b_Mo_type 25 = .ok (.bipush 111, 2) := by decide +kernel
theorem d_Mo_type_27 : decode b_Mo_type 27 = .ok (.if_icmp .eq 27, 3) := by decide +kernel
theorem d_Mo_type_30 : decode b_Mo_type 30 = .ok (.iload_n 1, 1) := by decide +kernel
theorem d_Mo_type_31 : decode b_Mo_type 31 = .ok (.bipush 98, 2) := by decide +kernel
theorem d_Mo_type_33 : decode b_Mo_type 33 = .ok (.if_icmp .eq 21, 3) := by decide +kernel
theorem d_Mo_type_36 : decode b_Mo_type 36 = .ok (.iload_n 1, 1) := by decide +kernel
theorem d_Mo_type_37 : decode b_Mo_type 37 = .ok (.bipush 116, 2) := by decide +kernel
theorem d_Mo_type_39 : decode b_Mo_type 39 = .ok (.if_icmp .eq 15, 3) := by decide +kernel
theorem d_Mo_type_42 : decode b_Mo_type 42 = .ok (.iload_n 1, 1) := by decide +kernel
theorem d_Mo_type_43 : decode b_Mo_type 43 = .ok (.bipush 117, 2) := by decide +kernel
theorem d_Mo_type_45 : decode b_Mo_type 45 = .ok (.if_icmp .eq 9, 3) := by decide +kernel
theorem d_Mo_type_48 : decode b_Mo_type 48 = .ok (.iload_n 1, 1) := by decide +kernel
theorem d_Mo_type_49 : decode b_Mo_type 49 = .ok (.bipush 101, 2) := by decide +kernel
theorem d_Mo_type_51 : decode b_Mo_type 51 = .ok (.if_icmp .ne 7, 3) := by decide +kernel
theorem d_Mo_type_54 : decode b_Mo_type 54 = .ok (.iconst 1, 1) := by decide +kernel
theorem d_Mo_type_55 : decode b_Mo_type 55 = .ok (.goto 4, 3) := by decide +kernel
theorem d_Mo_type_58 : decode b_Mo_type 58 = .ok (.iconst 0, 1) := by decide +kernel
theorem d_Mo_type_59 : decode b_Mo_type 59 = .ok (.istore_n 2, 1) := by decide +kernel
theorem d_Mo_type_60 : decode b_Mo_type 60 = .ok (.iload_n 2, 1) := by decide +kernel
theorem d_Mo_type_61 : decode b_Mo_type 61 = .ok (.ifCond .ne 35, 3) := by decide +kernel
theorem d_Mo_type_64 : decode b_Mo_type 64 = .ok (.iload_n 1, 1) := by decide +kernel
theorem d_Mo_type_65 : decode b_Mo_type 65 = .ok (.bipush 42, 2) := by decide +kernel
theorem d_Mo_type_67 : decode b_Mo_type 67 = .ok (.if_icmp .eq 29, 3) := by decide +kernel
theorem d_Mo_type_70 : decode b_Mo_type 70 = .ok (.iload_n 1, 1) := by decide +kernel
theorem d_Mo_type_71 : decode b_Mo_type 71 = .ok (.bipush 45, 2) := by decide +kernel
theorem d_Mo_type_73 : decode b_Mo_type 73 = .ok (.if_icmp .eq 23, 3) := by decide +kernel
theorem d_Mo_type_76 : decode b_Mo_type 76 = .ok (.iload_n 1, 1) := by decide +kernel
theorem d_Mo_type_77 : decode b_Mo_type 77 = .ok (.bipush 44, 2) := by decide +kernel
theorem d_Mo_type_79 : decode b_Mo_type 79 = .ok (.if_icmp .eq 17, 3) := by decide +kernel
theorem d_Mo_type_82 : decode b_Mo_type 82 = .ok (.iload_n 1, 1) := by decide +kernel
theorem d_Mo_type_83 : decode b_Mo_type 83 = .ok (.bipush 48, 2) := by decide +kernel
theorem d_Mo_type_85 : decode b_Mo_type 85 = .ok (.if_icmp .lt 9, 3) := by decide +kernel
theorem d_Mo_type_88 : decode b_Mo_type 88 = .ok (.iload_n 1, 1) := by decide +kernel
theorem d_Mo_type_89 : decode b_Mo_type 89 = .ok (.bipush 57, 2) := by decide +kernel
theorem d_Mo_type_91 : decode b_Mo_type 91 = .ok (.if_icmp .le 5, 3) := by decide +kernel
theorem d_Mo_type_94 : decode b_Mo_type 94 = .ok (.iconst (-1), 1) := by decide +kernel
theorem d_Mo_type_95 : decode b_Mo_type 95 = .ok (.ireturn, 1) := by decide +kernel
theorem d_Mo_type_96 : decode b_Mo_type 96 = .ok (.aload_n 0, 1) := by decide +kernel
theorem d_Mo_type_97 : decode b_Mo_type 97 = .ok (.getfield 98, 3) := by decide +kernel
theorem d_Mo_type_100 : decode b_Mo_type 100 = .ok (.bipush 40, 2) := by decide +kernel
theorem d_Mo_type_102 : decode b_Mo_type 102 = .ok (.if_icmp .ne 6, 3) := by decide +kernel
theorem d_Mo_type_105 : decode b_Mo_type 105 = .ok (.bipush (-3), 2) := by decide +kernel
theorem d_Mo_type_107 : decode b_Mo_type 107 = .ok (.ireturn, 1) := by decide +kernel
theorem d_Mo_type_108 : decode b_Mo_type 108 = .ok (.aload_n 0, 1) := by decide +kernel
theorem d_Mo_type_109 : decode b_Mo_type 109 = .ok (.getfield 7, 3) := by decide +kernel
theorem d_Mo_type_112 : decode b_Mo_type 112 = .ok (.aload_n 0, 1) := by decide +kernel
theorem d_Mo_type_113 : decode b_Mo_type 113 = .ok (.getfield 98, 3) := by decide +kernel
theorem d_Mo_type_116 : decode b_Mo_type 116 = .ok (.iload_n 1, 1) := by decide +kernel
theorem d_Mo_type_117 : decode b_Mo_type 117 = .ok (.iastore, 1) := by decide +kernel
theorem d_Mo_type_118 : decode b_Mo_type 118 = .ok (.aload_n 0, 1) := by decide +kernel
theorem d_Mo_type_119 : decode b_Mo_type 119 = .ok (.dup, 1) := by decide +kernel
theorem d_Mo_type_120 : decode b_Mo_type 120 = .ok (.getfield 98, 3) := by decide +kernel
theorem d_Mo_type_123 : decode b_Mo_type 123 = .ok (.iconst 1, 1) := by decide +kernel
theorem d_Mo_type_124 : decode b_Mo_type 124 = .ok (.iadd, 1) := by decide +kernel
theorem d_Mo_type_125 : decode b_Mo_type 125 = .ok (.putfield 98, 3) := by decide +kernel
theorem d_Mo_type_128 : decode b_Mo_type 128 = .ok (.aload_n 0, 1) := by decide +kernel
theorem d_Mo_type_129 : decode b_Mo_type 129 = .ok (.getfield 98, 3) := by decide +kernel
theorem d_Mo_type_132 : decode b_Mo_type 132 = .ok (.ireturn, 1) := by decide +kernel
theorem d_Mo_install_0 : decode b_Mo_install 0 = .ok (.aload_n 0, 1) := by decide +kernel
theorem d_Mo_install_1 : decode b_Mo_install 1 = .ok (.getfield 98, 3) := by decide +kernel
theorem d_Mo_install_4 : decode b_Mo_install 4 = .ok (.istore_n 1, 1) := by decide +kernel
theorem d_Mo_install_5 : decode b_Mo_install 5 = .ok (.aload_n 0, 1) := by decide +kernel
theorem d_Mo_install_6 : decode b_Mo_install 6 = .ok (.iconst 0, 1) := by decide +kernel
theorem d_Mo_install_7 : decode b_Mo_install 7 = .ok (.putfield 98, 3) := by decide +kernel
theorem d_Mo_install_10 : decode b_Mo_install 10 = .ok (.aload_n 0, 1) := by decide +kernel
theorem d_Mo_install_11 : decode b_Mo_install 11 = .ok (.getfield 119, 3) := by decide +kernel
theorem d_Mo_install_14 : decode b_Mo_install 14 = .ok (.bipush 16, 2) := by decide +kernel
theorem d_Mo_install_16 : decode b_Mo_install 16 = .ok (.if_icmp .ne 6, 3) := by decide +kernel
theorem d_Mo_install_19 : decode b_Mo_install 19 = .ok (.bipush (-3), 2) := by decide +kernel
theorem d_Mo_install_21 : decode b_Mo_install 21 = .ok (.ireturn, 1) := by decide +kernel
theorem d_Mo_install_22 : decode b_Mo_install 22 = .ok (.iconst 1, 1) := by decide +kernel
theorem d_Mo_install_23 : decode b_Mo_install 23 = .ok (.istore_n 2, 1) := by decide +kernel
theorem d_Mo_install_24 : decode b_Mo_install 24 = .ok (.iload_n 2, 1) := by decide +kernel
theorem d_Mo_install_25 : decode b_Mo_install 25 = .ok (.iload_n 1, 1) := by decide +kernel
theorem d_Mo_install_26 : decode b_Mo_install 26 = .ok (.if_icmp .gt 30, 3) := by decide +kernel
theorem d_Mo_install_29 : decode b_Mo_install 29 = .ok (.aload_n 0, 1) := by decide +kernel
theorem d_Mo_install_30 : decode b_Mo_install 30 = .ok (.iload_n 2, 1) := by decide +kernel
theorem d_Mo_install_31 : decode b_Mo_install 31 = .ok (.invokevirtual 122, 3) := by decide +kernel
theorem d_Mo_install_34 : decode b_Mo_install 34 = .ok (.ifCond .eq 6, 3) := by decide +kernel
theorem d_Mo_install_37 : decode b_Mo_install 37 = .ok (.goto 13, 3) := by decide +kernel
theorem d_Mo_install_40 : decode b_Mo_install 40 = .ok (.aload_n 0, 1) := by decide +kernel
theorem d_Mo_install_41 : decode b_Mo_install 41 = .ok (.iload_n 2, 1) := by decide +kernel
theorem d_Mo_install_42 : decode b_Mo_install 42 = .ok (.iconst 1, 1) := by decide +kernel
theorem d_Mo_install_43 : decode b_Mo_install 43 = .ok (.isub, 1) := by decide +kernel
theorem d_Mo_install_44 : decode b_Mo_install 44 = .ok (.putfield 13, 3) := by decide +kernel
theorem d_Mo_install_47 : decode b_Mo_install 47 = .ok (.bipush (-2), 2) := by decide +kernel
theorem d_Mo_install_49 : decode b_Mo_install 49 = .ok (.ireturn, 1) := by decide +kernel
theorem d_Mo_install_50 : decode b_Mo_install 50 = .ok (.iinc 2 1, 3) := by decide +kernel
theorem d_Mo_install_53 : decode b_Mo_install 53 = .ok (.goto (-29), 3) := by decide +kernel
theorem d_Mo_install_56 : decode b_Mo_install 56 = .ok (.aload_n 0, 1) := by decide +kernel
theorem d_Mo_install_57 : decode b_Mo_install 57 = .ok (.iload_n 1, 1) := by decide +kernel
theorem d_Mo_install_58 : decode b_Mo_install 58 = .ok (.invokevirtual 122, 3) := by decide +kernel
theorem d_Mo_install_61 : decode b_Mo_install 61 = .ok (.ifCond .eq 10, 3) := by decide +kernel
theorem d_Mo_install_64 : decode b_Mo_install 64 = .ok (.aload_n 0, 1) := by decide +kernel
theorem d_Mo_install_65 : decode b_Mo_install 65 = .ok (.getfield 101, 3) := by decide +kernel
theorem d_Mo_install_68 : decode b_Mo_install 68 = .ok (.ifCond .ne 11, 3) := by decide +kernel
theorem d_Mo_install_71 : decode b_Mo_install 71 = .ok (.aload_n 0, 1) := by decide +kernel
theorem d_Mo_install_72 : decode b_Mo_install 72 = .ok (.iload_n 1, 1) := by decide +kernel
theorem d_Mo_install_73 : decode b_Mo_install 73 = .ok (.putfield 13, 3) := by decide +kernel
theorem d_Mo_install_76 : decode b_Mo_install 76 = .ok (.bipush (-2), 2) := by decide +kernel
theorem d_Mo_install_78 : decode b_Mo_install 78 = .ok (.ireturn, 1) := by decide +kernel
theorem d_Mo_install_79 : decode b_Mo_install 79 = .ok (.aload_n 0, 1) := by decide +kernel
theorem d_Mo_install_80 : decode b_Mo_install 80 = .ok (.getfield 17, 3) := by decide +kernel
theorem d_Mo_install_83 : decode b_Mo_install 83 = .ok (.aload_n 0, 1) := by decide +kernel
theorem d_Mo_install_84 : decode b_Mo_install 84 = .ok (.getfield 119, 3) := by decide +kernel
theorem d_Mo_install_87 : decode b_Mo_install 87 = .ok (.aload_n 0, 1) := by decide +kernel
theorem d_Mo_install_88 : decode b_Mo_install 88 = .ok (.getfield 7, 3) := by decide +kernel
theorem d_Mo_install_91 : decode b_Mo_install 91 = .ok (.iconst 0, 1) := by decide +kernel
theorem d_Mo_install_92 : decode b_Mo_install 92 = .ok (.iaload, 1) := by decide +kernel
theorem d_Mo_install_93 : decode b_Mo_install 93 = .ok (.bipush 80, 2) := by decide +kernel
theorem d_Mo_install_95 : decode b_Mo_install 95 = .ok (.if_icmp .ne 7, 3) := by decide +kernel
theorem d_Mo_install_98 : decode b_Mo_install 98 = .ok (.iconst 0, 1) := by decide +kernel
theorem d_Mo_install_99 : decode b_Mo_install 99 = .ok (.goto 19, 3) := by decide +kernel
theorem d_Mo_install_102 : decode b_Mo_install 102 = .ok (.aload_n 0, 1) := by decide +kernel
theorem d_Mo_install_103 : decode b_Mo_install 103 = .ok (.getfield 7, 3) := by decide +kernel
theorem d_Mo_install_106 : decode b_Mo_install 106 = .ok (.iconst 0, 1) := by decide +kernel
theorem d_Mo_install_107 : decode b_Mo_install 107 = .ok (.iaload, 1) := by decide +kernel
theorem d_Mo_install_108 : decode b_Mo_install 108 = .ok (.bipush 68, 2) := by decide +kernel
theorem d_Mo_install_110 : decode b_Mo_install 110 = .ok (.if_icmp .ne 7, 3) := by decide +kernel
theorem d_Mo_install_113 : decode b_Mo_install 113 = .ok (.iconst 1, 1) := by decide +kernel
theorem d_Mo_install_114 : decode b_Mo_install 114 = .ok (.goto 4, 3) := by decide +kernel
theorem d_Mo_install_117 : decode b_Mo_install 117 = .ok (.iconst 2, 1) := by decide +kernel
theorem d_Mo_install_118 : decode b_Mo_install 118 = .ok (.iastore, 1) := by decide +kernel
theorem d_Mo_install_119 : decode b_Mo_install 119 = .ok (.aload_n 0, 1) := by decide +kernel
theorem d_Mo_install_120 : decode b_Mo_install 120 = .ok (.getfield 20, 3) := by decide +kernel
theorem d_Mo_install_123 : decode b_Mo_install 123 = .ok (.aload_n 0, 1) := by decide +kernel
theorem d_Mo_install_124 : decode b_Mo_install 124 = .ok (.getfield 119, 3) := by decide +kernel
theorem d_Mo_install_127 : decode b_Mo_install 127 = .ok (.aload_n 0, 1) := by decide +kernel
theorem d_Mo_install_128 : decode b_Mo_install 128 = .ok (.getfield 7, 3) := by decide +kernel
theorem d_Mo_install_131 : decode b_Mo_install 131 = .ok (.iconst 1, 1) := by decide +kernel
theorem d_Mo_install_132 : decode b_Mo_install 132 = .ok (.iaload, 1) := by decide +kernel
theorem d_Mo_install_133 : decode b_Mo_install 133 = .ok (.bipush 105, 2) := by decide +kernel
theorem d_Mo_install_135 : decode b_Mo_install 135 = .ok (.if_icmp .ne 7, 3) := by decide +kernel
theorem d_Mo_install_138 : decode b_Mo_install 138 = .ok (.iconst 0, 1) := by decide +kernel
theorem d_Mo_install_139 : decode b_Mo_install 139 = .ok (.goto 19, 3) := by decide +kernel
theorem d_Mo_install_142 : decode b_Mo_install 142 = .ok (.aload_n 0, 1) := by decide +kernel
theorem d_Mo_install_143 : decode b_Mo_install 143 = .ok (.getfield 7, 3) := by decide +kernel
theorem d_Mo_install_146 : decode b_Mo_install 146 = .ok (.iconst 1, 1) := by decide +kernel
theorem d_Mo_install_147 : decode b_Mo_install 147 = .ok (.iaload, 1) := by decide +kernel
theorem d_Mo_install_148 : decode b_Mo_install 148 = .ok (.bipush 111, 2) := by decide +kernel
theorem d_Mo_install_150 : decode b_Mo_install 150 = .ok (.if_icmp .ne 7, 3) := by decide +kernel
theorem d_Mo_install_153 : decode b_Mo_install 153 = .ok (.iconst 1, 1) := by decide +kernel
theorem d_Mo_install_154 : decode b_Mo_install 154 = .ok (.goto 4, 3) := by decide +kernel
theorem d_Mo_install_157 : decode b_Mo_install 157 = .ok (.iconst 2, 1) := by decide +kernel
theorem d_Mo_install_158 : decode b_Mo_install 158 = .ok (.iastore, 1) := by decide +kernel
theorem d_Mo_install_159 : decode b_Mo_install 159 = .ok (.aload_n 0, 1) := by decide +kernel
theorem d_Mo_install_160 : decode b_Mo_install 160 = .ok (.getfield 23, 3) := by decide +kernel
theorem d_Mo_install_163 : decode b_Mo_install 163 = .ok (.aload_n 0, 1) := by decide +kernel
theorem d_Mo_install_164 : decode b_Mo_install 164 = .ok (.getfield 119, 3) := by decide +kernel
theorem d_Mo_install_167 : decode b_Mo_install 167 = .ok (.aload_n 0, 1) := by decide +kernel
theorem d_Mo_install_168 : decode b_Mo_install 168 = .ok (.getfield 7, 3) := by decide +kernel
theorem d_Mo_install_171 : decode b_Mo_install 171 = .ok (.iconst 2, 1) := by decide +kernel
theorem d_Mo_install_172 : decode b_Mo_install 172 = .ok (.iaload, 1) := by decide +kernel
theorem d_Mo_install_173 : decode b_Mo_install 173 = .ok (.bipush 116, 2) := by decide +kernel
theorem d_Mo_install_175 : decode b_Mo_install 175 = .ok (.if_icmp .ne 7, 3) := by decide +kernel
theorem d_Mo_install_178 : decode b_Mo_install 178 = .ok (.iconst 0, 1) := by decide +kernel
theorem d_Mo_install_179 : decode b_Mo_install 179 = .ok (.goto 34, 3) := by decide +kernel
theorem d_Mo_install_182 : decode b_Mo_install 182 = .ok (.aload_n 0, 1) := by decide +kernel
theorem d_Mo_install_183 : decode b_Mo_install 183 = .ok (.getfield 7, 3) := by decide +kernel
theorem d_Mo_install_186 : decode b_Mo_install 186 = .ok (.iconst 2, 1) := by decide +kernel
theorem d_Mo_install_187 : decode b_Mo_install 187 = .ok (.iaload, 1) := by decide +kernel
theorem d_Mo_install_188 : decode b_Mo_install 188 = .ok (.bipush 117, 2) := by decide +kernel
theorem d_Mo_install_190 : decode b_Mo_install 190 = .ok (.if_icmp .ne 7, 3) := by decide +kernel
theorem d_Mo_install_193 : decode b_Mo_install 193 = .ok (.iconst 1, 1) := by decide +kernel
theorem d_Mo_install_194 : decode b_Mo_install 194 = .ok (.goto 19, 3) := by decide +kernel
theorem d_Mo_install_197 : decode b_Mo_install 197 = .ok (.aload_n 0, 1) := by decide +kernel
theorem d_Mo_install_198 : decode b_Mo_install 198 = .ok (.getfield 7, 3) := by decide +kernel
theorem d_Mo_install_201 : decode b_Mo_install 201 = .ok (.iconst 2, 1) := by decide +kernel
theorem d_Mo_install_202 : decode b_Mo_install 202 = .ok (.iaload, 1) := by decide +kernel
theorem d_Mo_install_203 : decode b_Mo_install 203 = .ok (.bipush 101, 2) := by decide +kernel
theorem d_Mo_install_205 : decode b_Mo_install 205 = .ok (.if_icmp .ne 7, 3) := by decide +kernel
theorem d_Mo_install_208 : decode b_Mo_install 208 = .ok (.iconst 2, 1) := by decide +kernel
theorem d_Mo_install_209 : decode b_Mo_install 209 = .ok (.goto 4, 3) := by decide +kernel
theorem d_Mo_install_212 : decode b_Mo_install 212 = .ok (.iconst 3, 1) := by decide +kernel
theorem d_Mo_install_213 : decode b_Mo_install 213 = .ok (.iastore, 1) := by decide +kernel
theorem d_Mo_install_214 : decode b_Mo_install 214 = .ok (.iconst 0, 1) := by decide +kernel
theorem d_Mo_install_215 : decode b_Mo_install 215 = .ok (.istore_n 2, 1) := by decide +kernel
theorem d_Mo_install_216 : decode b_Mo_install 216 = .ok (.iload_n 2, 1) := by decide +kernel
theorem d_Mo_install_217 : decode b_Mo_install 217 = .ok (.iconst 3, 1) := by decide +kernel
theorem d_Mo_install_218 : decode b_Mo_install 218 = .ok (.if_icmp .ge 47, 3) := by decide +kernel
theorem d_Mo_install_221 : decode b_Mo_install 221 = .ok (.aload_n 0, 1) := by decide +kernel
theorem d_Mo_install_222 : decode b_Mo_install 222 = .ok (.getfield 26, 3) := by decide +kernel
theorem d_Mo_install_225 : decode b_Mo_install 225 = .ok (.aload_n 0, 1) := by decide +kernel
theorem d_Mo_install_226 : decode b_Mo_install 226 = .ok (.getfield 119, 3) := by decide +kernel
theorem d_Mo_install_229 : decode b_Mo_install 229 = .ok (.iconst 3, 1) := by decide +kernel
theorem d_Mo_install_230 : decode b_Mo_install 230 = .ok (.imul, 1) := by decide +kernel
theorem d_Mo_install_231 : decode b_Mo_install 231 = .ok (.iload_n 2, 1) := by decide +kernel
theorem d_Mo_install_232 : decode b_Mo_install 232 = .ok (.iadd, 1) := by decide +kernel
theorem d_Mo_install_233 : decode b_Mo_install 233 = .ok (.aload_n 0, 1) := by decide +kernel
theorem d_Mo_install_234 : decode b_Mo_install 234 = .ok (.getfield 32, 3) := by decide +kernel
theorem d_Mo_install_237 : decode b_Mo_install 237 = .ok (.iload_n 2, 1) := by decide +kernel
theorem d_Mo_install_238 : decode b_Mo_install 238 = .ok (.iaload, 1) := by decide +kernel
theorem d_Mo_install_239 : decode b_Mo_install 239 = .ok (.iastore, 1) := by decide +kernel
theorem d_Mo_install_240 : decode b_Mo_install 240 = .ok (.aload_n 0, 1) := by decide +kernel
theorem d_Mo_install_241 : decode b_Mo_install 241 = .ok (.getfield 29, 3) := by decide +kernel
theorem d_Mo_install_244 : decode b_Mo_install 244 = .ok (.aload_n 0, 1) := by decide +kernel
theorem d_Mo_install_245 : decode b_Mo_install 245 = .ok (.getfield 119, 3) := by decide +kernel
theorem d_Mo_install_248 : decode b_Mo_install 248 = .ok (.iconst 3, 1) := by decide +kernel
theorem d_Mo_install_249 : decode b_Mo_install 249 = .ok (.imul, 1) := by decide +kernel
theorem d_Mo_install_250 : decode b_Mo_install 250 = .ok (.iload_n 2, 1) := by decide +kernel
theorem d_Mo_install_251 : decode b_Mo_install 251 = .ok (.iadd, 1) := by decide +kernel
theorem d_Mo_install_252 : decode b_Mo_install 252 = .ok (.aload_n 0, 1) := by decide +kernel
theorem d_Mo_install_253 : decode b_Mo_install 253 = .ok (.getfield 35, 3) := by decide +kernel
theorem d_Mo_install_256 : decode b_Mo_install 256 = .ok (.iload_n 2, 1) := by decide +kernel
theorem d_Mo_install_257 : decode b_Mo_install 257 = .ok (.iaload, 1) := by decide +kernel
theorem d_Mo_install_258 : decode b_Mo_install 258 = .ok (.iastore, 1) := by decide +kernel
theorem d_Mo_install_259 : decode b_Mo_install 259 = .ok (.iinc 2 1, 3) := by decide +kernel
theorem d_Mo_install_262 : decode b_Mo_install 262 = .ok (.goto (-46), 3) := by decide +kernel
theorem d_Mo_install_265 : decode b_Mo_install 265 = .ok (.aload_n 0, 1) := by decide +kernel
theorem d_Mo_install_266 : decode b_Mo_install 266 = .ok (.dup, 1) := by decide +kernel
theorem d_Mo_install_267 : decode b_Mo_install 267 = .ok (.getfield 119, 3) := by decide +kernel
theorem d_Mo_install_270 : decode b_Mo_install 270 = .ok (.iconst 1, 1) := by decide +kernel
theorem d_Mo_install_271 : decode b_Mo_install 271 = .ok (.iadd, 1) := by decide +kernel
theorem d_Mo_install_272 : decode b_Mo_install 272 = .ok (.putfield 119, 3) := by decide +kernel
theorem d_Mo_install_275 : decode b_Mo_install 275 = .ok (.aload_n 0, 1) := by decide +kernel
theorem d_Mo_install_276 : decode b_Mo_install 276 = .ok (.getfield 119, 3) := by decide +kernel
theorem d_Mo_install_279 : decode b_Mo_install 279 = .ok (.ireturn, 1) := by decide +kernel
theorem d_Mo_begins_0 : decode b_Mo_begins 0 = .ok (.aload_n 0, 1) := by decide +kernel
theorem d_Mo_begins_1 : decode b_Mo_begins 1 = .ok (.iconst 0, 1) := by decide +kernel
theorem d_Mo_begins_2 : decode b_Mo_begins 2 = .ok (.putfield 101, 3) := by decide +kernel
theorem d_Mo_begins_5 : decode b_Mo_begins 5 = .ok (.iload_n 1, 1) := by decide +kernel
theorem d_Mo_begins_6 : decode b_Mo_begins 6 = .ok (.ifCond .le 38, 3) := by decide +kernel
theorem d_Mo_begins_9 : decode b_Mo_begins 9 = .ok (.aload_n 0, 1) := by decide +kernel
theorem d_Mo_begins_10 : decode b_Mo_begins 10 = .ok (.getfield 7, 3) := by decide +kernel
theorem d_Mo_begins_13 : decode b_Mo_begins 13 = .ok (.iconst 0, 1) := by decide +kernel
theorem d_Mo_begins_14 : decode b_Mo_begins 14 = .ok (.iaload, 1) := by decide +kernel
theorem d_Mo_begins_15 : decode b_Mo_begins 15 = .ok (.bipush 80, 2) := by decide +kernel
theorem d_Mo_begins_17 : decode b_Mo_begins 17 = .ok (.if_icmp .eq 27, 3) := by decide +kernel
theorem d_Mo_begins_20 : decode b_Mo_begins 20 = .ok (.aload_n 0, 1) := by decide +kernel
theorem d_Mo_begins_21 : decode b_Mo_begins 21 = .ok (.getfield 7, 3) := by decide +kernel
theorem d_Mo_begins_24 : decode b_Mo_begins 24 = .ok (.iconst 0, 1) := by decide +kernel
theorem d_Mo_begins_25 : decode b_Mo_begins 25 = .ok (.iaload, 1) := by decide +kernel
theorem d_Mo_begins_26 : decode b_Mo_begins 26 = .ok (.bipush 68, 2) := by decide +kernel
theorem d_Mo_begins_28 : decode b_Mo_begins 28 = .ok (.if_icmp .eq 16, 3) := by decide +kernel
theorem d_Mo_begins_31 : decode b_Mo_begins 31 = .ok (.aload_n 0, 1) := by decide +kernel
theorem d_Mo_begins_32 : decode b_Mo_begins 32 = .ok (.getfield 7, 3) := by decide +kernel
theorem d_Mo_begins_35 : decode b_Mo_begins 35 = .ok (.iconst 0, 1) := by decide +kernel
theorem d_Mo_begins_36 : decode b_Mo_begins 36 = .ok (.iaload, 1) := by decide +kernel
theorem d_Mo_begins_37 : decode b_Mo_begins 37 = .ok (.bipush 83, 2) := by decide +kernel
theorem d_Mo_begins_39 : decode b_Mo_begins 39 = .ok (.if_icmp .eq 5, 3) := by decide +kernel
theorem d_Mo_begins_42 : decode b_Mo_begins 42 = .ok (.iconst 0, 1) := by decide +kernel
theorem d_Mo_begins_43 : decode b_Mo_begins 43 = .ok (.ireturn, 1) := by decide +kernel
theorem d_Mo_begins_44 : decode b_Mo_begins 44 = .ok (.iload_n 1, 1) := by decide +kernel
theorem d_Mo_begins_45 : decode b_Mo_begins 45 = .ok (.iconst 1, 1) := by decide +kernel
theorem d_Mo_begins_46 : decode b_Mo_begins 46 = .ok (.if_icmp .le 38, 3) := by decide +kernel
theorem d_Mo_begins_49 : decode b_Mo_begins 49 = .ok (.aload_n 0, 1) := by decide +kernel
theorem d_Mo_begins_50 : decode b_Mo_begins 50 = .ok (.getfield 7, 3) := by decide +kernel
theorem d_Mo_begins_53 : decode b_Mo_begins 53 = .ok (.iconst 1, 1) := by decide +kernel
theorem d_Mo_begins_54 : decode b_Mo_begins 54 = .ok (.iaload, 1) := by decide +kernel
theorem d_Mo_begins_55 : decode b_Mo_begins 55 = .ok (.bipush 105, 2) := by decide +kernel
theorem d_Mo_begins_57 : decode b_Mo_begins 57 = .ok (.if_icmp .eq 27, 3) := by decide +kernel
theorem d_Mo_begins_60 : decode b_Mo_begins 60 = .ok (.aload_n 0, 1) := by decide +kernel
theorem d_Mo_begins_61 : decode b_Mo_begins 61 = .ok (.getfield 7, 3) := by decide +kernel
theorem d_Mo_begins_64 : decode b_Mo_begins 64 = .ok (.iconst 1, 1) := by decide +kernel
theorem d_Mo_begins_65 : decode b_Mo_begins 65 = .ok (.iaload, 1) := by decide +kernel
theorem d_Mo_begins_66 : decode b_Mo_begins 66 = .ok (.bipush 111, 2) := by decide +kernel
theorem d_Mo_begins_68 : decode b_Mo_begins 68 = .ok (.if_icmp .eq 16, 3) := by decide +kernel
theorem d_Mo_begins_71 : decode b_Mo_begins 71 = .ok (.aload_n 0, 1) := by decide +kernel
theorem d_Mo_begins_72 : decode b_Mo_begins 72 = .ok (.getfield 7, 3) := by decide +kernel
theorem d_Mo_begins_75 : decode b_Mo_begins 75 = .ok (.iconst 1, 1) := by decide +kernel
theorem d_Mo_begins_76 : decode b_Mo_begins 76 = .ok (.iaload, 1) := by decide +kernel
theorem d_Mo_begins_77 : decode b_Mo_begins 77 = .ok (.bipush 98, 2) := by decide +kernel
theorem d_Mo_begins_79 : decode b_Mo_begins 79 = .ok (.if_icmp .eq 5, 3) := by decide +kernel
theorem d_Mo_begins_82 : decode b_Mo_begins 82 = .ok (.iconst 0, 1) := by decide +kernel
theorem d_Mo_begins_83 : decode b_Mo_begins 83 = .ok (.ireturn, 1) := by decide +kernel
theorem d_Mo_begins_84 : decode b_Mo_begins 84 = .ok (.iload_n 1, 1) := by decide +kernel
theorem d_Mo_begins_85 : decode b_Mo_begins 85 = .ok (.iconst 2, 1) := by decide +kernel
theorem d_Mo_begins_86 : decode b_Mo_begins 86 = .ok (.if_icmp .le 49, 3) := by decide +kernel
theorem d_Mo_begins_89 : decode b_Mo_begins 89 = .ok (.aload_n 0, 1) := by decide +kernel
theorem d_Mo_begins_90 : decode b_Mo_begins 90 = .ok (.getfield 7, 3) := by decide +kernel
theorem d_Mo_begins_93 : decode b_Mo_begins 93 = .ok (.iconst 2, 1) := by decide +kernel
theorem d_Mo_begins_94 : decode b_Mo_begins 94 = .ok (.iaload, 1) := by decide +kernel
theorem d_Mo_begins_95 : decode b_Mo_begins 95 = .ok (.bipush 116, 2) := by decide +kernel
theorem d_Mo_begins_97 : decode b_Mo_begins 97 = .ok (.if_icmp .eq 38, 3) := by decide +kernel
theorem d_Mo_begins_100 : decode b_Mo_begins 100 = .ok (.aload_n 0, 1) := by decide +kernel
theorem d_Mo_begins_101 : decode b_Mo_begins 101 = .ok (.getfield 7, 3) := by decide +kernel
theorem d_Mo_begins_104 : decode b_Mo_begins 104 = .ok (.iconst 2, 1) := by decide +kernel
theorem d_Mo_begins_105 : decode b_Mo_begins 105 = .ok (.iaload, 1) := by decide +kernel
theorem d_Mo_begins_106 : decode b_Mo_begins 106 = .ok (.bipush 117, 2) := by decide +kernel
theorem d_Mo_begins_108 : decode b_Mo_begins 108 = .ok (.if_icmp .eq 27, 3) := by decide +kernel
theorem d_Mo_begins_111 : decode b_Mo_begins 111 = .ok (.aload_n 0, 1) := by decide +kernel
theorem d_Mo_begins_112 : decode b_Mo_begins 112 = .ok (.getfield 7, 3) := by decide +kernel
theorem d_Mo_begins_115 : decode b_Mo_begins 115 = .ok (.iconst 2, 1) := by decide +kernel
theorem d_Mo_begins_116 : decode b_Mo_begins 116 = .ok (.iaload, 1) := by decide +kernel
theorem d_Mo_begins_117 : decode b_Mo_begins 117 = .ok (.bipush 101, 2) := by decide +kernel
theorem d_Mo_begins_119 : decode b_Mo_begins 119 = .ok (.if_icmp .eq 16, 3) := by decide +kernel
theorem d_Mo_begins_122 : decode b_Mo_begins 122 = .ok (.aload_n 0, 1) := by decide +kernel
theorem d_Mo_begins_123 : decode b_Mo_begins 123 = .ok (.getfield 7, 3) := by decide +kernel
theorem d_Mo_begins_126 : decode b_Mo_begins 126 = .ok (.iconst 2, 1) := by decide +kernel
theorem d_Mo_begins_127 : decode b_Mo_begins 127 = .ok (.iaload, 1) := by decide +kernel
theorem d_Mo_begins_128 : decode b_Mo_begins 128 = .ok (.bipush 42, 2) := by decide +kernel
theorem d_Mo_begins_130 : decode b_Mo_begins 130 = .ok (.if_icmp .eq 5, 3) := by decide +kernel
theorem d_Mo_begins_133 : decode b_Mo_begins 133 = .ok (.iconst 0, 1) := by decide +kernel
theorem d_Mo_begins_134 : decode b_Mo_begins 134 = .ok (.ireturn, 1) := by decide +kernel
theorem d_Mo_begins_135 : decode b_Mo_begins 135 = .ok (.iconst 3, 1) := by decide +kernel
theorem d_Mo_begins_136 : decode b_Mo_begins 136 = .ok (.istore_n 2, 1) := by decide +kernel
theorem d_Mo_begins_137 : decode b_Mo_begins 137 = .ok (.iconst 0, 1) := by decide +kernel
theorem d_Mo_begins_138 : decode b_Mo_begins 138 = .ok (.istore_n 3, 1) := by decide +kernel
theorem d_Mo_begins_139 : decode b_Mo_begins 139 = .ok (.iload_n 3, 1) := by decide +kernel
theorem d_Mo_begins_140 : decode b_Mo_begins 140 = .ok (.iconst 3, 1) := by decide +kernel
theorem d_Mo_begins_141 : decode b_Mo_begins 141 = .ok (.if_icmp .ge 124, 3) := by decide +kernel
theorem d_Mo_begins_144 : decode b_Mo_begins 144 = .ok (.iload_n 2, 1) := by decide +kernel
theorem d_Mo_begins_145 : decode b_Mo_begins 145 = .ok (.iload_n 1, 1) := by decide +kernel
theorem d_Mo_begins_146 : decode b_Mo_begins 146 = .ok (.if_icmp .lt 5, 3) := by decide +kernel
theorem d_Mo_begins_149 : decode b_Mo_begins 149 = .ok (.iconst 1, 1) := by decide +kernel
theorem d_Mo_begins_150 : decode b_Mo_begins 150 = .ok (.ireturn, 1) := by decide +kernel
theorem d_Mo_begins_151 : decode b_Mo_begins 151 = .ok (.iload_n 3, 1) := by decide +kernel
theorem d_Mo_begins_152 : decode b_Mo_begins 152 = .ok (.ifCond .le 16, 3) := by decide +kernel
theorem d_Mo_begins_155 : decode b_Mo_begins 155 = .ok (.aload_n 0, 1) := by decide +kernel
theorem d_Mo_begins_156 : decode b_Mo_begins 156 = .ok (.getfield 7, 3) := by decide +kernel
theorem d_Mo_begins_159 : decode b_Mo_begins 159 = .ok (.iload_n 2, 1) := by decide +kernel
theorem d_Mo_begins_160 : decode b_Mo_begins 160 = .ok (.iaload, 1) := by decide +kernel
theorem d_Mo_begins_161 : decode b_Mo_begins 161 = .ok (.bipush 44, 2) := by decide +kernel
theorem d_Mo_begins_163 : decode b_Mo_begins 163 = .ok (.if_icmp .eq 5, 3) := by decide +kernel
theorem d_Mo_begins_166 : decode b_Mo_begins 166 = .ok (.iconst 0, 1) := by decide +kernel
theorem d_Mo_begins_167 : decode b_Mo_begins 167 = .ok (.ireturn, 1) := by decide +kernel
theorem d_Mo_begins_168 : decode b_Mo_begins 168 = .ok (.iload_n 3, 1) := by decide +kernel
theorem d_Mo_begins_169 : decode b_Mo_begins 169 = .ok (.ifCond .le 6, 3) := by decide +kernel
theorem d_Mo_begins_172 : decode b_Mo_begins 172 = .ok (.iinc 2 1, 3) := by decide +kernel
theorem d_Mo_begins_175 : decode b_Mo_begins 175 = .ok (.iload_n 2, 1) := by decide +kernel
theorem d_Mo_begins_176 : decode b_Mo_begins 176 = .ok (.istore 4, 2) := by decide +kernel
theorem d_Mo_begins_178 : decode b_Mo_begins 178 = .ok (.iload 4, 2) := by decide +kernel
theorem d_Mo_begins_180 : decode b_Mo_begins 180 = .ok (.iload_n 1, 1) := by decide +kernel
theorem d_Mo_begins_181 : decode b_Mo_begins 181 = .ok (.if_icmp .ge 21, 3) := by decide +kernel
theorem d_Mo_begins_184 : decode b_Mo_begins 184 = .ok (.aload_n 0, 1) := by decide +kernel
theorem d_Mo_begins_185 : decode b_Mo_begins 185 = .ok (.getfield 7, 3) := by decide +kernel
theorem d_Mo_begins_188 : decode b_Mo_begins 188 = .ok (.iload 4, 2) := by decide +kernel
theorem d_Mo_begins_190 : decode b_Mo_begins 190 = .ok (.iaload, 1) := by decide +kernel
theorem d_Mo_begins_191 : decode b_Mo_begins 191 = .ok (.bipush 44, 2) := by decide +kernel
theorem d_Mo_begins_193 : decode b_Mo_begins 193 = .ok (.if_icmp .eq 9, 3) := by decide +kernel
theorem d_Mo_begins_196 : decode b_Mo_begins 196 = .ok (.iinc 4 1, 3) := by decide +kernel
theorem d_Mo_begins_199 : decode b_Mo_begins 199 = .ok (.goto (-21), 3) := by decide +kernel
theorem d_Mo_begins_202 : decode b_Mo_begins 202 = .ok (.aload_n 0, 1) := by decide +kernel
theorem d_Mo_begins_203 : decode b_Mo_begins 203 = .ok (.iload_n 3, 1) := by decide +kernel
theorem d_Mo_begins_204 : decode b_Mo_begins 204 = .ok (.iload_n 2, 1) := by decide +kernel
theorem d_Mo_begins_205 : decode b_Mo_begins 205 = .ok (.iload 4, 2) := by decide +kernel
theorem d_Mo_begins_207 : decode b_Mo_begins 207 = .ok (.invokevirtual 105, 3) := by decide +kernel
theorem d_Mo_begins_210 : decode b_Mo_begins 210 = .ok (.ifCond .ne 5, 3) := by decide +kernel
theorem d_Mo_begins_213 : decode b_Mo_begins 213 = .ok (.iconst 0, 1) := by decide +kernel
theorem d_Mo_begins_214 : decode b_Mo_begins 214 = .ok (.ireturn, 1) := by decide +kernel
theorem d_Mo_begins_215 : decode b_Mo_begins 215 = .ok (.iload 4, 2) := by decide +kernel
theorem d_Mo_begins_217 : decode b_Mo_begins 217 = .ok (.iload_n 1, 1) := by decide +kernel
theorem d_Mo_begins_218 : decode b_Mo_begins 218 = .ok (.if_icmp .ge 12, 3) := by decide +kernel
theorem d_Mo_begins_221 : decode b_Mo_begins 221 = .ok (.aload_n 0, 1) := by decide +kernel
theorem d_Mo_begins_222 : decode b_Mo_begins 222 = .ok (.getfield 101, 3) := by decide +kernel
theorem d_Mo_begins_225 : decode b_Mo_begins 225 = .ok (.ifCond .ne 5, 3) := by decide +kernel
theorem d_Mo_begins_228 : decode b_Mo_begins 228 = .ok (.iconst 0, 1) := by decide +kernel
theorem d_Mo_begins_229 : decode b_Mo_begins 229 = .ok (.ireturn, 1) := by decide +kernel
theorem d_Mo_begins_230 : decode b_Mo_begins 230 = .ok (.iload 4, 2) := by decide +kernel
theorem d_Mo_begins_232 : decode b_Mo_begins 232 = .ok (.istore_n 2, 1) := by decide +kernel
theorem d_Mo_begins_233 : decode b_Mo_begins 233 = .ok (.iload_n 2, 1) := by decide +kernel
theorem d_Mo_begins_234 : decode b_Mo_begins 234 = .ok (.iload_n 1, 1) := by decide +kernel
theorem d_Mo_begins_235 : decode b_Mo_begins 235 = .ok (.if_icmp .lt 24, 3) := by decide +kernel
theorem d_Mo_begins_238 : decode b_Mo_begins 238 = .ok (.aload_n 0, 1) := by decide +kernel
theorem d_Mo_begins_239 : decode b_Mo_begins 239 = .ok (.aload_n 0, 1) := by decide +kernel
theorem d_Mo_begins_240 : decode b_Mo_begins 240 = .ok (.getfield 101, 3) := by decide +kernel
theorem d_Mo_begins_243 : decode b_Mo_begins 243 = .ok (.ifCond .eq 12, 3) := by decide +kernel
theorem d_Mo_begins_246 : decode b_Mo_begins 246 = .ok (.iload_n 3, 1) := by decide +kernel
theorem d_Mo_begins_247 : decode b_Mo_begins 247 = .ok (.iconst 2, 1) := by decide +kernel
theorem d_Mo_begins_248 : decode b_Mo_begins 248 = .ok (.if_icmp .ne 7, 3) := by decide +kernel
theorem d_Mo_begins_251 : decode b_Mo_begins 251 = .ok (.iconst 1, 1) := by decide +kernel
theorem d_Mo_begins_252 : decode b_Mo_begins 252 = .ok (.goto 4, 3) := by decide +kernel
theorem d_Mo_begins_255 : decode b_Mo_begins 255 = .ok (.iconst 0, 1) := by decide +kernel
theorem d_Mo_begins_256 : decode b_Mo_begins 256 = .ok (.putfield 101, 3) := by decide +kernel
theorem d_Mo_begins_259 : decode b_Mo_begins 259 = .ok (.iinc 3 1, 3) := by decide +kernel
theorem d_Mo_begins_262 : decode b_Mo_begins 262 = .ok (.goto (-123), 3) := by decide +kernel
theorem d_Mo_begins_265 : decode b_Mo_begins 265 = .ok (.iload_n 2, 1) := by decide +kernel
theorem d_Mo_begins_266 : decode b_Mo_begins 266 = .ok (.iload_n 1, 1) := by decide +kernel
theorem d_Mo_begins_267 : decode b_Mo_begins 267 = .ok (.if_icmp .lt 7, 3) := by decide +kernel
theorem d_Mo_begins_270 : decode b_Mo_begins 270 = .ok (.iconst 1, 1) := by decide +kernel
theorem d_Mo_begins_271 : decode b_Mo_begins 271 = .ok (.goto 4, 3) := by decide +kernel
theorem d_Mo_begins_274 : decode b_Mo_begins 274 = .ok (.iconst 0, 1) := by decide +kernel
theorem d_Mo_begins_275 : decode b_Mo_begins 275 = .ok (.ireturn, 1) := by decide +kernel
theorem d_Mo_range_0 : decode b_Mo_range 0 = .ok (.aload_n 0, 1) := by decide +kernel
theorem d_Mo_range_1 : decode b_Mo_range 1 = .ok (.iconst 0, 1) := by decide +kernel
theorem d_Mo_range_2 : decode b_Mo_range 2 = .ok (.putfield 101, 3) := by decide +kernel
theorem d_Mo_range_5 : decode b_Mo_range 5 = .ok (.aload_n 0, 1) := by decide +kernel
theorem d_Mo_range_6 : decode b_Mo_range 6 = .ok (.getfield 32, 3) := by decide +kernel
theorem d_Mo_range_9 : decode b_Mo_range 9 = .ok (.iload_n 1, 1) := by decide +kernel
theorem d_Mo_range_10 : decode b_Mo_range 10 = .ok (.iconst 0, 1) := by decide +kernel
theorem d_Mo_range_11 : decode b_Mo_range 11 = .ok (.iastore, 1) := by decide +kernel
theorem d_Mo_range_12 : decode b_Mo_range 12 = .ok (.aload_n 0, 1) := by decide +kernel
theorem d_Mo_range_13 : decode b_Mo_range 13 = .ok (.getfield 35, 3) := by decide +kernel
theorem d_Mo_range_16 : decode b_Mo_range 16 = .ok (.iload_n 1, 1) := by decide +kernel
theorem d_Mo_range_17 : decode b_Mo_range 17 = .ok (.sipush 255, 3) := by decide +kernel
theorem d_Mo_range_20 : decode b_Mo_range 20 = .ok (.iastore, 1) := by decide +kernel
theorem d_Mo_range_21 : decode b_Mo_range 21 = .ok (.iload_n 2, 1) := by decide +kernel
theorem d_Mo_range_22 : decode b_Mo_range 22 = .ok (.iload_n 3, 1) := by decide +kernel
theorem d_Mo_range_23 : decode b_Mo_range 23 = .ok (.if_icmp .ne 5, 3) := by decide +kernel
theorem d_Mo_range_26 : decode b_Mo_range 26 = .ok (.iconst 1, 1) := by decide +kernel
theorem d_Mo_range_27 : decode b_Mo_range 27 = .ok (.ireturn, 1) := by decide +kernel
theorem d_Mo_range_28 : decode b_Mo_range 28 = .ok (.aload_n 0, 1) := by decide +kernel
theorem d_Mo_range_29 : decode b_Mo_range 29 = .ok (.getfield 7, 3) := by decide +kernel
theorem d_Mo_range_32 : decode b_Mo_range 32 = .ok (.iload_n 2, 1) := by decide +kernel
theorem d_Mo_range_33 : decode b_Mo_range 33 = .ok (.iaload, 1) := by decide +kernel
theorem d_Mo_range_34 : decode b_Mo_range 34 = .ok (.bipush 42, 2) := by decide +kernel
theorem d_Mo_range_36 : decode b_Mo_range 36 = .ok (.if_icmp .ne 21, 3) := by decide +kernel
theorem d_Mo_range_39 : decode b_Mo_range 39 = .ok (.aload_n 0, 1) := by decide +kernel
theorem d_Mo_range_40 : decode b_Mo_range 40 = .ok (.iconst 1, 1) := by decide +kernel
theorem d_Mo_range_41 : decode b_Mo_range 41 = .ok (.putfield 101, 3) := by decide +kernel
theorem d_Mo_range_44 : decode b_Mo_range 44 = .ok (.iload_n 3, 1) := by decide +kernel
theorem d_Mo_range_45 : decode b_Mo_range 45 = .ok (.iload_n 2, 1) := by decide +kernel
theorem d_Mo_range_46 : decode b_Mo_range 46 = .ok (.iconst 1, 1) := by decide +kernel
theorem d_Mo_range_47 : decode b_Mo_range 47 = .ok (.iadd, 1) := by decide +kernel
theorem d_Mo_range_48 : decode b_Mo_range 48 = .ok (.if_icmp .ne 7, 3) := by decide +kernel
theorem d_Mo_range_51 : decode b_Mo_range 51 = .ok (.iconst 1, 1) := by decide +kernel
theorem d_Mo_range_52 : decode b_Mo_range 52 = .ok (.goto 4, 3) := by decide +kernel
theorem d_Mo_range_55 : decode b_Mo_range 55 = .ok (.iconst 0, 1) := by decide +kernel
theorem d_Mo_range_56 : decode b_Mo_range 56 = .ok (.ireturn, 1) := by decide +kernel
theorem d_Mo_range_57 : decode b_Mo_range 57 = .ok (.iload_n 2, 1) := by decide +kernel
theorem d_Mo_range_58 : decode b_Mo_range 58 = .ok (.istore 4, 2) := by decide +kernel
theorem d_Mo_range_60 : decode b_Mo_range 60 = .ok (.iload 4, 2) := by decide +kernel
theorem d_Mo_range_62 : decode b_Mo_range 62 = .ok (.iload_n 3, 1) := by decide +kernel
theorem d_Mo_range_63 : decode b_Mo_range 63 = .ok (.if_icmp .ge 21, 3) := by decide +kernel
theorem d_Mo_range_66 : decode b_Mo_range 66 = .ok (.aload_n 0, 1) := by decide +kernel
theorem d_Mo_range_67 : decode b_Mo_range 67 = .ok (.getfield 7, 3) := by decide +kernel
theorem d_Mo_range_70 : decode b_Mo_range 70 = .ok (.iload 4, 2) := by decide +kernel
theorem d_Mo_range_72 : decode b_Mo_range 72 = .ok (.iaload, 1) := by decide +kernel
theorem d_Mo_range_73 : decode b_Mo_range 73 = .ok (.bipush 45, 2) := by decide +kernel
theorem d_Mo_range_75 : decode b_Mo_range 75 = .ok (.if_icmp .eq 9, 3) := by decide +kernel
theorem d_Mo_range_78 : decode b_Mo_range 78 = .ok (.iinc 4 1, 3) := by decide +kernel
theorem d_Mo_range_81 : decode b_Mo_range 81 = .ok (.goto (-21), 3) := by decide +kernel
theorem d_Mo_range_84 : decode b_Mo_range 84 = .ok (.aload_n 0, 1) := by decide +kernel
theorem d_Mo_range_85 : decode b_Mo_range 85 = .ok (.iload_n 2, 1) := by decide +kernel
theorem d_Mo_range_86 : decode b_Mo_range 86 = .ok (.iload 4, 2) := by decide +kernel
theorem d_Mo_range_88 : decode b_Mo_range 88 = .ok (.iconst 0, 1) := by decide +kernel
theorem d_Mo_range_89 : decode b_Mo_range 89 = .ok (.invokevirtual 109, 3) := by decide +kernel
theorem d_Mo_range_92 : decode b_Mo_range 92 = .ok (.ifCond .eq 9, 3) := by decide +kernel
theorem d_Mo_range_95 : decode b_Mo_range 95 = .ok (.iload 4, 2) := by decide +kernel
theorem d_Mo_range_97 : decode b_Mo_range 97 = .ok (.iload_n 2, 1) := by decide +kernel
theorem d_Mo_range_98 : decode b_Mo_range 98 = .ok (.if_icmp .ne 5, 3) := by decide +kernel
theorem d_Mo_range_101 : decode b_Mo_range 101 = .ok (.iconst 0, 1) := by decide +kernel
theorem d_Mo_range_102 : decode b_Mo_range 102 = .ok (.ireturn, 1) := by decide +kernel
theorem d_Mo_range_103 : decode b_Mo_range 103 = .ok (.aload_n 0, 1) := by decide +kernel
theorem d_Mo_range_104 : decode b_Mo_range 104 = .ok (.getfield 32, 3) := by decide +kernel
theorem d_Mo_range_107 : decode b_Mo_range 107 = .ok (.iload_n 1, 1) := by decide +kernel
theorem d_Mo_range_108 : decode b_Mo_range 108 = .ok (.aload_n 0, 1) := by decide +kernel
theorem d_Mo_range_109 : decode b_Mo_range 109 = .ok (.iload_n 2, 1) := by decide +kernel
theorem d_Mo_range_110 : decode b_Mo_range 110 = .ok (.iload 4, 2) := by decide +kernel
theorem d_Mo_range_112 : decode b_Mo_range 112 = .ok (.invokevirtual 112, 3) := by decide +kernel
theorem d_Mo_range_115 : decode b_Mo_range 115 = .ok (.iastore, 1) := by decide +kernel
theorem d_Mo_range_116 : decode b_Mo_range 116 = .ok (.aload_n 0, 1) := by decide +kernel
theorem d_Mo_range_117 : decode b_Mo_range 117 = .ok (.getfield 35, 3) := by decide +kernel
theorem d_Mo_range_120 : decode b_Mo_range 120 = .ok (.iload_n 1, 1) := by decide +kernel
theorem d_Mo_range_121 : decode b_Mo_range 121 = .ok (.aload_n 0, 1) := by decide +kernel
theorem d_Mo_range_122 : decode b_Mo_range 122 = .ok (.getfield 32, 3) := by decide +kernel
theorem d_Mo_range_125 : decode b_Mo_range 125 = .ok (.iload_n 1, 1) := by decide +kernel
theorem d_Mo_range_126 : decode b_Mo_range 126 = .ok (.iaload, 1) := by decide +kernel
theorem d_Mo_range_127 : decode b_Mo_range 127 = .ok (.iastore, 1) := by decide +kernel
theorem d_Mo_range_128 : decode b_Mo_range 128 = .ok (.aload_n 0, 1) := by decide +kernel
theorem d_Mo_range_129 : decode b_Mo_range 129 = .ok (.iconst 1, 1) := by decide +kernel
theorem d_Mo_range_130 : decode b_Mo_range 130 = .ok (.putfield 101, 3) := by decide +kernel
theorem d_Mo_range_133 : decode b_Mo_range 133 = .ok (.iload 4, 2) := by decide +kernel
theorem d_Mo_range_135 : decode b_Mo_range 135 = .ok (.iload_n 3, 1) := by decide +kernel
theorem d_Mo_range_136 : decode b_Mo_range 136 = .ok (.if_icmp .ne 5, 3) := by decide +kernel
theorem d_Mo_range_139 : decode b_Mo_range 139 = .ok (.iconst 1, 1) := by decide +kernel
theorem d_Mo_range_140 : decode b_Mo_range 140 = .ok (.ireturn, 1) := by decide +kernel
theorem d_Mo_range_141 : decode b_Mo_range 141 = .ok (.aload_n 0, 1) := by decide +kernel
theorem d_Mo_range_142 : decode b_Mo_range 142 = .ok (.iconst 0, 1) := by decide +kernel
theorem d_Mo_range_143 : decode b_Mo_range 143 = .ok (.putfield 101, 3) := by decide +kernel
theorem d_Mo_range_146 : decode b_Mo_range 146 = .ok (.iload 4, 2) := by decide +kernel
theorem d_Mo_range_148 : decode b_Mo_range 148 = .ok (.iconst 1, 1) := by decide +kernel
theorem d_Mo_range_149 : decode b_Mo_range 149 = .ok (.iadd, 1) := by decide +kernel
theorem d_Mo_range_150 : decode b_Mo_range 150 = .ok (.iload_n 3, 1) := by decide +kernel
theorem d_Mo_range_151 : decode b_Mo_range 151 = .ok (.if_icmp .ne 5, 3) := by decide +kernel
theorem d_Mo_range_154 : decode b_Mo_range 154 = .ok (.iconst 1, 1) := by decide +kernel
theorem d_Mo_range_155 : decode b_Mo_range 155 = .ok (.ireturn, 1) := by decide +kernel
theorem d_Mo_range_156 : decode b_Mo_range 156 = .ok (.aload_n 0, 1) := by decide +kernel
theorem d_Mo_range_157 : decode b_Mo_range 157 = .ok (.iload 4, 2) := by decide +kernel
theorem d_Mo_range_159 : decode b_Mo_range 159 = .ok (.iconst 1, 1) := by decide +kernel
theorem d_Mo_range_160 : decode b_Mo_range 160 = .ok (.iadd, 1) := by decide +kernel
theorem d_Mo_range_161 : decode b_Mo_range 161 = .ok (.iload_n 3, 1) := by decide +kernel
theorem d_Mo_range_162 : decode b_Mo_range 162 = .ok (.aload_n 0, 1) := by decide +kernel
theorem d_Mo_range_163 : decode b_Mo_range 163 = .ok (.getfield 32, 3) := by decide +kernel
theorem d_Mo_range_166 : decode b_Mo_range 166 = .ok (.iload_n 1, 1) := by decide +kernel
theorem d_Mo_range_167 : decode b_Mo_range 167 = .ok (.iaload, 1) := by decide +kernel
theorem d_Mo_range_168 : decode b_Mo_range 168 = .ok (.invokevirtual 109, 3) := by decide +kernel
theorem d_Mo_range_171 : decode b_Mo_range 171 = .ok (.ifCond .ne 5, 3) := by decide +kernel
theorem d_Mo_range_174 : decode b_Mo_range 174 = .ok (.iconst 0, 1) := by decide +kernel
theorem d_Mo_range_175 : decode b_Mo_range 175 = .ok (.ireturn, 1) := by decide +kernel
theorem d_Mo_range_176 : decode b_Mo_range 176 = .ok (.aload_n 0, 1) := by decide +kernel
theorem d_Mo_range_177 : decode b_Mo_range 177 = .ok (.getfield 35, 3) := by decide +kernel
theorem d_Mo_range_180 : decode b_Mo_range 180 = .ok (.iload_n 1, 1) := by decide +kernel
theorem d_Mo_range_181 : decode b_Mo_range 181 = .ok (.aload_n 0, 1) := by decide +kernel
theorem d_Mo_range_182 : decode b_Mo_range 182 = .ok (.iload 4, 2) := by decide +kernel
theorem d_Mo_range_184 : decode b_Mo_range 184 = .ok (.iconst 1, 1) := by decide +kernel
theorem d_Mo_range_185 : decode b_Mo_range 185 = .ok (.iadd, 1) := by decide +kernel
theorem d_Mo_range_186 : decode b_Mo_range 186 = .ok (.iload_n 3, 1) := by decide +kernel
theorem d_Mo_range_187 : decode b_Mo_range 187 = .ok (.invokevirtual 112, 3) := by decide +kernel
theorem d_Mo_range_190 : decode b_Mo_range 190 = .ok (.iastore, 1) := by decide +kernel
theorem d_Mo_range_191 : decode b_Mo_range 191 = .ok (.aload_n 0, 1) := by decide +kernel
theorem d_Mo_range_192 : decode b_Mo_range 192 = .ok (.aload_n 0, 1) := by decide +kernel
theorem d_Mo_range_193 : decode b_Mo_range 193 = .ok (.getfield 35, 3) := by decide +kernel
theorem d_Mo_range_196 : decode b_Mo_range 196 = .ok (.iload_n 1, 1) := by decide +kernel
theorem d_Mo_range_197 : decode b_Mo_range 197 = .ok (.iaload, 1) := by decide +kernel
theorem d_Mo_range_198 : decode b_Mo_range 198 = .ok (.aload_n 0, 1) := by decide +kernel
theorem d_Mo_range_199 : decode b_Mo_range 199 = .ok (.getfield 32, 3) := by decide +kernel
theorem d_Mo_range_202 : decode b_Mo_range 202 = .ok (.iload_n 1, 1) := by decide +kernel
theorem d_Mo_range_203 : decode b_Mo_range 203 = .ok (.iaload, 1) := by decide +kernel
theorem d_Mo_range_204 : decode b_Mo_range 204 = .ok (.if_icmp .lt 7, 3) := by decide +kernel
theorem d_Mo_range_207 : decode b_Mo_range 207 = .ok (.iconst 1, 1) := by decide +kernel
theorem d_Mo_range_208 : decode b_Mo_range 208 = .ok (.goto 4, 3) := by decide +kernel
theorem d_Mo_range_211 : decode b_Mo_range 211 = .ok (.iconst 0, 1) := by decide +kernel
theorem d_Mo_range_212 : decode b_Mo_range 212 = .ok (.putfield 101, 3) := by decide +kernel
theorem d_Mo_range_215 : decode b_Mo_range 215 = .ok (.iconst 1, 1) := by decide +kernel
theorem d_Mo_range_216 : decode b_Mo_range 216 = .ok (.ireturn, 1) := by decide +kernel
theorem d_Mo_number_0 : decode b_Mo_number 0 = .ok (.iload_n 2, 1) := by decide +kernel
theorem d_Mo_number_1 : decode b_Mo_number 1 = .ok (.iload_n 1, 1) := by decide +kernel
theorem d_Mo_number_2 : decode b_Mo_number 2 = .ok (.isub, 1) := by decide +kernel
theorem d_Mo_number_3 : decode b_Mo_number 3 = .ok (.iconst 3, 1) := by decide +kernel
theorem d_Mo_number_4 : decode b_Mo_number 4 = .ok (.if_icmp .le 5, 3) := by decide +kernel
theorem d_Mo_number_7 : decode b_Mo_number 7 = .ok (.iconst 0, 1) := by decide +kernel
theorem d_Mo_number_8 : decode b_Mo_number 8 = .ok (.ireturn, 1) := by decide +kernel
theorem d_Mo_number_9 : decode b_Mo_number 9 = .ok (.iload_n 1, 1) := by decide +kernel
theorem d_Mo_number_10 : decode b_Mo_number 10 = .ok (.istore 4, 2) := by decide +kernel
theorem d_Mo_number_12 : decode b_Mo_number 12 = .ok (.iload 4, 2) := by decide +kernel
theorem d_Mo_number_14 : decode b_Mo_number 14 = .ok (.iload_n 2, 1) := by decide +kernel
theorem d_Mo_number_15 : decode b_Mo_number 15 = .ok (.if_icmp .ge 35, 3) := by decide +kernel
theorem d_Mo_number_18 : decode b_Mo_number 18 = .ok (.aload_n 0, 1) := by decide +kernel
theorem d_Mo_number_19 : decode b_Mo_number 19 = .ok (.getfield 7, 3) := by decide +kernel
theorem d_Mo_number_22 : decode b_Mo_number 22 = .ok (.iload 4, 2) := by decide +kernel
theorem d_Mo_number_24 : decode b_Mo_number 24 = .ok (.iaload, 1) := by decide +kernel
theorem d_Mo_number_25 : decode b_Mo_number 25 = .ok (.bipush 48, 2) := by decide +kernel
theorem d_Mo_number_27 : decode b_Mo_number 27 = .ok (.if_icmp .lt 15, 3) := by decide +kernel
theorem d_Mo_number_30 : decode b_Mo_number 30 = .ok (.aload_n 0, 1) := by decide +kernel
theorem d_Mo_number_31 : decode b_Mo_number 31 = .ok (.getfield 7, 3) := by decide +kernel
theorem d_Mo_number_34 : decode b_Mo_number 34 = .ok (.iload 4, 2) := by decide +kernel
theorem d_Mo_number_36 : decode b_Mo_number 36 = .ok (.iaload, 1) := by decide +kernel
theorem d_Mo_number_37 : decode b_Mo_number 37 = .ok (.bipush 57, 2) := by decide +kernel
theorem d_Mo_number_39 : decode b_Mo_number 39 = .ok (.if_icmp .le 5, 3) := by decide +kernel
theorem d_Mo_number_42 : decode b_Mo_number 42 = .ok (.iconst 0, 1) := by decide +kernel
theorem d_Mo_number_43 : decode b_Mo_number 43 = .ok (.ireturn, 1) := by decide +kernel
theorem d_Mo_number_44 : decode b_Mo_number 44 = .ok (.iinc 4 1, 3) := by decide +kernel
theorem d_Mo_number_47 : decode b_Mo_number 47 = .ok (.goto (-35), 3) := by decide +kernel
theorem d_Mo_number_50 : decode b_Mo_number 50 = .ok (.aload_n 0, 1) := by decide +kernel
theorem d_Mo_number_51 : decode b_Mo_number 51 = .ok (.iload_n 1, 1) := by decide +kernel
theorem d_Mo_number_52 : decode b_Mo_number 52 = .ok (.iload_n 2, 1) := by decide +kernel
theorem d_Mo_number_53 : decode b_Mo_number 53 = .ok (.invokevirtual 112, 3) := by decide +kernel
theorem d_Mo_number_56 : decode b_Mo_number 56 = .ok (.iload_n 2, 1) := by decide +kernel
theorem d_Mo_number_57 : decode b_Mo_number 57 = .ok (.iload_n 1, 1) := by decide +kernel
theorem d_Mo_number_58 : decode b_Mo_number 58 = .ok (.isub, 1) := by decide +kernel
theorem d_Mo_number_59 : decode b_Mo_number 59 = .ok (.iload_n 3, 1) := by decide +kernel
theorem d_Mo_number_60 : decode b_Mo_number 60 = .ok (.invokestatic 116, 3) := by decide +kernel
theorem d_Mo_number_63 : decode b_Mo_number 63 = .ok (.ireturn, 1) := by decide +kernel
theorem d_Mo_worth_0 : decode b_Mo_worth 0 = .ok (.iconst 0, 1) := by decide +kernel
theorem d_Mo_worth_1 : decode b_Mo_worth 1 = .ok (.istore_n 3, 1) := by decide +kernel
theorem d_Mo_worth_2 : decode b_Mo_worth 2 = .ok (.iload_n 1, 1) := by decide +kernel
theorem d_Mo_worth_3 : decode b_Mo_worth 3 = .ok (.istore 4, 2) := by decide +kernel
theorem d_Mo_worth_5 : decode b_Mo_worth 5 = .ok (.iload 4, 2) := by decide +kernel
theorem d_Mo_worth_7 : decode b_Mo_worth 7 = .ok (.iload_n 2, 1) := by decide +kernel
theorem d_Mo_worth_8 : decode b_Mo_worth 8 = .ok (.if_icmp .ge 25, 3) := by decide +kernel
theorem d_Mo_worth_11 : decode b_Mo_worth 11 = .ok (.iload_n 3, 1) := by decide +kernel
theorem d_Mo_worth_12 : decode b_Mo_worth 12 = .ok (.bipush 10, 2) := by decide +kernel
theorem d_Mo_worth_14 : decode b_Mo_worth 14 = .ok (.imul, 1) := by decide +kernel
theorem d_Mo_worth_15 : decode b_Mo_worth 15 = .ok (.aload_n 0, 1) := by decide +kernel
theorem d_Mo_worth_16 : decode b_Mo_worth 16 = .ok (.getfield 7, 3) := by decide +kernel
theorem d_Mo_worth_19 : decode b_Mo_worth 19 = .ok (.iload 4, 2) := by decide +kernel
theorem d_Mo_worth_21 : decode b_Mo_worth 21 = .ok (.iaload, 1) := by decide +kernel
theorem d_Mo_worth_22 : decode b_Mo_worth 22 = .ok (.iadd, 1) := by decide +kernel
theorem d_Mo_worth_23 : decode b_Mo_worth 23 = .ok (.bipush 48, 2) := by decide +kernel
theorem d_Mo_worth_25 : decode b_Mo_worth 25 = .ok (.isub, 1) := by decide +kernel
theorem d_Mo_worth_26 : decode b_Mo_worth 26 = .ok (.istore_n 3, 1) := by decide +kernel
theorem d_Mo_worth_27 : decode b_Mo_worth 27 = .ok (.iinc 4 1, 3) := by decide +kernel
theorem d_Mo_worth_30 : decode b_Mo_worth 30 = .ok (.goto (-25), 3) := by decide +kernel
theorem d_Mo_worth_33 : decode b_Mo_worth 33 = .ok (.iload_n 3, 1) := by decide +kernel
theorem d_Mo_worth_34 : decode b_Mo_worth 34 = .ok (.ireturn, 1) := by decide +kernel
theorem d_Mo_canReach_0 : decode b_Mo_canReach 0 = .ok (.iload_n 0, 1) := by decide +kernel
theorem d_Mo_canReach_1 : decode b_Mo_canReach 1 = .ok (.istore_n 3, 1) := by decide +kernel
theorem d_Mo_canReach_2 : decode b_Mo_canReach 2 = .ok (.iconst 1, 1) := by decide +kernel
theorem d_Mo_canReach_3 : decode b_Mo_canReach 3 = .ok (.istore 4, 2) := by decide +kernel
