theorem dX7_digest_98 : decode cX7_digest 98 = .ok (.if_icmp .ge 23, 3) := by decide +kernel
theorem dX7_digest_101 : decode cX7_digest 101 = .ok (.ldc2_w 199, 3) := by decide +kernel
theorem dX7_digest_104 : decode cX7_digest 104 = .ok (.lload_n 1, 1) := by decide +kernel
theorem dX7_digest_105 : decode cX7_digest 105 = .ok (.lmul, 1) := by decide +kernel
theorem dX7_digest_106 : decode cX7_digest 106 = .ok (.aload_n 0, 1) := by decide +kernel
theorem dX7_digest_107 : decode cX7_digest 107 = .ok (.getfield 22, 3) := by decide +kernel
theorem dX7_digest_110 : decode cX7_digest 110 = .ok (.iload_n 3, 1) := by decide +kernel
theorem dX7_digest_111 : decode cX7_digest 111 = .ok (.iaload, 1) := by decide +kernel
theorem dX7_digest_112 : decode cX7_digest 112 = .ok (.i2l, 1) := by decide +kernel
theorem dX7_digest_113 : decode cX7_digest 113 = .ok (.ladd, 1) := by decide +kernel
theorem dX7_digest_114 : decode cX7_digest 114 = .ok (.lstore_n 1, 1) := by decide +kernel
theorem dX7_digest_115 : decode cX7_digest 115 = .ok (.iinc 3 1, 3) := by decide +kernel
theorem dX7_digest_118 : decode cX7_digest 118 = .ok (.goto (-25), 3) := by decide +kernel
theorem dX7_digest_121 : decode cX7_digest 121 = .ok (.iconst 0, 1) := by decide +kernel
theorem dX7_digest_122 : decode cX7_digest 122 = .ok (.istore_n 3, 1) := by decide +kernel
theorem dX7_digest_123 : decode cX7_digest 123 = .ok (.iload_n 3, 1) := by decide +kernel
theorem dX7_digest_124 : decode cX7_digest 124 = .ok (.aload_n 0, 1) := by decide +kernel
theorem dX7_digest_125 : decode cX7_digest 125 = .ok (.getfield 12, 3) := by decide +kernel
theorem dX7_digest_128 : decode cX7_digest 128 = .ok (.getfield 50, 3) := by decide +kernel
theorem dX7_digest_131 : decode cX7_digest 131 = .ok (.if_icmp .ge 26, 3) := by decide +kernel
theorem dX7_digest_134 : decode cX7_digest 134 = .ok (.ldc2_w 199, 3) := by decide +kernel
theorem dX7_digest_137 : decode cX7_digest 137 = .ok (.lload_n 1, 1) := by decide +kernel
theorem dX7_digest_138 : decode cX7_digest 138 = .ok (.lmul, 1) := by decide +kernel
theorem dX7_digest_139 : decode cX7_digest 139 = .ok (.aload_n 0, 1) := by decide +kernel
theorem dX7_digest_140 : decode cX7_digest 140 = .ok (.getfield 12, 3) := by decide +kernel
theorem dX7_digest_143 : decode cX7_digest 143 = .ok (.getfield 208, 3) := by decide +kernel
theorem dX7_digest_146 : decode cX7_digest 146 = .ok (.iload_n 3, 1) := by decide +kernel
theorem dX7_digest_147 : decode cX7_digest 147 = .ok (.iaload, 1) := by decide +kernel
theorem dX7_digest_148 : decode cX7_digest 148 = .ok (.i2l, 1) := by decide +kernel
theorem dX7_digest_149 : decode cX7_digest 149 = .ok (.ladd, 1) := by decide +kernel
theorem dX7_digest_150 : decode cX7_digest 150 = .ok (.lstore_n 1, 1) := by decide +kernel
theorem dX7_digest_151 : decode cX7_digest 151 = .ok (.iinc 3 1, 3) := by decide +kernel
theorem dX7_digest_154 : decode cX7_digest 154 = .ok (.goto (-31), 3) := by decide +kernel
theorem dX7_digest_157 : decode cX7_digest 157 = .ok (.iconst 0, 1) := by decide +kernel
theorem dX7_digest_158 : decode cX7_digest 158 = .ok (.istore_n 3, 1) := by decide +kernel
theorem dX7_digest_159 : decode cX7_digest 159 = .ok (.iload_n 3, 1) := by decide +kernel
theorem dX7_digest_160 : decode cX7_digest 160 = .ok (.bipush 8, 2) := by decide +kernel
theorem dX7_digest_162 : decode cX7_digest 162 = .ok (.if_icmp .gt 22, 3) := by decide +kernel
theorem dX7_digest_165 : decode cX7_digest 165 = .ok (.ldc2_w 199, 3) := by decide +kernel
theorem dX7_digest_168 : decode cX7_digest 168 = .ok (.lload_n 1, 1) := by decide +kernel
theorem dX7_digest_169 : decode cX7_digest 169 = .ok (.lmul, 1) := by decide +kernel
theorem dX7_digest_170 : decode cX7_digest 170 = .ok (.aload_n 0, 1) := by decide +kernel
theorem dX7_digest_171 : decode cX7_digest 171 = .ok (.iload_n 3, 1) := by decide +kernel
theorem dX7_digest_172 : decode cX7_digest 172 = .ok (.invokevirtual 211, 3) := by decide +kernel
theorem dX7_digest_175 : decode cX7_digest 175 = .ok (.i2l, 1) := by decide +kernel
theorem dX7_digest_176 : decode cX7_digest 176 = .ok (.ladd, 1) := by decide +kernel
theorem dX7_digest_177 : decode cX7_digest 177 = .ok (.lstore_n 1, 1) := by decide +kernel
theorem dX7_digest_178 : decode cX7_digest 178 = .ok (.iinc 3 1, 3) := by decide +kernel
theorem dX7_digest_181 : decode cX7_digest 181 = .ok (.goto (-22), 3) := by decide +kernel
theorem dX7_digest_184 : decode cX7_digest 184 = .ok (.lload_n 1, 1) := by decide +kernel
theorem dX7_digest_185 : decode cX7_digest 185 = .ok (.lreturn, 1) := by decide +kernel
set_option maxRecDepth 20000 in
theorem ggX7_withPerson_X7_about : GoodIn wsX7_withPerson wsX7_about := goodIn_r _ [7, 8, 9, 10, 11, 12, 13, 14, 6, 15, 2, 16, 17, 18, 19, 20, 21, 22, 23, 24, 25, 26, 27, 28, 29, 30, 31, 32, 33, 34, 35, 36, 37, 38, 39, 40, 41, 42, 43, 44, 45, 46, 47, 48, 49, 50, 51, 52, 53, 54, 55, 56, 57, 58, 59, 60, 61, 62, 63, 64, 65, 66, 67, 68, 69, 70, 71, 72, 73, 74, 75, 76, 77, 78, 79, 80, 81, 82, 83, 84, 85, 86, 87, 88, 89, 90, 99, 100, 101, 102, 103, 104, 105, 106, 107, 108, 109, 110, 111, 112, 113, 114, 115, 116, 117, 118, 119, 120, 121, 122, 123, 124, 125, 126, 127, 128, 129, 130, 131, 132, 133, 134, 135, 136, 137, 138, 139, 140, 141, 142, 143, 144] (by decide +kernel) (by decide +kernel)
set_option maxRecDepth 20000 in
theorem gX7_withPerson_X7_about : GoodIn wsX7_withPerson (wsV RX7 214 RX7 yX7_about wsX7_about) := goodIn_app (goodIn_of _ (by decide +kernel)) ggX7_withPerson_X7_about
set_option maxRecDepth 20000 in
theorem ggX7_withPerson_X7_differ : GoodIn wsX7_withPerson wsX7_differ := goodIn_r _ [94, 8, 12, 13, 14, 6, 15, 2, 16, 17, 18, 19, 20, 21, 22, 23, 24, 25, 26, 27, 28, 29, 30, 31, 32, 33, 34, 35, 36, 37, 38, 39, 40, 41, 42, 43, 44, 45, 46, 47, 48, 49, 50, 51, 52, 53, 54, 55, 56, 57, 58, 59, 99, 100, 101, 102, 103, 104, 105, 106, 107, 108, 109, 110, 111, 112, 113, 114, 115, 116, 117, 118, 119, 120, 121, 122, 123, 124, 125, 126, 127, 128, 129, 130, 131, 132, 133, 134, 135, 136, 137, 138, 139, 140, 141, 142, 143, 144] (by decide +kernel) (by decide +kernel)
set_option maxRecDepth 20000 in
theorem gX7_withPerson_X7_differ : GoodIn wsX7_withPerson (wsV RX7 217 RX7 yX7_differ wsX7_differ) := goodIn_app (goodIn_of _ (by decide +kernel)) ggX7_withPerson_X7_differ
set_option maxRecDepth 20000 in
theorem ggX7_withPerson_X7_alike : GoodIn wsX7_withPerson wsX7_alike := goodIn_r _ [98, 12, 13, 14, 6, 15, 2, 16, 20, 21, 22, 23, 24, 25, 26, 27, 28, 29, 30, 31, 32, 33, 34, 35, 36, 37, 38, 39, 40, 41, 42, 43, 44, 45, 46, 47, 48, 49, 50, 51, 52, 53, 54, 55, 56, 57, 58, 59, 99, 100, 101, 102, 103, 104, 105, 106, 107, 108, 109, 110, 111, 112, 113, 114, 115, 116, 117, 118, 119, 120, 121, 122, 123, 124, 125, 126, 127, 128, 129, 130, 131, 132, 133, 134, 135, 136, 137, 138, 139, 140, 141, 142, 143, 144] (by decide +kernel) (by decide +kernel)
set_option maxRecDepth 20000 in
theorem gX7_withPerson_X7_alike : GoodIn wsX7_withPerson (wsV RX7 220 RX7 yX7_alike wsX7_alike) := goodIn_app (goodIn_of _ (by decide +kernel)) ggX7_withPerson_X7_alike
theorem dX7_withPerson_0 : decode cX7_withPerson 0 = .ok (.lload_n 1, 1) := by decide +kernel
theorem dX7_withPerson_1 : decode cX7_withPerson 1 = .ok (.lstore 4, 2) := by decide +kernel
theorem dX7_withPerson_3 : decode cX7_withPerson 3 = .ok (.iconst 0, 1) := by decide +kernel
theorem dX7_withPerson_4 : decode cX7_withPerson 4 = .ok (.istore 6, 2) := by decide +kernel
theorem dX7_withPerson_6 : decode cX7_withPerson 6 = .ok (.iload 6, 2) := by decide +kernel
theorem dX7_withPerson_8 : decode cX7_withPerson 8 = .ok (.iconst 3, 1) := by decide +kernel
theorem dX7_withPerson_9 : decode cX7_withPerson 9 = .ok (.if_icmp .gt 26, 3) := by decide +kernel
theorem dX7_withPerson_12 : decode cX7_withPerson 12 = .ok (.ldc2_w 199, 3) := by decide +kernel
theorem dX7_withPerson_15 : decode cX7_withPerson 15 = .ok (.lload 4, 2) := by decide +kernel
theorem dX7_withPerson_17 : decode cX7_withPerson 17 = .ok (.lmul, 1) := by decide +kernel
theorem dX7_withPerson_18 : decode cX7_withPerson 18 = .ok (.aload_n 0, 1) := by decide +kernel
theorem dX7_withPerson_19 : decode cX7_withPerson 19 = .ok (.iload_n 3, 1) := by decide +kernel
theorem dX7_withPerson_20 : decode cX7_withPerson 20 = .ok (.iload 6, 2) := by decide +kernel
theorem dX7_withPerson_22 : decode cX7_withPerson 22 = .ok (.invokevirtual 214, 3) := by decide +kernel
theorem dX7_withPerson_25 : decode cX7_withPerson 25 = .ok (.i2l, 1) := by decide +kernel
theorem dX7_withPerson_26 : decode cX7_withPerson 26 = .ok (.ladd, 1) := by decide +kernel
theorem dX7_withPerson_27 : decode cX7_withPerson 27 = .ok (.lstore 4, 2) := by decide +kernel
theorem dX7_withPerson_29 : decode cX7_withPerson 29 = .ok (.iinc 6 1, 3) := by decide +kernel
theorem dX7_withPerson_32 : decode cX7_withPerson 32 = .ok (.goto (-26), 3) := by decide +kernel
theorem dX7_withPerson_35 : decode cX7_withPerson 35 = .ok (.iconst 0, 1) := by decide +kernel
theorem dX7_withPerson_36 : decode cX7_withPerson 36 = .ok (.istore 6, 2) := by decide +kernel
theorem dX7_withPerson_38 : decode cX7_withPerson 38 = .ok (.iload 6, 2) := by decide +kernel
theorem dX7_withPerson_40 : decode cX7_withPerson 40 = .ok (.bipush 6, 2) := by decide +kernel
theorem dX7_withPerson_42 : decode cX7_withPerson 42 = .ok (.if_icmp .ge 29, 3) := by decide +kernel
theorem dX7_withPerson_45 : decode cX7_withPerson 45 = .ok (.ldc2_w 199, 3) := by decide +kernel
theorem dX7_withPerson_48 : decode cX7_withPerson 48 = .ok (.lload 4, 2) := by decide +kernel
theorem dX7_withPerson_50 : decode cX7_withPerson 50 = .ok (.lmul, 1) := by decide +kernel
theorem dX7_withPerson_51 : decode cX7_withPerson 51 = .ok (.aload_n 0, 1) := by decide +kernel
theorem dX7_withPerson_52 : decode cX7_withPerson 52 = .ok (.iload_n 3, 1) := by decide +kernel
theorem dX7_withPerson_53 : decode cX7_withPerson 53 = .ok (.bipush 10, 2) := by decide +kernel
theorem dX7_withPerson_55 : decode cX7_withPerson 55 = .ok (.iload 6, 2) := by decide +kernel
theorem dX7_withPerson_57 : decode cX7_withPerson 57 = .ok (.iadd, 1) := by decide +kernel
theorem dX7_withPerson_58 : decode cX7_withPerson 58 = .ok (.invokevirtual 214, 3) := by decide +kernel
theorem dX7_withPerson_61 : decode cX7_withPerson 61 = .ok (.i2l, 1) := by decide +kernel
theorem dX7_withPerson_62 : decode cX7_withPerson 62 = .ok (.ladd, 1) := by decide +kernel
theorem dX7_withPerson_63 : decode cX7_withPerson 63 = .ok (.lstore 4, 2) := by decide +kernel
theorem dX7_withPerson_65 : decode cX7_withPerson 65 = .ok (.iinc 6 1, 3) := by decide +kernel
theorem dX7_withPerson_68 : decode cX7_withPerson 68 = .ok (.goto (-30), 3) := by decide +kernel
theorem dX7_withPerson_71 : decode cX7_withPerson 71 = .ok (.iconst 0, 1) := by decide +kernel
theorem dX7_withPerson_72 : decode cX7_withPerson 72 = .ok (.istore 6, 2) := by decide +kernel
theorem dX7_withPerson_74 : decode cX7_withPerson 74 = .ok (.iload 6, 2) := by decide +kernel
theorem dX7_withPerson_76 : decode cX7_withPerson 76 = .ok (.bipush 6, 2) := by decide +kernel
theorem dX7_withPerson_78 : decode cX7_withPerson 78 = .ok (.if_icmp .ge 29, 3) := by decide +kernel
theorem dX7_withPerson_81 : decode cX7_withPerson 81 = .ok (.ldc2_w 199, 3) := by decide +kernel
theorem dX7_withPerson_84 : decode cX7_withPerson 84 = .ok (.lload 4, 2) := by decide +kernel
theorem dX7_withPerson_86 : decode cX7_withPerson 86 = .ok (.lmul, 1) := by decide +kernel
theorem dX7_withPerson_87 : decode cX7_withPerson 87 = .ok (.aload_n 0, 1) := by decide +kernel
theorem dX7_withPerson_88 : decode cX7_withPerson 88 = .ok (.iload_n 3, 1) := by decide +kernel
theorem dX7_withPerson_89 : decode cX7_withPerson 89 = .ok (.bipush 20, 2) := by decide +kernel
theorem dX7_withPerson_91 : decode cX7_withPerson 91 = .ok (.iload 6, 2) := by decide +kernel
theorem dX7_withPerson_93 : decode cX7_withPerson 93 = .ok (.iadd, 1) := by decide +kernel
theorem dX7_withPerson_94 : decode cX7_withPerson 94 = .ok (.invokevirtual 214, 3) := by decide +kernel
theorem dX7_withPerson_97 : decode cX7_withPerson 97 = .ok (.i2l, 1) := by decide +kernel
theorem dX7_withPerson_98 : decode cX7_withPerson 98 = .ok (.ladd, 1) := by decide +kernel
theorem dX7_withPerson_99 : decode cX7_withPerson 99 = .ok (.lstore 4, 2) := by decide +kernel
theorem dX7_withPerson_101 : decode cX7_withPerson 101 = .ok (.iinc 6 1, 3) := by decide +kernel
theorem dX7_withPerson_104 : decode cX7_withPerson 104 = .ok (.goto (-30), 3) := by decide +kernel
theorem dX7_withPerson_107 : decode cX7_withPerson 107 = .ok (.iconst 0, 1) := by decide +kernel
theorem dX7_withPerson_108 : decode cX7_withPerson 108 = .ok (.istore 6, 2) := by decide +kernel
theorem dX7_withPerson_110 : decode cX7_withPerson 110 = .ok (.iload 6, 2) := by decide +kernel
theorem dX7_withPerson_112 : decode cX7_withPerson 112 = .ok (.aload_n 0, 1) := by decide +kernel
theorem dX7_withPerson_113 : decode cX7_withPerson 113 = .ok (.getfield 67, 3) := by decide +kernel
theorem dX7_withPerson_116 : decode cX7_withPerson 116 = .ok (.if_icmp .ge 43, 3) := by decide +kernel
theorem dX7_withPerson_119 : decode cX7_withPerson 119 = .ok (.ldc2_w 199, 3) := by decide +kernel
theorem dX7_withPerson_122 : decode cX7_withPerson 122 = .ok (.lload 4, 2) := by decide +kernel
theorem dX7_withPerson_124 : decode cX7_withPerson 124 = .ok (.lmul, 1) := by decide +kernel
theorem dX7_withPerson_125 : decode cX7_withPerson 125 = .ok (.aload_n 0, 1) := by decide +kernel
theorem dX7_withPerson_126 : decode cX7_withPerson 126 = .ok (.iload_n 3, 1) := by decide +kernel
theorem dX7_withPerson_127 : decode cX7_withPerson 127 = .ok (.iload 6, 2) := by decide +kernel
theorem dX7_withPerson_129 : decode cX7_withPerson 129 = .ok (.invokevirtual 217, 3) := by decide +kernel
theorem dX7_withPerson_132 : decode cX7_withPerson 132 = .ok (.i2l, 1) := by decide +kernel
theorem dX7_withPerson_133 : decode cX7_withPerson 133 = .ok (.ladd, 1) := by decide +kernel
theorem dX7_withPerson_134 : decode cX7_withPerson 134 = .ok (.lstore 4, 2) := by decide +kernel
theorem dX7_withPerson_136 : decode cX7_withPerson 136 = .ok (.ldc2_w 199, 3) := by decide +kernel
theorem dX7_withPerson_139 : decode cX7_withPerson 139 = .ok (.lload 4, 2) := by decide +kernel
theorem dX7_withPerson_141 : decode cX7_withPerson 141 = .ok (.lmul, 1) := by decide +kernel
theorem dX7_withPerson_142 : decode cX7_withPerson 142 = .ok (.aload_n 0, 1) := by decide +kernel
theorem dX7_withPerson_143 : decode cX7_withPerson 143 = .ok (.iload_n 3, 1) := by decide +kernel
theorem dX7_withPerson_144 : decode cX7_withPerson 144 = .ok (.iload 6, 2) := by decide +kernel
theorem dX7_withPerson_146 : decode cX7_withPerson 146 = .ok (.invokevirtual 220, 3) := by decide +kernel
theorem dX7_withPerson_149 : decode cX7_withPerson 149 = .ok (.i2l, 1) := by decide +kernel
theorem dX7_withPerson_150 : decode cX7_withPerson 150 = .ok (.ladd, 1) := by decide +kernel
theorem dX7_withPerson_151 : decode cX7_withPerson 151 = .ok (.lstore 4, 2) := by decide +kernel
theorem dX7_withPerson_153 : decode cX7_withPerson 153 = .ok (.iinc 6 1, 3) := by decide +kernel
theorem dX7_withPerson_156 : decode cX7_withPerson 156 = .ok (.goto (-46), 3) := by decide +kernel
theorem dX7_withPerson_159 : decode cX7_withPerson 159 = .ok (.lload 4, 2) := by decide +kernel
theorem dX7_withPerson_161 : decode cX7_withPerson 161 = .ok (.lreturn, 1) := by decide +kernel
theorem dX7_isHue_0 : decode cX7_isHue 0 = .ok (.iload_n 0, 1) := by decide +kernel
theorem dX7_isHue_1 : decode cX7_isHue 1 = .ok (.ifCond .lt 13, 3) := by decide +kernel
theorem dX7_isHue_4 : decode cX7_isHue 4 = .ok (.iload_n 0, 1) := by decide +kernel
theorem dX7_isHue_5 : decode cX7_isHue 5 = .ok (.bipush 8, 2) := by decide +kernel
theorem dX7_isHue_7 : decode cX7_isHue 7 = .ok (.if_icmp .ge 7, 3) := by decide +kernel
theorem dX7_isHue_10 : decode cX7_isHue 10 = .ok (.iconst 1, 1) := by decide +kernel
theorem dX7_isHue_11 : decode cX7_isHue 11 = .ok (.goto 4, 3) := by decide +kernel
theorem dX7_isHue_14 : decode cX7_isHue 14 = .ok (.iconst 0, 1) := by decide +kernel
theorem dX7_isHue_15 : decode cX7_isHue 15 = .ok (.ireturn, 1) := by decide +kernel
theorem dX7_hueAt_0 : decode cX7_hueAt 0 = .ok (.iload_n 0, 1) := by decide +kernel
theorem dX7_hueAt_1 : decode cX7_hueAt 1 = .ok (.iconst 3, 1) := by decide +kernel
theorem dX7_hueAt_2 : decode cX7_hueAt 2 = .ok (.iload_n 1, 1) := by decide +kernel
theorem dX7_hueAt_3 : decode cX7_hueAt 3 = .ok (.imul, 1) := by decide +kernel
theorem dX7_hueAt_4 : decode cX7_hueAt 4 = .ok (.ishr, 1) := by decide +kernel
theorem dX7_hueAt_5 : decode cX7_hueAt 5 = .ok (.bipush 7, 2) := by decide +kernel
theorem dX7_hueAt_7 : decode cX7_hueAt 7 = .ok (.iand, 1) := by decide +kernel
theorem dX7_hueAt_8 : decode cX7_hueAt 8 = .ok (.ireturn, 1) := by decide +kernel
theorem dX7_withHue_0 : decode cX7_withHue 0 = .ok (.iconst 3, 1) := by decide +kernel
theorem dX7_withHue_1 : decode cX7_withHue 1 = .ok (.iload_n 1, 1) := by decide +kernel
theorem dX7_withHue_2 : decode cX7_withHue 2 = .ok (.imul, 1) := by decide +kernel
theorem dX7_withHue_3 : decode cX7_withHue 3 = .ok (.istore_n 3, 1) := by decide +kernel
theorem dX7_withHue_4 : decode cX7_withHue 4 = .ok (.iload_n 0, 1) := by decide +kernel
theorem dX7_withHue_5 : decode cX7_withHue 5 = .ok (.bipush 7, 2) := by decide +kernel
theorem dX7_withHue_7 : decode cX7_withHue 7 = .ok (.iload_n 3, 1) := by decide +kernel
theorem dX7_withHue_8 : decode cX7_withHue 8 = .ok (.ishl, 1) := by decide +kernel
theorem dX7_withHue_9 : decode cX7_withHue 9 = .ok (.iconst (-1), 1) := by decide +kernel
theorem dX7_withHue_10 : decode cX7_withHue 10 = .ok (.ixor, 1) := by decide +kernel
theorem dX7_withHue_11 : decode cX7_withHue 11 = .ok (.iand, 1) := by decide +kernel
theorem dX7_withHue_12 : decode cX7_withHue 12 = .ok (.iload_n 2, 1) := by decide +kernel
theorem dX7_withHue_13 : decode cX7_withHue 13 = .ok (.iload_n 3, 1) := by decide +kernel
theorem dX7_withHue_14 : decode cX7_withHue 14 = .ok (.ishl, 1) := by decide +kernel
theorem dX7_withHue_15 : decode cX7_withHue 15 = .ok (.ior, 1) := by decide +kernel
theorem dX7_withHue_16 : decode cX7_withHue 16 = .ok (.ireturn, 1) := by decide +kernel
theorem dX7_holds_0 : decode cX7_holds 0 = .ok (.iload_n 0, 1) := by decide +kernel
theorem dX7_holds_1 : decode cX7_holds 1 = .ok (.iload_n 1, 1) := by decide +kernel
theorem dX7_holds_2 : decode cX7_holds 2 = .ok (.ishr, 1) := by decide +kernel
theorem dX7_holds_3 : decode cX7_holds 3 = .ok (.iconst 1, 1) := by decide +kernel
theorem dX7_holds_4 : decode cX7_holds 4 = .ok (.iand, 1) := by decide +kernel
theorem dX7_holds_5 : decode cX7_holds 5 = .ok (.iconst 1, 1) := by decide +kernel
theorem dX7_holds_6 : decode cX7_holds 6 = .ok (.if_icmp .ne 7, 3) := by decide +kernel
theorem dX7_holds_9 : decode cX7_holds 9 = .ok (.iconst 1, 1) := by decide +kernel
theorem dX7_holds_10 : decode cX7_holds 10 = .ok (.goto 4, 3) := by decide +kernel
theorem dX7_holds_13 : decode cX7_holds 13 = .ok (.iconst 0, 1) := by decide +kernel
theorem dX7_holds_14 : decode cX7_holds 14 = .ok (.ireturn, 1) := by decide +kernel
set_option maxRecDepth 20000 in
theorem ggX7_colouredCells_X7_hueAt : GoodIn wsX7_colouredCells wsX7_hueAt := goodIn_r _ [5] (by decide +kernel) (by decide +kernel)
set_option maxRecDepth 20000 in
theorem gX7_colouredCells_X7_hueAt : GoodIn wsX7_colouredCells (va_wsS RX7 85 yX7_hueAt wsX7_hueAt) := goodIn_app (goodIn_of _ (by decide +kernel)) ggX7_colouredCells_X7_hueAt
theorem dX7_colouredCells_0 : decode cX7_colouredCells 0 = .ok (.aload_n 0, 1) := by decide +kernel
theorem dX7_colouredCells_1 : decode cX7_colouredCells 1 = .ok (.getfield 39, 3) := by decide +kernel
theorem dX7_colouredCells_4 : decode cX7_colouredCells 4 = .ok (.iconst (-1), 1) := by decide +kernel
theorem dX7_colouredCells_5 : decode cX7_colouredCells 5 = .ok (.if_icmp .ne 5, 3) := by decide +kernel
theorem dX7_colouredCells_8 : decode cX7_colouredCells 8 = .ok (.iconst 0, 1) := by decide +kernel
theorem dX7_colouredCells_9 : decode cX7_colouredCells 9 = .ok (.ireturn, 1) := by decide +kernel
theorem dX7_colouredCells_10 : decode cX7_colouredCells 10 = .ok (.iconst 0, 1) := by decide +kernel
theorem dX7_colouredCells_11 : decode cX7_colouredCells 11 = .ok (.istore_n 1, 1) := by decide +kernel
theorem dX7_colouredCells_12 : decode cX7_colouredCells 12 = .ok (.iconst 0, 1) := by decide +kernel
theorem dX7_colouredCells_13 : decode cX7_colouredCells 13 = .ok (.istore_n 2, 1) := by decide +kernel
theorem dX7_colouredCells_14 : decode cX7_colouredCells 14 = .ok (.iload_n 2, 1) := by decide +kernel
theorem dX7_colouredCells_15 : decode cX7_colouredCells 15 = .ok (.bipush 6, 2) := by decide +kernel
theorem dX7_colouredCells_17 : decode cX7_colouredCells 17 = .ok (.if_icmp .ge 23, 3) := by decide +kernel
theorem dX7_colouredCells_20 : decode cX7_colouredCells 20 = .ok (.aload_n 0, 1) := by decide +kernel
theorem dX7_colouredCells_21 : decode cX7_colouredCells 21 = .ok (.getfield 39, 3) := by decide +kernel
theorem dX7_colouredCells_24 : decode cX7_colouredCells 24 = .ok (.iload_n 2, 1) := by decide +kernel
theorem dX7_colouredCells_25 : decode cX7_colouredCells 25 = .ok (.invokestatic 85, 3) := by decide +kernel
theorem dX7_colouredCells_28 : decode cX7_colouredCells 28 = .ok (.ifCond .eq 6, 3) := by decide +kernel
theorem dX7_colouredCells_31 : decode cX7_colouredCells 31 = .ok (.iinc 1 1, 3) := by decide +kernel
theorem dX7_colouredCells_34 : decode cX7_colouredCells 34 = .ok (.iinc 2 1, 3) := by decide +kernel
theorem dX7_colouredCells_37 : decode cX7_colouredCells 37 = .ok (.goto (-23), 3) := by decide +kernel
theorem dX7_colouredCells_40 : decode cX7_colouredCells 40 = .ok (.iload_n 1, 1) := by decide +kernel
theorem dX7_colouredCells_41 : decode cX7_colouredCells 41 = .ok (.ireturn, 1) := by decide +kernel
theorem dX7_isKind_0 : decode cX7_isKind 0 = .ok (.iload_n 0, 1) := by decide +kernel
theorem dX7_isKind_1 : decode cX7_isKind 1 = .ok (.ifCond .lt 12, 3) := by decide +kernel
theorem dX7_isKind_4 : decode cX7_isKind 4 = .ok (.iload_n 0, 1) := by decide +kernel
theorem dX7_isKind_5 : decode cX7_isKind 5 = .ok (.iconst 5, 1) := by decide +kernel
theorem dX7_isKind_6 : decode cX7_isKind 6 = .ok (.if_icmp .ge 7, 3) := by decide +kernel
theorem dX7_isKind_9 : decode cX7_isKind 9 = .ok (.iconst 1, 1) := by decide +kernel
theorem dX7_isKind_10 : decode cX7_isKind 10 = .ok (.goto 4, 3) := by decide +kernel
theorem dX7_isKind_13 : decode cX7_isKind 13 = .ok (.iconst 0, 1) := by decide +kernel
theorem dX7_isKind_14 : decode cX7_isKind 14 = .ok (.ireturn, 1) := by decide +kernel
set_option maxRecDepth 20000 in
theorem ggX7_newPerson_X0_init : GoodIn wsX7_newPerson wsX0_init := goodIn_r _ [17, 18, 15, 19, 20, 21, 22, 23, 24, 31, 32, 33, 34, 35, 36, 37, 38, 39, 40, 41, 42, 55, 56, 57, 58, 59, 60, 49, 50, 51, 52, 53, 54, 43, 44, 45, 46, 47, 48] (by decide +kernel) (by decide +kernel)
set_option maxRecDepth 20000 in
theorem gX7_newPerson_X0_init_n225 : GoodIn wsX7_newPerson (wsX0_init) := ggX7_newPerson_X0_init
set_option maxRecDepth 20000 in
theorem ggX7_newPerson_X2_init : GoodIn wsX7_newPerson wsX2_init := goodIn_r _ [26, 18, 15, 19, 20, 21, 22, 23, 24, 31, 32, 33, 34, 35, 36, 37, 38, 39, 40, 41, 42, 55, 56, 57, 58, 59, 60, 49, 50, 51, 52, 53, 54, 43, 44, 45, 46, 47, 48] (by decide +kernel) (by decide +kernel)
set_option maxRecDepth 20000 in
theorem gX7_newPerson_X2_init_n228 : GoodIn wsX7_newPerson (wsX2_init) := ggX7_newPerson_X2_init
set_option maxRecDepth 20000 in
theorem ggX7_newPerson_X6_init : GoodIn wsX7_newPerson wsX6_init := goodIn_r _ [28, 18, 15, 19, 20, 21, 22, 23, 24, 31, 32, 33, 34, 35, 36, 37, 38, 39, 40, 41, 42, 55, 56, 57, 58, 59, 60, 49, 50, 51, 52, 53, 54, 43, 44, 45, 46, 47, 48] (by decide +kernel) (by decide +kernel)
set_option maxRecDepth 20000 in
theorem gX7_newPerson_X6_init_n231 : GoodIn wsX7_newPerson (wsX6_init) := ggX7_newPerson_X6_init
set_option maxRecDepth 20000 in
theorem ggX7_newPerson_X5_init : GoodIn wsX7_newPerson wsX5_init := goodIn_r _ [30, 27, 9, 28, 18, 15, 19, 20, 21, 22, 23, 24, 31, 32, 33, 34, 35, 36, 37, 38, 39, 40, 41, 42, 55, 56, 57, 58, 59, 60, 49, 50, 51, 52, 53, 54, 43, 44, 45, 46, 47, 48] (by decide +kernel) (by decide +kernel)
set_option maxRecDepth 20000 in
theorem gX7_newPerson_X5_init_n234 : GoodIn wsX7_newPerson (wsX5_init) := ggX7_newPerson_X5_init
set_option maxRecDepth 20000 in
theorem ggX7_newPerson_X4_init : GoodIn wsX7_newPerson wsX4_init := goodIn_r _ [19, 20, 21, 22, 23, 24, 31, 32, 33, 34, 35, 36, 37, 38, 39, 40, 41, 42, 55, 56, 57, 58, 59, 60, 49, 50, 51, 52, 53, 54, 43, 44, 45, 46, 47, 48] (by decide +kernel) (by decide +kernel)
set_option maxRecDepth 20000 in
theorem gX7_newPerson_X4_init_n235 : GoodIn wsX7_newPerson (wsX4_init) := ggX7_newPerson_X4_init
theorem dX7_newPerson_0 : decode cX7_newPerson 0 = .ok (.iload_n 0, 1) := by decide +kernel
theorem dX7_newPerson_1 : decode cX7_newPerson 1 = .ok (.tableswitch 63 1 4 #[31, 39, 47, 55], 31) := by decide +kernel
theorem dX7_newPerson_32 : decode cX7_newPerson 32 = .ok (.new 223, 3) := by decide +kernel
theorem dX7_newPerson_35 : decode cX7_newPerson 35 = .ok (.dup, 1) := by decide +kernel
theorem dX7_newPerson_36 : decode cX7_newPerson 36 = .ok (.invokespecial 225, 3) := by decide +kernel
theorem dX7_newPerson_39 : decode cX7_newPerson 39 = .ok (.areturn, 1) := by decide +kernel
theorem dX7_newPerson_40 : decode cX7_newPerson 40 = .ok (.new 226, 3) := by decide +kernel
theorem dX7_newPerson_43 : decode cX7_newPerson 43 = .ok (.dup, 1) := by decide +kernel
theorem dX7_newPerson_44 : decode cX7_newPerson 44 = .ok (.invokespecial 228, 3) := by decide +kernel
theorem dX7_newPerson_47 : decode cX7_newPerson 47 = .ok (.areturn, 1) := by decide +kernel
theorem dX7_newPerson_48 : decode cX7_newPerson 48 = .ok (.new 229, 3) := by decide +kernel
theorem dX7_newPerson_51 : decode cX7_newPerson 51 = .ok (.dup, 1) := by decide +kernel
theorem dX7_newPerson_52 : decode cX7_newPerson 52 = .ok (.invokespecial 231, 3) := by decide +kernel
theorem dX7_newPerson_55 : decode cX7_newPerson 55 = .ok (.areturn, 1) := by decide +kernel
theorem dX7_newPerson_56 : decode cX7_newPerson 56 = .ok (.new 232, 3) := by decide +kernel
theorem dX7_newPerson_59 : decode cX7_newPerson 59 = .ok (.dup, 1) := by decide +kernel
theorem dX7_newPerson_60 : decode cX7_newPerson 60 = .ok (.invokespecial 234, 3) := by decide +kernel
theorem dX7_newPerson_63 : decode cX7_newPerson 63 = .ok (.areturn, 1) := by decide +kernel
theorem dX7_newPerson_64 : decode cX7_newPerson 64 = .ok (.new 16, 3) := by decide +kernel
theorem dX7_newPerson_67 : decode cX7_newPerson 67 = .ok (.dup, 1) := by decide +kernel
theorem dX7_newPerson_68 : decode cX7_newPerson 68 = .ok (.invokespecial 235, 3) := by decide +kernel
theorem dX7_newPerson_71 : decode cX7_newPerson 71 = .ok (.areturn, 1) := by decide +kernel
theorem dX7_isOf_0 : decode cX7_isOf 0 = .ok (.iload_n 1, 1) := by decide +kernel
theorem dX7_isOf_1 : decode cX7_isOf 1 = .ok (.tableswitch 51 1 4 #[31, 36, 41, 46], 31) := by decide +kernel
theorem dX7_isOf_32 : decode cX7_isOf 32 = .ok (.aload_n 0, 1) := by decide +kernel
theorem dX7_isOf_33 : decode cX7_isOf 33 = .ok (.instanceof 223, 3) := by decide +kernel
theorem dX7_isOf_36 : decode cX7_isOf 36 = .ok (.ireturn, 1) := by decide +kernel
theorem dX7_isOf_37 : decode cX7_isOf 37 = .ok (.aload_n 0, 1) := by decide +kernel
theorem dX7_isOf_38 : decode cX7_isOf 38 = .ok (.instanceof 226, 3) := by decide +kernel
theorem dX7_isOf_41 : decode cX7_isOf 41 = .ok (.ireturn, 1) := by decide +kernel
theorem dX7_isOf_42 : decode cX7_isOf 42 = .ok (.aload_n 0, 1) := by decide +kernel
theorem dX7_isOf_43 : decode cX7_isOf 43 = .ok (.instanceof 229, 3) := by decide +kernel
theorem dX7_isOf_46 : decode cX7_isOf 46 = .ok (.ireturn, 1) := by decide +kernel
theorem dX7_isOf_47 : decode cX7_isOf 47 = .ok (.aload_n 0, 1) := by decide +kernel
theorem dX7_isOf_48 : decode cX7_isOf 48 = .ok (.instanceof 232, 3) := by decide +kernel
theorem dX7_isOf_51 : decode cX7_isOf 51 = .ok (.ireturn, 1) := by decide +kernel
theorem dX7_isOf_52 : decode cX7_isOf 52 = .ok (.iconst 1, 1) := by decide +kernel
theorem dX7_isOf_53 : decode cX7_isOf 53 = .ok (.ireturn, 1) := by decide +kernel
theorem dX7_known_0 : decode cX7_known 0 = .ok (.iload_n 1, 1) := by decide +kernel
theorem dX7_known_1 : decode cX7_known 1 = .ok (.ifCond .lt 20, 3) := by decide +kernel
theorem dX7_known_4 : decode cX7_known 4 = .ok (.iload_n 1, 1) := by decide +kernel
theorem dX7_known_5 : decode cX7_known 5 = .ok (.aload_n 0, 1) := by decide +kernel
theorem dX7_known_6 : decode cX7_known 6 = .ok (.getfield 67, 3) := by decide +kernel
theorem dX7_known_9 : decode cX7_known 9 = .ok (.if_icmp .ge 12, 3) := by decide +kernel
theorem dX7_known_12 : decode cX7_known 12 = .ok (.aload_n 0, 1) := by decide +kernel
theorem dX7_known_13 : decode cX7_known 13 = .ok (.getfield 18, 3) := by decide +kernel
theorem dX7_known_16 : decode cX7_known 16 = .ok (.iload_n 1, 1) := by decide +kernel
theorem dX7_known_17 : decode cX7_known 17 = .ok (.aaload, 1) := by decide +kernel
theorem dX7_known_18 : decode cX7_known 18 = .ok (.goto 4, 3) := by decide +kernel
theorem dX7_known_21 : decode cX7_known 21 = .ok (.aconst_null, 1) := by decide +kernel
theorem dX7_known_22 : decode cX7_known 22 = .ok (.areturn, 1) := by decide +kernel
theorem dX7_isInk_0 : decode cX7_isInk 0 = .ok (.iload_n 1, 1) := by decide +kernel
theorem dX7_isInk_1 : decode cX7_isInk 1 = .ok (.ifCond .lt 15, 3) := by decide +kernel
theorem dX7_isInk_4 : decode cX7_isInk 4 = .ok (.iload_n 1, 1) := by decide +kernel
theorem dX7_isInk_5 : decode cX7_isInk 5 = .ok (.aload_n 0, 1) := by decide +kernel
theorem dX7_isInk_6 : decode cX7_isInk 6 = .ok (.getfield 70, 3) := by decide +kernel
theorem dX7_isInk_9 : decode cX7_isInk 9 = .ok (.if_icmp .ge 7, 3) := by decide +kernel
theorem dX7_isInk_12 : decode cX7_isInk 12 = .ok (.iconst 1, 1) := by decide +kernel
theorem dX7_isInk_13 : decode cX7_isInk 13 = .ok (.goto 4, 3) := by decide +kernel
theorem dX7_isInk_16 : decode cX7_isInk 16 = .ok (.iconst 0, 1) := by decide +kernel
theorem dX7_isInk_17 : decode cX7_isInk 17 = .ok (.ireturn, 1) := by decide +kernel
set_option maxRecDepth 20000 in
theorem ggX7_toldPeople_X7_known : GoodIn wsX7_toldPeople wsX7_known := goodIn_r _ [7, 1, 8, 9, 10, 11, 12, 13, 14, 15, 16, 17, 18, 19, 20, 21, 22, 23, 24] (by decide +kernel) (by decide +kernel)
set_option maxRecDepth 20000 in
theorem gX7_toldPeople_X7_known : GoodIn wsX7_toldPeople (wsV RX7 113 RX7 yX7_known wsX7_known) := goodIn_app (goodIn_of _ (by decide +kernel)) ggX7_toldPeople_X7_known
theorem dX7_toldPeople_0 : decode cX7_toldPeople 0 = .ok (.iconst 0, 1) := by decide +kernel
theorem dX7_toldPeople_1 : decode cX7_toldPeople 1 = .ok (.istore_n 1, 1) := by decide +kernel
theorem dX7_toldPeople_2 : decode cX7_toldPeople 2 = .ok (.iconst 0, 1) := by decide +kernel
theorem dX7_toldPeople_3 : decode cX7_toldPeople 3 = .ok (.istore_n 2, 1) := by decide +kernel
theorem dX7_toldPeople_4 : decode cX7_toldPeople 4 = .ok (.iload_n 2, 1) := by decide +kernel
theorem dX7_toldPeople_5 : decode cX7_toldPeople 5 = .ok (.aload_n 0, 1) := by decide +kernel
theorem dX7_toldPeople_6 : decode cX7_toldPeople 6 = .ok (.getfield 67, 3) := by decide +kernel
theorem dX7_toldPeople_9 : decode cX7_toldPeople 9 = .ok (.if_icmp .ge 30, 3) := by decide +kernel
theorem dX7_toldPeople_12 : decode cX7_toldPeople 12 = .ok (.aload_n 0, 1) := by decide +kernel
theorem dX7_toldPeople_13 : decode cX7_toldPeople 13 = .ok (.iload_n 2, 1) := by decide +kernel
theorem dX7_toldPeople_14 : decode cX7_toldPeople 14 = .ok (.invokevirtual 113, 3) := by decide +kernel
theorem dX7_toldPeople_17 : decode cX7_toldPeople 17 = .ok (.astore_n 3, 1) := by decide +kernel
theorem dX7_toldPeople_18 : decode cX7_toldPeople 18 = .ok (.aload_n 3, 1) := by decide +kernel
theorem dX7_toldPeople_19 : decode cX7_toldPeople 19 = .ok (.ifnull 14, 3) := by decide +kernel
theorem dX7_toldPeople_22 : decode cX7_toldPeople 22 = .ok (.aload_n 3, 1) := by decide +kernel
theorem dX7_toldPeople_23 : decode cX7_toldPeople 23 = .ok (.getfield 120, 3) := by decide +kernel
theorem dX7_toldPeople_26 : decode cX7_toldPeople 26 = .ok (.iconst (-1), 1) := by decide +kernel
theorem dX7_toldPeople_27 : decode cX7_toldPeople 27 = .ok (.if_icmp .eq 6, 3) := by decide +kernel
theorem dX7_toldPeople_30 : decode cX7_toldPeople 30 = .ok (.iinc 1 1, 3) := by decide +kernel
theorem dX7_toldPeople_33 : decode cX7_toldPeople 33 = .ok (.iinc 2 1, 3) := by decide +kernel
theorem dX7_toldPeople_36 : decode cX7_toldPeople 36 = .ok (.goto (-32), 3) := by decide +kernel
theorem dX7_toldPeople_39 : decode cX7_toldPeople 39 = .ok (.iload_n 1, 1) := by decide +kernel
theorem dX7_toldPeople_40 : decode cX7_toldPeople 40 = .ok (.ireturn, 1) := by decide +kernel
set_option maxRecDepth 20000 in
theorem ggX7_fewestInks_J6_bitCount_0f7a4 : GoodIn wsX7_fewestInks wsJ6_bitCount_0f7a4 := goodIn_r _ [5, 6, 7, 8] (by decide +kernel) (by decide +kernel)
set_option maxRecDepth 20000 in
theorem gX7_fewestInks_J6_bitCount_0f7a4 : GoodIn wsX7_fewestInks (va_wsS RX7 139 yJ6_bitCount_0f7a4 wsJ6_bitCount_0f7a4) := goodIn_app (goodIn_of _ (by decide +kernel)) ggX7_fewestInks_J6_bitCount_0f7a4
set_option maxRecDepth 20000 in
theorem ggX7_fewestInks_X7_suffices : GoodIn wsX7_fewestInks wsX7_suffices := goodIn_r _ [13, 14, 15, 16, 12, 17, 18, 19, 20, 21, 22, 23, 24, 25, 1, 26, 27, 28, 29, 30, 31, 32, 33, 34, 35, 36, 37, 38, 39, 40, 41, 42, 43, 44, 45, 46, 47, 48, 49, 50, 51, 52, 53, 54, 55, 56, 57, 58, 59, 60, 61, 62, 63, 64, 65, 66, 67, 68, 69, 70, 71, 72, 73, 74, 75, 76, 77, 78, 79, 80, 81, 82, 83, 84, 85, 86, 87, 88, 89, 90, 91, 92, 93, 94, 95, 96, 97, 98, 99, 100, 101, 102, 103, 104, 105, 106, 107, 108, 109, 110, 111, 112, 113, 114, 115, 116, 117, 118, 119, 120, 121, 122, 123, 124, 125, 126] (by decide +kernel) (by decide +kernel)
set_option maxRecDepth 20000 in
theorem gX7_fewestInks_X7_suffices : GoodIn wsX7_fewestInks (wsV RX7 236 RX7 yX7_suffices wsX7_suffices) := goodIn_app (goodIn_of _ (by decide +kernel)) ggX7_fewestInks_X7_suffices
theorem dX7_fewestInks_0 : decode cX7_fewestInks 0 = .ok (.iconst 0, 1) := by decide +kernel
theorem dX7_fewestInks_1 : decode cX7_fewestInks 1 = .ok (.istore_n 1, 1) := by decide +kernel
theorem dX7_fewestInks_2 : decode cX7_fewestInks 2 = .ok (.iload_n 1, 1) := by decide +kernel
theorem dX7_fewestInks_3 : decode cX7_fewestInks 3 = .ok (.aload_n 0, 1) := by decide +kernel
theorem dX7_fewestInks_4 : decode cX7_fewestInks 4 = .ok (.getfield 70, 3) := by decide +kernel
theorem dX7_fewestInks_7 : decode cX7_fewestInks 7 = .ok (.if_icmp .gt 45, 3) := by decide +kernel
theorem dX7_fewestInks_10 : decode cX7_fewestInks 10 = .ok (.iconst 0, 1) := by decide +kernel
theorem dX7_fewestInks_11 : decode cX7_fewestInks 11 = .ok (.istore_n 2, 1) := by decide +kernel
theorem dX7_fewestInks_12 : decode cX7_fewestInks 12 = .ok (.iload_n 2, 1) := by decide +kernel
theorem dX7_fewestInks_13 : decode cX7_fewestInks 13 = .ok (.iconst 1, 1) := by decide +kernel
theorem dX7_fewestInks_14 : decode cX7_fewestInks 14 = .ok (.aload_n 0, 1) := by decide +kernel
theorem dX7_fewestInks_15 : decode cX7_fewestInks 15 = .ok (.getfield 70, 3) := by decide +kernel
theorem dX7_fewestInks_18 : decode cX7_fewestInks 18 = .ok (.ishl, 1) := by decide +kernel
theorem dX7_fewestInks_19 : decode cX7_fewestInks 19 = .ok (.if_icmp .ge 27, 3) := by decide +kernel
theorem dX7_fewestInks_22 : decode cX7_fewestInks 22 = .ok (.iload_n 2, 1) := by decide +kernel
theorem dX7_fewestInks_23 : decode cX7_fewestInks 23 = .ok (.invokestatic 139, 3) := by decide +kernel
theorem dX7_fewestInks_26 : decode cX7_fewestInks 26 = .ok (.iload_n 1, 1) := by decide +kernel
theorem dX7_fewestInks_27 : decode cX7_fewestInks 27 = .ok (.if_icmp .ne 13, 3) := by decide +kernel
theorem dX7_fewestInks_30 : decode cX7_fewestInks 30 = .ok (.aload_n 0, 1) := by decide +kernel
theorem dX7_fewestInks_31 : decode cX7_fewestInks 31 = .ok (.iload_n 2, 1) := by decide +kernel
theorem dX7_fewestInks_32 : decode cX7_fewestInks 32 = .ok (.invokevirtual 236, 3) := by decide +kernel
theorem dX7_fewestInks_35 : decode cX7_fewestInks 35 = .ok (.ifCond .eq 5, 3) := by decide +kernel
theorem dX7_fewestInks_38 : decode cX7_fewestInks 38 = .ok (.iload_n 2, 1) := by decide +kernel
theorem dX7_fewestInks_39 : decode cX7_fewestInks 39 = .ok (.ireturn, 1) := by decide +kernel
theorem dX7_fewestInks_40 : decode cX7_fewestInks 40 = .ok (.iinc 2 1, 3) := by decide +kernel
theorem dX7_fewestInks_43 : decode cX7_fewestInks 43 = .ok (.goto (-31), 3) := by decide +kernel
theorem dX7_fewestInks_46 : decode cX7_fewestInks 46 = .ok (.iinc 1 1, 3) := by decide +kernel
theorem dX7_fewestInks_49 : decode cX7_fewestInks 49 = .ok (.goto (-47), 3) := by decide +kernel
theorem dX7_fewestInks_52 : decode cX7_fewestInks 52 = .ok (.iconst (-1), 1) := by decide +kernel
theorem dX7_fewestInks_53 : decode cX7_fewestInks 53 = .ok (.ireturn, 1) := by decide +kernel
set_option maxRecDepth 20000 in
theorem ggX7_suffices_X7_sufficesAt : GoodIn wsX7_suffices wsX7_sufficesAt := goodIn_r _ [5, 6, 7, 8, 4, 9, 10, 11, 12, 13, 14, 15, 16, 17, 18, 19, 20, 21, 22, 23, 24, 25, 26, 27, 28, 29, 30, 31, 32, 33, 34, 35, 36, 37, 38, 39, 40, 41, 42, 43, 44, 45, 46, 47, 48, 49, 50, 51, 52, 53, 54, 55, 56, 57, 58, 59, 60, 61, 62, 63, 64, 65, 66, 67, 68, 69, 70, 71, 72, 73, 74, 75, 76, 77, 78, 79, 80, 81, 82, 83, 84, 85, 86, 87, 88, 89, 90, 91, 92, 93, 94, 95, 96, 97, 98, 99, 100, 101, 102, 103, 104, 105, 106, 107, 108, 109, 110, 111, 112, 113, 114, 115] (by decide +kernel) (by decide +kernel)
set_option maxRecDepth 20000 in
theorem gX7_suffices_X7_sufficesAt : GoodIn wsX7_suffices (wsV RX7 239 RX7 yX7_sufficesAt wsX7_sufficesAt) := goodIn_app (goodIn_of _ (by decide +kernel)) ggX7_suffices_X7_sufficesAt
theorem dX7_suffices_0 : decode cX7_suffices 0 = .ok (.iconst 0, 1) := by decide +kernel
theorem dX7_suffices_1 : decode cX7_suffices 1 = .ok (.istore_n 2, 1) := by decide +kernel
theorem dX7_suffices_2 : decode cX7_suffices 2 = .ok (.iload_n 2, 1) := by decide +kernel
theorem dX7_suffices_3 : decode cX7_suffices 3 = .ok (.bipush 6, 2) := by decide +kernel
theorem dX7_suffices_5 : decode cX7_suffices 5 = .ok (.if_icmp .ge 20, 3) := by decide +kernel
theorem dX7_suffices_8 : decode cX7_suffices 8 = .ok (.aload_n 0, 1) := by decide +kernel
theorem dX7_suffices_9 : decode cX7_suffices 9 = .ok (.iload_n 2, 1) := by decide +kernel
theorem dX7_suffices_10 : decode cX7_suffices 10 = .ok (.iload_n 1, 1) := by decide +kernel
theorem dX7_suffices_11 : decode cX7_suffices 11 = .ok (.invokevirtual 239, 3) := by decide +kernel
theorem dX7_suffices_14 : decode cX7_suffices 14 = .ok (.ifCond .ne 5, 3) := by decide +kernel
theorem dX7_suffices_17 : decode cX7_suffices 17 = .ok (.iconst 0, 1) := by decide +kernel
theorem dX7_suffices_18 : decode cX7_suffices 18 = .ok (.ireturn, 1) := by decide +kernel
theorem dX7_suffices_19 : decode cX7_suffices 19 = .ok (.iinc 2 1, 3) := by decide +kernel
theorem dX7_suffices_22 : decode cX7_suffices 22 = .ok (.goto (-20), 3) := by decide +kernel
theorem dX7_suffices_25 : decode cX7_suffices 25 = .ok (.iconst 1, 1) := by decide +kernel
theorem dX7_suffices_26 : decode cX7_suffices 26 = .ok (.ireturn, 1) := by decide +kernel
set_option maxRecDepth 20000 in
theorem ggX7_sufficesAt_X7_hueAt : GoodIn wsX7_sufficesAt wsX7_hueAt := goodIn_r _ [5] (by decide +kernel) (by decide +kernel)
set_option maxRecDepth 20000 in
theorem gX7_sufficesAt_X7_hueAt : GoodIn wsX7_sufficesAt (va_wsS RX7 85 yX7_hueAt wsX7_hueAt) := goodIn_app (goodIn_of _ (by decide +kernel)) ggX7_sufficesAt_X7_hueAt
set_option maxRecDepth 20000 in
theorem ggX7_sufficesAt_X7_unionOf : GoodIn wsX7_sufficesAt wsX7_unionOf := goodIn_r _ [9, 10, 11, 12, 13, 4, 14, 66, 67, 68, 69, 70, 71, 72, 73, 74, 75, 76, 77, 78, 79, 80, 81] (by decide +kernel) (by decide +kernel)
set_option maxRecDepth 20000 in
theorem gX7_sufficesAt_X7_unionOf : GoodIn wsX7_sufficesAt (wsV RX7 242 RX7 yX7_unionOf wsX7_unionOf) := goodIn_app (goodIn_of _ (by decide +kernel)) ggX7_sufficesAt_X7_unionOf
set_option maxRecDepth 20000 in
theorem ggX7_sufficesAt_X7_isAsTold : GoodIn wsX7_sufficesAt wsX7_isAsTold := goodIn_r _ [18, 19, 20, 21, 22, 23, 4, 24, 25, 26, 27, 28, 29, 30, 31, 32, 33, 34, 35, 36, 37, 38, 39, 40, 41, 42, 43, 44, 45, 46, 47, 48, 49, 50, 51, 52, 53, 54, 55, 56, 57, 58, 59, 60, 61, 62, 63, 64, 65, 2, 3, 5, 66, 67, 68, 69, 70, 71, 72, 73, 74, 75, 76, 77, 78, 79, 80, 81, 82, 83, 84, 85, 86, 87, 88, 89, 90, 91, 92, 93, 94, 95, 96, 97, 98, 99, 100, 101, 102, 103, 104, 105, 106, 107, 108, 109, 110, 111] (by decide +kernel) (by decide +kernel)
set_option maxRecDepth 20000 in
theorem gX7_sufficesAt_X7_isAsTold : GoodIn wsX7_sufficesAt (wsV RX7 245 RX7 yX7_isAsTold wsX7_isAsTold) := goodIn_app (goodIn_of _ (by decide +kernel)) ggX7_sufficesAt_X7_isAsTold
theorem dX7_sufficesAt_0 : decode cX7_sufficesAt 0 = .ok (.iconst 0, 1) := by decide +kernel
theorem dX7_sufficesAt_1 : decode cX7_sufficesAt 1 = .ok (.istore_n 3, 1) := by decide +kernel
theorem dX7_sufficesAt_2 : decode cX7_sufficesAt 2 = .ok (.iload_n 3, 1) := by decide +kernel
theorem dX7_sufficesAt_3 : decode cX7_sufficesAt 3 = .ok (.iload_n 2, 1) := by decide +kernel
theorem dX7_sufficesAt_4 : decode cX7_sufficesAt 4 = .ok (.if_icmp .gt 41, 3) := by decide +kernel
theorem dX7_sufficesAt_7 : decode cX7_sufficesAt 7 = .ok (.iload_n 3, 1) := by decide +kernel
theorem dX7_sufficesAt_8 : decode cX7_sufficesAt 8 = .ok (.iload_n 2, 1) := by decide +kernel
theorem dX7_sufficesAt_9 : decode cX7_sufficesAt 9 = .ok (.iconst (-1), 1) := by decide +kernel
theorem dX7_sufficesAt_10 : decode cX7_sufficesAt 10 = .ok (.ixor, 1) := by decide +kernel
theorem dX7_sufficesAt_11 : decode cX7_sufficesAt 11 = .ok (.iand, 1) := by decide +kernel
theorem dX7_sufficesAt_12 : decode cX7_sufficesAt 12 = .ok (.ifCond .ne 27, 3) := by decide +kernel
theorem dX7_sufficesAt_15 : decode cX7_sufficesAt 15 = .ok (.aload_n 0, 1) := by decide +kernel
theorem dX7_sufficesAt_16 : decode cX7_sufficesAt 16 = .ok (.iload_n 1, 1) := by decide +kernel
theorem dX7_sufficesAt_17 : decode cX7_sufficesAt 17 = .ok (.aload_n 0, 1) := by decide +kernel
theorem dX7_sufficesAt_18 : decode cX7_sufficesAt 18 = .ok (.getfield 39, 3) := by decide +kernel
theorem dX7_sufficesAt_21 : decode cX7_sufficesAt 21 = .ok (.iload_n 1, 1) := by decide +kernel
theorem dX7_sufficesAt_22 : decode cX7_sufficesAt 22 = .ok (.invokestatic 85, 3) := by decide +kernel
theorem dX7_sufficesAt_25 : decode cX7_sufficesAt 25 = .ok (.aload_n 0, 1) := by decide +kernel
theorem dX7_sufficesAt_26 : decode cX7_sufficesAt 26 = .ok (.iload_n 3, 1) := by decide +kernel
theorem dX7_sufficesAt_27 : decode cX7_sufficesAt 27 = .ok (.invokevirtual 242, 3) := by decide +kernel
theorem dX7_sufficesAt_30 : decode cX7_sufficesAt 30 = .ok (.ior, 1) := by decide +kernel
theorem dX7_sufficesAt_31 : decode cX7_sufficesAt 31 = .ok (.invokevirtual 245, 3) := by decide +kernel
theorem dX7_sufficesAt_34 : decode cX7_sufficesAt 34 = .ok (.ifCond .eq 5, 3) := by decide +kernel
theorem dX7_sufficesAt_37 : decode cX7_sufficesAt 37 = .ok (.iconst 1, 1) := by decide +kernel
theorem dX7_sufficesAt_38 : decode cX7_sufficesAt 38 = .ok (.ireturn, 1) := by decide +kernel
theorem dX7_sufficesAt_39 : decode cX7_sufficesAt 39 = .ok (.iinc 3 1, 3) := by decide +kernel
theorem dX7_sufficesAt_42 : decode cX7_sufficesAt 42 = .ok (.goto (-40), 3) := by decide +kernel
theorem dX7_sufficesAt_45 : decode cX7_sufficesAt 45 = .ok (.iconst 0, 1) := by decide +kernel
theorem dX7_sufficesAt_46 : decode cX7_sufficesAt 46 = .ok (.ireturn, 1) := by decide +kernel
set_option maxRecDepth 20000 in
theorem ggX7_isAsTold_X7_known : GoodIn wsX7_isAsTold wsX7_known := goodIn_r _ [7, 1, 8, 52, 53, 54, 55, 56, 57, 58, 59, 60, 61, 62, 63, 64, 65, 66, 67] (by decide +kernel) (by decide +kernel)
set_option maxRecDepth 20000 in
theorem gX7_isAsTold_X7_known : GoodIn wsX7_isAsTold (wsV RX7 113 RX7 yX7_known wsX7_known) := goodIn_app (goodIn_of _ (by decide +kernel)) ggX7_isAsTold_X7_known
set_option maxRecDepth 20000 in
theorem ggX7_isAsTold_X0_glimpse : GoodIn wsX7_isAsTold wsX0_glimpse := goodIn_r _ [15, 16, 17, 18, 19, 68, 69, 70, 71, 72, 73, 74, 75, 76, 77, 78, 79, 80, 81, 82, 83, 84, 85, 86, 87, 88, 89, 90, 91, 92, 93, 94, 95, 96, 97] (by decide +kernel) (by decide +kernel)
set_option maxRecDepth 20000 in
theorem gX7_isAsTold_X0_glimpse_u116X0 : GoodIn wsX7_isAsTold (va_wsO RX7 116 RX0 "EachEye$Person" ⟨"EachEye$Person", "glimpse", "(I)I"⟩ yX0_glimpse wsX0_glimpse) := goodIn_app (goodIn_of _ (by decide +kernel)) ggX7_isAsTold_X0_glimpse
set_option maxRecDepth 20000 in
theorem ggX7_isAsTold_X2_glimpse : GoodIn wsX7_isAsTold wsX2_glimpse := goodIn_r _ [24, 25, 26, 27, 28, 68, 69, 70, 71, 72, 73, 74, 75, 76, 77, 78, 79, 80, 81, 82, 83, 84, 85, 86, 87, 88, 89, 90, 91, 92, 93, 94, 95, 96, 97] (by decide +kernel) (by decide +kernel)
set_option maxRecDepth 20000 in
theorem gX7_isAsTold_X2_glimpse_u116X2 : GoodIn wsX7_isAsTold (va_wsO RX7 116 RX2 "EachEye$Person" ⟨"EachEye$Person", "glimpse", "(I)I"⟩ yX2_glimpse wsX2_glimpse) := goodIn_app (goodIn_of _ (by decide +kernel)) ggX7_isAsTold_X2_glimpse
set_option maxRecDepth 20000 in
theorem ggX7_isAsTold_X4_glimpse : GoodIn wsX7_isAsTold wsX4_glimpse := goodIn_r _ [20, 33, 34, 68, 69, 70, 71, 72, 73, 74, 75, 76, 77, 78, 79, 80, 81, 82, 83, 84, 85, 86, 87, 88, 89, 90, 91, 92, 93, 94, 95, 96, 97] (by decide +kernel) (by decide +kernel)
set_option maxRecDepth 20000 in
theorem gX7_isAsTold_X4_glimpse : GoodIn wsX7_isAsTold (wsV RX7 116 RX4 yX4_glimpse wsX4_glimpse) := goodIn_app (goodIn_of _ (by decide +kernel)) ggX7_isAsTold_X4_glimpse
set_option maxRecDepth 20000 in
theorem ggX7_isAsTold_X5_glimpse : GoodIn wsX7_isAsTold wsX5_glimpse := goodIn_r _ [38, 39, 40, 68, 69, 70, 71, 72, 73, 74, 75, 76, 77, 78, 79, 80, 81, 82, 83, 84, 85, 86, 87, 88, 89, 90, 91, 92, 93, 94, 95, 96, 97] (by decide +kernel) (by decide +kernel)
set_option maxRecDepth 20000 in
theorem gX7_isAsTold_X5_glimpse_u116X5 : GoodIn wsX7_isAsTold (va_wsO RX7 116 RX5 "EachEye$Person" ⟨"EachEye$Person", "glimpse", "(I)I"⟩ yX5_glimpse wsX5_glimpse) := goodIn_app (goodIn_of _ (by decide +kernel)) ggX7_isAsTold_X5_glimpse
set_option maxRecDepth 20000 in
theorem ggX7_isAsTold_X6_glimpse : GoodIn wsX7_isAsTold wsX6_glimpse := goodIn_r _ [44, 45, 46, 47, 48, 68, 69, 70, 71, 72, 73, 74, 75, 76, 77, 78, 79, 80, 81, 82, 83, 84, 85, 86, 87, 88, 89, 90, 91, 92, 93, 94, 95, 96, 97] (by decide +kernel) (by decide +kernel)
set_option maxRecDepth 20000 in
theorem gX7_isAsTold_X6_glimpse_u116X6 : GoodIn wsX7_isAsTold (va_wsO RX7 116 RX6 "EachEye$Person" ⟨"EachEye$Person", "glimpse", "(I)I"⟩ yX6_glimpse wsX6_glimpse) := goodIn_app (goodIn_of _ (by decide +kernel)) ggX7_isAsTold_X6_glimpse
set_option maxRecDepth 20000 in
theorem ggX7_isAsTold_X7_hueAt : GoodIn wsX7_isAsTold wsX7_hueAt := goodIn_r _ [51] (by decide +kernel) (by decide +kernel)
set_option maxRecDepth 20000 in
theorem gX7_isAsTold_X7_hueAt : GoodIn wsX7_isAsTold (va_wsS RX7 85 yX7_hueAt wsX7_hueAt) := goodIn_app (goodIn_of _ (by decide +kernel)) ggX7_isAsTold_X7_hueAt
theorem dX7_isAsTold_0 : decode cX7_isAsTold 0 = .ok (.iconst 0, 1) := by decide +kernel
theorem dX7_isAsTold_1 : decode cX7_isAsTold 1 = .ok (.istore_n 3, 1) := by decide +kernel
theorem dX7_isAsTold_2 : decode cX7_isAsTold 2 = .ok (.iload_n 3, 1) := by decide +kernel
theorem dX7_isAsTold_3 : decode cX7_isAsTold 3 = .ok (.aload_n 0, 1) := by decide +kernel
theorem dX7_isAsTold_4 : decode cX7_isAsTold 4 = .ok (.getfield 67, 3) := by decide +kernel
theorem dX7_isAsTold_7 : decode cX7_isAsTold 7 = .ok (.if_icmp .ge 50, 3) := by decide +kernel
theorem dX7_isAsTold_10 : decode cX7_isAsTold 10 = .ok (.aload_n 0, 1) := by decide +kernel
theorem dX7_isAsTold_11 : decode cX7_isAsTold 11 = .ok (.iload_n 3, 1) := by decide +kernel
theorem dX7_isAsTold_12 : decode cX7_isAsTold 12 = .ok (.invokevirtual 113, 3) := by decide +kernel
theorem dX7_isAsTold_15 : decode cX7_isAsTold 15 = .ok (.astore 4, 2) := by decide +kernel
theorem dX7_isAsTold_17 : decode cX7_isAsTold 17 = .ok (.aload 4, 2) := by decide +kernel
theorem dX7_isAsTold_19 : decode cX7_isAsTold 19 = .ok (.ifnull 32, 3) := by decide +kernel
theorem dX7_isAsTold_22 : decode cX7_isAsTold 22 = .ok (.aload 4, 2) := by decide +kernel
theorem dX7_isAsTold_24 : decode cX7_isAsTold 24 = .ok (.getfield 120, 3) := by decide +kernel
theorem dX7_isAsTold_27 : decode cX7_isAsTold 27 = .ok (.iconst (-1), 1) := by decide +kernel
theorem dX7_isAsTold_28 : decode cX7_isAsTold 28 = .ok (.if_icmp .eq 23, 3) := by decide +kernel
theorem dX7_isAsTold_31 : decode cX7_isAsTold 31 = .ok (.aload 4, 2) := by decide +kernel
theorem dX7_isAsTold_33 : decode cX7_isAsTold 33 = .ok (.iload_n 2, 1) := by decide +kernel
theorem dX7_isAsTold_34 : decode cX7_isAsTold 34 = .ok (.invokevirtual 116, 3) := by decide +kernel
theorem dX7_isAsTold_37 : decode cX7_isAsTold 37 = .ok (.aload 4, 2) := by decide +kernel
theorem dX7_isAsTold_39 : decode cX7_isAsTold 39 = .ok (.getfield 120, 3) := by decide +kernel
theorem dX7_isAsTold_42 : decode cX7_isAsTold 42 = .ok (.iload_n 1, 1) := by decide +kernel
theorem dX7_isAsTold_43 : decode cX7_isAsTold 43 = .ok (.invokestatic 85, 3) := by decide +kernel
theorem dX7_isAsTold_46 : decode cX7_isAsTold 46 = .ok (.if_icmp .eq 5, 3) := by decide +kernel
theorem dX7_isAsTold_49 : decode cX7_isAsTold 49 = .ok (.iconst 0, 1) := by decide +kernel
theorem dX7_isAsTold_50 : decode cX7_isAsTold 50 = .ok (.ireturn, 1) := by decide +kernel
theorem dX7_isAsTold_51 : decode cX7_isAsTold 51 = .ok (.iinc 3 1, 3) := by decide +kernel
theorem dX7_isAsTold_54 : decode cX7_isAsTold 54 = .ok (.goto (-52), 3) := by decide +kernel
theorem dX7_isAsTold_57 : decode cX7_isAsTold 57 = .ok (.iconst 1, 1) := by decide +kernel
theorem dX7_isAsTold_58 : decode cX7_isAsTold 58 = .ok (.ireturn, 1) := by decide +kernel
set_option maxRecDepth 20000 in
theorem ggX7_unionOf_X7_holds : GoodIn wsX7_unionOf wsX7_holds := goodIn_r _ [6] (by decide +kernel) (by decide +kernel)
set_option maxRecDepth 20000 in
theorem gX7_unionOf_X7_holds : GoodIn wsX7_unionOf (va_wsS RX7 93 yX7_holds wsX7_holds) := goodIn_app (goodIn_of _ (by decide +kernel)) ggX7_unionOf_X7_holds
theorem dX7_unionOf_0 : decode cX7_unionOf 0 = .ok (.iconst 0, 1) := by decide +kernel
theorem dX7_unionOf_1 : decode cX7_unionOf 1 = .ok (.istore_n 2, 1) := by decide +kernel
theorem dX7_unionOf_2 : decode cX7_unionOf 2 = .ok (.iconst 0, 1) := by decide +kernel
theorem dX7_unionOf_3 : decode cX7_unionOf 3 = .ok (.istore_n 3, 1) := by decide +kernel
theorem dX7_unionOf_4 : decode cX7_unionOf 4 = .ok (.iload_n 3, 1) := by decide +kernel
theorem dX7_unionOf_5 : decode cX7_unionOf 5 = .ok (.aload_n 0, 1) := by decide +kernel
theorem dX7_unionOf_6 : decode cX7_unionOf 6 = .ok (.getfield 70, 3) := by decide +kernel
theorem dX7_unionOf_9 : decode cX7_unionOf 9 = .ok (.if_icmp .ge 26, 3) := by decide +kernel
theorem dX7_unionOf_12 : decode cX7_unionOf 12 = .ok (.iload_n 1, 1) := by decide +kernel
theorem dX7_unionOf_13 : decode cX7_unionOf 13 = .ok (.iload_n 3, 1) := by decide +kernel
theorem dX7_unionOf_14 : decode cX7_unionOf 14 = .ok (.invokestatic 93, 3) := by decide +kernel
theorem dX7_unionOf_17 : decode cX7_unionOf 17 = .ok (.ifCond .eq 12, 3) := by decide +kernel
theorem dX7_unionOf_20 : decode cX7_unionOf 20 = .ok (.iload_n 2, 1) := by decide +kernel
theorem dX7_unionOf_21 : decode cX7_unionOf 21 = .ok (.aload_n 0, 1) := by decide +kernel
theorem dX7_unionOf_22 : decode cX7_unionOf 22 = .ok (.getfield 22, 3) := by decide +kernel
theorem dX7_unionOf_25 : decode cX7_unionOf 25 = .ok (.iload_n 3, 1) := by decide +kernel
theorem dX7_unionOf_26 : decode cX7_unionOf 26 = .ok (.iaload, 1) := by decide +kernel
theorem dX7_unionOf_27 : decode cX7_unionOf 27 = .ok (.ior, 1) := by decide +kernel
theorem dX7_unionOf_28 : decode cX7_unionOf 28 = .ok (.istore_n 2, 1) := by decide +kernel
theorem dX7_unionOf_29 : decode cX7_unionOf 29 = .ok (.iinc 3 1, 3) := by decide +kernel
theorem dX7_unionOf_32 : decode cX7_unionOf 32 = .ok (.goto (-28), 3) := by decide +kernel
theorem dX7_unionOf_35 : decode cX7_unionOf 35 = .ok (.iload_n 2, 1) := by decide +kernel
theorem dX7_unionOf_36 : decode cX7_unionOf 36 = .ok (.ireturn, 1) := by decide +kernel
set_option maxRecDepth 20000 in
theorem ggX7_trial_X7_isKind : GoodIn wsX7_trial wsX7_isKind := goodIn_r _ [7] (by decide +kernel) (by decide +kernel)
set_option maxRecDepth 20000 in
theorem gX7_trial_X7_isKind : GoodIn wsX7_trial (va_wsS RX7 101 yX7_isKind wsX7_isKind) := goodIn_app (goodIn_of _ (by decide +kernel)) ggX7_trial_X7_isKind
theorem dX7_trial_0 : decode cX7_trial 0 = .ok (.aload_n 0, 1) := by decide +kernel
theorem dX7_trial_1 : decode cX7_trial 1 = .ok (.getfield 33, 3) := by decide +kernel
theorem dX7_trial_4 : decode cX7_trial 4 = .ok (.iload_n 1, 1) := by decide +kernel
theorem dX7_trial_5 : decode cX7_trial 5 = .ok (.invokestatic 101, 3) := by decide +kernel
theorem dX7_trial_8 : decode cX7_trial 8 = .ok (.ifCond .eq 7, 3) := by decide +kernel
theorem dX7_trial_11 : decode cX7_trial 11 = .ok (.iload_n 1, 1) := by decide +kernel
theorem dX7_trial_12 : decode cX7_trial 12 = .ok (.goto 4, 3) := by decide +kernel
theorem dX7_trial_15 : decode cX7_trial 15 = .ok (.iconst 0, 1) := by decide +kernel
theorem dX7_trial_16 : decode cX7_trial 16 = .ok (.aaload, 1) := by decide +kernel
theorem dX7_trial_17 : decode cX7_trial 17 = .ok (.astore 4, 2) := by decide +kernel
theorem dX7_trial_19 : decode cX7_trial 19 = .ok (.aload 4, 2) := by decide +kernel
theorem dX7_trial_21 : decode cX7_trial 21 = .ok (.iload_n 2, 1) := by decide +kernel
theorem dX7_trial_22 : decode cX7_trial 22 = .ok (.putfield 107, 3) := by decide +kernel
theorem dX7_trial_25 : decode cX7_trial 25 = .ok (.aload 4, 2) := by decide +kernel
theorem dX7_trial_27 : decode cX7_trial 27 = .ok (.iload_n 3, 1) := by decide +kernel
theorem dX7_trial_28 : decode cX7_trial 28 = .ok (.putfield 110, 3) := by decide +kernel
theorem dX7_trial_31 : decode cX7_trial 31 = .ok (.aload 4, 2) := by decide +kernel
theorem dX7_trial_33 : decode cX7_trial 33 = .ok (.areturn, 1) := by decide +kernel
set_option maxRecDepth 20000 in
theorem ggX7_candidate_X7_trial : GoodIn wsX7_candidate wsX7_trial := goodIn_r _ [5, 6, 7, 8, 9, 10, 4, 11, 12, 13, 14, 15, 16, 17, 18, 19, 20, 21, 22, 23, 24, 25, 26, 27, 28, 29, 30, 31, 32, 33, 34, 35, 36, 37, 38, 39, 40, 41, 42, 43, 44, 45, 46, 47, 48, 49, 50, 51, 52, 53, 54, 55, 56, 57] (by decide +kernel) (by decide +kernel)
set_option maxRecDepth 20000 in
theorem gX7_candidate_X7_trial : GoodIn wsX7_candidate (wsV RX7 164 RX7 yX7_trial wsX7_trial) := goodIn_app (goodIn_of _ (by decide +kernel)) ggX7_candidate_X7_trial
theorem dX7_candidate_0 : decode cX7_candidate 0 = .ok (.aload_n 0, 1) := by decide +kernel
theorem dX7_candidate_1 : decode cX7_candidate 1 = .ok (.iload_n 1, 1) := by decide +kernel
theorem dX7_candidate_2 : decode cX7_candidate 2 = .ok (.bipush 64, 2) := by decide +kernel
theorem dX7_candidate_4 : decode cX7_candidate 4 = .ok (.idiv, 1) := by decide +kernel
theorem dX7_candidate_5 : decode cX7_candidate 5 = .ok (.iload_n 1, 1) := by decide +kernel
theorem dX7_candidate_6 : decode cX7_candidate 6 = .ok (.bipush 8, 2) := by decide +kernel
theorem dX7_candidate_8 : decode cX7_candidate 8 = .ok (.idiv, 1) := by decide +kernel
theorem dX7_candidate_9 : decode cX7_candidate 9 = .ok (.bipush 8, 2) := by decide +kernel
theorem dX7_candidate_11 : decode cX7_candidate 11 = .ok (.irem, 1) := by decide +kernel
theorem dX7_candidate_12 : decode cX7_candidate 12 = .ok (.iload_n 1, 1) := by decide +kernel
theorem dX7_candidate_13 : decode cX7_candidate 13 = .ok (.bipush 8, 2) := by decide +kernel
theorem dX7_candidate_15 : decode cX7_candidate 15 = .ok (.irem, 1) := by decide +kernel
theorem dX7_candidate_16 : decode cX7_candidate 16 = .ok (.invokevirtual 164, 3) := by decide +kernel
theorem dX7_candidate_19 : decode cX7_candidate 19 = .ok (.areturn, 1) := by decide +kernel
set_option maxRecDepth 20000 in
theorem ggX7_countSayings_X7_candidate : GoodIn wsX7_countSayings wsX7_candidate := goodIn_r _ [7, 8, 9, 10, 6, 11, 12, 13, 14, 15, 16, 17, 71, 72, 73, 74, 75, 76, 77, 78, 79, 80, 81, 82, 83, 84, 85, 86, 87, 88, 89, 90, 91, 92, 93, 94, 95, 96, 97, 98, 99, 100, 101, 102, 103, 104, 105, 106, 107, 108, 109, 110, 111, 112, 113, 114, 115, 116] (by decide +kernel) (by decide +kernel)
set_option maxRecDepth 20000 in
theorem gX7_countSayings_X7_candidate : GoodIn wsX7_countSayings (wsV RX7 151 RX7 yX7_candidate wsX7_candidate) := goodIn_app (goodIn_of _ (by decide +kernel)) ggX7_countSayings_X7_candidate
set_option maxRecDepth 20000 in
theorem ggX7_countSayings_X1_fit : GoodIn wsX7_countSayings wsX1_fit := goodIn_r _ [22, 23, 24, 25, 26, 27, 28, 29, 30, 31, 32, 33, 34, 35, 36, 37, 38, 39, 40, 41, 42, 43, 44, 45, 46, 47, 48, 49, 50, 51, 52, 53, 54, 55, 56, 57, 58, 59, 60, 61, 62, 63, 64, 65, 117, 118, 119, 120, 121, 122, 87, 88, 89, 90, 91, 92, 93, 94, 95, 96, 97, 98, 99, 100, 101, 102, 103, 104, 105, 106, 107, 108, 109, 110, 111, 112, 113, 114, 115, 116] (by decide +kernel) (by decide +kernel)
set_option maxRecDepth 20000 in
theorem gX7_countSayings_X1_fit : GoodIn wsX7_countSayings (wsV RX7 154 RX1 yX1_fit wsX1_fit) := goodIn_app (goodIn_of _ (by decide +kernel)) ggX7_countSayings_X1_fit
set_option maxRecDepth 20000 in
theorem ggX7_countSayings_X0_glimpse : GoodIn wsX7_countSayings wsX0_glimpse := goodIn_r _ [32, 33, 34, 35, 36, 87, 88, 89, 90, 91, 92, 93, 94, 95, 96, 97, 98, 99, 100, 101, 102, 103, 104, 105, 106, 107, 108, 109, 110, 111, 112, 113, 114, 115, 116] (by decide +kernel) (by decide +kernel)
set_option maxRecDepth 20000 in
theorem gX7_countSayings_X0_glimpse_u116X0 : GoodIn wsX7_countSayings (va_wsO RX7 116 RX0 "EachEye$Person" ⟨"EachEye$Person", "glimpse", "(I)I"⟩ yX0_glimpse wsX0_glimpse) := goodIn_app (goodIn_of _ (by decide +kernel)) ggX7_countSayings_X0_glimpse
set_option maxRecDepth 20000 in
theorem ggX7_countSayings_X2_glimpse : GoodIn wsX7_countSayings wsX2_glimpse := goodIn_r _ [41, 42, 43, 44, 45, 87, 88, 89, 90, 91, 92, 93, 94, 95, 96, 97, 98, 99, 100, 101, 102, 103, 104, 105, 106, 107, 108, 109, 110, 111, 112, 113, 114, 115, 116] (by decide +kernel) (by decide +kernel)
set_option maxRecDepth 20000 in
theorem gX7_countSayings_X2_glimpse_u116X2 : GoodIn wsX7_countSayings (va_wsO RX7 116 RX2 "EachEye$Person" ⟨"EachEye$Person", "glimpse", "(I)I"⟩ yX2_glimpse wsX2_glimpse) := goodIn_app (goodIn_of _ (by decide +kernel)) ggX7_countSayings_X2_glimpse
set_option maxRecDepth 20000 in
theorem ggX7_countSayings_X4_glimpse : GoodIn wsX7_countSayings wsX4_glimpse := goodIn_r _ [37, 50, 51, 87, 88, 89, 90, 91, 92, 93, 94, 95, 96, 97, 98, 99, 100, 101, 102, 103, 104, 105, 106, 107, 108, 109, 110, 111, 112, 113, 114, 115, 116] (by decide +kernel) (by decide +kernel)
set_option maxRecDepth 20000 in
theorem gX7_countSayings_X4_glimpse : GoodIn wsX7_countSayings (wsV RX7 116 RX4 yX4_glimpse wsX4_glimpse) := goodIn_app (goodIn_of _ (by decide +kernel)) ggX7_countSayings_X4_glimpse
set_option maxRecDepth 20000 in
theorem ggX7_countSayings_X5_glimpse : GoodIn wsX7_countSayings wsX5_glimpse := goodIn_r _ [55, 56, 57, 87, 88, 89, 90, 91, 92, 93, 94, 95, 96, 97, 98, 99, 100, 101, 102, 103, 104, 105, 106, 107, 108, 109, 110, 111, 112, 113, 114, 115, 116] (by decide +kernel) (by decide +kernel)
set_option maxRecDepth 20000 in
theorem gX7_countSayings_X5_glimpse_u116X5 : GoodIn wsX7_countSayings (va_wsO RX7 116 RX5 "EachEye$Person" ⟨"EachEye$Person", "glimpse", "(I)I"⟩ yX5_glimpse wsX5_glimpse) := goodIn_app (goodIn_of _ (by decide +kernel)) ggX7_countSayings_X5_glimpse
set_option maxRecDepth 20000 in
theorem ggX7_countSayings_X6_glimpse : GoodIn wsX7_countSayings wsX6_glimpse := goodIn_r _ [61, 62, 63, 64, 65, 87, 88, 89, 90, 91, 92, 93, 94, 95, 96, 97, 98, 99, 100, 101, 102, 103, 104, 105, 106, 107, 108, 109, 110, 111, 112, 113, 114, 115, 116] (by decide +kernel) (by decide +kernel)
set_option maxRecDepth 20000 in
theorem gX7_countSayings_X6_glimpse_u116X6 : GoodIn wsX7_countSayings (va_wsO RX7 116 RX6 "EachEye$Person" ⟨"EachEye$Person", "glimpse", "(I)I"⟩ yX6_glimpse wsX6_glimpse) := goodIn_app (goodIn_of _ (by decide +kernel)) ggX7_countSayings_X6_glimpse
set_option maxRecDepth 20000 in
theorem ggX7_countSayings_X7_isHue : GoodIn wsX7_countSayings wsX7_isHue := goodIn_r _ [70] (by decide +kernel) (by decide +kernel)
set_option maxRecDepth 20000 in
theorem gX7_countSayings_X7_isHue : GoodIn wsX7_countSayings (va_wsS RX7 104 yX7_isHue wsX7_isHue) := goodIn_app (goodIn_of _ (by decide +kernel)) ggX7_countSayings_X7_isHue
theorem dX7_countSayings_0 : decode cX7_countSayings 0 = .ok (.iconst 0, 1) := by decide +kernel
theorem dX7_countSayings_1 : decode cX7_countSayings 1 = .ok (.istore_n 1, 1) := by decide +kernel
theorem dX7_countSayings_2 : decode cX7_countSayings 2 = .ok (.iload_n 1, 1) := by decide +kernel
theorem dX7_countSayings_3 : decode cX7_countSayings 3 = .ok (.bipush 64, 2) := by decide +kernel
theorem dX7_countSayings_5 : decode cX7_countSayings 5 = .ok (.if_icmp .ge 16, 3) := by decide +kernel
theorem dX7_countSayings_8 : decode cX7_countSayings 8 = .ok (.aload_n 0, 1) := by decide +kernel
theorem dX7_countSayings_9 : decode cX7_countSayings 9 = .ok (.getfield 36, 3) := by decide +kernel
theorem dX7_countSayings_12 : decode cX7_countSayings 12 = .ok (.iload_n 1, 1) := by decide +kernel
theorem dX7_countSayings_13 : decode cX7_countSayings 13 = .ok (.iconst 0, 1) := by decide +kernel
theorem dX7_countSayings_14 : decode cX7_countSayings 14 = .ok (.iastore, 1) := by decide +kernel
theorem dX7_countSayings_15 : decode cX7_countSayings 15 = .ok (.iinc 1 1, 3) := by decide +kernel
theorem dX7_countSayings_18 : decode cX7_countSayings 18 = .ok (.goto (-16), 3) := by decide +kernel
theorem dX7_countSayings_21 : decode cX7_countSayings 21 = .ok (.iconst 0, 1) := by decide +kernel
theorem dX7_countSayings_22 : decode cX7_countSayings 22 = .ok (.istore_n 1, 1) := by decide +kernel
theorem dX7_countSayings_23 : decode cX7_countSayings 23 = .ok (.iconst 0, 1) := by decide +kernel
theorem dX7_countSayings_24 : decode cX7_countSayings 24 = .ok (.istore_n 2, 1) := by decide +kernel
theorem dX7_countSayings_25 : decode cX7_countSayings 25 = .ok (.iload_n 2, 1) := by decide +kernel
theorem dX7_countSayings_26 : decode cX7_countSayings 26 = .ok (.sipush 320, 3) := by decide +kernel
theorem dX7_countSayings_29 : decode cX7_countSayings 29 = .ok (.if_icmp .ge 78, 3) := by decide +kernel
theorem dX7_countSayings_32 : decode cX7_countSayings 32 = .ok (.aload_n 0, 1) := by decide +kernel
theorem dX7_countSayings_33 : decode cX7_countSayings 33 = .ok (.iload_n 2, 1) := by decide +kernel
theorem dX7_countSayings_34 : decode cX7_countSayings 34 = .ok (.invokevirtual 151, 3) := by decide +kernel
theorem dX7_countSayings_37 : decode cX7_countSayings 37 = .ok (.astore_n 3, 1) := by decide +kernel
theorem dX7_countSayings_38 : decode cX7_countSayings 38 = .ok (.aload_n 0, 1) := by decide +kernel
theorem dX7_countSayings_39 : decode cX7_countSayings 39 = .ok (.getfield 29, 3) := by decide +kernel
theorem dX7_countSayings_42 : decode cX7_countSayings 42 = .ok (.aload_n 3, 1) := by decide +kernel
theorem dX7_countSayings_43 : decode cX7_countSayings 43 = .ok (.invokevirtual 154, 3) := by decide +kernel
theorem dX7_countSayings_46 : decode cX7_countSayings 46 = .ok (.ifCond .eq 55, 3) := by decide +kernel
theorem dX7_countSayings_49 : decode cX7_countSayings 49 = .ok (.iinc 1 1, 3) := by decide +kernel
theorem dX7_countSayings_52 : decode cX7_countSayings 52 = .ok (.iconst 0, 1) := by decide +kernel
theorem dX7_countSayings_53 : decode cX7_countSayings 53 = .ok (.istore 4, 2) := by decide +kernel
theorem dX7_countSayings_55 : decode cX7_countSayings 55 = .ok (.iload 4, 2) := by decide +kernel
theorem dX7_countSayings_57 : decode cX7_countSayings 57 = .ok (.bipush 8, 2) := by decide +kernel
theorem dX7_countSayings_59 : decode cX7_countSayings 59 = .ok (.if_icmp .ge 42, 3) := by decide +kernel
theorem dX7_countSayings_62 : decode cX7_countSayings 62 = .ok (.aload_n 3, 1) := by decide +kernel
theorem dX7_countSayings_63 : decode cX7_countSayings 63 = .ok (.iload 4, 2) := by decide +kernel
theorem dX7_countSayings_65 : decode cX7_countSayings 65 = .ok (.invokevirtual 116, 3) := by decide +kernel
theorem dX7_countSayings_68 : decode cX7_countSayings 68 = .ok (.istore 5, 2) := by decide +kernel
theorem dX7_countSayings_70 : decode cX7_countSayings 70 = .ok (.iload 5, 2) := by decide +kernel
theorem dX7_countSayings_72 : decode cX7_countSayings 72 = .ok (.invokestatic 104, 3) := by decide +kernel
theorem dX7_countSayings_75 : decode cX7_countSayings 75 = .ok (.ifCond .eq 20, 3) := by decide +kernel
theorem dX7_countSayings_78 : decode cX7_countSayings 78 = .ok (.aload_n 0, 1) := by decide +kernel
theorem dX7_countSayings_79 : decode cX7_countSayings 79 = .ok (.getfield 36, 3) := by decide +kernel
theorem dX7_countSayings_82 : decode cX7_countSayings 82 = .ok (.bipush 8, 2) := by decide +kernel
theorem dX7_countSayings_84 : decode cX7_countSayings 84 = .ok (.iload 4, 2) := by decide +kernel
theorem dX7_countSayings_86 : decode cX7_countSayings 86 = .ok (.imul, 1) := by decide +kernel
theorem dX7_countSayings_87 : decode cX7_countSayings 87 = .ok (.iload 5, 2) := by decide +kernel
theorem dX7_countSayings_89 : decode cX7_countSayings 89 = .ok (.iadd, 1) := by decide +kernel
theorem dX7_countSayings_90 : decode cX7_countSayings 90 = .ok (.dup2, 1) := by decide +kernel
theorem dX7_countSayings_91 : decode cX7_countSayings 91 = .ok (.iaload, 1) := by decide +kernel
theorem dX7_countSayings_92 : decode cX7_countSayings 92 = .ok (.iconst 1, 1) := by decide +kernel
theorem dX7_countSayings_93 : decode cX7_countSayings 93 = .ok (.iadd, 1) := by decide +kernel
theorem dX7_countSayings_94 : decode cX7_countSayings 94 = .ok (.iastore, 1) := by decide +kernel
theorem dX7_countSayings_95 : decode cX7_countSayings 95 = .ok (.iinc 4 1, 3) := by decide +kernel
theorem dX7_countSayings_98 : decode cX7_countSayings 98 = .ok (.goto (-43), 3) := by decide +kernel
theorem dX7_countSayings_101 : decode cX7_countSayings 101 = .ok (.iinc 2 1, 3) := by decide +kernel
theorem dX7_countSayings_104 : decode cX7_countSayings 104 = .ok (.goto (-79), 3) := by decide +kernel
theorem dX7_countSayings_107 : decode cX7_countSayings 107 = .ok (.iload_n 1, 1) := by decide +kernel
theorem dX7_countSayings_108 : decode cX7_countSayings 108 = .ok (.ireturn, 1) := by decide +kernel
theorem dX7_worstLeft_0 : decode cX7_worstLeft 0 = .ok (.iconst 0, 1) := by decide +kernel
theorem dX7_worstLeft_1 : decode cX7_worstLeft 1 = .ok (.istore_n 2, 1) := by decide +kernel
theorem dX7_worstLeft_2 : decode cX7_worstLeft 2 = .ok (.iconst 0, 1) := by decide +kernel
theorem dX7_worstLeft_3 : decode cX7_worstLeft 3 = .ok (.istore_n 3, 1) := by decide +kernel
theorem dX7_worstLeft_4 : decode cX7_worstLeft 4 = .ok (.iload_n 3, 1) := by decide +kernel
theorem dX7_worstLeft_5 : decode cX7_worstLeft 5 = .ok (.bipush 8, 2) := by decide +kernel
theorem dX7_worstLeft_7 : decode cX7_worstLeft 7 = .ok (.if_icmp .ge 25, 3) := by decide +kernel
theorem dX7_worstLeft_10 : decode cX7_worstLeft 10 = .ok (.iload_n 2, 1) := by decide +kernel
theorem dX7_worstLeft_11 : decode cX7_worstLeft 11 = .ok (.aload_n 0, 1) := by decide +kernel
theorem dX7_worstLeft_12 : decode cX7_worstLeft 12 = .ok (.getfield 36, 3) := by decide +kernel
theorem dX7_worstLeft_15 : decode cX7_worstLeft 15 = .ok (.bipush 8, 2) := by decide +kernel
theorem dX7_worstLeft_17 : decode cX7_worstLeft 17 = .ok (.iload_n 1, 1) := by decide +kernel
theorem dX7_worstLeft_18 : decode cX7_worstLeft 18 = .ok (.imul, 1) := by decide +kernel
theorem dX7_worstLeft_19 : decode cX7_worstLeft 19 = .ok (.iload_n 3, 1) := by decide +kernel
theorem dX7_worstLeft_20 : decode cX7_worstLeft 20 = .ok (.iadd, 1) := by decide +kernel
theorem dX7_worstLeft_21 : decode cX7_worstLeft 21 = .ok (.iaload, 1) := by decide +kernel
theorem dX7_worstLeft_22 : decode cX7_worstLeft 22 = .ok (.invokestatic 248, 3) := by decide +kernel
theorem dX7_worstLeft_25 : decode cX7_worstLeft 25 = .ok (.istore_n 2, 1) := by decide +kernel
theorem dX7_worstLeft_26 : decode cX7_worstLeft 26 = .ok (.iinc 3 1, 3) := by decide +kernel
theorem dX7_worstLeft_29 : decode cX7_worstLeft 29 = .ok (.goto (-25), 3) := by decide +kernel
theorem dX7_worstLeft_32 : decode cX7_worstLeft 32 = .ok (.iload_n 2, 1) := by decide +kernel
theorem dX7_worstLeft_33 : decode cX7_worstLeft 33 = .ok (.ireturn, 1) := by decide +kernel
theorem dX7_nextSeed_0 : decode cX7_nextSeed 0 = .ok (.ldc2_w 253, 3) := by decide +kernel
theorem dX7_nextSeed_3 : decode cX7_nextSeed 3 = .ok (.iload_n 0, 1) := by decide +kernel
theorem dX7_nextSeed_4 : decode cX7_nextSeed 4 = .ok (.i2l, 1) := by decide +kernel
theorem dX7_nextSeed_5 : decode cX7_nextSeed 5 = .ok (.lmul, 1) := by decide +kernel
theorem dX7_nextSeed_6 : decode cX7_nextSeed 6 = .ok (.ldc2_w 255, 3) := by decide +kernel
theorem dX7_nextSeed_9 : decode cX7_nextSeed 9 = .ok (.ladd, 1) := by decide +kernel
theorem dX7_nextSeed_10 : decode cX7_nextSeed 10 = .ok (.ldc2_w 257, 3) := by decide +kernel
theorem dX7_nextSeed_13 : decode cX7_nextSeed 13 = .ok (.land, 1) := by decide +kernel
theorem dX7_nextSeed_14 : decode cX7_nextSeed 14 = .ok (.l2i, 1) := by decide +kernel
theorem dX7_nextSeed_15 : decode cX7_nextSeed 15 = .ok (.ireturn, 1) := by decide +kernel
theorem dX7_drawn_0 : decode cX7_drawn 0 = .ok (.iload_n 0, 1) := by decide +kernel
theorem dX7_drawn_1 : decode cX7_drawn 1 = .ok (.bipush 16, 2) := by decide +kernel
theorem dX7_drawn_3 : decode cX7_drawn 3 = .ok (.ishr, 1) := by decide +kernel
theorem dX7_drawn_4 : decode cX7_drawn 4 = .ok (.iload_n 1, 1) := by decide +kernel
theorem dX7_drawn_5 : decode cX7_drawn 5 = .ok (.iconst 1, 1) := by decide +kernel
theorem dX7_drawn_6 : decode cX7_drawn 6 = .ok (.isub, 1) := by decide +kernel
theorem dX7_drawn_7 : decode cX7_drawn 7 = .ok (.iand, 1) := by decide +kernel
theorem dX7_drawn_8 : decode cX7_drawn 8 = .ok (.ireturn, 1) := by decide +kernel
