theorem dX8_who_35 : decode cX8_who 35 = .ok (.iconst 0, 1) := by decide +kernel
theorem dX8_who_36 : decode cX8_who 36 = .ok (.istore_n 2, 1) := by decide +kernel
theorem dX8_who_37 : decode cX8_who 37 = .ok (.iconst (-1), 1) := by decide +kernel
theorem dX8_who_38 : decode cX8_who 38 = .ok (.istore_n 3, 1) := by decide +kernel
theorem dX8_who_39 : decode cX8_who 39 = .ok (.sipush 319, 3) := by decide +kernel
theorem dX8_who_42 : decode cX8_who 42 = .ok (.istore 4, 2) := by decide +kernel
theorem dX8_who_44 : decode cX8_who 44 = .ok (.iload 4, 2) := by decide +kernel
theorem dX8_who_46 : decode cX8_who 46 = .ok (.ifCond .lt 24, 3) := by decide +kernel
theorem dX8_who_49 : decode cX8_who 49 = .ok (.aload_n 0, 1) := by decide +kernel
theorem dX8_who_50 : decode cX8_who 50 = .ok (.iload 4, 2) := by decide +kernel
theorem dX8_who_52 : decode cX8_who 52 = .ok (.invokevirtual 161, 3) := by decide +kernel
theorem dX8_who_55 : decode cX8_who 55 = .ok (.ifCond .eq 9, 3) := by decide +kernel
theorem dX8_who_58 : decode cX8_who 58 = .ok (.iinc 2 1, 3) := by decide +kernel
theorem dX8_who_61 : decode cX8_who 61 = .ok (.iload 4, 2) := by decide +kernel
theorem dX8_who_63 : decode cX8_who 63 = .ok (.istore_n 3, 1) := by decide +kernel
theorem dX8_who_64 : decode cX8_who 64 = .ok (.iinc 4 (-1), 3) := by decide +kernel
theorem dX8_who_67 : decode cX8_who 67 = .ok (.goto (-23), 3) := by decide +kernel
theorem dX8_who_70 : decode cX8_who 70 = .ok (.iload_n 1, 1) := by decide +kernel
theorem dX8_who_71 : decode cX8_who 71 = .ok (.ifCond .ne 7, 3) := by decide +kernel
theorem dX8_who_74 : decode cX8_who 74 = .ok (.iload_n 2, 1) := by decide +kernel
theorem dX8_who_75 : decode cX8_who 75 = .ok (.goto 4, 3) := by decide +kernel
theorem dX8_who_78 : decode cX8_who 78 = .ok (.iload_n 3, 1) := by decide +kernel
theorem dX8_who_79 : decode cX8_who 79 = .ok (.ireturn, 1) := by decide +kernel
set_option maxRecDepth 20000 in
theorem ggX8_next_X8_seenByCode : GoodIn wsX8_next wsX8_seenByCode := goodIn_r _ [6, 7, 8, 5, 9] (by decide +kernel) (by decide +kernel)
set_option maxRecDepth 20000 in
theorem gX8_next_X8_seenByCode : GoodIn wsX8_next (va_wsS RX8 155 yX8_seenByCode wsX8_seenByCode) := goodIn_app (goodIn_of _ (by decide +kernel)) ggX8_next_X8_seenByCode
set_option maxRecDepth 20000 in
theorem ggX8_next_X8_isSo : GoodIn wsX8_next wsX8_isSo := goodIn_r _ [13, 14, 15, 3, 4, 5, 6, 7, 8, 9, 16, 17, 18, 19, 20, 21, 22, 23, 24, 25, 26, 27, 28, 29, 30, 31, 32, 33, 34, 35, 36, 37, 38, 39, 40] (by decide +kernel) (by decide +kernel)
set_option maxRecDepth 20000 in
theorem gX8_next_X8_isSo : GoodIn wsX8_next (wsV RX8 161 RX8 yX8_isSo wsX8_isSo) := goodIn_app (goodIn_of _ (by decide +kernel)) ggX8_next_X8_isSo
theorem dX8_next_0 : decode cX8_next 0 = .ok (.aload_n 0, 1) := by decide +kernel
theorem dX8_next_1 : decode cX8_next 1 = .ok (.getfield 158, 3) := by decide +kernel
theorem dX8_next_4 : decode cX8_next 4 = .ok (.bipush 60, 2) := by decide +kernel
theorem dX8_next_6 : decode cX8_next 6 = .ok (.if_icmp .ne 6, 3) := by decide +kernel
theorem dX8_next_9 : decode cX8_next 9 = .ok (.bipush (-103), 2) := by decide +kernel
theorem dX8_next_11 : decode cX8_next 11 = .ok (.ireturn, 1) := by decide +kernel
theorem dX8_next_12 : decode cX8_next 12 = .ok (.aload_n 0, 1) := by decide +kernel
theorem dX8_next_13 : decode cX8_next 13 = .ok (.dup, 1) := by decide +kernel
theorem dX8_next_14 : decode cX8_next 14 = .ok (.getfield 158, 3) := by decide +kernel
theorem dX8_next_17 : decode cX8_next 17 = .ok (.iconst 1, 1) := by decide +kernel
theorem dX8_next_18 : decode cX8_next 18 = .ok (.iadd, 1) := by decide +kernel
theorem dX8_next_19 : decode cX8_next 19 = .ok (.putfield 158, 3) := by decide +kernel
theorem dX8_next_22 : decode cX8_next 22 = .ok (.iconst (-1), 1) := by decide +kernel
theorem dX8_next_23 : decode cX8_next 23 = .ok (.istore_n 1, 1) := by decide +kernel
theorem dX8_next_24 : decode cX8_next 24 = .ok (.sipush 321, 3) := by decide +kernel
theorem dX8_next_27 : decode cX8_next 27 = .ok (.istore_n 2, 1) := by decide +kernel
theorem dX8_next_28 : decode cX8_next 28 = .ok (.iconst 0, 1) := by decide +kernel
theorem dX8_next_29 : decode cX8_next 29 = .ok (.istore_n 3, 1) := by decide +kernel
theorem dX8_next_30 : decode cX8_next 30 = .ok (.iload_n 3, 1) := by decide +kernel
theorem dX8_next_31 : decode cX8_next 31 = .ok (.bipush 8, 2) := by decide +kernel
theorem dX8_next_33 : decode cX8_next 33 = .ok (.if_icmp .ge 153, 3) := by decide +kernel
theorem dX8_next_36 : decode cX8_next 36 = .ok (.iconst 0, 1) := by decide +kernel
theorem dX8_next_37 : decode cX8_next 37 = .ok (.istore 4, 2) := by decide +kernel
theorem dX8_next_39 : decode cX8_next 39 = .ok (.iload 4, 2) := by decide +kernel
theorem dX8_next_41 : decode cX8_next 41 = .ok (.bipush 8, 2) := by decide +kernel
theorem dX8_next_43 : decode cX8_next 43 = .ok (.if_icmp .ge 17, 3) := by decide +kernel
theorem dX8_next_46 : decode cX8_next 46 = .ok (.aload_n 0, 1) := by decide +kernel
theorem dX8_next_47 : decode cX8_next 47 = .ok (.getfield 25, 3) := by decide +kernel
theorem dX8_next_50 : decode cX8_next 50 = .ok (.iload 4, 2) := by decide +kernel
theorem dX8_next_52 : decode cX8_next 52 = .ok (.iconst 0, 1) := by decide +kernel
theorem dX8_next_53 : decode cX8_next 53 = .ok (.iastore, 1) := by decide +kernel
theorem dX8_next_54 : decode cX8_next 54 = .ok (.iinc 4 1, 3) := by decide +kernel
theorem dX8_next_57 : decode cX8_next 57 = .ok (.goto (-18), 3) := by decide +kernel
theorem dX8_next_60 : decode cX8_next 60 = .ok (.iconst 0, 1) := by decide +kernel
theorem dX8_next_61 : decode cX8_next 61 = .ok (.istore 4, 2) := by decide +kernel
theorem dX8_next_63 : decode cX8_next 63 = .ok (.iload 4, 2) := by decide +kernel
theorem dX8_next_65 : decode cX8_next 65 = .ok (.sipush 320, 3) := by decide +kernel
theorem dX8_next_68 : decode cX8_next 68 = .ok (.if_icmp .ge 37, 3) := by decide +kernel
theorem dX8_next_71 : decode cX8_next 71 = .ok (.aload_n 0, 1) := by decide +kernel
theorem dX8_next_72 : decode cX8_next 72 = .ok (.getfield 25, 3) := by decide +kernel
theorem dX8_next_75 : decode cX8_next 75 = .ok (.iload 4, 2) := by decide +kernel
theorem dX8_next_77 : decode cX8_next 77 = .ok (.iload_n 3, 1) := by decide +kernel
theorem dX8_next_78 : decode cX8_next 78 = .ok (.invokestatic 155, 3) := by decide +kernel
theorem dX8_next_81 : decode cX8_next 81 = .ok (.dup2, 1) := by decide +kernel
theorem dX8_next_82 : decode cX8_next 82 = .ok (.iaload, 1) := by decide +kernel
theorem dX8_next_83 : decode cX8_next 83 = .ok (.aload_n 0, 1) := by decide +kernel
theorem dX8_next_84 : decode cX8_next 84 = .ok (.iload 4, 2) := by decide +kernel
theorem dX8_next_86 : decode cX8_next 86 = .ok (.invokevirtual 161, 3) := by decide +kernel
theorem dX8_next_89 : decode cX8_next 89 = .ok (.ifCond .eq 7, 3) := by decide +kernel
theorem dX8_next_92 : decode cX8_next 92 = .ok (.iconst 1, 1) := by decide +kernel
theorem dX8_next_93 : decode cX8_next 93 = .ok (.goto 4, 3) := by decide +kernel
theorem dX8_next_96 : decode cX8_next 96 = .ok (.iconst 0, 1) := by decide +kernel
theorem dX8_next_97 : decode cX8_next 97 = .ok (.iadd, 1) := by decide +kernel
theorem dX8_next_98 : decode cX8_next 98 = .ok (.iastore, 1) := by decide +kernel
theorem dX8_next_99 : decode cX8_next 99 = .ok (.iinc 4 1, 3) := by decide +kernel
theorem dX8_next_102 : decode cX8_next 102 = .ok (.goto (-39), 3) := by decide +kernel
theorem dX8_next_105 : decode cX8_next 105 = .ok (.iconst 0, 1) := by decide +kernel
theorem dX8_next_106 : decode cX8_next 106 = .ok (.istore 4, 2) := by decide +kernel
theorem dX8_next_108 : decode cX8_next 108 = .ok (.iconst 0, 1) := by decide +kernel
theorem dX8_next_109 : decode cX8_next 109 = .ok (.istore 5, 2) := by decide +kernel
theorem dX8_next_111 : decode cX8_next 111 = .ok (.iload 5, 2) := by decide +kernel
theorem dX8_next_113 : decode cX8_next 113 = .ok (.bipush 8, 2) := by decide +kernel
theorem dX8_next_115 : decode cX8_next 115 = .ok (.if_icmp .ge 35, 3) := by decide +kernel
theorem dX8_next_118 : decode cX8_next 118 = .ok (.aload_n 0, 1) := by decide +kernel
theorem dX8_next_119 : decode cX8_next 119 = .ok (.getfield 25, 3) := by decide +kernel
theorem dX8_next_122 : decode cX8_next 122 = .ok (.iload 5, 2) := by decide +kernel
theorem dX8_next_124 : decode cX8_next 124 = .ok (.iaload, 1) := by decide +kernel
theorem dX8_next_125 : decode cX8_next 125 = .ok (.iload 4, 2) := by decide +kernel
theorem dX8_next_127 : decode cX8_next 127 = .ok (.if_icmp .le 13, 3) := by decide +kernel
theorem dX8_next_130 : decode cX8_next 130 = .ok (.aload_n 0, 1) := by decide +kernel
theorem dX8_next_131 : decode cX8_next 131 = .ok (.getfield 25, 3) := by decide +kernel
theorem dX8_next_134 : decode cX8_next 134 = .ok (.iload 5, 2) := by decide +kernel
theorem dX8_next_136 : decode cX8_next 136 = .ok (.iaload, 1) := by decide +kernel
theorem dX8_next_137 : decode cX8_next 137 = .ok (.goto 5, 3) := by decide +kernel
theorem dX8_next_140 : decode cX8_next 140 = .ok (.iload 4, 2) := by decide +kernel
theorem dX8_next_142 : decode cX8_next 142 = .ok (.istore 4, 2) := by decide +kernel
theorem dX8_next_144 : decode cX8_next 144 = .ok (.iinc 5 1, 3) := by decide +kernel
theorem dX8_next_147 : decode cX8_next 147 = .ok (.goto (-36), 3) := by decide +kernel
theorem dX8_next_150 : decode cX8_next 150 = .ok (.iload 4, 2) := by decide +kernel
theorem dX8_next_152 : decode cX8_next 152 = .ok (.ifCond .le 13, 3) := by decide +kernel
theorem dX8_next_155 : decode cX8_next 155 = .ok (.iload 4, 2) := by decide +kernel
theorem dX8_next_157 : decode cX8_next 157 = .ok (.iload_n 2, 1) := by decide +kernel
theorem dX8_next_158 : decode cX8_next 158 = .ok (.if_icmp .ge 7, 3) := by decide +kernel
theorem dX8_next_161 : decode cX8_next 161 = .ok (.iload_n 3, 1) := by decide +kernel
theorem dX8_next_162 : decode cX8_next 162 = .ok (.goto 4, 3) := by decide +kernel
theorem dX8_next_165 : decode cX8_next 165 = .ok (.iload_n 1, 1) := by decide +kernel
theorem dX8_next_166 : decode cX8_next 166 = .ok (.istore_n 1, 1) := by decide +kernel
theorem dX8_next_167 : decode cX8_next 167 = .ok (.iload 4, 2) := by decide +kernel
theorem dX8_next_169 : decode cX8_next 169 = .ok (.iload_n 2, 1) := by decide +kernel
theorem dX8_next_170 : decode cX8_next 170 = .ok (.if_icmp .ge 8, 3) := by decide +kernel
theorem dX8_next_173 : decode cX8_next 173 = .ok (.iload 4, 2) := by decide +kernel
theorem dX8_next_175 : decode cX8_next 175 = .ok (.goto 4, 3) := by decide +kernel
theorem dX8_next_178 : decode cX8_next 178 = .ok (.iload_n 2, 1) := by decide +kernel
theorem dX8_next_179 : decode cX8_next 179 = .ok (.istore_n 2, 1) := by decide +kernel
theorem dX8_next_180 : decode cX8_next 180 = .ok (.iinc 3 1, 3) := by decide +kernel
theorem dX8_next_183 : decode cX8_next 183 = .ok (.goto (-153), 3) := by decide +kernel
theorem dX8_next_186 : decode cX8_next 186 = .ok (.iload_n 1, 1) := by decide +kernel
theorem dX8_next_187 : decode cX8_next 187 = .ok (.ireturn, 1) := by decide +kernel
theorem dX8_draw_0 : decode cX8_draw 0 = .ok (.aload_n 0, 1) := by decide +kernel
theorem dX8_draw_1 : decode cX8_draw 1 = .ok (.ldc2_w 164, 3) := by decide +kernel
theorem dX8_draw_4 : decode cX8_draw 4 = .ok (.aload_n 0, 1) := by decide +kernel
theorem dX8_draw_5 : decode cX8_draw 5 = .ok (.getfield 166, 3) := by decide +kernel
theorem dX8_draw_8 : decode cX8_draw 8 = .ok (.i2l, 1) := by decide +kernel
theorem dX8_draw_9 : decode cX8_draw 9 = .ok (.lmul, 1) := by decide +kernel
theorem dX8_draw_10 : decode cX8_draw 10 = .ok (.ldc2_w 169, 3) := by decide +kernel
theorem dX8_draw_13 : decode cX8_draw 13 = .ok (.ladd, 1) := by decide +kernel
theorem dX8_draw_14 : decode cX8_draw 14 = .ok (.ldc2_w 171, 3) := by decide +kernel
theorem dX8_draw_17 : decode cX8_draw 17 = .ok (.land, 1) := by decide +kernel
theorem dX8_draw_18 : decode cX8_draw 18 = .ok (.l2i, 1) := by decide +kernel
theorem dX8_draw_19 : decode cX8_draw 19 = .ok (.putfield 166, 3) := by decide +kernel
theorem dX8_draw_22 : decode cX8_draw 22 = .ok (.aload_n 0, 1) := by decide +kernel
theorem dX8_draw_23 : decode cX8_draw 23 = .ok (.getfield 166, 3) := by decide +kernel
theorem dX8_draw_26 : decode cX8_draw 26 = .ok (.ldc 173, 2) := by decide +kernel
theorem dX8_draw_28 : decode cX8_draw 28 = .ok (.idiv, 1) := by decide +kernel
theorem dX8_draw_29 : decode cX8_draw 29 = .ok (.iload_n 1, 1) := by decide +kernel
theorem dX8_draw_30 : decode cX8_draw 30 = .ok (.irem, 1) := by decide +kernel
theorem dX8_draw_31 : decode cX8_draw 31 = .ok (.ireturn, 1) := by decide +kernel
theorem dX8_parts_0 : decode cX8_parts 0 = .ok (.iload_n 0, 1) := by decide +kernel
theorem dX8_parts_1 : decode cX8_parts 1 = .ok (.iconst 1, 1) := by decide +kernel
theorem dX8_parts_2 : decode cX8_parts 2 = .ok (.iand, 1) := by decide +kernel
theorem dX8_parts_3 : decode cX8_parts 3 = .ok (.iload_n 0, 1) := by decide +kernel
theorem dX8_parts_4 : decode cX8_parts 4 = .ok (.iconst 1, 1) := by decide +kernel
theorem dX8_parts_5 : decode cX8_parts 5 = .ok (.ishr, 1) := by decide +kernel
theorem dX8_parts_6 : decode cX8_parts 6 = .ok (.iconst 1, 1) := by decide +kernel
theorem dX8_parts_7 : decode cX8_parts 7 = .ok (.iand, 1) := by decide +kernel
theorem dX8_parts_8 : decode cX8_parts 8 = .ok (.iadd, 1) := by decide +kernel
theorem dX8_parts_9 : decode cX8_parts 9 = .ok (.iload_n 0, 1) := by decide +kernel
theorem dX8_parts_10 : decode cX8_parts 10 = .ok (.iconst 2, 1) := by decide +kernel
theorem dX8_parts_11 : decode cX8_parts 11 = .ok (.ishr, 1) := by decide +kernel
theorem dX8_parts_12 : decode cX8_parts 12 = .ok (.iconst 1, 1) := by decide +kernel
theorem dX8_parts_13 : decode cX8_parts 13 = .ok (.iand, 1) := by decide +kernel
theorem dX8_parts_14 : decode cX8_parts 14 = .ok (.iadd, 1) := by decide +kernel
theorem dX8_parts_15 : decode cX8_parts 15 = .ok (.ireturn, 1) := by decide +kernel
set_option maxRecDepth 20000 in
theorem ggX8_readsAlike_X8_seenBy : GoodIn wsX8_readsAlike wsX8_seenBy := goodIn_r _ [6] (by decide +kernel) (by decide +kernel)
set_option maxRecDepth 20000 in
theorem gX8_readsAlike_X8_seenBy : GoodIn wsX8_readsAlike (va_wsS RX8 97 yX8_seenBy wsX8_seenBy) := goodIn_app (goodIn_of _ (by decide +kernel)) ggX8_readsAlike_X8_seenBy
set_option maxRecDepth 20000 in
theorem ggX8_readsAlike_X8_seesOf : GoodIn wsX8_readsAlike wsX8_seesOf := goodIn_r _ [10, 1, 3, 4, 5, 6, 11, 12, 13, 14, 15, 16, 17, 18, 19, 20, 21, 22, 23, 24, 25, 26, 27, 28, 29, 30, 31, 32, 33, 34, 35] (by decide +kernel) (by decide +kernel)
set_option maxRecDepth 20000 in
theorem gX8_readsAlike_X8_seesOf : GoodIn wsX8_readsAlike (wsV RX8 106 RX8 yX8_seesOf wsX8_seesOf) := goodIn_app (goodIn_of _ (by decide +kernel)) ggX8_readsAlike_X8_seesOf
theorem dX8_readsAlike_0 : decode cX8_readsAlike 0 = .ok (.iconst 1, 1) := by decide +kernel
theorem dX8_readsAlike_1 : decode cX8_readsAlike 1 = .ok (.istore 4, 2) := by decide +kernel
theorem dX8_readsAlike_3 : decode cX8_readsAlike 3 = .ok (.iconst 0, 1) := by decide +kernel
theorem dX8_readsAlike_4 : decode cX8_readsAlike 4 = .ok (.istore 5, 2) := by decide +kernel
theorem dX8_readsAlike_6 : decode cX8_readsAlike 6 = .ok (.iload 5, 2) := by decide +kernel
theorem dX8_readsAlike_8 : decode cX8_readsAlike 8 = .ok (.bipush 6, 2) := by decide +kernel
theorem dX8_readsAlike_10 : decode cX8_readsAlike 10 = .ok (.if_icmp .ge 57, 3) := by decide +kernel
theorem dX8_readsAlike_13 : decode cX8_readsAlike 13 = .ok (.iload 4, 2) := by decide +kernel
theorem dX8_readsAlike_15 : decode cX8_readsAlike 15 = .ok (.ifCond .eq 43, 3) := by decide +kernel
theorem dX8_readsAlike_18 : decode cX8_readsAlike 18 = .ok (.aload_n 0, 1) := by decide +kernel
theorem dX8_readsAlike_19 : decode cX8_readsAlike 19 = .ok (.getfield 16, 3) := by decide +kernel
theorem dX8_readsAlike_22 : decode cX8_readsAlike 22 = .ok (.bipush 10, 2) := by decide +kernel
theorem dX8_readsAlike_24 : decode cX8_readsAlike 24 = .ok (.iload_n 1, 1) := by decide +kernel
theorem dX8_readsAlike_25 : decode cX8_readsAlike 25 = .ok (.imul, 1) := by decide +kernel
theorem dX8_readsAlike_26 : decode cX8_readsAlike 26 = .ok (.iaload, 1) := by decide +kernel
theorem dX8_readsAlike_27 : decode cX8_readsAlike 27 = .ok (.iload_n 2, 1) := by decide +kernel
theorem dX8_readsAlike_28 : decode cX8_readsAlike 28 = .ok (.iload_n 3, 1) := by decide +kernel
theorem dX8_readsAlike_29 : decode cX8_readsAlike 29 = .ok (.aload_n 0, 1) := by decide +kernel
theorem dX8_readsAlike_30 : decode cX8_readsAlike 30 = .ok (.getfield 13, 3) := by decide +kernel
theorem dX8_readsAlike_33 : decode cX8_readsAlike 33 = .ok (.iload 5, 2) := by decide +kernel
theorem dX8_readsAlike_35 : decode cX8_readsAlike 35 = .ok (.iaload, 1) := by decide +kernel
theorem dX8_readsAlike_36 : decode cX8_readsAlike 36 = .ok (.invokestatic 97, 3) := by decide +kernel
theorem dX8_readsAlike_39 : decode cX8_readsAlike 39 = .ok (.aload_n 0, 1) := by decide +kernel
theorem dX8_readsAlike_40 : decode cX8_readsAlike 40 = .ok (.iload_n 1, 1) := by decide +kernel
theorem dX8_readsAlike_41 : decode cX8_readsAlike 41 = .ok (.aload_n 0, 1) := by decide +kernel
theorem dX8_readsAlike_42 : decode cX8_readsAlike 42 = .ok (.getfield 13, 3) := by decide +kernel
theorem dX8_readsAlike_45 : decode cX8_readsAlike 45 = .ok (.iload 5, 2) := by decide +kernel
theorem dX8_readsAlike_47 : decode cX8_readsAlike 47 = .ok (.iaload, 1) := by decide +kernel
theorem dX8_readsAlike_48 : decode cX8_readsAlike 48 = .ok (.invokevirtual 106, 3) := by decide +kernel
theorem dX8_readsAlike_51 : decode cX8_readsAlike 51 = .ok (.if_icmp .ne 7, 3) := by decide +kernel
theorem dX8_readsAlike_54 : decode cX8_readsAlike 54 = .ok (.iconst 1, 1) := by decide +kernel
theorem dX8_readsAlike_55 : decode cX8_readsAlike 55 = .ok (.goto 4, 3) := by decide +kernel
theorem dX8_readsAlike_58 : decode cX8_readsAlike 58 = .ok (.iconst 0, 1) := by decide +kernel
theorem dX8_readsAlike_59 : decode cX8_readsAlike 59 = .ok (.istore 4, 2) := by decide +kernel
theorem dX8_readsAlike_61 : decode cX8_readsAlike 61 = .ok (.iinc 5 1, 3) := by decide +kernel
theorem dX8_readsAlike_64 : decode cX8_readsAlike 64 = .ok (.goto (-58), 3) := by decide +kernel
theorem dX8_readsAlike_67 : decode cX8_readsAlike 67 = .ok (.iload 4, 2) := by decide +kernel
theorem dX8_readsAlike_69 : decode cX8_readsAlike 69 = .ok (.ireturn, 1) := by decide +kernel
set_option maxRecDepth 20000 in
theorem ggX8_ageing_X8_isPerson : GoodIn wsX8_ageing wsX8_isPerson := goodIn_r _ [9, 10, 11, 12, 8, 13, 37, 38, 39, 40, 41, 42, 43, 44, 45, 46, 47, 48, 49, 50, 51, 52, 53, 54, 55, 56, 57, 58, 59, 60, 61] (by decide +kernel) (by decide +kernel)
set_option maxRecDepth 20000 in
theorem gX8_ageing_X8_isPerson : GoodIn wsX8_ageing (wsV RX8 124 RX8 yX8_isPerson wsX8_isPerson) := goodIn_app (goodIn_of _ (by decide +kernel)) ggX8_ageing_X8_isPerson
set_option maxRecDepth 20000 in
theorem ggX8_ageing_X8_in : GoodIn wsX8_ageing wsX8_in := goodIn_r _ [13] (by decide +kernel) (by decide +kernel)
set_option maxRecDepth 20000 in
theorem gX8_ageing_X8_in : GoodIn wsX8_ageing (va_wsS RX8 46 yX8_in wsX8_in) := goodIn_app (goodIn_of _ (by decide +kernel)) ggX8_ageing_X8_in
set_option maxRecDepth 20000 in
theorem ggX8_ageing_X8_draw : GoodIn wsX8_ageing wsX8_draw := goodIn_r _ [17, 18, 4, 19, 20, 21, 37, 38, 39, 40, 41, 42, 43, 44, 45, 46, 47, 48, 49, 50, 51, 52, 53, 54, 55, 56, 57, 58, 59, 60, 61] (by decide +kernel) (by decide +kernel)
set_option maxRecDepth 20000 in
theorem gX8_ageing_X8_draw : GoodIn wsX8_ageing (wsV RX8 176 RX8 yX8_draw wsX8_draw) := goodIn_app (goodIn_of _ (by decide +kernel)) ggX8_ageing_X8_draw
set_option maxRecDepth 20000 in
theorem ggX8_ageing_X8_readsAlike : GoodIn wsX8_ageing wsX8_readsAlike := goodIn_r _ [25, 3, 26, 27, 28, 8, 29, 30, 31, 32, 33, 37, 38, 39, 40, 41, 42, 43, 44, 45, 46, 47, 48, 49, 50, 51, 52, 53, 54, 55, 56, 57, 58, 59, 60, 61] (by decide +kernel) (by decide +kernel)
set_option maxRecDepth 20000 in
theorem gX8_ageing_X8_readsAlike : GoodIn wsX8_ageing (wsV RX8 179 RX8 yX8_readsAlike wsX8_readsAlike) := goodIn_app (goodIn_of _ (by decide +kernel)) ggX8_ageing_X8_readsAlike
set_option maxRecDepth 20000 in
theorem ggX8_ageing_X8_parts : GoodIn wsX8_ageing wsX8_parts := goodIn_r _ [36] (by decide +kernel) (by decide +kernel)
set_option maxRecDepth 20000 in
theorem gX8_ageing_X8_parts : GoodIn wsX8_ageing (va_wsS RX8 183 yX8_parts wsX8_parts) := goodIn_app (goodIn_of _ (by decide +kernel)) ggX8_ageing_X8_parts
theorem dX8_ageing_0 : decode cX8_ageing 0 = .ok (.aload_n 0, 1) := by decide +kernel
theorem dX8_ageing_1 : decode cX8_ageing 1 = .ok (.iload_n 1, 1) := by decide +kernel
theorem dX8_ageing_2 : decode cX8_ageing 2 = .ok (.invokevirtual 124, 3) := by decide +kernel
theorem dX8_ageing_5 : decode cX8_ageing 5 = .ok (.ifCond .ne 6, 3) := by decide +kernel
theorem dX8_ageing_8 : decode cX8_ageing 8 = .ok (.bipush (-101), 2) := by decide +kernel
theorem dX8_ageing_10 : decode cX8_ageing 10 = .ok (.ireturn, 1) := by decide +kernel
theorem dX8_ageing_11 : decode cX8_ageing 11 = .ok (.iload_n 2, 1) := by decide +kernel
theorem dX8_ageing_12 : decode cX8_ageing 12 = .ok (.i2l, 1) := by decide +kernel
theorem dX8_ageing_13 : decode cX8_ageing 13 = .ok (.lconst 1, 1) := by decide +kernel
theorem dX8_ageing_14 : decode cX8_ageing 14 = .ok (.ldc2_w 174, 3) := by decide +kernel
theorem dX8_ageing_17 : decode cX8_ageing 17 = .ok (.invokestatic 46, 3) := by decide +kernel
theorem dX8_ageing_20 : decode cX8_ageing 20 = .ok (.ifCond .eq 20, 3) := by decide +kernel
theorem dX8_ageing_23 : decode cX8_ageing 23 = .ok (.iload_n 3, 1) := by decide +kernel
theorem dX8_ageing_24 : decode cX8_ageing 24 = .ok (.ifCond .lt 16, 3) := by decide +kernel
theorem dX8_ageing_27 : decode cX8_ageing 27 = .ok (.iload 4, 2) := by decide +kernel
theorem dX8_ageing_29 : decode cX8_ageing 29 = .ok (.i2l, 1) := by decide +kernel
theorem dX8_ageing_30 : decode cX8_ageing 30 = .ok (.lconst 0, 1) := by decide +kernel
theorem dX8_ageing_31 : decode cX8_ageing 31 = .ok (.ldc2_w 110, 3) := by decide +kernel
theorem dX8_ageing_34 : decode cX8_ageing 34 = .ok (.invokestatic 46, 3) := by decide +kernel
theorem dX8_ageing_37 : decode cX8_ageing 37 = .ok (.ifCond .ne 6, 3) := by decide +kernel
theorem dX8_ageing_40 : decode cX8_ageing 40 = .ok (.bipush (-102), 2) := by decide +kernel
theorem dX8_ageing_42 : decode cX8_ageing 42 = .ok (.ireturn, 1) := by decide +kernel
theorem dX8_ageing_43 : decode cX8_ageing 43 = .ok (.aload_n 0, 1) := by decide +kernel
theorem dX8_ageing_44 : decode cX8_ageing 44 = .ok (.getfield 16, 3) := by decide +kernel
theorem dX8_ageing_47 : decode cX8_ageing 47 = .ok (.bipush 10, 2) := by decide +kernel
theorem dX8_ageing_49 : decode cX8_ageing 49 = .ok (.iload_n 1, 1) := by decide +kernel
theorem dX8_ageing_50 : decode cX8_ageing 50 = .ok (.imul, 1) := by decide +kernel
theorem dX8_ageing_51 : decode cX8_ageing 51 = .ok (.iconst 1, 1) := by decide +kernel
theorem dX8_ageing_52 : decode cX8_ageing 52 = .ok (.iadd, 1) := by decide +kernel
theorem dX8_ageing_53 : decode cX8_ageing 53 = .ok (.iaload, 1) := by decide +kernel
theorem dX8_ageing_54 : decode cX8_ageing 54 = .ok (.istore 5, 2) := by decide +kernel
theorem dX8_ageing_56 : decode cX8_ageing 56 = .ok (.aload_n 0, 1) := by decide +kernel
theorem dX8_ageing_57 : decode cX8_ageing 57 = .ok (.getfield 16, 3) := by decide +kernel
theorem dX8_ageing_60 : decode cX8_ageing 60 = .ok (.bipush 10, 2) := by decide +kernel
theorem dX8_ageing_62 : decode cX8_ageing 62 = .ok (.iload_n 1, 1) := by decide +kernel
theorem dX8_ageing_63 : decode cX8_ageing 63 = .ok (.imul, 1) := by decide +kernel
theorem dX8_ageing_64 : decode cX8_ageing 64 = .ok (.iconst 2, 1) := by decide +kernel
theorem dX8_ageing_65 : decode cX8_ageing 65 = .ok (.iadd, 1) := by decide +kernel
theorem dX8_ageing_66 : decode cX8_ageing 66 = .ok (.iaload, 1) := by decide +kernel
theorem dX8_ageing_67 : decode cX8_ageing 67 = .ok (.istore 6, 2) := by decide +kernel
theorem dX8_ageing_69 : decode cX8_ageing 69 = .ok (.iconst (-1), 1) := by decide +kernel
theorem dX8_ageing_70 : decode cX8_ageing 70 = .ok (.istore 7, 2) := by decide +kernel
theorem dX8_ageing_72 : decode cX8_ageing 72 = .ok (.aload_n 0, 1) := by decide +kernel
theorem dX8_ageing_73 : decode cX8_ageing 73 = .ok (.iload_n 3, 1) := by decide +kernel
theorem dX8_ageing_74 : decode cX8_ageing 74 = .ok (.putfield 166, 3) := by decide +kernel
theorem dX8_ageing_77 : decode cX8_ageing 77 = .ok (.iconst 1, 1) := by decide +kernel
theorem dX8_ageing_78 : decode cX8_ageing 78 = .ok (.istore 8, 2) := by decide +kernel
theorem dX8_ageing_80 : decode cX8_ageing 80 = .ok (.iload 8, 2) := by decide +kernel
theorem dX8_ageing_82 : decode cX8_ageing 82 = .ok (.iload_n 2, 1) := by decide +kernel
theorem dX8_ageing_83 : decode cX8_ageing 83 = .ok (.if_icmp .gt 106, 3) := by decide +kernel
theorem dX8_ageing_86 : decode cX8_ageing 86 = .ok (.aload_n 0, 1) := by decide +kernel
theorem dX8_ageing_87 : decode cX8_ageing 87 = .ok (.iconst 2, 1) := by decide +kernel
theorem dX8_ageing_88 : decode cX8_ageing 88 = .ok (.invokevirtual 176, 3) := by decide +kernel
theorem dX8_ageing_91 : decode cX8_ageing 91 = .ok (.istore 9, 2) := by decide +kernel
theorem dX8_ageing_93 : decode cX8_ageing 93 = .ok (.aload_n 0, 1) := by decide +kernel
theorem dX8_ageing_94 : decode cX8_ageing 94 = .ok (.bipush 8, 2) := by decide +kernel
theorem dX8_ageing_96 : decode cX8_ageing 96 = .ok (.invokevirtual 176, 3) := by decide +kernel
theorem dX8_ageing_99 : decode cX8_ageing 99 = .ok (.istore 10, 2) := by decide +kernel
theorem dX8_ageing_101 : decode cX8_ageing 101 = .ok (.iload 10, 2) := by decide +kernel
theorem dX8_ageing_103 : decode cX8_ageing 103 = .ok (.iconst 3, 1) := by decide +kernel
theorem dX8_ageing_104 : decode cX8_ageing 104 = .ok (.if_icmp .ge 10, 3) := by decide +kernel
theorem dX8_ageing_107 : decode cX8_ageing 107 = .ok (.iconst 1, 1) := by decide +kernel
theorem dX8_ageing_108 : decode cX8_ageing 108 = .ok (.iload 10, 2) := by decide +kernel
theorem dX8_ageing_110 : decode cX8_ageing 110 = .ok (.ishl, 1) := by decide +kernel
theorem dX8_ageing_111 : decode cX8_ageing 111 = .ok (.goto 4, 3) := by decide +kernel
theorem dX8_ageing_114 : decode cX8_ageing 114 = .ok (.iconst 0, 1) := by decide +kernel
theorem dX8_ageing_115 : decode cX8_ageing 115 = .ok (.istore 11, 2) := by decide +kernel
theorem dX8_ageing_117 : decode cX8_ageing 117 = .ok (.iload 9, 2) := by decide +kernel
theorem dX8_ageing_119 : decode cX8_ageing 119 = .ok (.ifCond .ne 13, 3) := by decide +kernel
theorem dX8_ageing_122 : decode cX8_ageing 122 = .ok (.iload 5, 2) := by decide +kernel
theorem dX8_ageing_124 : decode cX8_ageing 124 = .ok (.iload 11, 2) := by decide +kernel
theorem dX8_ageing_126 : decode cX8_ageing 126 = .ok (.iconst (-1), 1) := by decide +kernel
theorem dX8_ageing_127 : decode cX8_ageing 127 = .ok (.ixor, 1) := by decide +kernel
theorem dX8_ageing_128 : decode cX8_ageing 128 = .ok (.iand, 1) := by decide +kernel
theorem dX8_ageing_129 : decode cX8_ageing 129 = .ok (.goto 5, 3) := by decide +kernel
theorem dX8_ageing_132 : decode cX8_ageing 132 = .ok (.iload 5, 2) := by decide +kernel
theorem dX8_ageing_134 : decode cX8_ageing 134 = .ok (.istore 5, 2) := by decide +kernel
theorem dX8_ageing_136 : decode cX8_ageing 136 = .ok (.iload 9, 2) := by decide +kernel
theorem dX8_ageing_138 : decode cX8_ageing 138 = .ok (.iconst 1, 1) := by decide +kernel
theorem dX8_ageing_139 : decode cX8_ageing 139 = .ok (.if_icmp .ne 13, 3) := by decide +kernel
theorem dX8_ageing_142 : decode cX8_ageing 142 = .ok (.iload 6, 2) := by decide +kernel
theorem dX8_ageing_144 : decode cX8_ageing 144 = .ok (.iload 11, 2) := by decide +kernel
theorem dX8_ageing_146 : decode cX8_ageing 146 = .ok (.iconst (-1), 1) := by decide +kernel
theorem dX8_ageing_147 : decode cX8_ageing 147 = .ok (.ixor, 1) := by decide +kernel
theorem dX8_ageing_148 : decode cX8_ageing 148 = .ok (.iand, 1) := by decide +kernel
theorem dX8_ageing_149 : decode cX8_ageing 149 = .ok (.goto 5, 3) := by decide +kernel
theorem dX8_ageing_152 : decode cX8_ageing 152 = .ok (.iload 6, 2) := by decide +kernel
theorem dX8_ageing_154 : decode cX8_ageing 154 = .ok (.istore 6, 2) := by decide +kernel
theorem dX8_ageing_156 : decode cX8_ageing 156 = .ok (.iload 7, 2) := by decide +kernel
theorem dX8_ageing_158 : decode cX8_ageing 158 = .ok (.iconst (-1), 1) := by decide +kernel
theorem dX8_ageing_159 : decode cX8_ageing 159 = .ok (.if_icmp .ne 20, 3) := by decide +kernel
theorem dX8_ageing_162 : decode cX8_ageing 162 = .ok (.aload_n 0, 1) := by decide +kernel
theorem dX8_ageing_163 : decode cX8_ageing 163 = .ok (.iload_n 1, 1) := by decide +kernel
theorem dX8_ageing_164 : decode cX8_ageing 164 = .ok (.iload 5, 2) := by decide +kernel
theorem dX8_ageing_166 : decode cX8_ageing 166 = .ok (.iload 6, 2) := by decide +kernel
theorem dX8_ageing_168 : decode cX8_ageing 168 = .ok (.invokevirtual 179, 3) := by decide +kernel
theorem dX8_ageing_171 : decode cX8_ageing 171 = .ok (.ifCond .ne 8, 3) := by decide +kernel
theorem dX8_ageing_174 : decode cX8_ageing 174 = .ok (.iload 8, 2) := by decide +kernel
theorem dX8_ageing_176 : decode cX8_ageing 176 = .ok (.goto 5, 3) := by decide +kernel
theorem dX8_ageing_179 : decode cX8_ageing 179 = .ok (.iload 7, 2) := by decide +kernel
theorem dX8_ageing_181 : decode cX8_ageing 181 = .ok (.istore 7, 2) := by decide +kernel
theorem dX8_ageing_183 : decode cX8_ageing 183 = .ok (.iinc 8 1, 3) := by decide +kernel
theorem dX8_ageing_186 : decode cX8_ageing 186 = .ok (.goto (-106), 3) := by decide +kernel
theorem dX8_ageing_189 : decode cX8_ageing 189 = .ok (.iload 4, 2) := by decide +kernel
theorem dX8_ageing_191 : decode cX8_ageing 191 = .ok (.ifCond .ne 8, 3) := by decide +kernel
theorem dX8_ageing_194 : decode cX8_ageing 194 = .ok (.iload 7, 2) := by decide +kernel
theorem dX8_ageing_196 : decode cX8_ageing 196 = .ok (.goto 27, 3) := by decide +kernel
theorem dX8_ageing_199 : decode cX8_ageing 199 = .ok (.iload 4, 2) := by decide +kernel
theorem dX8_ageing_201 : decode cX8_ageing 201 = .ok (.iconst 1, 1) := by decide +kernel
theorem dX8_ageing_202 : decode cX8_ageing 202 = .ok (.if_icmp .ne 17, 3) := by decide +kernel
theorem dX8_ageing_205 : decode cX8_ageing 205 = .ok (.iload 5, 2) := by decide +kernel
theorem dX8_ageing_207 : decode cX8_ageing 207 = .ok (.invokestatic 183, 3) := by decide +kernel
theorem dX8_ageing_210 : decode cX8_ageing 210 = .ok (.iload 6, 2) := by decide +kernel
theorem dX8_ageing_212 : decode cX8_ageing 212 = .ok (.invokestatic 183, 3) := by decide +kernel
theorem dX8_ageing_215 : decode cX8_ageing 215 = .ok (.iadd, 1) := by decide +kernel
theorem dX8_ageing_216 : decode cX8_ageing 216 = .ok (.goto 7, 3) := by decide +kernel
theorem dX8_ageing_219 : decode cX8_ageing 219 = .ok (.aload_n 0, 1) := by decide +kernel
theorem dX8_ageing_220 : decode cX8_ageing 220 = .ok (.getfield 166, 3) := by decide +kernel
theorem dX8_ageing_223 : decode cX8_ageing 223 = .ok (.ireturn, 1) := by decide +kernel
theorem dX8_copy_0 : decode cX8_copy 0 = .ok (.iconst 0, 1) := by decide +kernel
theorem dX8_copy_1 : decode cX8_copy 1 = .ok (.istore_n 2, 1) := by decide +kernel
theorem dX8_copy_2 : decode cX8_copy 2 = .ok (.iload_n 2, 1) := by decide +kernel
theorem dX8_copy_3 : decode cX8_copy 3 = .ok (.aload_n 0, 1) := by decide +kernel
theorem dX8_copy_4 : decode cX8_copy 4 = .ok (.arraylength, 1) := by decide +kernel
theorem dX8_copy_5 : decode cX8_copy 5 = .ok (.if_icmp .ge 15, 3) := by decide +kernel
theorem dX8_copy_8 : decode cX8_copy 8 = .ok (.aload_n 1, 1) := by decide +kernel
theorem dX8_copy_9 : decode cX8_copy 9 = .ok (.iload_n 2, 1) := by decide +kernel
theorem dX8_copy_10 : decode cX8_copy 10 = .ok (.aload_n 0, 1) := by decide +kernel
theorem dX8_copy_11 : decode cX8_copy 11 = .ok (.iload_n 2, 1) := by decide +kernel
theorem dX8_copy_12 : decode cX8_copy 12 = .ok (.iaload, 1) := by decide +kernel
theorem dX8_copy_13 : decode cX8_copy 13 = .ok (.iastore, 1) := by decide +kernel
theorem dX8_copy_14 : decode cX8_copy 14 = .ok (.iinc 2 1, 3) := by decide +kernel
theorem dX8_copy_17 : decode cX8_copy 17 = .ok (.goto (-15), 3) := by decide +kernel
theorem dX8_copy_20 : decode cX8_copy 20 = .ok (.return_, 1) := by decide +kernel
set_option maxRecDepth 20000 in
theorem ggX8_image_X8_copy : GoodIn wsX8_image wsX8_copy := goodIn_r _ [23] (by decide +kernel) (by decide +kernel)
set_option maxRecDepth 20000 in
theorem gX8_image_X8_copy : GoodIn wsX8_image (va_wsS RX8 186 yX8_copy wsX8_copy) := goodIn_app (goodIn_of _ (by decide +kernel)) ggX8_image_X8_copy
theorem dX8_image_0 : decode cX8_image 0 = .ok (.aload_n 0, 1) := by decide +kernel
theorem dX8_image_1 : decode cX8_image 1 = .ok (.getfield 63, 3) := by decide +kernel
theorem dX8_image_4 : decode cX8_image 4 = .ok (.ifCond .ne 6, 3) := by decide +kernel
theorem dX8_image_7 : decode cX8_image 7 = .ok (.bipush (-103), 2) := by decide +kernel
theorem dX8_image_9 : decode cX8_image 9 = .ok (.ireturn, 1) := by decide +kernel
theorem dX8_image_10 : decode cX8_image 10 = .ok (.aload_n 0, 1) := by decide +kernel
theorem dX8_image_11 : decode cX8_image 11 = .ok (.getfield 13, 3) := by decide +kernel
theorem dX8_image_14 : decode cX8_image 14 = .ok (.aload_n 0, 1) := by decide +kernel
theorem dX8_image_15 : decode cX8_image 15 = .ok (.getfield 28, 3) := by decide +kernel
theorem dX8_image_18 : decode cX8_image 18 = .ok (.invokestatic 186, 3) := by decide +kernel
theorem dX8_image_21 : decode cX8_image 21 = .ok (.aload_n 0, 1) := by decide +kernel
theorem dX8_image_22 : decode cX8_image 22 = .ok (.getfield 16, 3) := by decide +kernel
theorem dX8_image_25 : decode cX8_image 25 = .ok (.aload_n 0, 1) := by decide +kernel
theorem dX8_image_26 : decode cX8_image 26 = .ok (.getfield 31, 3) := by decide +kernel
theorem dX8_image_29 : decode cX8_image 29 = .ok (.invokestatic 186, 3) := by decide +kernel
theorem dX8_image_32 : decode cX8_image 32 = .ok (.aload_n 0, 1) := by decide +kernel
theorem dX8_image_33 : decode cX8_image 33 = .ok (.getfield 19, 3) := by decide +kernel
theorem dX8_image_36 : decode cX8_image 36 = .ok (.aload_n 0, 1) := by decide +kernel
theorem dX8_image_37 : decode cX8_image 37 = .ok (.getfield 34, 3) := by decide +kernel
theorem dX8_image_40 : decode cX8_image 40 = .ok (.invokestatic 186, 3) := by decide +kernel
theorem dX8_image_43 : decode cX8_image 43 = .ok (.aload_n 0, 1) := by decide +kernel
theorem dX8_image_44 : decode cX8_image 44 = .ok (.getfield 22, 3) := by decide +kernel
theorem dX8_image_47 : decode cX8_image 47 = .ok (.aload_n 0, 1) := by decide +kernel
theorem dX8_image_48 : decode cX8_image 48 = .ok (.getfield 37, 3) := by decide +kernel
theorem dX8_image_51 : decode cX8_image 51 = .ok (.invokestatic 186, 3) := by decide +kernel
theorem dX8_image_54 : decode cX8_image 54 = .ok (.aload_n 0, 1) := by decide +kernel
theorem dX8_image_55 : decode cX8_image 55 = .ok (.aload_n 0, 1) := by decide +kernel
theorem dX8_image_56 : decode cX8_image 56 = .ok (.getfield 71, 3) := by decide +kernel
theorem dX8_image_59 : decode cX8_image 59 = .ok (.putfield 190, 3) := by decide +kernel
theorem dX8_image_62 : decode cX8_image 62 = .ok (.aload_n 0, 1) := by decide +kernel
theorem dX8_image_63 : decode cX8_image 63 = .ok (.aload_n 0, 1) := by decide +kernel
theorem dX8_image_64 : decode cX8_image 64 = .ok (.getfield 74, 3) := by decide +kernel
theorem dX8_image_67 : decode cX8_image 67 = .ok (.putfield 193, 3) := by decide +kernel
theorem dX8_image_70 : decode cX8_image 70 = .ok (.aload_n 0, 1) := by decide +kernel
theorem dX8_image_71 : decode cX8_image 71 = .ok (.aload_n 0, 1) := by decide +kernel
theorem dX8_image_72 : decode cX8_image 72 = .ok (.getfield 77, 3) := by decide +kernel
theorem dX8_image_75 : decode cX8_image 75 = .ok (.putfield 196, 3) := by decide +kernel
theorem dX8_image_78 : decode cX8_image 78 = .ok (.aload_n 0, 1) := by decide +kernel
theorem dX8_image_79 : decode cX8_image 79 = .ok (.aload_n 0, 1) := by decide +kernel
theorem dX8_image_80 : decode cX8_image 80 = .ok (.getfield 80, 3) := by decide +kernel
theorem dX8_image_83 : decode cX8_image 83 = .ok (.putfield 199, 3) := by decide +kernel
theorem dX8_image_86 : decode cX8_image 86 = .ok (.aload_n 0, 1) := by decide +kernel
theorem dX8_image_87 : decode cX8_image 87 = .ok (.aload_n 0, 1) := by decide +kernel
theorem dX8_image_88 : decode cX8_image 88 = .ok (.getfield 83, 3) := by decide +kernel
theorem dX8_image_91 : decode cX8_image 91 = .ok (.putfield 40, 3) := by decide +kernel
theorem dX8_image_94 : decode cX8_image 94 = .ok (.aload_n 0, 1) := by decide +kernel
theorem dX8_image_95 : decode cX8_image 95 = .ok (.getfield 71, 3) := by decide +kernel
theorem dX8_image_98 : decode cX8_image 98 = .ok (.ireturn, 1) := by decide +kernel
set_option maxRecDepth 20000 in
theorem ggX8_restore_X8_copy : GoodIn wsX8_restore wsX8_copy := goodIn_r _ [22] (by decide +kernel) (by decide +kernel)
set_option maxRecDepth 20000 in
theorem gX8_restore_X8_copy : GoodIn wsX8_restore (va_wsS RX8 186 yX8_copy wsX8_copy) := goodIn_app (goodIn_of _ (by decide +kernel)) ggX8_restore_X8_copy
theorem dX8_restore_0 : decode cX8_restore 0 = .ok (.aload_n 0, 1) := by decide +kernel
theorem dX8_restore_1 : decode cX8_restore 1 = .ok (.getfield 40, 3) := by decide +kernel
theorem dX8_restore_4 : decode cX8_restore 4 = .ok (.aload_n 0, 1) := by decide +kernel
theorem dX8_restore_5 : decode cX8_restore 5 = .ok (.getfield 83, 3) := by decide +kernel
theorem dX8_restore_8 : decode cX8_restore 8 = .ok (.if_icmp .eq 6, 3) := by decide +kernel
theorem dX8_restore_11 : decode cX8_restore 11 = .ok (.bipush (-103), 2) := by decide +kernel
theorem dX8_restore_13 : decode cX8_restore 13 = .ok (.ireturn, 1) := by decide +kernel
theorem dX8_restore_14 : decode cX8_restore 14 = .ok (.aload_n 0, 1) := by decide +kernel
theorem dX8_restore_15 : decode cX8_restore 15 = .ok (.getfield 28, 3) := by decide +kernel
theorem dX8_restore_18 : decode cX8_restore 18 = .ok (.aload_n 0, 1) := by decide +kernel
theorem dX8_restore_19 : decode cX8_restore 19 = .ok (.getfield 13, 3) := by decide +kernel
theorem dX8_restore_22 : decode cX8_restore 22 = .ok (.invokestatic 186, 3) := by decide +kernel
theorem dX8_restore_25 : decode cX8_restore 25 = .ok (.aload_n 0, 1) := by decide +kernel
theorem dX8_restore_26 : decode cX8_restore 26 = .ok (.getfield 31, 3) := by decide +kernel
theorem dX8_restore_29 : decode cX8_restore 29 = .ok (.aload_n 0, 1) := by decide +kernel
theorem dX8_restore_30 : decode cX8_restore 30 = .ok (.getfield 16, 3) := by decide +kernel
theorem dX8_restore_33 : decode cX8_restore 33 = .ok (.invokestatic 186, 3) := by decide +kernel
theorem dX8_restore_36 : decode cX8_restore 36 = .ok (.aload_n 0, 1) := by decide +kernel
theorem dX8_restore_37 : decode cX8_restore 37 = .ok (.getfield 34, 3) := by decide +kernel
theorem dX8_restore_40 : decode cX8_restore 40 = .ok (.aload_n 0, 1) := by decide +kernel
theorem dX8_restore_41 : decode cX8_restore 41 = .ok (.getfield 19, 3) := by decide +kernel
theorem dX8_restore_44 : decode cX8_restore 44 = .ok (.invokestatic 186, 3) := by decide +kernel
theorem dX8_restore_47 : decode cX8_restore 47 = .ok (.aload_n 0, 1) := by decide +kernel
theorem dX8_restore_48 : decode cX8_restore 48 = .ok (.getfield 37, 3) := by decide +kernel
theorem dX8_restore_51 : decode cX8_restore 51 = .ok (.aload_n 0, 1) := by decide +kernel
theorem dX8_restore_52 : decode cX8_restore 52 = .ok (.getfield 22, 3) := by decide +kernel
theorem dX8_restore_55 : decode cX8_restore 55 = .ok (.invokestatic 186, 3) := by decide +kernel
theorem dX8_restore_58 : decode cX8_restore 58 = .ok (.aload_n 0, 1) := by decide +kernel
theorem dX8_restore_59 : decode cX8_restore 59 = .ok (.aload_n 0, 1) := by decide +kernel
theorem dX8_restore_60 : decode cX8_restore 60 = .ok (.getfield 190, 3) := by decide +kernel
theorem dX8_restore_63 : decode cX8_restore 63 = .ok (.putfield 71, 3) := by decide +kernel
theorem dX8_restore_66 : decode cX8_restore 66 = .ok (.aload_n 0, 1) := by decide +kernel
theorem dX8_restore_67 : decode cX8_restore 67 = .ok (.aload_n 0, 1) := by decide +kernel
theorem dX8_restore_68 : decode cX8_restore 68 = .ok (.getfield 193, 3) := by decide +kernel
theorem dX8_restore_71 : decode cX8_restore 71 = .ok (.putfield 74, 3) := by decide +kernel
theorem dX8_restore_74 : decode cX8_restore 74 = .ok (.aload_n 0, 1) := by decide +kernel
theorem dX8_restore_75 : decode cX8_restore 75 = .ok (.aload_n 0, 1) := by decide +kernel
theorem dX8_restore_76 : decode cX8_restore 76 = .ok (.getfield 196, 3) := by decide +kernel
theorem dX8_restore_79 : decode cX8_restore 79 = .ok (.putfield 77, 3) := by decide +kernel
theorem dX8_restore_82 : decode cX8_restore 82 = .ok (.aload_n 0, 1) := by decide +kernel
theorem dX8_restore_83 : decode cX8_restore 83 = .ok (.aload_n 0, 1) := by decide +kernel
theorem dX8_restore_84 : decode cX8_restore 84 = .ok (.getfield 199, 3) := by decide +kernel
theorem dX8_restore_87 : decode cX8_restore 87 = .ok (.putfield 80, 3) := by decide +kernel
theorem dX8_restore_90 : decode cX8_restore 90 = .ok (.aload_n 0, 1) := by decide +kernel
theorem dX8_restore_91 : decode cX8_restore 91 = .ok (.getfield 71, 3) := by decide +kernel
theorem dX8_restore_94 : decode cX8_restore 94 = .ok (.ireturn, 1) := by decide +kernel
set_option maxRecDepth 20000 in
theorem ggX8_countOf_X8_inkedCells : GoodIn wsX8_countOf wsX8_inkedCells := goodIn_r _ [12, 13, 14, 20, 21, 22, 23, 24, 25, 26, 27, 28, 29, 30, 31, 32, 33, 34, 35, 36, 37, 38, 39, 40, 41, 42, 43, 44] (by decide +kernel) (by decide +kernel)
set_option maxRecDepth 20000 in
theorem gX8_countOf_X8_inkedCells : GoodIn wsX8_countOf (wsV RX8 86 RX8 yX8_inkedCells wsX8_inkedCells) := goodIn_app (goodIn_of _ (by decide +kernel)) ggX8_countOf_X8_inkedCells
set_option maxRecDepth 20000 in
theorem ggX8_countOf_X8_wordMany : GoodIn wsX8_countOf wsX8_wordMany := goodIn_r _ [18, 1, 19, 20, 21, 22, 23, 24, 25, 26, 27, 28, 29, 30, 31, 32, 33, 34, 35, 36, 37, 38, 39, 40, 41, 42, 43, 44] (by decide +kernel) (by decide +kernel)
set_option maxRecDepth 20000 in
theorem gX8_countOf_X8_wordMany : GoodIn wsX8_countOf (wsV RX8 130 RX8 yX8_wordMany wsX8_wordMany) := goodIn_app (goodIn_of _ (by decide +kernel)) ggX8_countOf_X8_wordMany
theorem dX8_countOf_0 : decode cX8_countOf 0 = .ok (.iload_n 1, 1) := by decide +kernel
theorem dX8_countOf_1 : decode cX8_countOf 1 = .ok (.tableswitch 96 0 8 #[51, 56, 61, 66, 71, 76, 81, 86, 91], 51) := by decide +kernel
theorem dX8_countOf_52 : decode cX8_countOf 52 = .ok (.aload_n 0, 1) := by decide +kernel
theorem dX8_countOf_53 : decode cX8_countOf 53 = .ok (.invokevirtual 86, 3) := by decide +kernel
theorem dX8_countOf_56 : decode cX8_countOf 56 = .ok (.ireturn, 1) := by decide +kernel
theorem dX8_countOf_57 : decode cX8_countOf 57 = .ok (.aload_n 0, 1) := by decide +kernel
theorem dX8_countOf_58 : decode cX8_countOf 58 = .ok (.getfield 71, 3) := by decide +kernel
theorem dX8_countOf_61 : decode cX8_countOf 61 = .ok (.ireturn, 1) := by decide +kernel
theorem dX8_countOf_62 : decode cX8_countOf 62 = .ok (.aload_n 0, 1) := by decide +kernel
theorem dX8_countOf_63 : decode cX8_countOf 63 = .ok (.getfield 74, 3) := by decide +kernel
theorem dX8_countOf_66 : decode cX8_countOf 66 = .ok (.ireturn, 1) := by decide +kernel
theorem dX8_countOf_67 : decode cX8_countOf 67 = .ok (.aload_n 0, 1) := by decide +kernel
theorem dX8_countOf_68 : decode cX8_countOf 68 = .ok (.getfield 80, 3) := by decide +kernel
theorem dX8_countOf_71 : decode cX8_countOf 71 = .ok (.ireturn, 1) := by decide +kernel
theorem dX8_countOf_72 : decode cX8_countOf 72 = .ok (.aload_n 0, 1) := by decide +kernel
theorem dX8_countOf_73 : decode cX8_countOf 73 = .ok (.invokevirtual 130, 3) := by decide +kernel
theorem dX8_countOf_76 : decode cX8_countOf 76 = .ok (.ireturn, 1) := by decide +kernel
theorem dX8_countOf_77 : decode cX8_countOf 77 = .ok (.aload_n 0, 1) := by decide +kernel
theorem dX8_countOf_78 : decode cX8_countOf 78 = .ok (.getfield 77, 3) := by decide +kernel
theorem dX8_countOf_81 : decode cX8_countOf 81 = .ok (.ireturn, 1) := by decide +kernel
theorem dX8_countOf_82 : decode cX8_countOf 82 = .ok (.aload_n 0, 1) := by decide +kernel
theorem dX8_countOf_83 : decode cX8_countOf 83 = .ok (.getfield 52, 3) := by decide +kernel
theorem dX8_countOf_86 : decode cX8_countOf 86 = .ok (.ireturn, 1) := by decide +kernel
theorem dX8_countOf_87 : decode cX8_countOf 87 = .ok (.aload_n 0, 1) := by decide +kernel
theorem dX8_countOf_88 : decode cX8_countOf 88 = .ok (.getfield 83, 3) := by decide +kernel
theorem dX8_countOf_91 : decode cX8_countOf 91 = .ok (.ireturn, 1) := by decide +kernel
theorem dX8_countOf_92 : decode cX8_countOf 92 = .ok (.aload_n 0, 1) := by decide +kernel
theorem dX8_countOf_93 : decode cX8_countOf 93 = .ok (.getfield 158, 3) := by decide +kernel
theorem dX8_countOf_96 : decode cX8_countOf 96 = .ok (.ireturn, 1) := by decide +kernel
theorem dX8_countOf_97 : decode cX8_countOf 97 = .ok (.bipush (-102), 2) := by decide +kernel
theorem dX8_countOf_99 : decode cX8_countOf 99 = .ok (.ireturn, 1) := by decide +kernel
set_option maxRecDepth 20000 in
theorem ggX8_count_X8_countOf : GoodIn wsX8_count wsX8_countOf := goodIn_r _ [5, 6, 7, 8, 9, 10, 11, 12, 13, 14, 15, 4, 16, 17, 18, 19, 20, 21, 22, 23, 24, 25, 26, 27, 28, 29, 30, 31, 32, 33, 34, 35, 36, 37, 38, 39, 40, 41, 42, 43, 44, 45, 46, 47, 48] (by decide +kernel) (by decide +kernel)
set_option maxRecDepth 20000 in
theorem gX8_count_X8_countOf : GoodIn wsX8_count (wsV RX8 202 RX8 yX8_countOf wsX8_countOf) := goodIn_app (goodIn_of _ (by decide +kernel)) ggX8_count_X8_countOf
theorem dX8_count_0 : decode cX8_count 0 = .ok (.aload_n 0, 1) := by decide +kernel
theorem dX8_count_1 : decode cX8_count 1 = .ok (.iload_n 1, 1) := by decide +kernel
theorem dX8_count_2 : decode cX8_count 2 = .ok (.invokevirtual 202, 3) := by decide +kernel
theorem dX8_count_5 : decode cX8_count 5 = .ok (.ireturn, 1) := by decide +kernel
theorem dX8_say_0 : decode cX8_say 0 = .ok (.aload_n 0, 1) := by decide +kernel
theorem dX8_say_1 : decode cX8_say 1 = .ok (.ldc2_w 205, 3) := by decide +kernel
theorem dX8_say_4 : decode cX8_say 4 = .ok (.aload_n 0, 1) := by decide +kernel
theorem dX8_say_5 : decode cX8_say 5 = .ok (.getfield 207, 3) := by decide +kernel
theorem dX8_say_8 : decode cX8_say 8 = .ok (.lmul, 1) := by decide +kernel
theorem dX8_say_9 : decode cX8_say 9 = .ok (.lload_n 1, 1) := by decide +kernel
theorem dX8_say_10 : decode cX8_say 10 = .ok (.ladd, 1) := by decide +kernel
theorem dX8_say_11 : decode cX8_say 11 = .ok (.putfield 207, 3) := by decide +kernel
theorem dX8_say_14 : decode cX8_say 14 = .ok (.return_, 1) := by decide +kernel
set_option maxRecDepth 20000 in
theorem ggX8_sayPerson_X8_in : GoodIn wsX8_sayPerson wsX8_in := goodIn_r _ [7] (by decide +kernel) (by decide +kernel)
set_option maxRecDepth 20000 in
theorem gX8_sayPerson_X8_in : GoodIn wsX8_sayPerson (va_wsS RX8 46 yX8_in wsX8_in) := goodIn_app (goodIn_of _ (by decide +kernel)) ggX8_sayPerson_X8_in
set_option maxRecDepth 20000 in
theorem ggX8_sayPerson_X8_tell : GoodIn wsX8_sayPerson wsX8_tell := goodIn_r _ [11, 12, 13, 1, 2, 14, 15, 16, 4, 5, 6, 7, 17, 18, 19, 20, 21, 22, 23, 24, 25, 26, 27, 42, 43, 44, 45, 46, 47, 48, 49, 50, 51, 52, 53, 54, 55, 56, 57, 58, 59, 60, 61, 62, 63, 64, 65, 66] (by decide +kernel) (by decide +kernel)
set_option maxRecDepth 20000 in
theorem gX8_sayPerson_X8_tell : GoodIn wsX8_sayPerson (wsV RX8 127 RX8 yX8_tell wsX8_tell) := goodIn_app (goodIn_of _ (by decide +kernel)) ggX8_sayPerson_X8_tell
set_option maxRecDepth 20000 in
theorem ggX8_sayPerson_X8_say : GoodIn wsX8_sayPerson wsX8_say := goodIn_r _ [31, 32, 33, 42, 43, 44, 45, 46, 47, 48, 49, 50, 51, 52, 53, 54, 55, 56, 57, 58, 59, 60, 61, 62, 63, 64, 65, 66] (by decide +kernel) (by decide +kernel)
set_option maxRecDepth 20000 in
theorem gX8_sayPerson_X8_say : GoodIn wsX8_sayPerson (wsV RX8 211 RX8 yX8_say wsX8_say) := goodIn_app (goodIn_of _ (by decide +kernel)) ggX8_sayPerson_X8_say
set_option maxRecDepth 20000 in
theorem ggX8_sayPerson_X8_differOf : GoodIn wsX8_sayPerson wsX8_differOf := goodIn_r _ [37, 14, 17, 18, 19, 6, 20, 13, 21, 22, 23, 42, 43, 44, 45, 46, 47, 48, 49, 50, 51, 52, 53, 54, 55, 56, 57, 58, 59, 60, 61, 62, 63, 64, 65, 66] (by decide +kernel) (by decide +kernel)
set_option maxRecDepth 20000 in
theorem gX8_sayPerson_X8_differOf : GoodIn wsX8_sayPerson (wsV RX8 133 RX8 yX8_differOf wsX8_differOf) := goodIn_app (goodIn_of _ (by decide +kernel)) ggX8_sayPerson_X8_differOf
set_option maxRecDepth 20000 in
theorem ggX8_sayPerson_X8_alikeOf : GoodIn wsX8_sayPerson wsX8_alikeOf := goodIn_r _ [41, 17, 18, 19, 6, 20, 13, 21, 22, 23, 42, 43, 44, 45, 46, 47, 48, 49, 50, 51, 52, 53, 54, 55, 56, 57, 58, 59, 60, 61, 62, 63, 64, 65, 66] (by decide +kernel) (by decide +kernel)
set_option maxRecDepth 20000 in
theorem gX8_sayPerson_X8_alikeOf : GoodIn wsX8_sayPerson (wsV RX8 136 RX8 yX8_alikeOf wsX8_alikeOf) := goodIn_app (goodIn_of _ (by decide +kernel)) ggX8_sayPerson_X8_alikeOf
theorem dX8_sayPerson_0 : decode cX8_sayPerson 0 = .ok (.iconst 0, 1) := by decide +kernel
theorem dX8_sayPerson_1 : decode cX8_sayPerson 1 = .ok (.istore_n 2, 1) := by decide +kernel
theorem dX8_sayPerson_2 : decode cX8_sayPerson 2 = .ok (.iload_n 2, 1) := by decide +kernel
theorem dX8_sayPerson_3 : decode cX8_sayPerson 3 = .ok (.bipush 26, 2) := by decide +kernel
theorem dX8_sayPerson_5 : decode cX8_sayPerson 5 = .ok (.if_icmp .ge 45, 3) := by decide +kernel
theorem dX8_sayPerson_8 : decode cX8_sayPerson 8 = .ok (.iload_n 2, 1) := by decide +kernel
theorem dX8_sayPerson_9 : decode cX8_sayPerson 9 = .ok (.iconst 4, 1) := by decide +kernel
theorem dX8_sayPerson_10 : decode cX8_sayPerson 10 = .ok (.if_icmp .lt 23, 3) := by decide +kernel
theorem dX8_sayPerson_13 : decode cX8_sayPerson 13 = .ok (.iload_n 2, 1) := by decide +kernel
theorem dX8_sayPerson_14 : decode cX8_sayPerson 14 = .ok (.i2l, 1) := by decide +kernel
theorem dX8_sayPerson_15 : decode cX8_sayPerson 15 = .ok (.ldc2_w 112, 3) := by decide +kernel
theorem dX8_sayPerson_18 : decode cX8_sayPerson 18 = .ok (.ldc2_w 114, 3) := by decide +kernel
theorem dX8_sayPerson_21 : decode cX8_sayPerson 21 = .ok (.invokestatic 46, 3) := by decide +kernel
theorem dX8_sayPerson_24 : decode cX8_sayPerson 24 = .ok (.ifCond .ne 9, 3) := by decide +kernel
theorem dX8_sayPerson_27 : decode cX8_sayPerson 27 = .ok (.iload_n 2, 1) := by decide +kernel
theorem dX8_sayPerson_28 : decode cX8_sayPerson 28 = .ok (.bipush 19, 2) := by decide +kernel
theorem dX8_sayPerson_30 : decode cX8_sayPerson 30 = .ok (.if_icmp .le 14, 3) := by decide +kernel
theorem dX8_sayPerson_33 : decode cX8_sayPerson 33 = .ok (.aload_n 0, 1) := by decide +kernel
theorem dX8_sayPerson_34 : decode cX8_sayPerson 34 = .ok (.aload_n 0, 1) := by decide +kernel
theorem dX8_sayPerson_35 : decode cX8_sayPerson 35 = .ok (.iload_n 1, 1) := by decide +kernel
theorem dX8_sayPerson_36 : decode cX8_sayPerson 36 = .ok (.iload_n 2, 1) := by decide +kernel
theorem dX8_sayPerson_37 : decode cX8_sayPerson 37 = .ok (.invokevirtual 127, 3) := by decide +kernel
theorem dX8_sayPerson_40 : decode cX8_sayPerson 40 = .ok (.i2l, 1) := by decide +kernel
theorem dX8_sayPerson_41 : decode cX8_sayPerson 41 = .ok (.invokevirtual 211, 3) := by decide +kernel
theorem dX8_sayPerson_44 : decode cX8_sayPerson 44 = .ok (.iinc 2 1, 3) := by decide +kernel
theorem dX8_sayPerson_47 : decode cX8_sayPerson 47 = .ok (.goto (-45), 3) := by decide +kernel
theorem dX8_sayPerson_50 : decode cX8_sayPerson 50 = .ok (.iconst 0, 1) := by decide +kernel
theorem dX8_sayPerson_51 : decode cX8_sayPerson 51 = .ok (.istore_n 2, 1) := by decide +kernel
theorem dX8_sayPerson_52 : decode cX8_sayPerson 52 = .ok (.iload_n 2, 1) := by decide +kernel
theorem dX8_sayPerson_53 : decode cX8_sayPerson 53 = .ok (.aload_n 0, 1) := by decide +kernel
theorem dX8_sayPerson_54 : decode cX8_sayPerson 54 = .ok (.getfield 71, 3) := by decide +kernel
theorem dX8_sayPerson_57 : decode cX8_sayPerson 57 = .ok (.if_icmp .ge 31, 3) := by decide +kernel
theorem dX8_sayPerson_60 : decode cX8_sayPerson 60 = .ok (.aload_n 0, 1) := by decide +kernel
theorem dX8_sayPerson_61 : decode cX8_sayPerson 61 = .ok (.aload_n 0, 1) := by decide +kernel
theorem dX8_sayPerson_62 : decode cX8_sayPerson 62 = .ok (.iload_n 1, 1) := by decide +kernel
theorem dX8_sayPerson_63 : decode cX8_sayPerson 63 = .ok (.iload_n 2, 1) := by decide +kernel
theorem dX8_sayPerson_64 : decode cX8_sayPerson 64 = .ok (.invokevirtual 133, 3) := by decide +kernel
theorem dX8_sayPerson_67 : decode cX8_sayPerson 67 = .ok (.i2l, 1) := by decide +kernel
theorem dX8_sayPerson_68 : decode cX8_sayPerson 68 = .ok (.invokevirtual 211, 3) := by decide +kernel
theorem dX8_sayPerson_71 : decode cX8_sayPerson 71 = .ok (.aload_n 0, 1) := by decide +kernel
theorem dX8_sayPerson_72 : decode cX8_sayPerson 72 = .ok (.aload_n 0, 1) := by decide +kernel
theorem dX8_sayPerson_73 : decode cX8_sayPerson 73 = .ok (.iload_n 1, 1) := by decide +kernel
theorem dX8_sayPerson_74 : decode cX8_sayPerson 74 = .ok (.iload_n 2, 1) := by decide +kernel
theorem dX8_sayPerson_75 : decode cX8_sayPerson 75 = .ok (.invokevirtual 136, 3) := by decide +kernel
theorem dX8_sayPerson_78 : decode cX8_sayPerson 78 = .ok (.i2l, 1) := by decide +kernel
theorem dX8_sayPerson_79 : decode cX8_sayPerson 79 = .ok (.invokevirtual 211, 3) := by decide +kernel
theorem dX8_sayPerson_82 : decode cX8_sayPerson 82 = .ok (.iinc 2 1, 3) := by decide +kernel
theorem dX8_sayPerson_85 : decode cX8_sayPerson 85 = .ok (.goto (-33), 3) := by decide +kernel
theorem dX8_sayPerson_88 : decode cX8_sayPerson 88 = .ok (.return_, 1) := by decide +kernel
set_option maxRecDepth 20000 in
theorem ggX8_digest_X8_say : GoodIn wsX8_digest wsX8_say := goodIn_r _ [14, 15, 2, 87, 88, 89, 90, 91, 92, 93, 94, 95, 96, 97, 98, 99, 100, 101, 102, 103, 104, 105, 106, 107, 108, 109, 110, 111] (by decide +kernel) (by decide +kernel)
set_option maxRecDepth 20000 in
theorem gX8_digest_X8_say : GoodIn wsX8_digest (wsV RX8 211 RX8 yX8_say wsX8_say) := goodIn_app (goodIn_of _ (by decide +kernel)) ggX8_digest_X8_say
set_option maxRecDepth 20000 in
theorem ggX8_digest_X8_fewOf : GoodIn wsX8_digest wsX8_fewOf := goodIn_r _ [19, 20, 21, 22, 13, 23, 6, 24, 25, 26, 27, 28, 29, 30, 4, 7, 31, 32, 33, 34, 5, 35, 36, 37, 38, 39, 40, 41, 42, 87, 88, 89, 90, 91, 92, 93, 94, 95, 96, 97, 98, 99, 100, 101, 102, 103, 104, 105, 106, 107, 108, 109, 110, 111] (by decide +kernel) (by decide +kernel)
set_option maxRecDepth 20000 in
theorem gX8_digest_X8_fewOf : GoodIn wsX8_digest (wsV RX8 152 RX8 yX8_fewOf wsX8_fewOf) := goodIn_app (goodIn_of _ (by decide +kernel)) ggX8_digest_X8_fewOf
set_option maxRecDepth 20000 in
theorem ggX8_digest_X8_sayPerson : GoodIn wsX8_digest wsX8_sayPerson := goodIn_r _ [46, 47, 48, 5, 49, 50, 13, 51, 52, 53, 54, 55, 56, 35, 4, 57, 58, 36, 37, 38, 39, 40, 41, 42, 59, 60, 61, 62, 10, 11, 12, 14, 15, 2, 63, 64, 65, 66, 67, 68, 69, 70, 87, 88, 89, 90, 91, 92, 93, 94, 95, 96, 97, 98, 99, 100, 101, 102, 103, 104, 105, 106, 107, 108, 109, 110, 111] (by decide +kernel) (by decide +kernel)
set_option maxRecDepth 20000 in
theorem gX8_digest_X8_sayPerson : GoodIn wsX8_digest (wsV RX8 217 RX8 yX8_sayPerson wsX8_sayPerson) := goodIn_app (goodIn_of _ (by decide +kernel)) ggX8_digest_X8_sayPerson
set_option maxRecDepth 20000 in
theorem ggX8_digest_X8_countOf : GoodIn wsX8_digest wsX8_countOf := goodIn_r _ [74, 5, 6, 75, 76, 8, 77, 78, 79, 80, 81, 13, 82, 3, 4, 83, 84, 85, 86, 35, 87, 88, 89, 90, 91, 92, 93, 94, 95, 96, 97, 98, 99, 100, 101, 102, 103, 104, 105, 106, 107, 108, 109, 110, 111] (by decide +kernel) (by decide +kernel)
set_option maxRecDepth 20000 in
theorem gX8_digest_X8_countOf : GoodIn wsX8_digest (wsV RX8 202 RX8 yX8_countOf wsX8_countOf) := goodIn_app (goodIn_of _ (by decide +kernel)) ggX8_digest_X8_countOf
theorem dX8_digest_0 : decode cX8_digest 0 = .ok (.aload_n 0, 1) := by decide +kernel
theorem dX8_digest_1 : decode cX8_digest 1 = .ok (.ldc2_w 215, 3) := by decide +kernel
theorem dX8_digest_4 : decode cX8_digest 4 = .ok (.putfield 207, 3) := by decide +kernel
theorem dX8_digest_7 : decode cX8_digest 7 = .ok (.iconst 0, 1) := by decide +kernel
theorem dX8_digest_8 : decode cX8_digest 8 = .ok (.istore_n 1, 1) := by decide +kernel
theorem dX8_digest_9 : decode cX8_digest 9 = .ok (.iload_n 1, 1) := by decide +kernel
theorem dX8_digest_10 : decode cX8_digest 10 = .ok (.bipush 6, 2) := by decide +kernel
theorem dX8_digest_12 : decode cX8_digest 12 = .ok (.if_icmp .ge 27, 3) := by decide +kernel
theorem dX8_digest_15 : decode cX8_digest 15 = .ok (.aload_n 0, 1) := by decide +kernel
theorem dX8_digest_16 : decode cX8_digest 16 = .ok (.getfield 63, 3) := by decide +kernel
theorem dX8_digest_19 : decode cX8_digest 19 = .ok (.ifCond .eq 20, 3) := by decide +kernel
theorem dX8_digest_22 : decode cX8_digest 22 = .ok (.aload_n 0, 1) := by decide +kernel
theorem dX8_digest_23 : decode cX8_digest 23 = .ok (.aload_n 0, 1) := by decide +kernel
theorem dX8_digest_24 : decode cX8_digest 24 = .ok (.getfield 13, 3) := by decide +kernel
theorem dX8_digest_27 : decode cX8_digest 27 = .ok (.iload_n 1, 1) := by decide +kernel
theorem dX8_digest_28 : decode cX8_digest 28 = .ok (.iaload, 1) := by decide +kernel
theorem dX8_digest_29 : decode cX8_digest 29 = .ok (.i2l, 1) := by decide +kernel
theorem dX8_digest_30 : decode cX8_digest 30 = .ok (.invokevirtual 211, 3) := by decide +kernel
theorem dX8_digest_33 : decode cX8_digest 33 = .ok (.iinc 1 1, 3) := by decide +kernel
theorem dX8_digest_36 : decode cX8_digest 36 = .ok (.goto (-27), 3) := by decide +kernel
theorem dX8_digest_39 : decode cX8_digest 39 = .ok (.aload_n 0, 1) := by decide +kernel
theorem dX8_digest_40 : decode cX8_digest 40 = .ok (.getfield 63, 3) := by decide +kernel
theorem dX8_digest_43 : decode cX8_digest 43 = .ok (.ifCond .eq 23, 3) := by decide +kernel
theorem dX8_digest_46 : decode cX8_digest 46 = .ok (.aload_n 0, 1) := by decide +kernel
theorem dX8_digest_47 : decode cX8_digest 47 = .ok (.aload_n 0, 1) := by decide +kernel
theorem dX8_digest_48 : decode cX8_digest 48 = .ok (.iconst 0, 1) := by decide +kernel
theorem dX8_digest_49 : decode cX8_digest 49 = .ok (.invokevirtual 152, 3) := by decide +kernel
theorem dX8_digest_52 : decode cX8_digest 52 = .ok (.i2l, 1) := by decide +kernel
theorem dX8_digest_53 : decode cX8_digest 53 = .ok (.invokevirtual 211, 3) := by decide +kernel
theorem dX8_digest_56 : decode cX8_digest 56 = .ok (.aload_n 0, 1) := by decide +kernel
theorem dX8_digest_57 : decode cX8_digest 57 = .ok (.aload_n 0, 1) := by decide +kernel
theorem dX8_digest_58 : decode cX8_digest 58 = .ok (.iconst 1, 1) := by decide +kernel
theorem dX8_digest_59 : decode cX8_digest 59 = .ok (.invokevirtual 152, 3) := by decide +kernel
theorem dX8_digest_62 : decode cX8_digest 62 = .ok (.i2l, 1) := by decide +kernel
theorem dX8_digest_63 : decode cX8_digest 63 = .ok (.invokevirtual 211, 3) := by decide +kernel
theorem dX8_digest_66 : decode cX8_digest 66 = .ok (.iconst 0, 1) := by decide +kernel
theorem dX8_digest_67 : decode cX8_digest 67 = .ok (.istore_n 1, 1) := by decide +kernel
theorem dX8_digest_68 : decode cX8_digest 68 = .ok (.iload_n 1, 1) := by decide +kernel
theorem dX8_digest_69 : decode cX8_digest 69 = .ok (.aload_n 0, 1) := by decide +kernel
theorem dX8_digest_70 : decode cX8_digest 70 = .ok (.getfield 71, 3) := by decide +kernel
theorem dX8_digest_73 : decode cX8_digest 73 = .ok (.if_icmp .ge 14, 3) := by decide +kernel
theorem dX8_digest_76 : decode cX8_digest 76 = .ok (.aload_n 0, 1) := by decide +kernel
theorem dX8_digest_77 : decode cX8_digest 77 = .ok (.iload_n 1, 1) := by decide +kernel
theorem dX8_digest_78 : decode cX8_digest 78 = .ok (.invokevirtual 217, 3) := by decide +kernel
theorem dX8_digest_81 : decode cX8_digest 81 = .ok (.iinc 1 1, 3) := by decide +kernel
theorem dX8_digest_84 : decode cX8_digest 84 = .ok (.goto (-16), 3) := by decide +kernel
theorem dX8_digest_87 : decode cX8_digest 87 = .ok (.iconst 0, 1) := by decide +kernel
theorem dX8_digest_88 : decode cX8_digest 88 = .ok (.istore_n 1, 1) := by decide +kernel
theorem dX8_digest_89 : decode cX8_digest 89 = .ok (.iload_n 1, 1) := by decide +kernel
theorem dX8_digest_90 : decode cX8_digest 90 = .ok (.aload_n 0, 1) := by decide +kernel
theorem dX8_digest_91 : decode cX8_digest 91 = .ok (.getfield 74, 3) := by decide +kernel
theorem dX8_digest_94 : decode cX8_digest 94 = .ok (.if_icmp .ge 20, 3) := by decide +kernel
theorem dX8_digest_97 : decode cX8_digest 97 = .ok (.aload_n 0, 1) := by decide +kernel
theorem dX8_digest_98 : decode cX8_digest 98 = .ok (.aload_n 0, 1) := by decide +kernel
theorem dX8_digest_99 : decode cX8_digest 99 = .ok (.getfield 19, 3) := by decide +kernel
theorem dX8_digest_102 : decode cX8_digest 102 = .ok (.iload_n 1, 1) := by decide +kernel
theorem dX8_digest_103 : decode cX8_digest 103 = .ok (.iaload, 1) := by decide +kernel
theorem dX8_digest_104 : decode cX8_digest 104 = .ok (.i2l, 1) := by decide +kernel
theorem dX8_digest_105 : decode cX8_digest 105 = .ok (.invokevirtual 211, 3) := by decide +kernel
theorem dX8_digest_108 : decode cX8_digest 108 = .ok (.iinc 1 1, 3) := by decide +kernel
theorem dX8_digest_111 : decode cX8_digest 111 = .ok (.goto (-22), 3) := by decide +kernel
theorem dX8_digest_114 : decode cX8_digest 114 = .ok (.iconst 0, 1) := by decide +kernel
theorem dX8_digest_115 : decode cX8_digest 115 = .ok (.istore_n 1, 1) := by decide +kernel
theorem dX8_digest_116 : decode cX8_digest 116 = .ok (.iload_n 1, 1) := by decide +kernel
theorem dX8_digest_117 : decode cX8_digest 117 = .ok (.aload_n 0, 1) := by decide +kernel
theorem dX8_digest_118 : decode cX8_digest 118 = .ok (.getfield 52, 3) := by decide +kernel
theorem dX8_digest_121 : decode cX8_digest 121 = .ok (.if_icmp .ge 20, 3) := by decide +kernel
theorem dX8_digest_124 : decode cX8_digest 124 = .ok (.aload_n 0, 1) := by decide +kernel
theorem dX8_digest_125 : decode cX8_digest 125 = .ok (.aload_n 0, 1) := by decide +kernel
theorem dX8_digest_126 : decode cX8_digest 126 = .ok (.getfield 7, 3) := by decide +kernel
theorem dX8_digest_129 : decode cX8_digest 129 = .ok (.iload_n 1, 1) := by decide +kernel
theorem dX8_digest_130 : decode cX8_digest 130 = .ok (.iaload, 1) := by decide +kernel
theorem dX8_digest_131 : decode cX8_digest 131 = .ok (.i2l, 1) := by decide +kernel
theorem dX8_digest_132 : decode cX8_digest 132 = .ok (.invokevirtual 211, 3) := by decide +kernel
theorem dX8_digest_135 : decode cX8_digest 135 = .ok (.iinc 1 1, 3) := by decide +kernel
theorem dX8_digest_138 : decode cX8_digest 138 = .ok (.goto (-22), 3) := by decide +kernel
theorem dX8_digest_141 : decode cX8_digest 141 = .ok (.iconst 0, 1) := by decide +kernel
theorem dX8_digest_142 : decode cX8_digest 142 = .ok (.istore_n 1, 1) := by decide +kernel
theorem dX8_digest_143 : decode cX8_digest 143 = .ok (.iload_n 1, 1) := by decide +kernel
theorem dX8_digest_144 : decode cX8_digest 144 = .ok (.bipush 9, 2) := by decide +kernel
theorem dX8_digest_146 : decode cX8_digest 146 = .ok (.if_icmp .ge 19, 3) := by decide +kernel
theorem dX8_digest_149 : decode cX8_digest 149 = .ok (.aload_n 0, 1) := by decide +kernel
theorem dX8_digest_150 : decode cX8_digest 150 = .ok (.aload_n 0, 1) := by decide +kernel
theorem dX8_digest_151 : decode cX8_digest 151 = .ok (.iload_n 1, 1) := by decide +kernel
theorem dX8_digest_152 : decode cX8_digest 152 = .ok (.invokevirtual 202, 3) := by decide +kernel
theorem dX8_digest_155 : decode cX8_digest 155 = .ok (.i2l, 1) := by decide +kernel
theorem dX8_digest_156 : decode cX8_digest 156 = .ok (.invokevirtual 211, 3) := by decide +kernel
theorem dX8_digest_159 : decode cX8_digest 159 = .ok (.iinc 1 1, 3) := by decide +kernel
theorem dX8_digest_162 : decode cX8_digest 162 = .ok (.goto (-19), 3) := by decide +kernel
theorem dX8_digest_165 : decode cX8_digest 165 = .ok (.aload_n 0, 1) := by decide +kernel
theorem dX8_digest_166 : decode cX8_digest 166 = .ok (.getfield 207, 3) := by decide +kernel
theorem dX8_digest_169 : decode cX8_digest 169 = .ok (.lreturn, 1) := by decide +kernel
