theorem dX8_sees_10 : decode cX8_sees 10 = .ok (.ireturn, 1) := by decide +kernel
theorem dX8_sees_11 : decode cX8_sees 11 = .ok (.iload_n 2, 1) := by decide +kernel
theorem dX8_sees_12 : decode cX8_sees 12 = .ok (.invokestatic 103, 3) := by decide +kernel
theorem dX8_sees_15 : decode cX8_sees 15 = .ok (.ifCond .eq 12, 3) := by decide +kernel
theorem dX8_sees_18 : decode cX8_sees 18 = .ok (.aload_n 0, 1) := by decide +kernel
theorem dX8_sees_19 : decode cX8_sees 19 = .ok (.iload_n 1, 1) := by decide +kernel
theorem dX8_sees_20 : decode cX8_sees 20 = .ok (.iload_n 2, 1) := by decide +kernel
theorem dX8_sees_21 : decode cX8_sees 21 = .ok (.invokevirtual 106, 3) := by decide +kernel
theorem dX8_sees_24 : decode cX8_sees 24 = .ok (.goto 5, 3) := by decide +kernel
theorem dX8_sees_27 : decode cX8_sees 27 = .ok (.bipush (-102), 2) := by decide +kernel
theorem dX8_sees_29 : decode cX8_sees 29 = .ok (.ireturn, 1) := by decide +kernel
set_option maxRecDepth 20000 in
theorem ggX8_eye_X8_isPerson : GoodIn wsX8_eye wsX8_isPerson := goodIn_r _ [6, 7, 8, 9, 5, 10, 15, 16, 17, 18, 19, 20, 21, 22, 23, 24, 25, 26, 27, 28, 29, 30, 31, 32, 33, 34, 35, 36, 37, 38, 39] (by decide +kernel) (by decide +kernel)
set_option maxRecDepth 20000 in
theorem gX8_eye_X8_isPerson : GoodIn wsX8_eye (wsV RX8 124 RX8 yX8_isPerson wsX8_isPerson) := goodIn_app (goodIn_of _ (by decide +kernel)) ggX8_eye_X8_isPerson
set_option maxRecDepth 20000 in
theorem ggX8_eye_X8_in : GoodIn wsX8_eye wsX8_in := goodIn_r _ [10] (by decide +kernel) (by decide +kernel)
set_option maxRecDepth 20000 in
theorem gX8_eye_X8_in : GoodIn wsX8_eye (va_wsS RX8 46 yX8_in wsX8_in) := goodIn_app (goodIn_of _ (by decide +kernel)) ggX8_eye_X8_in
set_option maxRecDepth 20000 in
theorem ggX8_eye_X8_isHue : GoodIn wsX8_eye wsX8_isHue := goodIn_r _ [13, 14, 8, 9, 5, 10] (by decide +kernel) (by decide +kernel)
set_option maxRecDepth 20000 in
theorem gX8_eye_X8_isHue : GoodIn wsX8_eye (va_wsS RX8 103 yX8_isHue wsX8_isHue) := goodIn_app (goodIn_of _ (by decide +kernel)) ggX8_eye_X8_isHue
theorem dX8_eye_0 : decode cX8_eye 0 = .ok (.aload_n 0, 1) := by decide +kernel
theorem dX8_eye_1 : decode cX8_eye 1 = .ok (.iload_n 1, 1) := by decide +kernel
theorem dX8_eye_2 : decode cX8_eye 2 = .ok (.invokevirtual 124, 3) := by decide +kernel
theorem dX8_eye_5 : decode cX8_eye 5 = .ok (.ifCond .ne 6, 3) := by decide +kernel
theorem dX8_eye_8 : decode cX8_eye 8 = .ok (.bipush (-101), 2) := by decide +kernel
theorem dX8_eye_10 : decode cX8_eye 10 = .ok (.ireturn, 1) := by decide +kernel
theorem dX8_eye_11 : decode cX8_eye 11 = .ok (.iload_n 2, 1) := by decide +kernel
theorem dX8_eye_12 : decode cX8_eye 12 = .ok (.i2l, 1) := by decide +kernel
theorem dX8_eye_13 : decode cX8_eye 13 = .ok (.lconst 0, 1) := by decide +kernel
theorem dX8_eye_14 : decode cX8_eye 14 = .ok (.lconst 1, 1) := by decide +kernel
theorem dX8_eye_15 : decode cX8_eye 15 = .ok (.invokestatic 46, 3) := by decide +kernel
theorem dX8_eye_18 : decode cX8_eye 18 = .ok (.ifCond .eq 10, 3) := by decide +kernel
theorem dX8_eye_21 : decode cX8_eye 21 = .ok (.iload_n 3, 1) := by decide +kernel
theorem dX8_eye_22 : decode cX8_eye 22 = .ok (.invokestatic 103, 3) := by decide +kernel
theorem dX8_eye_25 : decode cX8_eye 25 = .ok (.ifCond .ne 6, 3) := by decide +kernel
theorem dX8_eye_28 : decode cX8_eye 28 = .ok (.bipush (-102), 2) := by decide +kernel
theorem dX8_eye_30 : decode cX8_eye 30 = .ok (.ireturn, 1) := by decide +kernel
theorem dX8_eye_31 : decode cX8_eye 31 = .ok (.aload_n 0, 1) := by decide +kernel
theorem dX8_eye_32 : decode cX8_eye 32 = .ok (.getfield 16, 3) := by decide +kernel
theorem dX8_eye_35 : decode cX8_eye 35 = .ok (.bipush 10, 2) := by decide +kernel
theorem dX8_eye_37 : decode cX8_eye 37 = .ok (.iload_n 1, 1) := by decide +kernel
theorem dX8_eye_38 : decode cX8_eye 38 = .ok (.imul, 1) := by decide +kernel
theorem dX8_eye_39 : decode cX8_eye 39 = .ok (.iconst 1, 1) := by decide +kernel
theorem dX8_eye_40 : decode cX8_eye 40 = .ok (.iadd, 1) := by decide +kernel
theorem dX8_eye_41 : decode cX8_eye 41 = .ok (.iload_n 2, 1) := by decide +kernel
theorem dX8_eye_42 : decode cX8_eye 42 = .ok (.iadd, 1) := by decide +kernel
theorem dX8_eye_43 : decode cX8_eye 43 = .ok (.iaload, 1) := by decide +kernel
theorem dX8_eye_44 : decode cX8_eye 44 = .ok (.istore 4, 2) := by decide +kernel
theorem dX8_eye_46 : decode cX8_eye 46 = .ok (.aload_n 0, 1) := by decide +kernel
theorem dX8_eye_47 : decode cX8_eye 47 = .ok (.getfield 16, 3) := by decide +kernel
theorem dX8_eye_50 : decode cX8_eye 50 = .ok (.bipush 10, 2) := by decide +kernel
theorem dX8_eye_52 : decode cX8_eye 52 = .ok (.iload_n 1, 1) := by decide +kernel
theorem dX8_eye_53 : decode cX8_eye 53 = .ok (.imul, 1) := by decide +kernel
theorem dX8_eye_54 : decode cX8_eye 54 = .ok (.iconst 1, 1) := by decide +kernel
theorem dX8_eye_55 : decode cX8_eye 55 = .ok (.iadd, 1) := by decide +kernel
theorem dX8_eye_56 : decode cX8_eye 56 = .ok (.iload_n 2, 1) := by decide +kernel
theorem dX8_eye_57 : decode cX8_eye 57 = .ok (.iadd, 1) := by decide +kernel
theorem dX8_eye_58 : decode cX8_eye 58 = .ok (.iload_n 3, 1) := by decide +kernel
theorem dX8_eye_59 : decode cX8_eye 59 = .ok (.iastore, 1) := by decide +kernel
theorem dX8_eye_60 : decode cX8_eye 60 = .ok (.iload 4, 2) := by decide +kernel
theorem dX8_eye_62 : decode cX8_eye 62 = .ok (.ireturn, 1) := by decide +kernel
set_option maxRecDepth 20000 in
theorem ggX8_ink_X8_in : GoodIn wsX8_ink wsX8_in := goodIn_r _ [8] (by decide +kernel) (by decide +kernel)
set_option maxRecDepth 20000 in
theorem gX8_ink_X8_in : GoodIn wsX8_ink (va_wsS RX8 46 yX8_in wsX8_in) := goodIn_app (goodIn_of _ (by decide +kernel)) ggX8_ink_X8_in
theorem dX8_ink_0 : decode cX8_ink 0 = .ok (.iload_n 1, 1) := by decide +kernel
theorem dX8_ink_1 : decode cX8_ink 1 = .ok (.i2l, 1) := by decide +kernel
theorem dX8_ink_2 : decode cX8_ink 2 = .ok (.lconst 1, 1) := by decide +kernel
theorem dX8_ink_3 : decode cX8_ink 3 = .ok (.ldc2_w 44, 3) := by decide +kernel
theorem dX8_ink_6 : decode cX8_ink 6 = .ok (.invokestatic 46, 3) := by decide +kernel
theorem dX8_ink_9 : decode cX8_ink 9 = .ok (.ifCond .ne 6, 3) := by decide +kernel
theorem dX8_ink_12 : decode cX8_ink 12 = .ok (.bipush (-102), 2) := by decide +kernel
theorem dX8_ink_14 : decode cX8_ink 14 = .ok (.ireturn, 1) := by decide +kernel
theorem dX8_ink_15 : decode cX8_ink 15 = .ok (.aload_n 0, 1) := by decide +kernel
theorem dX8_ink_16 : decode cX8_ink 16 = .ok (.getfield 63, 3) := by decide +kernel
theorem dX8_ink_19 : decode cX8_ink 19 = .ok (.ifCond .ne 6, 3) := by decide +kernel
theorem dX8_ink_22 : decode cX8_ink 22 = .ok (.bipush (-103), 2) := by decide +kernel
theorem dX8_ink_24 : decode cX8_ink 24 = .ok (.ireturn, 1) := by decide +kernel
theorem dX8_ink_25 : decode cX8_ink 25 = .ok (.aload_n 0, 1) := by decide +kernel
theorem dX8_ink_26 : decode cX8_ink 26 = .ok (.getfield 74, 3) := by decide +kernel
theorem dX8_ink_29 : decode cX8_ink 29 = .ok (.iconst 5, 1) := by decide +kernel
theorem dX8_ink_30 : decode cX8_ink 30 = .ok (.if_icmp .ne 6, 3) := by decide +kernel
theorem dX8_ink_33 : decode cX8_ink 33 = .ok (.bipush (-104), 2) := by decide +kernel
theorem dX8_ink_35 : decode cX8_ink 35 = .ok (.ireturn, 1) := by decide +kernel
theorem dX8_ink_36 : decode cX8_ink 36 = .ok (.aload_n 0, 1) := by decide +kernel
theorem dX8_ink_37 : decode cX8_ink 37 = .ok (.getfield 19, 3) := by decide +kernel
theorem dX8_ink_40 : decode cX8_ink 40 = .ok (.aload_n 0, 1) := by decide +kernel
theorem dX8_ink_41 : decode cX8_ink 41 = .ok (.getfield 74, 3) := by decide +kernel
theorem dX8_ink_44 : decode cX8_ink 44 = .ok (.iload_n 1, 1) := by decide +kernel
theorem dX8_ink_45 : decode cX8_ink 45 = .ok (.iastore, 1) := by decide +kernel
theorem dX8_ink_46 : decode cX8_ink 46 = .ok (.aload_n 0, 1) := by decide +kernel
theorem dX8_ink_47 : decode cX8_ink 47 = .ok (.dup, 1) := by decide +kernel
theorem dX8_ink_48 : decode cX8_ink 48 = .ok (.getfield 74, 3) := by decide +kernel
theorem dX8_ink_51 : decode cX8_ink 51 = .ok (.iconst 1, 1) := by decide +kernel
theorem dX8_ink_52 : decode cX8_ink 52 = .ok (.iadd, 1) := by decide +kernel
theorem dX8_ink_53 : decode cX8_ink 53 = .ok (.putfield 74, 3) := by decide +kernel
theorem dX8_ink_56 : decode cX8_ink 56 = .ok (.aload_n 0, 1) := by decide +kernel
theorem dX8_ink_57 : decode cX8_ink 57 = .ok (.getfield 74, 3) := by decide +kernel
theorem dX8_ink_60 : decode cX8_ink 60 = .ok (.iconst 1, 1) := by decide +kernel
theorem dX8_ink_61 : decode cX8_ink 61 = .ok (.isub, 1) := by decide +kernel
theorem dX8_ink_62 : decode cX8_ink 62 = .ok (.ireturn, 1) := by decide +kernel
set_option maxRecDepth 20000 in
theorem ggX8_inkOf_X8_isInk : GoodIn wsX8_inkOf wsX8_isInk := goodIn_r _ [6, 7, 8, 9, 5, 10, 11, 12, 13, 14, 15, 16, 17, 18, 19, 20, 21, 22, 23, 24, 25, 26, 27, 28, 29, 30, 31, 32, 33, 34, 35] (by decide +kernel) (by decide +kernel)
set_option maxRecDepth 20000 in
theorem gX8_inkOf_X8_isInk : GoodIn wsX8_inkOf (wsV RX8 91 RX8 yX8_isInk wsX8_isInk) := goodIn_app (goodIn_of _ (by decide +kernel)) ggX8_inkOf_X8_isInk
theorem dX8_inkOf_0 : decode cX8_inkOf 0 = .ok (.aload_n 0, 1) := by decide +kernel
theorem dX8_inkOf_1 : decode cX8_inkOf 1 = .ok (.iload_n 1, 1) := by decide +kernel
theorem dX8_inkOf_2 : decode cX8_inkOf 2 = .ok (.invokevirtual 91, 3) := by decide +kernel
theorem dX8_inkOf_5 : decode cX8_inkOf 5 = .ok (.ifCond .eq 12, 3) := by decide +kernel
theorem dX8_inkOf_8 : decode cX8_inkOf 8 = .ok (.aload_n 0, 1) := by decide +kernel
theorem dX8_inkOf_9 : decode cX8_inkOf 9 = .ok (.getfield 19, 3) := by decide +kernel
theorem dX8_inkOf_12 : decode cX8_inkOf 12 = .ok (.iload_n 1, 1) := by decide +kernel
theorem dX8_inkOf_13 : decode cX8_inkOf 13 = .ok (.iaload, 1) := by decide +kernel
theorem dX8_inkOf_14 : decode cX8_inkOf 14 = .ok (.goto 5, 3) := by decide +kernel
theorem dX8_inkOf_17 : decode cX8_inkOf 17 = .ok (.bipush (-101), 2) := by decide +kernel
theorem dX8_inkOf_19 : decode cX8_inkOf 19 = .ok (.ireturn, 1) := by decide +kernel
theorem dX8_wordMany_0 : decode cX8_wordMany 0 = .ok (.iconst 0, 1) := by decide +kernel
theorem dX8_wordMany_1 : decode cX8_wordMany 1 = .ok (.istore_n 1, 1) := by decide +kernel
theorem dX8_wordMany_2 : decode cX8_wordMany 2 = .ok (.iconst 0, 1) := by decide +kernel
theorem dX8_wordMany_3 : decode cX8_wordMany 3 = .ok (.istore_n 2, 1) := by decide +kernel
theorem dX8_wordMany_4 : decode cX8_wordMany 4 = .ok (.iload_n 2, 1) := by decide +kernel
theorem dX8_wordMany_5 : decode cX8_wordMany 5 = .ok (.aload_n 0, 1) := by decide +kernel
theorem dX8_wordMany_6 : decode cX8_wordMany 6 = .ok (.getfield 71, 3) := by decide +kernel
theorem dX8_wordMany_9 : decode cX8_wordMany 9 = .ok (.if_icmp .ge 23, 3) := by decide +kernel
theorem dX8_wordMany_12 : decode cX8_wordMany 12 = .ok (.iload_n 1, 1) := by decide +kernel
theorem dX8_wordMany_13 : decode cX8_wordMany 13 = .ok (.aload_n 0, 1) := by decide +kernel
theorem dX8_wordMany_14 : decode cX8_wordMany 14 = .ok (.getfield 16, 3) := by decide +kernel
theorem dX8_wordMany_17 : decode cX8_wordMany 17 = .ok (.bipush 10, 2) := by decide +kernel
theorem dX8_wordMany_19 : decode cX8_wordMany 19 = .ok (.iload_n 2, 1) := by decide +kernel
theorem dX8_wordMany_20 : decode cX8_wordMany 20 = .ok (.imul, 1) := by decide +kernel
theorem dX8_wordMany_21 : decode cX8_wordMany 21 = .ok (.iconst 3, 1) := by decide +kernel
theorem dX8_wordMany_22 : decode cX8_wordMany 22 = .ok (.iadd, 1) := by decide +kernel
theorem dX8_wordMany_23 : decode cX8_wordMany 23 = .ok (.iaload, 1) := by decide +kernel
theorem dX8_wordMany_24 : decode cX8_wordMany 24 = .ok (.iadd, 1) := by decide +kernel
theorem dX8_wordMany_25 : decode cX8_wordMany 25 = .ok (.istore_n 1, 1) := by decide +kernel
theorem dX8_wordMany_26 : decode cX8_wordMany 26 = .ok (.iinc 2 1, 3) := by decide +kernel
theorem dX8_wordMany_29 : decode cX8_wordMany 29 = .ok (.goto (-25), 3) := by decide +kernel
theorem dX8_wordMany_32 : decode cX8_wordMany 32 = .ok (.iload_n 1, 1) := by decide +kernel
theorem dX8_wordMany_33 : decode cX8_wordMany 33 = .ok (.ireturn, 1) := by decide +kernel
set_option maxRecDepth 20000 in
theorem ggX8_word_X8_isPerson : GoodIn wsX8_word wsX8_isPerson := goodIn_r _ [8, 9, 10, 11, 7, 12, 27, 28, 29, 30, 31, 32, 33, 34, 35, 36, 37, 38, 39, 40, 41, 42, 43, 44, 45, 46, 47, 48, 49, 50, 51] (by decide +kernel) (by decide +kernel)
set_option maxRecDepth 20000 in
theorem gX8_word_X8_isPerson : GoodIn wsX8_word (wsV RX8 124 RX8 yX8_isPerson wsX8_isPerson) := goodIn_app (goodIn_of _ (by decide +kernel)) ggX8_word_X8_isPerson
set_option maxRecDepth 20000 in
theorem ggX8_word_X8_isSix : GoodIn wsX8_word wsX8_isSix := goodIn_r _ [16, 3, 17, 18, 19, 7, 20, 2, 21, 22, 10, 11, 12, 27, 28, 29, 30, 31, 32, 33, 34, 35, 36, 37, 38, 39, 40, 41, 42, 43, 44, 45, 46, 47, 48, 49, 50, 51] (by decide +kernel) (by decide +kernel)
set_option maxRecDepth 20000 in
theorem gX8_word_X8_isSix : GoodIn wsX8_word (wsV RX8 67 RX8 yX8_isSix wsX8_isSix) := goodIn_app (goodIn_of _ (by decide +kernel)) ggX8_word_X8_isSix
set_option maxRecDepth 20000 in
theorem ggX8_word_X8_wordMany : GoodIn wsX8_word wsX8_wordMany := goodIn_r _ [26, 9, 1, 27, 28, 29, 30, 31, 32, 33, 34, 35, 36, 37, 38, 39, 40, 41, 42, 43, 44, 45, 46, 47, 48, 49, 50, 51] (by decide +kernel) (by decide +kernel)
set_option maxRecDepth 20000 in
theorem gX8_word_X8_wordMany : GoodIn wsX8_word (wsV RX8 130 RX8 yX8_wordMany wsX8_wordMany) := goodIn_app (goodIn_of _ (by decide +kernel)) ggX8_word_X8_wordMany
theorem dX8_word_0 : decode cX8_word 0 = .ok (.aload_n 0, 1) := by decide +kernel
theorem dX8_word_1 : decode cX8_word 1 = .ok (.iload_n 1, 1) := by decide +kernel
theorem dX8_word_2 : decode cX8_word 2 = .ok (.invokevirtual 124, 3) := by decide +kernel
theorem dX8_word_5 : decode cX8_word 5 = .ok (.ifCond .ne 6, 3) := by decide +kernel
theorem dX8_word_8 : decode cX8_word 8 = .ok (.bipush (-101), 2) := by decide +kernel
theorem dX8_word_10 : decode cX8_word 10 = .ok (.ireturn, 1) := by decide +kernel
theorem dX8_word_11 : decode cX8_word 11 = .ok (.aload_n 0, 1) := by decide +kernel
theorem dX8_word_12 : decode cX8_word 12 = .ok (.invokevirtual 67, 3) := by decide +kernel
theorem dX8_word_15 : decode cX8_word 15 = .ok (.ifCond .ne 6, 3) := by decide +kernel
theorem dX8_word_18 : decode cX8_word 18 = .ok (.bipush (-103), 2) := by decide +kernel
theorem dX8_word_20 : decode cX8_word 20 = .ok (.ireturn, 1) := by decide +kernel
theorem dX8_word_21 : decode cX8_word 21 = .ok (.iconst 0, 1) := by decide +kernel
theorem dX8_word_22 : decode cX8_word 22 = .ok (.istore_n 2, 1) := by decide +kernel
theorem dX8_word_23 : decode cX8_word 23 = .ok (.iload_n 2, 1) := by decide +kernel
theorem dX8_word_24 : decode cX8_word 24 = .ok (.bipush 6, 2) := by decide +kernel
theorem dX8_word_26 : decode cX8_word 26 = .ok (.if_icmp .ge 31, 3) := by decide +kernel
theorem dX8_word_29 : decode cX8_word 29 = .ok (.aload_n 0, 1) := by decide +kernel
theorem dX8_word_30 : decode cX8_word 30 = .ok (.getfield 16, 3) := by decide +kernel
theorem dX8_word_33 : decode cX8_word 33 = .ok (.bipush 10, 2) := by decide +kernel
theorem dX8_word_35 : decode cX8_word 35 = .ok (.iload_n 1, 1) := by decide +kernel
theorem dX8_word_36 : decode cX8_word 36 = .ok (.imul, 1) := by decide +kernel
theorem dX8_word_37 : decode cX8_word 37 = .ok (.iconst 4, 1) := by decide +kernel
theorem dX8_word_38 : decode cX8_word 38 = .ok (.iadd, 1) := by decide +kernel
theorem dX8_word_39 : decode cX8_word 39 = .ok (.iload_n 2, 1) := by decide +kernel
theorem dX8_word_40 : decode cX8_word 40 = .ok (.iadd, 1) := by decide +kernel
theorem dX8_word_41 : decode cX8_word 41 = .ok (.aload_n 0, 1) := by decide +kernel
theorem dX8_word_42 : decode cX8_word 42 = .ok (.getfield 7, 3) := by decide +kernel
theorem dX8_word_45 : decode cX8_word 45 = .ok (.iload_n 2, 1) := by decide +kernel
theorem dX8_word_46 : decode cX8_word 46 = .ok (.iaload, 1) := by decide +kernel
theorem dX8_word_47 : decode cX8_word 47 = .ok (.bipush 48, 2) := by decide +kernel
theorem dX8_word_49 : decode cX8_word 49 = .ok (.isub, 1) := by decide +kernel
theorem dX8_word_50 : decode cX8_word 50 = .ok (.iastore, 1) := by decide +kernel
theorem dX8_word_51 : decode cX8_word 51 = .ok (.iinc 2 1, 3) := by decide +kernel
theorem dX8_word_54 : decode cX8_word 54 = .ok (.goto (-31), 3) := by decide +kernel
theorem dX8_word_57 : decode cX8_word 57 = .ok (.aload_n 0, 1) := by decide +kernel
theorem dX8_word_58 : decode cX8_word 58 = .ok (.getfield 16, 3) := by decide +kernel
theorem dX8_word_61 : decode cX8_word 61 = .ok (.bipush 10, 2) := by decide +kernel
theorem dX8_word_63 : decode cX8_word 63 = .ok (.iload_n 1, 1) := by decide +kernel
theorem dX8_word_64 : decode cX8_word 64 = .ok (.imul, 1) := by decide +kernel
theorem dX8_word_65 : decode cX8_word 65 = .ok (.iconst 3, 1) := by decide +kernel
theorem dX8_word_66 : decode cX8_word 66 = .ok (.iadd, 1) := by decide +kernel
theorem dX8_word_67 : decode cX8_word 67 = .ok (.iconst 1, 1) := by decide +kernel
theorem dX8_word_68 : decode cX8_word 68 = .ok (.iastore, 1) := by decide +kernel
theorem dX8_word_69 : decode cX8_word 69 = .ok (.aload_n 0, 1) := by decide +kernel
theorem dX8_word_70 : decode cX8_word 70 = .ok (.iconst 0, 1) := by decide +kernel
theorem dX8_word_71 : decode cX8_word 71 = .ok (.putfield 52, 3) := by decide +kernel
theorem dX8_word_74 : decode cX8_word 74 = .ok (.aload_n 0, 1) := by decide +kernel
theorem dX8_word_75 : decode cX8_word 75 = .ok (.invokevirtual 130, 3) := by decide +kernel
theorem dX8_word_78 : decode cX8_word 78 = .ok (.ireturn, 1) := by decide +kernel
set_option maxRecDepth 20000 in
theorem ggX8_unword_X8_isPerson : GoodIn wsX8_unword wsX8_isPerson := goodIn_r _ [6, 7, 8, 9, 5, 10, 11, 12, 13, 14, 15, 16, 17, 18, 19, 20, 21, 22, 23, 24, 25, 26, 27, 28, 29, 30, 31, 32, 33, 34, 35] (by decide +kernel) (by decide +kernel)
set_option maxRecDepth 20000 in
theorem gX8_unword_X8_isPerson : GoodIn wsX8_unword (wsV RX8 124 RX8 yX8_isPerson wsX8_isPerson) := goodIn_app (goodIn_of _ (by decide +kernel)) ggX8_unword_X8_isPerson
theorem dX8_unword_0 : decode cX8_unword 0 = .ok (.aload_n 0, 1) := by decide +kernel
theorem dX8_unword_1 : decode cX8_unword 1 = .ok (.iload_n 1, 1) := by decide +kernel
theorem dX8_unword_2 : decode cX8_unword 2 = .ok (.invokevirtual 124, 3) := by decide +kernel
theorem dX8_unword_5 : decode cX8_unword 5 = .ok (.ifCond .ne 6, 3) := by decide +kernel
theorem dX8_unword_8 : decode cX8_unword 8 = .ok (.bipush (-101), 2) := by decide +kernel
theorem dX8_unword_10 : decode cX8_unword 10 = .ok (.ireturn, 1) := by decide +kernel
theorem dX8_unword_11 : decode cX8_unword 11 = .ok (.aload_n 0, 1) := by decide +kernel
theorem dX8_unword_12 : decode cX8_unword 12 = .ok (.getfield 16, 3) := by decide +kernel
theorem dX8_unword_15 : decode cX8_unword 15 = .ok (.bipush 10, 2) := by decide +kernel
theorem dX8_unword_17 : decode cX8_unword 17 = .ok (.iload_n 1, 1) := by decide +kernel
theorem dX8_unword_18 : decode cX8_unword 18 = .ok (.imul, 1) := by decide +kernel
theorem dX8_unword_19 : decode cX8_unword 19 = .ok (.iconst 3, 1) := by decide +kernel
theorem dX8_unword_20 : decode cX8_unword 20 = .ok (.iadd, 1) := by decide +kernel
theorem dX8_unword_21 : decode cX8_unword 21 = .ok (.iaload, 1) := by decide +kernel
theorem dX8_unword_22 : decode cX8_unword 22 = .ok (.istore_n 2, 1) := by decide +kernel
theorem dX8_unword_23 : decode cX8_unword 23 = .ok (.aload_n 0, 1) := by decide +kernel
theorem dX8_unword_24 : decode cX8_unword 24 = .ok (.getfield 16, 3) := by decide +kernel
theorem dX8_unword_27 : decode cX8_unword 27 = .ok (.bipush 10, 2) := by decide +kernel
theorem dX8_unword_29 : decode cX8_unword 29 = .ok (.iload_n 1, 1) := by decide +kernel
theorem dX8_unword_30 : decode cX8_unword 30 = .ok (.imul, 1) := by decide +kernel
theorem dX8_unword_31 : decode cX8_unword 31 = .ok (.iconst 3, 1) := by decide +kernel
theorem dX8_unword_32 : decode cX8_unword 32 = .ok (.iadd, 1) := by decide +kernel
theorem dX8_unword_33 : decode cX8_unword 33 = .ok (.iconst 0, 1) := by decide +kernel
theorem dX8_unword_34 : decode cX8_unword 34 = .ok (.iastore, 1) := by decide +kernel
theorem dX8_unword_35 : decode cX8_unword 35 = .ok (.iload_n 2, 1) := by decide +kernel
theorem dX8_unword_36 : decode cX8_unword 36 = .ok (.ireturn, 1) := by decide +kernel
set_option maxRecDepth 20000 in
theorem ggX8_differOf_X8_seesOf : GoodIn wsX8_differOf wsX8_seesOf := goodIn_r _ [6, 7, 8, 9, 5, 10, 11, 12, 13, 14, 15, 16, 17, 18, 19, 20, 21, 22, 23, 24, 25, 26, 27, 28, 29, 30, 31, 32, 33, 34, 35] (by decide +kernel) (by decide +kernel)
set_option maxRecDepth 20000 in
theorem gX8_differOf_X8_seesOf : GoodIn wsX8_differOf (wsV RX8 106 RX8 yX8_seesOf wsX8_seesOf) := goodIn_app (goodIn_of _ (by decide +kernel)) ggX8_differOf_X8_seesOf
theorem dX8_differOf_0 : decode cX8_differOf 0 = .ok (.iconst 0, 1) := by decide +kernel
theorem dX8_differOf_1 : decode cX8_differOf 1 = .ok (.istore_n 3, 1) := by decide +kernel
theorem dX8_differOf_2 : decode cX8_differOf 2 = .ok (.iload_n 3, 1) := by decide +kernel
theorem dX8_differOf_3 : decode cX8_differOf 3 = .ok (.bipush 6, 2) := by decide +kernel
theorem dX8_differOf_5 : decode cX8_differOf 5 = .ok (.if_icmp .ge 36, 3) := by decide +kernel
theorem dX8_differOf_8 : decode cX8_differOf 8 = .ok (.aload_n 0, 1) := by decide +kernel
theorem dX8_differOf_9 : decode cX8_differOf 9 = .ok (.iload_n 1, 1) := by decide +kernel
theorem dX8_differOf_10 : decode cX8_differOf 10 = .ok (.aload_n 0, 1) := by decide +kernel
theorem dX8_differOf_11 : decode cX8_differOf 11 = .ok (.getfield 13, 3) := by decide +kernel
theorem dX8_differOf_14 : decode cX8_differOf 14 = .ok (.iload_n 3, 1) := by decide +kernel
theorem dX8_differOf_15 : decode cX8_differOf 15 = .ok (.iaload, 1) := by decide +kernel
theorem dX8_differOf_16 : decode cX8_differOf 16 = .ok (.invokevirtual 106, 3) := by decide +kernel
theorem dX8_differOf_19 : decode cX8_differOf 19 = .ok (.aload_n 0, 1) := by decide +kernel
theorem dX8_differOf_20 : decode cX8_differOf 20 = .ok (.iload_n 2, 1) := by decide +kernel
theorem dX8_differOf_21 : decode cX8_differOf 21 = .ok (.aload_n 0, 1) := by decide +kernel
theorem dX8_differOf_22 : decode cX8_differOf 22 = .ok (.getfield 13, 3) := by decide +kernel
theorem dX8_differOf_25 : decode cX8_differOf 25 = .ok (.iload_n 3, 1) := by decide +kernel
theorem dX8_differOf_26 : decode cX8_differOf 26 = .ok (.iaload, 1) := by decide +kernel
theorem dX8_differOf_27 : decode cX8_differOf 27 = .ok (.invokevirtual 106, 3) := by decide +kernel
theorem dX8_differOf_30 : decode cX8_differOf 30 = .ok (.if_icmp .eq 5, 3) := by decide +kernel
theorem dX8_differOf_33 : decode cX8_differOf 33 = .ok (.iload_n 3, 1) := by decide +kernel
theorem dX8_differOf_34 : decode cX8_differOf 34 = .ok (.ireturn, 1) := by decide +kernel
theorem dX8_differOf_35 : decode cX8_differOf 35 = .ok (.iinc 3 1, 3) := by decide +kernel
theorem dX8_differOf_38 : decode cX8_differOf 38 = .ok (.goto (-36), 3) := by decide +kernel
theorem dX8_differOf_41 : decode cX8_differOf 41 = .ok (.iconst (-1), 1) := by decide +kernel
theorem dX8_differOf_42 : decode cX8_differOf 42 = .ok (.ireturn, 1) := by decide +kernel
set_option maxRecDepth 20000 in
theorem ggX8_differ_X8_isPerson : GoodIn wsX8_differ wsX8_isPerson := goodIn_r _ [5, 6, 7, 8, 4, 9, 23, 24, 25, 26, 27, 28, 29, 30, 31, 32, 33, 34, 35, 36, 37, 38, 39, 40, 41, 42, 43, 44, 45, 46, 47] (by decide +kernel) (by decide +kernel)
set_option maxRecDepth 20000 in
theorem gX8_differ_X8_isPerson : GoodIn wsX8_differ (wsV RX8 124 RX8 yX8_isPerson wsX8_isPerson) := goodIn_app (goodIn_of _ (by decide +kernel)) ggX8_differ_X8_isPerson
set_option maxRecDepth 20000 in
theorem ggX8_differ_X8_differOf : GoodIn wsX8_differ wsX8_differOf := goodIn_r _ [13, 14, 15, 16, 17, 4, 18, 19, 20, 21, 22, 23, 24, 25, 26, 27, 28, 29, 30, 31, 32, 33, 34, 35, 36, 37, 38, 39, 40, 41, 42, 43, 44, 45, 46, 47] (by decide +kernel) (by decide +kernel)
set_option maxRecDepth 20000 in
theorem gX8_differ_X8_differOf : GoodIn wsX8_differ (wsV RX8 133 RX8 yX8_differOf wsX8_differOf) := goodIn_app (goodIn_of _ (by decide +kernel)) ggX8_differ_X8_differOf
theorem dX8_differ_0 : decode cX8_differ 0 = .ok (.aload_n 0, 1) := by decide +kernel
theorem dX8_differ_1 : decode cX8_differ 1 = .ok (.iload_n 1, 1) := by decide +kernel
theorem dX8_differ_2 : decode cX8_differ 2 = .ok (.invokevirtual 124, 3) := by decide +kernel
theorem dX8_differ_5 : decode cX8_differ 5 = .ok (.ifCond .eq 20, 3) := by decide +kernel
theorem dX8_differ_8 : decode cX8_differ 8 = .ok (.aload_n 0, 1) := by decide +kernel
theorem dX8_differ_9 : decode cX8_differ 9 = .ok (.iload_n 2, 1) := by decide +kernel
theorem dX8_differ_10 : decode cX8_differ 10 = .ok (.invokevirtual 124, 3) := by decide +kernel
theorem dX8_differ_13 : decode cX8_differ 13 = .ok (.ifCond .eq 12, 3) := by decide +kernel
theorem dX8_differ_16 : decode cX8_differ 16 = .ok (.aload_n 0, 1) := by decide +kernel
theorem dX8_differ_17 : decode cX8_differ 17 = .ok (.iload_n 1, 1) := by decide +kernel
theorem dX8_differ_18 : decode cX8_differ 18 = .ok (.iload_n 2, 1) := by decide +kernel
theorem dX8_differ_19 : decode cX8_differ 19 = .ok (.invokevirtual 133, 3) := by decide +kernel
theorem dX8_differ_22 : decode cX8_differ 22 = .ok (.goto 5, 3) := by decide +kernel
theorem dX8_differ_25 : decode cX8_differ 25 = .ok (.bipush (-101), 2) := by decide +kernel
theorem dX8_differ_27 : decode cX8_differ 27 = .ok (.ireturn, 1) := by decide +kernel
set_option maxRecDepth 20000 in
theorem ggX8_alikeOf_X8_seesOf : GoodIn wsX8_alikeOf wsX8_seesOf := goodIn_r _ [5, 6, 7, 8, 4, 9, 10, 11, 12, 13, 14, 15, 16, 17, 18, 19, 20, 21, 22, 23, 24, 25, 26, 27, 28, 29, 30, 31, 32, 33, 34] (by decide +kernel) (by decide +kernel)
set_option maxRecDepth 20000 in
theorem gX8_alikeOf_X8_seesOf : GoodIn wsX8_alikeOf (wsV RX8 106 RX8 yX8_seesOf wsX8_seesOf) := goodIn_app (goodIn_of _ (by decide +kernel)) ggX8_alikeOf_X8_seesOf
theorem dX8_alikeOf_0 : decode cX8_alikeOf 0 = .ok (.iconst 0, 1) := by decide +kernel
theorem dX8_alikeOf_1 : decode cX8_alikeOf 1 = .ok (.istore_n 3, 1) := by decide +kernel
theorem dX8_alikeOf_2 : decode cX8_alikeOf 2 = .ok (.iconst 0, 1) := by decide +kernel
theorem dX8_alikeOf_3 : decode cX8_alikeOf 3 = .ok (.istore 4, 2) := by decide +kernel
theorem dX8_alikeOf_5 : decode cX8_alikeOf 5 = .ok (.iload 4, 2) := by decide +kernel
theorem dX8_alikeOf_7 : decode cX8_alikeOf 7 = .ok (.bipush 8, 2) := by decide +kernel
theorem dX8_alikeOf_9 : decode cX8_alikeOf 9 = .ok (.if_icmp .ge 34, 3) := by decide +kernel
theorem dX8_alikeOf_12 : decode cX8_alikeOf 12 = .ok (.iload_n 3, 1) := by decide +kernel
theorem dX8_alikeOf_13 : decode cX8_alikeOf 13 = .ok (.aload_n 0, 1) := by decide +kernel
theorem dX8_alikeOf_14 : decode cX8_alikeOf 14 = .ok (.iload_n 1, 1) := by decide +kernel
theorem dX8_alikeOf_15 : decode cX8_alikeOf 15 = .ok (.iload 4, 2) := by decide +kernel
theorem dX8_alikeOf_17 : decode cX8_alikeOf 17 = .ok (.invokevirtual 106, 3) := by decide +kernel
theorem dX8_alikeOf_20 : decode cX8_alikeOf 20 = .ok (.aload_n 0, 1) := by decide +kernel
theorem dX8_alikeOf_21 : decode cX8_alikeOf 21 = .ok (.iload_n 2, 1) := by decide +kernel
theorem dX8_alikeOf_22 : decode cX8_alikeOf 22 = .ok (.iload 4, 2) := by decide +kernel
theorem dX8_alikeOf_24 : decode cX8_alikeOf 24 = .ok (.invokevirtual 106, 3) := by decide +kernel
theorem dX8_alikeOf_27 : decode cX8_alikeOf 27 = .ok (.if_icmp .ne 7, 3) := by decide +kernel
theorem dX8_alikeOf_30 : decode cX8_alikeOf 30 = .ok (.iconst 1, 1) := by decide +kernel
theorem dX8_alikeOf_31 : decode cX8_alikeOf 31 = .ok (.goto 4, 3) := by decide +kernel
theorem dX8_alikeOf_34 : decode cX8_alikeOf 34 = .ok (.iconst 0, 1) := by decide +kernel
theorem dX8_alikeOf_35 : decode cX8_alikeOf 35 = .ok (.iadd, 1) := by decide +kernel
theorem dX8_alikeOf_36 : decode cX8_alikeOf 36 = .ok (.istore_n 3, 1) := by decide +kernel
theorem dX8_alikeOf_37 : decode cX8_alikeOf 37 = .ok (.iinc 4 1, 3) := by decide +kernel
theorem dX8_alikeOf_40 : decode cX8_alikeOf 40 = .ok (.goto (-35), 3) := by decide +kernel
theorem dX8_alikeOf_43 : decode cX8_alikeOf 43 = .ok (.iload_n 3, 1) := by decide +kernel
theorem dX8_alikeOf_44 : decode cX8_alikeOf 44 = .ok (.ireturn, 1) := by decide +kernel
set_option maxRecDepth 20000 in
theorem ggX8_alike_X8_isPerson : GoodIn wsX8_alike wsX8_isPerson := goodIn_r _ [5, 6, 7, 8, 4, 9, 22, 23, 24, 25, 26, 27, 28, 29, 30, 31, 32, 33, 34, 35, 36, 37, 38, 39, 40, 41, 42, 43, 44, 45, 46] (by decide +kernel) (by decide +kernel)
set_option maxRecDepth 20000 in
theorem gX8_alike_X8_isPerson : GoodIn wsX8_alike (wsV RX8 124 RX8 yX8_isPerson wsX8_isPerson) := goodIn_app (goodIn_of _ (by decide +kernel)) ggX8_alike_X8_isPerson
set_option maxRecDepth 20000 in
theorem ggX8_alike_X8_alikeOf : GoodIn wsX8_alike wsX8_alikeOf := goodIn_r _ [13, 14, 15, 16, 4, 17, 18, 19, 20, 21, 22, 23, 24, 25, 26, 27, 28, 29, 30, 31, 32, 33, 34, 35, 36, 37, 38, 39, 40, 41, 42, 43, 44, 45, 46] (by decide +kernel) (by decide +kernel)
set_option maxRecDepth 20000 in
theorem gX8_alike_X8_alikeOf : GoodIn wsX8_alike (wsV RX8 136 RX8 yX8_alikeOf wsX8_alikeOf) := goodIn_app (goodIn_of _ (by decide +kernel)) ggX8_alike_X8_alikeOf
theorem dX8_alike_0 : decode cX8_alike 0 = .ok (.aload_n 0, 1) := by decide +kernel
theorem dX8_alike_1 : decode cX8_alike 1 = .ok (.iload_n 1, 1) := by decide +kernel
theorem dX8_alike_2 : decode cX8_alike 2 = .ok (.invokevirtual 124, 3) := by decide +kernel
theorem dX8_alike_5 : decode cX8_alike 5 = .ok (.ifCond .eq 20, 3) := by decide +kernel
theorem dX8_alike_8 : decode cX8_alike 8 = .ok (.aload_n 0, 1) := by decide +kernel
theorem dX8_alike_9 : decode cX8_alike 9 = .ok (.iload_n 2, 1) := by decide +kernel
theorem dX8_alike_10 : decode cX8_alike 10 = .ok (.invokevirtual 124, 3) := by decide +kernel
theorem dX8_alike_13 : decode cX8_alike 13 = .ok (.ifCond .eq 12, 3) := by decide +kernel
theorem dX8_alike_16 : decode cX8_alike 16 = .ok (.aload_n 0, 1) := by decide +kernel
theorem dX8_alike_17 : decode cX8_alike 17 = .ok (.iload_n 1, 1) := by decide +kernel
theorem dX8_alike_18 : decode cX8_alike 18 = .ok (.iload_n 2, 1) := by decide +kernel
theorem dX8_alike_19 : decode cX8_alike 19 = .ok (.invokevirtual 136, 3) := by decide +kernel
theorem dX8_alike_22 : decode cX8_alike 22 = .ok (.goto 5, 3) := by decide +kernel
theorem dX8_alike_25 : decode cX8_alike 25 = .ok (.bipush (-101), 2) := by decide +kernel
theorem dX8_alike_27 : decode cX8_alike 27 = .ok (.ireturn, 1) := by decide +kernel
set_option maxRecDepth 20000 in
theorem ggX8_isReadAt_X8_seesOf : GoodIn wsX8_isReadAt wsX8_seesOf := goodIn_r _ [7, 2, 8, 9, 6, 10, 11, 12, 13, 14, 15, 16, 17, 18, 19, 20, 21, 22, 23, 24, 25, 26, 27, 28, 29, 30, 31, 32, 33, 34, 35] (by decide +kernel) (by decide +kernel)
set_option maxRecDepth 20000 in
theorem gX8_isReadAt_X8_seesOf : GoodIn wsX8_isReadAt (wsV RX8 106 RX8 yX8_seesOf wsX8_seesOf) := goodIn_app (goodIn_of _ (by decide +kernel)) ggX8_isReadAt_X8_seesOf
theorem dX8_isReadAt_0 : decode cX8_isReadAt 0 = .ok (.iconst 1, 1) := by decide +kernel
theorem dX8_isReadAt_1 : decode cX8_isReadAt 1 = .ok (.istore_n 3, 1) := by decide +kernel
theorem dX8_isReadAt_2 : decode cX8_isReadAt 2 = .ok (.iconst 0, 1) := by decide +kernel
theorem dX8_isReadAt_3 : decode cX8_isReadAt 3 = .ok (.istore 4, 2) := by decide +kernel
theorem dX8_isReadAt_5 : decode cX8_isReadAt 5 = .ok (.iload 4, 2) := by decide +kernel
theorem dX8_isReadAt_7 : decode cX8_isReadAt 7 = .ok (.aload_n 0, 1) := by decide +kernel
theorem dX8_isReadAt_8 : decode cX8_isReadAt 8 = .ok (.getfield 71, 3) := by decide +kernel
theorem dX8_isReadAt_11 : decode cX8_isReadAt 11 = .ok (.if_icmp .ge 58, 3) := by decide +kernel
theorem dX8_isReadAt_14 : decode cX8_isReadAt 14 = .ok (.iload_n 3, 1) := by decide +kernel
theorem dX8_isReadAt_15 : decode cX8_isReadAt 15 = .ok (.ifCond .eq 46, 3) := by decide +kernel
theorem dX8_isReadAt_18 : decode cX8_isReadAt 18 = .ok (.aload_n 0, 1) := by decide +kernel
theorem dX8_isReadAt_19 : decode cX8_isReadAt 19 = .ok (.getfield 16, 3) := by decide +kernel
theorem dX8_isReadAt_22 : decode cX8_isReadAt 22 = .ok (.bipush 10, 2) := by decide +kernel
theorem dX8_isReadAt_24 : decode cX8_isReadAt 24 = .ok (.iload 4, 2) := by decide +kernel
theorem dX8_isReadAt_26 : decode cX8_isReadAt 26 = .ok (.imul, 1) := by decide +kernel
theorem dX8_isReadAt_27 : decode cX8_isReadAt 27 = .ok (.iconst 3, 1) := by decide +kernel
theorem dX8_isReadAt_28 : decode cX8_isReadAt 28 = .ok (.iadd, 1) := by decide +kernel
theorem dX8_isReadAt_29 : decode cX8_isReadAt 29 = .ok (.iaload, 1) := by decide +kernel
theorem dX8_isReadAt_30 : decode cX8_isReadAt 30 = .ok (.ifCond .eq 27, 3) := by decide +kernel
theorem dX8_isReadAt_33 : decode cX8_isReadAt 33 = .ok (.aload_n 0, 1) := by decide +kernel
theorem dX8_isReadAt_34 : decode cX8_isReadAt 34 = .ok (.iload 4, 2) := by decide +kernel
theorem dX8_isReadAt_36 : decode cX8_isReadAt 36 = .ok (.iload_n 2, 1) := by decide +kernel
theorem dX8_isReadAt_37 : decode cX8_isReadAt 37 = .ok (.invokevirtual 106, 3) := by decide +kernel
theorem dX8_isReadAt_40 : decode cX8_isReadAt 40 = .ok (.aload_n 0, 1) := by decide +kernel
theorem dX8_isReadAt_41 : decode cX8_isReadAt 41 = .ok (.getfield 16, 3) := by decide +kernel
theorem dX8_isReadAt_44 : decode cX8_isReadAt 44 = .ok (.bipush 10, 2) := by decide +kernel
theorem dX8_isReadAt_46 : decode cX8_isReadAt 46 = .ok (.iload 4, 2) := by decide +kernel
theorem dX8_isReadAt_48 : decode cX8_isReadAt 48 = .ok (.imul, 1) := by decide +kernel
theorem dX8_isReadAt_49 : decode cX8_isReadAt 49 = .ok (.iconst 4, 1) := by decide +kernel
theorem dX8_isReadAt_50 : decode cX8_isReadAt 50 = .ok (.iadd, 1) := by decide +kernel
theorem dX8_isReadAt_51 : decode cX8_isReadAt 51 = .ok (.iload_n 1, 1) := by decide +kernel
theorem dX8_isReadAt_52 : decode cX8_isReadAt 52 = .ok (.iadd, 1) := by decide +kernel
theorem dX8_isReadAt_53 : decode cX8_isReadAt 53 = .ok (.iaload, 1) := by decide +kernel
theorem dX8_isReadAt_54 : decode cX8_isReadAt 54 = .ok (.if_icmp .ne 7, 3) := by decide +kernel
theorem dX8_isReadAt_57 : decode cX8_isReadAt 57 = .ok (.iconst 1, 1) := by decide +kernel
theorem dX8_isReadAt_58 : decode cX8_isReadAt 58 = .ok (.goto 4, 3) := by decide +kernel
theorem dX8_isReadAt_61 : decode cX8_isReadAt 61 = .ok (.iconst 0, 1) := by decide +kernel
theorem dX8_isReadAt_62 : decode cX8_isReadAt 62 = .ok (.istore_n 3, 1) := by decide +kernel
theorem dX8_isReadAt_63 : decode cX8_isReadAt 63 = .ok (.iinc 4 1, 3) := by decide +kernel
theorem dX8_isReadAt_66 : decode cX8_isReadAt 66 = .ok (.goto (-61), 3) := by decide +kernel
theorem dX8_isReadAt_69 : decode cX8_isReadAt 69 = .ok (.iload_n 3, 1) := by decide +kernel
theorem dX8_isReadAt_70 : decode cX8_isReadAt 70 = .ok (.ireturn, 1) := by decide +kernel
set_option maxRecDepth 20000 in
theorem ggX8_mayBeRead_X8_isReadAt : GoodIn wsX8_mayBeRead wsX8_isReadAt := goodIn_r _ [8, 9, 10, 11, 12, 13, 7, 14, 15, 16, 17, 18, 19, 20, 21, 22, 23, 24, 25, 26, 27, 28, 29, 30, 31, 32, 33, 34, 35, 36, 37, 38, 39, 40, 41, 42] (by decide +kernel) (by decide +kernel)
set_option maxRecDepth 20000 in
theorem gX8_mayBeRead_X8_isReadAt : GoodIn wsX8_mayBeRead (wsV RX8 139 RX8 yX8_isReadAt wsX8_isReadAt) := goodIn_app (goodIn_of _ (by decide +kernel)) ggX8_mayBeRead_X8_isReadAt
theorem dX8_mayBeRead_0 : decode cX8_mayBeRead 0 = .ok (.iconst 0, 1) := by decide +kernel
theorem dX8_mayBeRead_1 : decode cX8_mayBeRead 1 = .ok (.istore_n 3, 1) := by decide +kernel
theorem dX8_mayBeRead_2 : decode cX8_mayBeRead 2 = .ok (.iload_n 3, 1) := by decide +kernel
theorem dX8_mayBeRead_3 : decode cX8_mayBeRead 3 = .ok (.bipush 32, 2) := by decide +kernel
theorem dX8_mayBeRead_5 : decode cX8_mayBeRead 5 = .ok (.if_icmp .ge 81, 3) := by decide +kernel
theorem dX8_mayBeRead_8 : decode cX8_mayBeRead 8 = .ok (.iload_n 3, 1) := by decide +kernel
theorem dX8_mayBeRead_9 : decode cX8_mayBeRead 9 = .ok (.iload_n 2, 1) := by decide +kernel
theorem dX8_mayBeRead_10 : decode cX8_mayBeRead 10 = .ok (.iconst (-1), 1) := by decide +kernel
theorem dX8_mayBeRead_11 : decode cX8_mayBeRead 11 = .ok (.ixor, 1) := by decide +kernel
theorem dX8_mayBeRead_12 : decode cX8_mayBeRead 12 = .ok (.iand, 1) := by decide +kernel
theorem dX8_mayBeRead_13 : decode cX8_mayBeRead 13 = .ok (.ifCond .ne 67, 3) := by decide +kernel
theorem dX8_mayBeRead_16 : decode cX8_mayBeRead 16 = .ok (.aload_n 0, 1) := by decide +kernel
theorem dX8_mayBeRead_17 : decode cX8_mayBeRead 17 = .ok (.getfield 13, 3) := by decide +kernel
theorem dX8_mayBeRead_20 : decode cX8_mayBeRead 20 = .ok (.iload_n 1, 1) := by decide +kernel
theorem dX8_mayBeRead_21 : decode cX8_mayBeRead 21 = .ok (.iaload, 1) := by decide +kernel
theorem dX8_mayBeRead_22 : decode cX8_mayBeRead 22 = .ok (.istore 4, 2) := by decide +kernel
theorem dX8_mayBeRead_24 : decode cX8_mayBeRead 24 = .ok (.iconst 0, 1) := by decide +kernel
theorem dX8_mayBeRead_25 : decode cX8_mayBeRead 25 = .ok (.istore 5, 2) := by decide +kernel
theorem dX8_mayBeRead_27 : decode cX8_mayBeRead 27 = .ok (.iload 5, 2) := by decide +kernel
theorem dX8_mayBeRead_29 : decode cX8_mayBeRead 29 = .ok (.aload_n 0, 1) := by decide +kernel
theorem dX8_mayBeRead_30 : decode cX8_mayBeRead 30 = .ok (.getfield 74, 3) := by decide +kernel
theorem dX8_mayBeRead_33 : decode cX8_mayBeRead 33 = .ok (.if_icmp .ge 35, 3) := by decide +kernel
theorem dX8_mayBeRead_36 : decode cX8_mayBeRead 36 = .ok (.iload 4, 2) := by decide +kernel
theorem dX8_mayBeRead_38 : decode cX8_mayBeRead 38 = .ok (.iload_n 3, 1) := by decide +kernel
theorem dX8_mayBeRead_39 : decode cX8_mayBeRead 39 = .ok (.iload 5, 2) := by decide +kernel
theorem dX8_mayBeRead_41 : decode cX8_mayBeRead 41 = .ok (.ishr, 1) := by decide +kernel
theorem dX8_mayBeRead_42 : decode cX8_mayBeRead 42 = .ok (.iconst 1, 1) := by decide +kernel
theorem dX8_mayBeRead_43 : decode cX8_mayBeRead 43 = .ok (.iand, 1) := by decide +kernel
theorem dX8_mayBeRead_44 : decode cX8_mayBeRead 44 = .ok (.iconst 1, 1) := by decide +kernel
theorem dX8_mayBeRead_45 : decode cX8_mayBeRead 45 = .ok (.if_icmp .ne 13, 3) := by decide +kernel
theorem dX8_mayBeRead_48 : decode cX8_mayBeRead 48 = .ok (.aload_n 0, 1) := by decide +kernel
theorem dX8_mayBeRead_49 : decode cX8_mayBeRead 49 = .ok (.getfield 19, 3) := by decide +kernel
theorem dX8_mayBeRead_52 : decode cX8_mayBeRead 52 = .ok (.iload 5, 2) := by decide +kernel
theorem dX8_mayBeRead_54 : decode cX8_mayBeRead 54 = .ok (.iaload, 1) := by decide +kernel
theorem dX8_mayBeRead_55 : decode cX8_mayBeRead 55 = .ok (.goto 4, 3) := by decide +kernel
theorem dX8_mayBeRead_58 : decode cX8_mayBeRead 58 = .ok (.iconst 0, 1) := by decide +kernel
theorem dX8_mayBeRead_59 : decode cX8_mayBeRead 59 = .ok (.ior, 1) := by decide +kernel
theorem dX8_mayBeRead_60 : decode cX8_mayBeRead 60 = .ok (.istore 4, 2) := by decide +kernel
theorem dX8_mayBeRead_62 : decode cX8_mayBeRead 62 = .ok (.iinc 5 1, 3) := by decide +kernel
theorem dX8_mayBeRead_65 : decode cX8_mayBeRead 65 = .ok (.goto (-38), 3) := by decide +kernel
theorem dX8_mayBeRead_68 : decode cX8_mayBeRead 68 = .ok (.aload_n 0, 1) := by decide +kernel
theorem dX8_mayBeRead_69 : decode cX8_mayBeRead 69 = .ok (.iload_n 1, 1) := by decide +kernel
theorem dX8_mayBeRead_70 : decode cX8_mayBeRead 70 = .ok (.iload 4, 2) := by decide +kernel
theorem dX8_mayBeRead_72 : decode cX8_mayBeRead 72 = .ok (.invokevirtual 139, 3) := by decide +kernel
theorem dX8_mayBeRead_75 : decode cX8_mayBeRead 75 = .ok (.ifCond .eq 5, 3) := by decide +kernel
theorem dX8_mayBeRead_78 : decode cX8_mayBeRead 78 = .ok (.iconst 1, 1) := by decide +kernel
theorem dX8_mayBeRead_79 : decode cX8_mayBeRead 79 = .ok (.ireturn, 1) := by decide +kernel
theorem dX8_mayBeRead_80 : decode cX8_mayBeRead 80 = .ok (.iinc 3 1, 3) := by decide +kernel
theorem dX8_mayBeRead_83 : decode cX8_mayBeRead 83 = .ok (.goto (-81), 3) := by decide +kernel
theorem dX8_mayBeRead_86 : decode cX8_mayBeRead 86 = .ok (.iconst 0, 1) := by decide +kernel
theorem dX8_mayBeRead_87 : decode cX8_mayBeRead 87 = .ok (.ireturn, 1) := by decide +kernel
theorem dX8_ones_0 : decode cX8_ones 0 = .ok (.iconst 0, 1) := by decide +kernel
theorem dX8_ones_1 : decode cX8_ones 1 = .ok (.istore_n 1, 1) := by decide +kernel
theorem dX8_ones_2 : decode cX8_ones 2 = .ok (.iconst 0, 1) := by decide +kernel
theorem dX8_ones_3 : decode cX8_ones 3 = .ok (.istore_n 2, 1) := by decide +kernel
theorem dX8_ones_4 : decode cX8_ones 4 = .ok (.iload_n 2, 1) := by decide +kernel
theorem dX8_ones_5 : decode cX8_ones 5 = .ok (.iconst 5, 1) := by decide +kernel
theorem dX8_ones_6 : decode cX8_ones 6 = .ok (.if_icmp .ge 17, 3) := by decide +kernel
theorem dX8_ones_9 : decode cX8_ones 9 = .ok (.iload_n 1, 1) := by decide +kernel
theorem dX8_ones_10 : decode cX8_ones 10 = .ok (.iload_n 0, 1) := by decide +kernel
theorem dX8_ones_11 : decode cX8_ones 11 = .ok (.iload_n 2, 1) := by decide +kernel
theorem dX8_ones_12 : decode cX8_ones 12 = .ok (.ishr, 1) := by decide +kernel
theorem dX8_ones_13 : decode cX8_ones 13 = .ok (.iconst 1, 1) := by decide +kernel
theorem dX8_ones_14 : decode cX8_ones 14 = .ok (.iand, 1) := by decide +kernel
theorem dX8_ones_15 : decode cX8_ones 15 = .ok (.iadd, 1) := by decide +kernel
theorem dX8_ones_16 : decode cX8_ones 16 = .ok (.istore_n 1, 1) := by decide +kernel
theorem dX8_ones_17 : decode cX8_ones 17 = .ok (.iinc 2 1, 3) := by decide +kernel
theorem dX8_ones_20 : decode cX8_ones 20 = .ok (.goto (-16), 3) := by decide +kernel
theorem dX8_ones_23 : decode cX8_ones 23 = .ok (.iload_n 1, 1) := by decide +kernel
theorem dX8_ones_24 : decode cX8_ones 24 = .ok (.ireturn, 1) := by decide +kernel
set_option maxRecDepth 20000 in
theorem ggX8_fewSet_X8_ones : GoodIn wsX8_fewSet wsX8_ones := goodIn_r _ [5] (by decide +kernel) (by decide +kernel)
set_option maxRecDepth 20000 in
theorem gX8_fewSet_X8_ones : GoodIn wsX8_fewSet (va_wsS RX8 143 yX8_ones wsX8_ones) := goodIn_app (goodIn_of _ (by decide +kernel)) ggX8_fewSet_X8_ones
set_option maxRecDepth 20000 in
theorem ggX8_fewSet_X8_mayBeRead : GoodIn wsX8_fewSet wsX8_mayBeRead := goodIn_r _ [9, 10, 1, 11, 12, 13, 14, 4, 15, 16, 17, 18, 19, 20, 21, 22, 23, 24, 25, 26, 27, 28, 29, 30, 31, 32, 33, 34, 35, 36, 37, 38, 39, 40, 41, 42, 43, 44, 45, 46, 47, 48, 49] (by decide +kernel) (by decide +kernel)
set_option maxRecDepth 20000 in
theorem gX8_fewSet_X8_mayBeRead : GoodIn wsX8_fewSet (wsV RX8 146 RX8 yX8_mayBeRead wsX8_mayBeRead) := goodIn_app (goodIn_of _ (by decide +kernel)) ggX8_fewSet_X8_mayBeRead
theorem dX8_fewSet_0 : decode cX8_fewSet 0 = .ok (.iconst (-1), 1) := by decide +kernel
theorem dX8_fewSet_1 : decode cX8_fewSet 1 = .ok (.istore_n 1, 1) := by decide +kernel
theorem dX8_fewSet_2 : decode cX8_fewSet 2 = .ok (.iconst 0, 1) := by decide +kernel
theorem dX8_fewSet_3 : decode cX8_fewSet 3 = .ok (.istore_n 2, 1) := by decide +kernel
theorem dX8_fewSet_4 : decode cX8_fewSet 4 = .ok (.iload_n 2, 1) := by decide +kernel
theorem dX8_fewSet_5 : decode cX8_fewSet 5 = .ok (.iconst 1, 1) := by decide +kernel
theorem dX8_fewSet_6 : decode cX8_fewSet 6 = .ok (.aload_n 0, 1) := by decide +kernel
theorem dX8_fewSet_7 : decode cX8_fewSet 7 = .ok (.getfield 74, 3) := by decide +kernel
theorem dX8_fewSet_10 : decode cX8_fewSet 10 = .ok (.ishl, 1) := by decide +kernel
theorem dX8_fewSet_11 : decode cX8_fewSet 11 = .ok (.if_icmp .ge 69, 3) := by decide +kernel
theorem dX8_fewSet_14 : decode cX8_fewSet 14 = .ok (.iload_n 1, 1) := by decide +kernel
theorem dX8_fewSet_15 : decode cX8_fewSet 15 = .ok (.iconst (-1), 1) := by decide +kernel
theorem dX8_fewSet_16 : decode cX8_fewSet 16 = .ok (.if_icmp .eq 14, 3) := by decide +kernel
theorem dX8_fewSet_19 : decode cX8_fewSet 19 = .ok (.iload_n 2, 1) := by decide +kernel
theorem dX8_fewSet_20 : decode cX8_fewSet 20 = .ok (.invokestatic 143, 3) := by decide +kernel
theorem dX8_fewSet_23 : decode cX8_fewSet 23 = .ok (.iload_n 1, 1) := by decide +kernel
theorem dX8_fewSet_24 : decode cX8_fewSet 24 = .ok (.invokestatic 143, 3) := by decide +kernel
theorem dX8_fewSet_27 : decode cX8_fewSet 27 = .ok (.if_icmp .ge 7, 3) := by decide +kernel
theorem dX8_fewSet_30 : decode cX8_fewSet 30 = .ok (.iconst 1, 1) := by decide +kernel
theorem dX8_fewSet_31 : decode cX8_fewSet 31 = .ok (.goto 4, 3) := by decide +kernel
theorem dX8_fewSet_34 : decode cX8_fewSet 34 = .ok (.iconst 0, 1) := by decide +kernel
theorem dX8_fewSet_35 : decode cX8_fewSet 35 = .ok (.istore_n 3, 1) := by decide +kernel
theorem dX8_fewSet_36 : decode cX8_fewSet 36 = .ok (.iconst 0, 1) := by decide +kernel
theorem dX8_fewSet_37 : decode cX8_fewSet 37 = .ok (.istore 4, 2) := by decide +kernel
theorem dX8_fewSet_39 : decode cX8_fewSet 39 = .ok (.iload 4, 2) := by decide +kernel
theorem dX8_fewSet_41 : decode cX8_fewSet 41 = .ok (.bipush 6, 2) := by decide +kernel
theorem dX8_fewSet_43 : decode cX8_fewSet 43 = .ok (.if_icmp .ge 21, 3) := by decide +kernel
theorem dX8_fewSet_46 : decode cX8_fewSet 46 = .ok (.iload_n 3, 1) := by decide +kernel
theorem dX8_fewSet_47 : decode cX8_fewSet 47 = .ok (.ifCond .eq 17, 3) := by decide +kernel
theorem dX8_fewSet_50 : decode cX8_fewSet 50 = .ok (.aload_n 0, 1) := by decide +kernel
theorem dX8_fewSet_51 : decode cX8_fewSet 51 = .ok (.iload 4, 2) := by decide +kernel
theorem dX8_fewSet_53 : decode cX8_fewSet 53 = .ok (.iload_n 2, 1) := by decide +kernel
theorem dX8_fewSet_54 : decode cX8_fewSet 54 = .ok (.invokevirtual 146, 3) := by decide +kernel
theorem dX8_fewSet_57 : decode cX8_fewSet 57 = .ok (.istore_n 3, 1) := by decide +kernel
theorem dX8_fewSet_58 : decode cX8_fewSet 58 = .ok (.iinc 4 1, 3) := by decide +kernel
theorem dX8_fewSet_61 : decode cX8_fewSet 61 = .ok (.goto (-22), 3) := by decide +kernel
theorem dX8_fewSet_64 : decode cX8_fewSet 64 = .ok (.iload_n 3, 1) := by decide +kernel
theorem dX8_fewSet_65 : decode cX8_fewSet 65 = .ok (.ifCond .eq 7, 3) := by decide +kernel
theorem dX8_fewSet_68 : decode cX8_fewSet 68 = .ok (.iload_n 2, 1) := by decide +kernel
theorem dX8_fewSet_69 : decode cX8_fewSet 69 = .ok (.goto 4, 3) := by decide +kernel
theorem dX8_fewSet_72 : decode cX8_fewSet 72 = .ok (.iload_n 1, 1) := by decide +kernel
theorem dX8_fewSet_73 : decode cX8_fewSet 73 = .ok (.istore_n 1, 1) := by decide +kernel
theorem dX8_fewSet_74 : decode cX8_fewSet 74 = .ok (.iinc 2 1, 3) := by decide +kernel
theorem dX8_fewSet_77 : decode cX8_fewSet 77 = .ok (.goto (-73), 3) := by decide +kernel
theorem dX8_fewSet_80 : decode cX8_fewSet 80 = .ok (.iload_n 1, 1) := by decide +kernel
theorem dX8_fewSet_81 : decode cX8_fewSet 81 = .ok (.ireturn, 1) := by decide +kernel
set_option maxRecDepth 20000 in
theorem ggX8_fewOf_X8_fewSet : GoodIn wsX8_fewOf wsX8_fewSet := goodIn_r _ [5, 6, 7, 8, 4, 9, 10, 11, 12, 13, 14, 15, 16, 17, 18, 19, 20, 21, 22, 23, 24, 25, 26, 27, 28, 29, 30, 31, 32, 33, 34, 35, 36, 37, 38, 39, 40, 41, 42, 43, 44, 45, 46, 47, 48, 49, 50, 51, 52, 53] (by decide +kernel) (by decide +kernel)
set_option maxRecDepth 20000 in
theorem gX8_fewOf_X8_fewSet : GoodIn wsX8_fewOf (wsV RX8 149 RX8 yX8_fewSet wsX8_fewSet) := goodIn_app (goodIn_of _ (by decide +kernel)) ggX8_fewOf_X8_fewSet
set_option maxRecDepth 20000 in
theorem ggX8_fewOf_X8_ones : GoodIn wsX8_fewOf wsX8_ones := goodIn_r _ [9] (by decide +kernel) (by decide +kernel)
set_option maxRecDepth 20000 in
theorem gX8_fewOf_X8_ones : GoodIn wsX8_fewOf (va_wsS RX8 143 yX8_ones wsX8_ones) := goodIn_app (goodIn_of _ (by decide +kernel)) ggX8_fewOf_X8_ones
theorem dX8_fewOf_0 : decode cX8_fewOf 0 = .ok (.aload_n 0, 1) := by decide +kernel
theorem dX8_fewOf_1 : decode cX8_fewOf 1 = .ok (.invokevirtual 149, 3) := by decide +kernel
theorem dX8_fewOf_4 : decode cX8_fewOf 4 = .ok (.istore_n 2, 1) := by decide +kernel
theorem dX8_fewOf_5 : decode cX8_fewOf 5 = .ok (.iload_n 2, 1) := by decide +kernel
theorem dX8_fewOf_6 : decode cX8_fewOf 6 = .ok (.iconst (-1), 1) := by decide +kernel
theorem dX8_fewOf_7 : decode cX8_fewOf 7 = .ok (.if_icmp .eq 8, 3) := by decide +kernel
theorem dX8_fewOf_10 : decode cX8_fewOf 10 = .ok (.iload_n 1, 1) := by decide +kernel
theorem dX8_fewOf_11 : decode cX8_fewOf 11 = .ok (.iconst 1, 1) := by decide +kernel
theorem dX8_fewOf_12 : decode cX8_fewOf 12 = .ok (.if_icmp .ne 7, 3) := by decide +kernel
theorem dX8_fewOf_15 : decode cX8_fewOf 15 = .ok (.iload_n 2, 1) := by decide +kernel
theorem dX8_fewOf_16 : decode cX8_fewOf 16 = .ok (.goto 7, 3) := by decide +kernel
theorem dX8_fewOf_19 : decode cX8_fewOf 19 = .ok (.iload_n 2, 1) := by decide +kernel
theorem dX8_fewOf_20 : decode cX8_fewOf 20 = .ok (.invokestatic 143, 3) := by decide +kernel
theorem dX8_fewOf_23 : decode cX8_fewOf 23 = .ok (.ireturn, 1) := by decide +kernel
set_option maxRecDepth 20000 in
theorem ggX8_few_X8_in : GoodIn wsX8_few wsX8_in := goodIn_r _ [5] (by decide +kernel) (by decide +kernel)
set_option maxRecDepth 20000 in
theorem gX8_few_X8_in : GoodIn wsX8_few (va_wsS RX8 46 yX8_in wsX8_in) := goodIn_app (goodIn_of _ (by decide +kernel)) ggX8_few_X8_in
set_option maxRecDepth 20000 in
theorem ggX8_few_X8_fewOf : GoodIn wsX8_few wsX8_fewOf := goodIn_r _ [9, 10, 11, 12, 4, 13, 14, 15, 16, 17, 18, 19, 20, 21, 22, 23, 24, 25, 26, 27, 28, 29, 30, 31, 32, 33, 34, 35, 36, 37, 38, 39, 40, 41, 42, 43, 44, 45, 46, 47, 48, 49, 50, 51, 52, 53, 54, 55, 56, 57, 58, 59, 60, 61] (by decide +kernel) (by decide +kernel)
set_option maxRecDepth 20000 in
theorem gX8_few_X8_fewOf : GoodIn wsX8_few (wsV RX8 152 RX8 yX8_fewOf wsX8_fewOf) := goodIn_app (goodIn_of _ (by decide +kernel)) ggX8_few_X8_fewOf
theorem dX8_few_0 : decode cX8_few 0 = .ok (.iload_n 1, 1) := by decide +kernel
theorem dX8_few_1 : decode cX8_few 1 = .ok (.i2l, 1) := by decide +kernel
theorem dX8_few_2 : decode cX8_few 2 = .ok (.lconst 0, 1) := by decide +kernel
theorem dX8_few_3 : decode cX8_few 3 = .ok (.lconst 1, 1) := by decide +kernel
theorem dX8_few_4 : decode cX8_few 4 = .ok (.invokestatic 46, 3) := by decide +kernel
theorem dX8_few_7 : decode cX8_few 7 = .ok (.ifCond .ne 6, 3) := by decide +kernel
theorem dX8_few_10 : decode cX8_few 10 = .ok (.bipush (-102), 2) := by decide +kernel
theorem dX8_few_12 : decode cX8_few 12 = .ok (.ireturn, 1) := by decide +kernel
theorem dX8_few_13 : decode cX8_few 13 = .ok (.aload_n 0, 1) := by decide +kernel
theorem dX8_few_14 : decode cX8_few 14 = .ok (.getfield 63, 3) := by decide +kernel
theorem dX8_few_17 : decode cX8_few 17 = .ok (.ifCond .eq 11, 3) := by decide +kernel
theorem dX8_few_20 : decode cX8_few 20 = .ok (.aload_n 0, 1) := by decide +kernel
theorem dX8_few_21 : decode cX8_few 21 = .ok (.iload_n 1, 1) := by decide +kernel
theorem dX8_few_22 : decode cX8_few 22 = .ok (.invokevirtual 152, 3) := by decide +kernel
theorem dX8_few_25 : decode cX8_few 25 = .ok (.goto 5, 3) := by decide +kernel
theorem dX8_few_28 : decode cX8_few 28 = .ok (.bipush (-103), 2) := by decide +kernel
theorem dX8_few_30 : decode cX8_few 30 = .ok (.ireturn, 1) := by decide +kernel
set_option maxRecDepth 20000 in
theorem ggX8_card_X8_isHue : GoodIn wsX8_card wsX8_isHue := goodIn_r _ [6, 7, 8, 9, 5, 10] (by decide +kernel) (by decide +kernel)
set_option maxRecDepth 20000 in
theorem gX8_card_X8_isHue : GoodIn wsX8_card (va_wsS RX8 103 yX8_isHue wsX8_isHue) := goodIn_app (goodIn_of _ (by decide +kernel)) ggX8_card_X8_isHue
theorem dX8_card_0 : decode cX8_card 0 = .ok (.iload_n 1, 1) := by decide +kernel
theorem dX8_card_1 : decode cX8_card 1 = .ok (.invokestatic 103, 3) := by decide +kernel
theorem dX8_card_4 : decode cX8_card 4 = .ok (.ifCond .eq 10, 3) := by decide +kernel
theorem dX8_card_7 : decode cX8_card 7 = .ok (.iload_n 2, 1) := by decide +kernel
theorem dX8_card_8 : decode cX8_card 8 = .ok (.invokestatic 103, 3) := by decide +kernel
theorem dX8_card_11 : decode cX8_card 11 = .ok (.ifCond .ne 6, 3) := by decide +kernel
theorem dX8_card_14 : decode cX8_card 14 = .ok (.bipush (-102), 2) := by decide +kernel
theorem dX8_card_16 : decode cX8_card 16 = .ok (.ireturn, 1) := by decide +kernel
theorem dX8_card_17 : decode cX8_card 17 = .ok (.aload_n 0, 1) := by decide +kernel
theorem dX8_card_18 : decode cX8_card 18 = .ok (.getfield 77, 3) := by decide +kernel
theorem dX8_card_21 : decode cX8_card 21 = .ok (.bipush 8, 2) := by decide +kernel
theorem dX8_card_23 : decode cX8_card 23 = .ok (.if_icmp .ne 6, 3) := by decide +kernel
theorem dX8_card_26 : decode cX8_card 26 = .ok (.bipush (-104), 2) := by decide +kernel
theorem dX8_card_28 : decode cX8_card 28 = .ok (.ireturn, 1) := by decide +kernel
theorem dX8_card_29 : decode cX8_card 29 = .ok (.aload_n 0, 1) := by decide +kernel
theorem dX8_card_30 : decode cX8_card 30 = .ok (.getfield 22, 3) := by decide +kernel
theorem dX8_card_33 : decode cX8_card 33 = .ok (.iconst 2, 1) := by decide +kernel
theorem dX8_card_34 : decode cX8_card 34 = .ok (.aload_n 0, 1) := by decide +kernel
theorem dX8_card_35 : decode cX8_card 35 = .ok (.getfield 77, 3) := by decide +kernel
theorem dX8_card_38 : decode cX8_card 38 = .ok (.imul, 1) := by decide +kernel
theorem dX8_card_39 : decode cX8_card 39 = .ok (.iload_n 1, 1) := by decide +kernel
theorem dX8_card_40 : decode cX8_card 40 = .ok (.iastore, 1) := by decide +kernel
theorem dX8_card_41 : decode cX8_card 41 = .ok (.aload_n 0, 1) := by decide +kernel
theorem dX8_card_42 : decode cX8_card 42 = .ok (.getfield 22, 3) := by decide +kernel
theorem dX8_card_45 : decode cX8_card 45 = .ok (.iconst 2, 1) := by decide +kernel
theorem dX8_card_46 : decode cX8_card 46 = .ok (.aload_n 0, 1) := by decide +kernel
theorem dX8_card_47 : decode cX8_card 47 = .ok (.getfield 77, 3) := by decide +kernel
theorem dX8_card_50 : decode cX8_card 50 = .ok (.imul, 1) := by decide +kernel
theorem dX8_card_51 : decode cX8_card 51 = .ok (.iconst 1, 1) := by decide +kernel
theorem dX8_card_52 : decode cX8_card 52 = .ok (.iadd, 1) := by decide +kernel
theorem dX8_card_53 : decode cX8_card 53 = .ok (.iload_n 2, 1) := by decide +kernel
theorem dX8_card_54 : decode cX8_card 54 = .ok (.iastore, 1) := by decide +kernel
theorem dX8_card_55 : decode cX8_card 55 = .ok (.aload_n 0, 1) := by decide +kernel
theorem dX8_card_56 : decode cX8_card 56 = .ok (.dup, 1) := by decide +kernel
theorem dX8_card_57 : decode cX8_card 57 = .ok (.getfield 77, 3) := by decide +kernel
theorem dX8_card_60 : decode cX8_card 60 = .ok (.iconst 1, 1) := by decide +kernel
theorem dX8_card_61 : decode cX8_card 61 = .ok (.iadd, 1) := by decide +kernel
theorem dX8_card_62 : decode cX8_card 62 = .ok (.putfield 77, 3) := by decide +kernel
theorem dX8_card_65 : decode cX8_card 65 = .ok (.aload_n 0, 1) := by decide +kernel
theorem dX8_card_66 : decode cX8_card 66 = .ok (.getfield 77, 3) := by decide +kernel
theorem dX8_card_69 : decode cX8_card 69 = .ok (.ireturn, 1) := by decide +kernel
theorem dX8_forget_0 : decode cX8_forget 0 = .ok (.aload_n 0, 1) := by decide +kernel
theorem dX8_forget_1 : decode cX8_forget 1 = .ok (.getfield 77, 3) := by decide +kernel
theorem dX8_forget_4 : decode cX8_forget 4 = .ok (.istore_n 1, 1) := by decide +kernel
theorem dX8_forget_5 : decode cX8_forget 5 = .ok (.aload_n 0, 1) := by decide +kernel
theorem dX8_forget_6 : decode cX8_forget 6 = .ok (.iconst 0, 1) := by decide +kernel
theorem dX8_forget_7 : decode cX8_forget 7 = .ok (.putfield 77, 3) := by decide +kernel
theorem dX8_forget_10 : decode cX8_forget 10 = .ok (.iload_n 1, 1) := by decide +kernel
theorem dX8_forget_11 : decode cX8_forget 11 = .ok (.ireturn, 1) := by decide +kernel
set_option maxRecDepth 20000 in
theorem ggX8_seenByCode_X8_seenBy : GoodIn wsX8_seenByCode wsX8_seenBy := goodIn_r _ [4] (by decide +kernel) (by decide +kernel)
set_option maxRecDepth 20000 in
theorem gX8_seenByCode_X8_seenBy : GoodIn wsX8_seenByCode (va_wsS RX8 97 yX8_seenBy wsX8_seenBy) := goodIn_app (goodIn_of _ (by decide +kernel)) ggX8_seenByCode_X8_seenBy
theorem dX8_seenByCode_0 : decode cX8_seenByCode 0 = .ok (.iload_n 0, 1) := by decide +kernel
theorem dX8_seenByCode_1 : decode cX8_seenByCode 1 = .ok (.bipush 64, 2) := by decide +kernel
theorem dX8_seenByCode_3 : decode cX8_seenByCode 3 = .ok (.idiv, 1) := by decide +kernel
theorem dX8_seenByCode_4 : decode cX8_seenByCode 4 = .ok (.iload_n 0, 1) := by decide +kernel
theorem dX8_seenByCode_5 : decode cX8_seenByCode 5 = .ok (.bipush 8, 2) := by decide +kernel
theorem dX8_seenByCode_7 : decode cX8_seenByCode 7 = .ok (.idiv, 1) := by decide +kernel
theorem dX8_seenByCode_8 : decode cX8_seenByCode 8 = .ok (.bipush 8, 2) := by decide +kernel
theorem dX8_seenByCode_10 : decode cX8_seenByCode 10 = .ok (.irem, 1) := by decide +kernel
theorem dX8_seenByCode_11 : decode cX8_seenByCode 11 = .ok (.iload_n 0, 1) := by decide +kernel
theorem dX8_seenByCode_12 : decode cX8_seenByCode 12 = .ok (.bipush 8, 2) := by decide +kernel
theorem dX8_seenByCode_14 : decode cX8_seenByCode 14 = .ok (.irem, 1) := by decide +kernel
theorem dX8_seenByCode_15 : decode cX8_seenByCode 15 = .ok (.iload_n 1, 1) := by decide +kernel
theorem dX8_seenByCode_16 : decode cX8_seenByCode 16 = .ok (.invokestatic 97, 3) := by decide +kernel
theorem dX8_seenByCode_19 : decode cX8_seenByCode 19 = .ok (.ireturn, 1) := by decide +kernel
set_option maxRecDepth 20000 in
theorem ggX8_isSo_X8_seenByCode : GoodIn wsX8_isSo wsX8_seenByCode := goodIn_r _ [6, 7, 8, 5, 9] (by decide +kernel) (by decide +kernel)
set_option maxRecDepth 20000 in
theorem gX8_isSo_X8_seenByCode : GoodIn wsX8_isSo (va_wsS RX8 155 yX8_seenByCode wsX8_seenByCode) := goodIn_app (goodIn_of _ (by decide +kernel)) ggX8_isSo_X8_seenByCode
theorem dX8_isSo_0 : decode cX8_isSo 0 = .ok (.iconst 1, 1) := by decide +kernel
theorem dX8_isSo_1 : decode cX8_isSo 1 = .ok (.istore_n 2, 1) := by decide +kernel
theorem dX8_isSo_2 : decode cX8_isSo 2 = .ok (.iconst 0, 1) := by decide +kernel
theorem dX8_isSo_3 : decode cX8_isSo 3 = .ok (.istore_n 3, 1) := by decide +kernel
theorem dX8_isSo_4 : decode cX8_isSo 4 = .ok (.iload_n 3, 1) := by decide +kernel
theorem dX8_isSo_5 : decode cX8_isSo 5 = .ok (.aload_n 0, 1) := by decide +kernel
theorem dX8_isSo_6 : decode cX8_isSo 6 = .ok (.getfield 77, 3) := by decide +kernel
theorem dX8_isSo_9 : decode cX8_isSo 9 = .ok (.if_icmp .ge 44, 3) := by decide +kernel
theorem dX8_isSo_12 : decode cX8_isSo 12 = .ok (.iload_n 2, 1) := by decide +kernel
theorem dX8_isSo_13 : decode cX8_isSo 13 = .ok (.ifCond .eq 32, 3) := by decide +kernel
theorem dX8_isSo_16 : decode cX8_isSo 16 = .ok (.iload_n 1, 1) := by decide +kernel
theorem dX8_isSo_17 : decode cX8_isSo 17 = .ok (.aload_n 0, 1) := by decide +kernel
theorem dX8_isSo_18 : decode cX8_isSo 18 = .ok (.getfield 22, 3) := by decide +kernel
theorem dX8_isSo_21 : decode cX8_isSo 21 = .ok (.iconst 2, 1) := by decide +kernel
theorem dX8_isSo_22 : decode cX8_isSo 22 = .ok (.iload_n 3, 1) := by decide +kernel
theorem dX8_isSo_23 : decode cX8_isSo 23 = .ok (.imul, 1) := by decide +kernel
theorem dX8_isSo_24 : decode cX8_isSo 24 = .ok (.iaload, 1) := by decide +kernel
theorem dX8_isSo_25 : decode cX8_isSo 25 = .ok (.invokestatic 155, 3) := by decide +kernel
theorem dX8_isSo_28 : decode cX8_isSo 28 = .ok (.aload_n 0, 1) := by decide +kernel
theorem dX8_isSo_29 : decode cX8_isSo 29 = .ok (.getfield 22, 3) := by decide +kernel
theorem dX8_isSo_32 : decode cX8_isSo 32 = .ok (.iconst 2, 1) := by decide +kernel
theorem dX8_isSo_33 : decode cX8_isSo 33 = .ok (.iload_n 3, 1) := by decide +kernel
theorem dX8_isSo_34 : decode cX8_isSo 34 = .ok (.imul, 1) := by decide +kernel
theorem dX8_isSo_35 : decode cX8_isSo 35 = .ok (.iconst 1, 1) := by decide +kernel
theorem dX8_isSo_36 : decode cX8_isSo 36 = .ok (.iadd, 1) := by decide +kernel
theorem dX8_isSo_37 : decode cX8_isSo 37 = .ok (.iaload, 1) := by decide +kernel
theorem dX8_isSo_38 : decode cX8_isSo 38 = .ok (.if_icmp .ne 7, 3) := by decide +kernel
theorem dX8_isSo_41 : decode cX8_isSo 41 = .ok (.iconst 1, 1) := by decide +kernel
theorem dX8_isSo_42 : decode cX8_isSo 42 = .ok (.goto 4, 3) := by decide +kernel
theorem dX8_isSo_45 : decode cX8_isSo 45 = .ok (.iconst 0, 1) := by decide +kernel
theorem dX8_isSo_46 : decode cX8_isSo 46 = .ok (.istore_n 2, 1) := by decide +kernel
theorem dX8_isSo_47 : decode cX8_isSo 47 = .ok (.iinc 3 1, 3) := by decide +kernel
theorem dX8_isSo_50 : decode cX8_isSo 50 = .ok (.goto (-46), 3) := by decide +kernel
theorem dX8_isSo_53 : decode cX8_isSo 53 = .ok (.iload_n 2, 1) := by decide +kernel
theorem dX8_isSo_54 : decode cX8_isSo 54 = .ok (.ireturn, 1) := by decide +kernel
set_option maxRecDepth 20000 in
theorem ggX8_who_X8_in : GoodIn wsX8_who wsX8_in := goodIn_r _ [5] (by decide +kernel) (by decide +kernel)
set_option maxRecDepth 20000 in
theorem gX8_who_X8_in : GoodIn wsX8_who (va_wsS RX8 46 yX8_in wsX8_in) := goodIn_app (goodIn_of _ (by decide +kernel)) ggX8_who_X8_in
set_option maxRecDepth 20000 in
theorem ggX8_who_X8_isSo : GoodIn wsX8_who wsX8_isSo := goodIn_r _ [9, 10, 11, 12, 13, 4, 14, 15, 16, 17, 18, 19, 20, 21, 22, 23, 24, 25, 26, 27, 28, 29, 30, 31, 32, 33, 34, 35, 36, 37, 38, 39, 40, 41, 42] (by decide +kernel) (by decide +kernel)
set_option maxRecDepth 20000 in
theorem gX8_who_X8_isSo : GoodIn wsX8_who (wsV RX8 161 RX8 yX8_isSo wsX8_isSo) := goodIn_app (goodIn_of _ (by decide +kernel)) ggX8_who_X8_isSo
theorem dX8_who_0 : decode cX8_who 0 = .ok (.iload_n 1, 1) := by decide +kernel
theorem dX8_who_1 : decode cX8_who 1 = .ok (.i2l, 1) := by decide +kernel
theorem dX8_who_2 : decode cX8_who 2 = .ok (.lconst 0, 1) := by decide +kernel
theorem dX8_who_3 : decode cX8_who 3 = .ok (.lconst 1, 1) := by decide +kernel
theorem dX8_who_4 : decode cX8_who 4 = .ok (.invokestatic 46, 3) := by decide +kernel
theorem dX8_who_7 : decode cX8_who 7 = .ok (.ifCond .ne 6, 3) := by decide +kernel
theorem dX8_who_10 : decode cX8_who 10 = .ok (.bipush (-102), 2) := by decide +kernel
theorem dX8_who_12 : decode cX8_who 12 = .ok (.ireturn, 1) := by decide +kernel
theorem dX8_who_13 : decode cX8_who 13 = .ok (.aload_n 0, 1) := by decide +kernel
theorem dX8_who_14 : decode cX8_who 14 = .ok (.getfield 158, 3) := by decide +kernel
theorem dX8_who_17 : decode cX8_who 17 = .ok (.bipush 60, 2) := by decide +kernel
theorem dX8_who_19 : decode cX8_who 19 = .ok (.if_icmp .ne 6, 3) := by decide +kernel
theorem dX8_who_22 : decode cX8_who 22 = .ok (.bipush (-103), 2) := by decide +kernel
theorem dX8_who_24 : decode cX8_who 24 = .ok (.ireturn, 1) := by decide +kernel
theorem dX8_who_25 : decode cX8_who 25 = .ok (.aload_n 0, 1) := by decide +kernel
theorem dX8_who_26 : decode cX8_who 26 = .ok (.dup, 1) := by decide +kernel
theorem dX8_who_27 : decode cX8_who 27 = .ok (.getfield 158, 3) := by decide +kernel
theorem dX8_who_30 : decode cX8_who 30 = .ok (.iconst 1, 1) := by decide +kernel
theorem dX8_who_31 : decode cX8_who 31 = .ok (.iadd, 1) := by decide +kernel
theorem dX8_who_32 : decode cX8_who 32 = .ok (.putfield 158, 3) := by decide +kernel
