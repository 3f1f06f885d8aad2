theorem dX8_init_0 : decode cX8_init 0 = .ok (.aload_n 0, 1) := by decide +kernel
theorem dX8_init_1 : decode cX8_init 1 = .ok (.invokespecial 1, 3) := by decide +kernel
theorem dX8_init_4 : decode cX8_init 4 = .ok (.aload_n 0, 1) := by decide +kernel
theorem dX8_init_5 : decode cX8_init 5 = .ok (.bipush 10, 2) := by decide +kernel
theorem dX8_init_7 : decode cX8_init 7 = .ok (.newarray .int, 2) := by decide +kernel
theorem dX8_init_9 : decode cX8_init 9 = .ok (.putfield 7, 3) := by decide +kernel
theorem dX8_init_12 : decode cX8_init 12 = .ok (.aload_n 0, 1) := by decide +kernel
theorem dX8_init_13 : decode cX8_init 13 = .ok (.bipush 6, 2) := by decide +kernel
theorem dX8_init_15 : decode cX8_init 15 = .ok (.newarray .int, 2) := by decide +kernel
theorem dX8_init_17 : decode cX8_init 17 = .ok (.putfield 13, 3) := by decide +kernel
theorem dX8_init_20 : decode cX8_init 20 = .ok (.aload_n 0, 1) := by decide +kernel
theorem dX8_init_21 : decode cX8_init 21 = .ok (.bipush 40, 2) := by decide +kernel
theorem dX8_init_23 : decode cX8_init 23 = .ok (.newarray .int, 2) := by decide +kernel
theorem dX8_init_25 : decode cX8_init 25 = .ok (.putfield 16, 3) := by decide +kernel
theorem dX8_init_28 : decode cX8_init 28 = .ok (.aload_n 0, 1) := by decide +kernel
theorem dX8_init_29 : decode cX8_init 29 = .ok (.iconst 5, 1) := by decide +kernel
theorem dX8_init_30 : decode cX8_init 30 = .ok (.newarray .int, 2) := by decide +kernel
theorem dX8_init_32 : decode cX8_init 32 = .ok (.putfield 19, 3) := by decide +kernel
theorem dX8_init_35 : decode cX8_init 35 = .ok (.aload_n 0, 1) := by decide +kernel
theorem dX8_init_36 : decode cX8_init 36 = .ok (.bipush 16, 2) := by decide +kernel
theorem dX8_init_38 : decode cX8_init 38 = .ok (.newarray .int, 2) := by decide +kernel
theorem dX8_init_40 : decode cX8_init 40 = .ok (.putfield 22, 3) := by decide +kernel
theorem dX8_init_43 : decode cX8_init 43 = .ok (.aload_n 0, 1) := by decide +kernel
theorem dX8_init_44 : decode cX8_init 44 = .ok (.bipush 8, 2) := by decide +kernel
theorem dX8_init_46 : decode cX8_init 46 = .ok (.newarray .int, 2) := by decide +kernel
theorem dX8_init_48 : decode cX8_init 48 = .ok (.putfield 25, 3) := by decide +kernel
theorem dX8_init_51 : decode cX8_init 51 = .ok (.aload_n 0, 1) := by decide +kernel
theorem dX8_init_52 : decode cX8_init 52 = .ok (.bipush 6, 2) := by decide +kernel
theorem dX8_init_54 : decode cX8_init 54 = .ok (.newarray .int, 2) := by decide +kernel
theorem dX8_init_56 : decode cX8_init 56 = .ok (.putfield 28, 3) := by decide +kernel
theorem dX8_init_59 : decode cX8_init 59 = .ok (.aload_n 0, 1) := by decide +kernel
theorem dX8_init_60 : decode cX8_init 60 = .ok (.bipush 40, 2) := by decide +kernel
theorem dX8_init_62 : decode cX8_init 62 = .ok (.newarray .int, 2) := by decide +kernel
theorem dX8_init_64 : decode cX8_init 64 = .ok (.putfield 31, 3) := by decide +kernel
theorem dX8_init_67 : decode cX8_init 67 = .ok (.aload_n 0, 1) := by decide +kernel
theorem dX8_init_68 : decode cX8_init 68 = .ok (.iconst 5, 1) := by decide +kernel
theorem dX8_init_69 : decode cX8_init 69 = .ok (.newarray .int, 2) := by decide +kernel
theorem dX8_init_71 : decode cX8_init 71 = .ok (.putfield 34, 3) := by decide +kernel
theorem dX8_init_74 : decode cX8_init 74 = .ok (.aload_n 0, 1) := by decide +kernel
theorem dX8_init_75 : decode cX8_init 75 = .ok (.bipush 16, 2) := by decide +kernel
theorem dX8_init_77 : decode cX8_init 77 = .ok (.newarray .int, 2) := by decide +kernel
theorem dX8_init_79 : decode cX8_init 79 = .ok (.putfield 37, 3) := by decide +kernel
theorem dX8_init_82 : decode cX8_init 82 = .ok (.aload_n 0, 1) := by decide +kernel
theorem dX8_init_83 : decode cX8_init 83 = .ok (.iconst (-1), 1) := by decide +kernel
theorem dX8_init_84 : decode cX8_init 84 = .ok (.putfield 40, 3) := by decide +kernel
theorem dX8_init_87 : decode cX8_init 87 = .ok (.return_, 1) := by decide +kernel
theorem dX8_in_0 : decode cX8_in 0 = .ok (.lload_n 0, 1) := by decide +kernel
theorem dX8_in_1 : decode cX8_in 1 = .ok (.lload_n 2, 1) := by decide +kernel
theorem dX8_in_2 : decode cX8_in 2 = .ok (.lcmp, 1) := by decide +kernel
theorem dX8_in_3 : decode cX8_in 3 = .ok (.ifCond .lt 14, 3) := by decide +kernel
theorem dX8_in_6 : decode cX8_in 6 = .ok (.lload_n 0, 1) := by decide +kernel
theorem dX8_in_7 : decode cX8_in 7 = .ok (.lload 4, 2) := by decide +kernel
theorem dX8_in_9 : decode cX8_in 9 = .ok (.lcmp, 1) := by decide +kernel
theorem dX8_in_10 : decode cX8_in 10 = .ok (.ifCond .gt 7, 3) := by decide +kernel
theorem dX8_in_13 : decode cX8_in 13 = .ok (.iconst 1, 1) := by decide +kernel
theorem dX8_in_14 : decode cX8_in 14 = .ok (.goto 4, 3) := by decide +kernel
theorem dX8_in_17 : decode cX8_in 17 = .ok (.iconst 0, 1) := by decide +kernel
theorem dX8_in_18 : decode cX8_in 18 = .ok (.ireturn, 1) := by decide +kernel
set_option maxRecDepth 20000 in
theorem ggX8_isHue_X8_in : GoodIn wsX8_isHue wsX8_in := goodIn_r _ [5] (by decide +kernel) (by decide +kernel)
set_option maxRecDepth 20000 in
theorem gX8_isHue_X8_in : GoodIn wsX8_isHue (va_wsS RX8 46 yX8_in wsX8_in) := goodIn_app (goodIn_of _ (by decide +kernel)) ggX8_isHue_X8_in
theorem dX8_isHue_0 : decode cX8_isHue 0 = .ok (.iload_n 0, 1) := by decide +kernel
theorem dX8_isHue_1 : decode cX8_isHue 1 = .ok (.i2l, 1) := by decide +kernel
theorem dX8_isHue_2 : decode cX8_isHue 2 = .ok (.lconst 0, 1) := by decide +kernel
theorem dX8_isHue_3 : decode cX8_isHue 3 = .ok (.ldc2_w 44, 3) := by decide +kernel
theorem dX8_isHue_6 : decode cX8_isHue 6 = .ok (.invokestatic 46, 3) := by decide +kernel
theorem dX8_isHue_9 : decode cX8_isHue 9 = .ok (.ireturn, 1) := by decide +kernel
set_option maxRecDepth 20000 in
theorem ggX8_letter_X8_in : GoodIn wsX8_letter wsX8_in := goodIn_r _ [7] (by decide +kernel) (by decide +kernel)
set_option maxRecDepth 20000 in
theorem gX8_letter_X8_in : GoodIn wsX8_letter (va_wsS RX8 46 yX8_in wsX8_in) := goodIn_app (goodIn_of _ (by decide +kernel)) ggX8_letter_X8_in
theorem dX8_letter_0 : decode cX8_letter 0 = .ok (.iload_n 1, 1) := by decide +kernel
theorem dX8_letter_1 : decode cX8_letter 1 = .ok (.i2l, 1) := by decide +kernel
theorem dX8_letter_2 : decode cX8_letter 2 = .ok (.lconst 1, 1) := by decide +kernel
theorem dX8_letter_3 : decode cX8_letter 3 = .ok (.ldc2_w 50, 3) := by decide +kernel
theorem dX8_letter_6 : decode cX8_letter 6 = .ok (.invokestatic 46, 3) := by decide +kernel
theorem dX8_letter_9 : decode cX8_letter 9 = .ok (.ifCond .ne 6, 3) := by decide +kernel
theorem dX8_letter_12 : decode cX8_letter 12 = .ok (.bipush (-102), 2) := by decide +kernel
theorem dX8_letter_14 : decode cX8_letter 14 = .ok (.ireturn, 1) := by decide +kernel
theorem dX8_letter_15 : decode cX8_letter 15 = .ok (.aload_n 0, 1) := by decide +kernel
theorem dX8_letter_16 : decode cX8_letter 16 = .ok (.getfield 52, 3) := by decide +kernel
theorem dX8_letter_19 : decode cX8_letter 19 = .ok (.bipush 10, 2) := by decide +kernel
theorem dX8_letter_21 : decode cX8_letter 21 = .ok (.if_icmp .ne 6, 3) := by decide +kernel
theorem dX8_letter_24 : decode cX8_letter 24 = .ok (.bipush (-104), 2) := by decide +kernel
theorem dX8_letter_26 : decode cX8_letter 26 = .ok (.ireturn, 1) := by decide +kernel
theorem dX8_letter_27 : decode cX8_letter 27 = .ok (.aload_n 0, 1) := by decide +kernel
theorem dX8_letter_28 : decode cX8_letter 28 = .ok (.getfield 7, 3) := by decide +kernel
theorem dX8_letter_31 : decode cX8_letter 31 = .ok (.aload_n 0, 1) := by decide +kernel
theorem dX8_letter_32 : decode cX8_letter 32 = .ok (.getfield 52, 3) := by decide +kernel
theorem dX8_letter_35 : decode cX8_letter 35 = .ok (.iload_n 1, 1) := by decide +kernel
theorem dX8_letter_36 : decode cX8_letter 36 = .ok (.iastore, 1) := by decide +kernel
theorem dX8_letter_37 : decode cX8_letter 37 = .ok (.aload_n 0, 1) := by decide +kernel
theorem dX8_letter_38 : decode cX8_letter 38 = .ok (.dup, 1) := by decide +kernel
theorem dX8_letter_39 : decode cX8_letter 39 = .ok (.getfield 52, 3) := by decide +kernel
theorem dX8_letter_42 : decode cX8_letter 42 = .ok (.iconst 1, 1) := by decide +kernel
theorem dX8_letter_43 : decode cX8_letter 43 = .ok (.iadd, 1) := by decide +kernel
theorem dX8_letter_44 : decode cX8_letter 44 = .ok (.putfield 52, 3) := by decide +kernel
theorem dX8_letter_47 : decode cX8_letter 47 = .ok (.aload_n 0, 1) := by decide +kernel
theorem dX8_letter_48 : decode cX8_letter 48 = .ok (.getfield 52, 3) := by decide +kernel
theorem dX8_letter_51 : decode cX8_letter 51 = .ok (.ireturn, 1) := by decide +kernel
theorem dX8_blank_0 : decode cX8_blank 0 = .ok (.aload_n 0, 1) := by decide +kernel
theorem dX8_blank_1 : decode cX8_blank 1 = .ok (.getfield 52, 3) := by decide +kernel
theorem dX8_blank_4 : decode cX8_blank 4 = .ok (.istore_n 1, 1) := by decide +kernel
theorem dX8_blank_5 : decode cX8_blank 5 = .ok (.aload_n 0, 1) := by decide +kernel
theorem dX8_blank_6 : decode cX8_blank 6 = .ok (.iconst 0, 1) := by decide +kernel
theorem dX8_blank_7 : decode cX8_blank 7 = .ok (.putfield 52, 3) := by decide +kernel
theorem dX8_blank_10 : decode cX8_blank 10 = .ok (.iload_n 1, 1) := by decide +kernel
theorem dX8_blank_11 : decode cX8_blank 11 = .ok (.ireturn, 1) := by decide +kernel
set_option maxRecDepth 20000 in
theorem ggX8_faultOf_X8_in : GoodIn wsX8_faultOf wsX8_in := goodIn_r _ [8] (by decide +kernel) (by decide +kernel)
set_option maxRecDepth 20000 in
theorem gX8_faultOf_X8_in : GoodIn wsX8_faultOf (va_wsS RX8 46 yX8_in wsX8_in) := goodIn_app (goodIn_of _ (by decide +kernel)) ggX8_faultOf_X8_in
theorem dX8_faultOf_0 : decode cX8_faultOf 0 = .ok (.iconst 0, 1) := by decide +kernel
theorem dX8_faultOf_1 : decode cX8_faultOf 1 = .ok (.istore_n 1, 1) := by decide +kernel
theorem dX8_faultOf_2 : decode cX8_faultOf 2 = .ok (.iload_n 1, 1) := by decide +kernel
theorem dX8_faultOf_3 : decode cX8_faultOf 3 = .ok (.aload_n 0, 1) := by decide +kernel
theorem dX8_faultOf_4 : decode cX8_faultOf 4 = .ok (.getfield 52, 3) := by decide +kernel
theorem dX8_faultOf_7 : decode cX8_faultOf 7 = .ok (.if_icmp .ge 34, 3) := by decide +kernel
theorem dX8_faultOf_10 : decode cX8_faultOf 10 = .ok (.iload_n 1, 1) := by decide +kernel
theorem dX8_faultOf_11 : decode cX8_faultOf 11 = .ok (.bipush 6, 2) := by decide +kernel
theorem dX8_faultOf_13 : decode cX8_faultOf 13 = .ok (.if_icmp .ge 28, 3) := by decide +kernel
theorem dX8_faultOf_16 : decode cX8_faultOf 16 = .ok (.aload_n 0, 1) := by decide +kernel
theorem dX8_faultOf_17 : decode cX8_faultOf 17 = .ok (.getfield 7, 3) := by decide +kernel
theorem dX8_faultOf_20 : decode cX8_faultOf 20 = .ok (.iload_n 1, 1) := by decide +kernel
theorem dX8_faultOf_21 : decode cX8_faultOf 21 = .ok (.iaload, 1) := by decide +kernel
theorem dX8_faultOf_22 : decode cX8_faultOf 22 = .ok (.i2l, 1) := by decide +kernel
theorem dX8_faultOf_23 : decode cX8_faultOf 23 = .ok (.ldc2_w 55, 3) := by decide +kernel
theorem dX8_faultOf_26 : decode cX8_faultOf 26 = .ok (.ldc2_w 57, 3) := by decide +kernel
theorem dX8_faultOf_29 : decode cX8_faultOf 29 = .ok (.invokestatic 46, 3) := by decide +kernel
theorem dX8_faultOf_32 : decode cX8_faultOf 32 = .ok (.ifCond .eq 9, 3) := by decide +kernel
theorem dX8_faultOf_35 : decode cX8_faultOf 35 = .ok (.iinc 1 1, 3) := by decide +kernel
theorem dX8_faultOf_38 : decode cX8_faultOf 38 = .ok (.goto (-36), 3) := by decide +kernel
theorem dX8_faultOf_41 : decode cX8_faultOf 41 = .ok (.iload_n 1, 1) := by decide +kernel
theorem dX8_faultOf_42 : decode cX8_faultOf 42 = .ok (.ireturn, 1) := by decide +kernel
set_option maxRecDepth 20000 in
theorem ggX8_fault_X8_faultOf : GoodIn wsX8_fault wsX8_faultOf := goodIn_r _ [5, 6, 7, 8, 9, 10, 11, 4, 12, 13, 14, 15, 16, 17, 18, 19, 20, 21, 22, 23, 24, 25, 26, 27, 28, 29, 30, 31, 32, 33, 34, 35, 36, 37] (by decide +kernel) (by decide +kernel)
set_option maxRecDepth 20000 in
theorem gX8_fault_X8_faultOf : GoodIn wsX8_fault (wsV RX8 59 RX8 yX8_faultOf wsX8_faultOf) := goodIn_app (goodIn_of _ (by decide +kernel)) ggX8_fault_X8_faultOf
theorem dX8_fault_0 : decode cX8_fault 0 = .ok (.aload_n 0, 1) := by decide +kernel
theorem dX8_fault_1 : decode cX8_fault 1 = .ok (.invokevirtual 59, 3) := by decide +kernel
theorem dX8_fault_4 : decode cX8_fault 4 = .ok (.ireturn, 1) := by decide +kernel
set_option maxRecDepth 20000 in
theorem ggX8_isSix_X8_faultOf : GoodIn wsX8_isSix wsX8_faultOf := goodIn_r _ [6, 1, 7, 8, 9, 10, 11, 5, 12, 13, 14, 15, 16, 17, 18, 19, 20, 21, 22, 23, 24, 25, 26, 27, 28, 29, 30, 31, 32, 33, 34, 35, 36, 37] (by decide +kernel) (by decide +kernel)
set_option maxRecDepth 20000 in
theorem gX8_isSix_X8_faultOf : GoodIn wsX8_isSix (wsV RX8 59 RX8 yX8_faultOf wsX8_faultOf) := goodIn_app (goodIn_of _ (by decide +kernel)) ggX8_isSix_X8_faultOf
theorem dX8_isSix_0 : decode cX8_isSix 0 = .ok (.aload_n 0, 1) := by decide +kernel
theorem dX8_isSix_1 : decode cX8_isSix 1 = .ok (.getfield 52, 3) := by decide +kernel
theorem dX8_isSix_4 : decode cX8_isSix 4 = .ok (.bipush 6, 2) := by decide +kernel
theorem dX8_isSix_6 : decode cX8_isSix 6 = .ok (.if_icmp .ne 16, 3) := by decide +kernel
theorem dX8_isSix_9 : decode cX8_isSix 9 = .ok (.aload_n 0, 1) := by decide +kernel
theorem dX8_isSix_10 : decode cX8_isSix 10 = .ok (.invokevirtual 59, 3) := by decide +kernel
theorem dX8_isSix_13 : decode cX8_isSix 13 = .ok (.bipush 6, 2) := by decide +kernel
theorem dX8_isSix_15 : decode cX8_isSix 15 = .ok (.if_icmp .ne 7, 3) := by decide +kernel
theorem dX8_isSix_18 : decode cX8_isSix 18 = .ok (.iconst 1, 1) := by decide +kernel
theorem dX8_isSix_19 : decode cX8_isSix 19 = .ok (.goto 4, 3) := by decide +kernel
theorem dX8_isSix_22 : decode cX8_isSix 22 = .ok (.iconst 0, 1) := by decide +kernel
theorem dX8_isSix_23 : decode cX8_isSix 23 = .ok (.ireturn, 1) := by decide +kernel
theorem dX8_inkedCells_0 : decode cX8_inkedCells 0 = .ok (.iconst 0, 1) := by decide +kernel
theorem dX8_inkedCells_1 : decode cX8_inkedCells 1 = .ok (.istore_n 1, 1) := by decide +kernel
theorem dX8_inkedCells_2 : decode cX8_inkedCells 2 = .ok (.iconst 0, 1) := by decide +kernel
theorem dX8_inkedCells_3 : decode cX8_inkedCells 3 = .ok (.istore_n 2, 1) := by decide +kernel
theorem dX8_inkedCells_4 : decode cX8_inkedCells 4 = .ok (.iload_n 2, 1) := by decide +kernel
theorem dX8_inkedCells_5 : decode cX8_inkedCells 5 = .ok (.bipush 6, 2) := by decide +kernel
theorem dX8_inkedCells_7 : decode cX8_inkedCells 7 = .ok (.if_icmp .ge 33, 3) := by decide +kernel
theorem dX8_inkedCells_10 : decode cX8_inkedCells 10 = .ok (.aload_n 0, 1) := by decide +kernel
theorem dX8_inkedCells_11 : decode cX8_inkedCells 11 = .ok (.getfield 63, 3) := by decide +kernel
theorem dX8_inkedCells_14 : decode cX8_inkedCells 14 = .ok (.ifCond .eq 26, 3) := by decide +kernel
theorem dX8_inkedCells_17 : decode cX8_inkedCells 17 = .ok (.iload_n 1, 1) := by decide +kernel
theorem dX8_inkedCells_18 : decode cX8_inkedCells 18 = .ok (.aload_n 0, 1) := by decide +kernel
theorem dX8_inkedCells_19 : decode cX8_inkedCells 19 = .ok (.getfield 13, 3) := by decide +kernel
theorem dX8_inkedCells_22 : decode cX8_inkedCells 22 = .ok (.iload_n 2, 1) := by decide +kernel
theorem dX8_inkedCells_23 : decode cX8_inkedCells 23 = .ok (.iaload, 1) := by decide +kernel
theorem dX8_inkedCells_24 : decode cX8_inkedCells 24 = .ok (.ifCond .ne 7, 3) := by decide +kernel
theorem dX8_inkedCells_27 : decode cX8_inkedCells 27 = .ok (.iconst 0, 1) := by decide +kernel
theorem dX8_inkedCells_28 : decode cX8_inkedCells 28 = .ok (.goto 4, 3) := by decide +kernel
theorem dX8_inkedCells_31 : decode cX8_inkedCells 31 = .ok (.iconst 1, 1) := by decide +kernel
theorem dX8_inkedCells_32 : decode cX8_inkedCells 32 = .ok (.iadd, 1) := by decide +kernel
theorem dX8_inkedCells_33 : decode cX8_inkedCells 33 = .ok (.istore_n 1, 1) := by decide +kernel
theorem dX8_inkedCells_34 : decode cX8_inkedCells 34 = .ok (.iinc 2 1, 3) := by decide +kernel
theorem dX8_inkedCells_37 : decode cX8_inkedCells 37 = .ok (.goto (-33), 3) := by decide +kernel
theorem dX8_inkedCells_40 : decode cX8_inkedCells 40 = .ok (.iload_n 1, 1) := by decide +kernel
theorem dX8_inkedCells_41 : decode cX8_inkedCells 41 = .ok (.ireturn, 1) := by decide +kernel
set_option maxRecDepth 20000 in
theorem ggX8_sign_X8_isSix : GoodIn wsX8_sign wsX8_isSix := goodIn_r _ [14, 9, 15, 16, 17, 13, 18, 2, 19, 20, 21, 22, 23, 28, 29, 30, 31, 32, 33, 34, 35, 36, 37, 38, 39, 40, 41, 42, 43, 44, 45, 46, 47, 48, 49, 50, 51, 52] (by decide +kernel) (by decide +kernel)
set_option maxRecDepth 20000 in
theorem gX8_sign_X8_isSix : GoodIn wsX8_sign (wsV RX8 67 RX8 yX8_isSix wsX8_isSix) := goodIn_app (goodIn_of _ (by decide +kernel)) ggX8_sign_X8_isSix
set_option maxRecDepth 20000 in
theorem ggX8_sign_X8_inkedCells : GoodIn wsX8_sign wsX8_inkedCells := goodIn_r _ [27, 7, 1, 28, 29, 30, 31, 32, 33, 34, 35, 36, 37, 38, 39, 40, 41, 42, 43, 44, 45, 46, 47, 48, 49, 50, 51, 52] (by decide +kernel) (by decide +kernel)
set_option maxRecDepth 20000 in
theorem gX8_sign_X8_inkedCells : GoodIn wsX8_sign (wsV RX8 86 RX8 yX8_inkedCells wsX8_inkedCells) := goodIn_app (goodIn_of _ (by decide +kernel)) ggX8_sign_X8_inkedCells
theorem dX8_sign_0 : decode cX8_sign 0 = .ok (.aload_n 0, 1) := by decide +kernel
theorem dX8_sign_1 : decode cX8_sign 1 = .ok (.invokevirtual 67, 3) := by decide +kernel
theorem dX8_sign_4 : decode cX8_sign 4 = .ok (.ifCond .ne 6, 3) := by decide +kernel
theorem dX8_sign_7 : decode cX8_sign 7 = .ok (.bipush (-103), 2) := by decide +kernel
theorem dX8_sign_9 : decode cX8_sign 9 = .ok (.ireturn, 1) := by decide +kernel
theorem dX8_sign_10 : decode cX8_sign 10 = .ok (.iconst 0, 1) := by decide +kernel
theorem dX8_sign_11 : decode cX8_sign 11 = .ok (.istore_n 1, 1) := by decide +kernel
theorem dX8_sign_12 : decode cX8_sign 12 = .ok (.iload_n 1, 1) := by decide +kernel
theorem dX8_sign_13 : decode cX8_sign 13 = .ok (.bipush 6, 2) := by decide +kernel
theorem dX8_sign_15 : decode cX8_sign 15 = .ok (.if_icmp .ge 24, 3) := by decide +kernel
theorem dX8_sign_18 : decode cX8_sign 18 = .ok (.aload_n 0, 1) := by decide +kernel
theorem dX8_sign_19 : decode cX8_sign 19 = .ok (.getfield 13, 3) := by decide +kernel
theorem dX8_sign_22 : decode cX8_sign 22 = .ok (.iload_n 1, 1) := by decide +kernel
theorem dX8_sign_23 : decode cX8_sign 23 = .ok (.aload_n 0, 1) := by decide +kernel
theorem dX8_sign_24 : decode cX8_sign 24 = .ok (.getfield 7, 3) := by decide +kernel
theorem dX8_sign_27 : decode cX8_sign 27 = .ok (.iload_n 1, 1) := by decide +kernel
theorem dX8_sign_28 : decode cX8_sign 28 = .ok (.iaload, 1) := by decide +kernel
theorem dX8_sign_29 : decode cX8_sign 29 = .ok (.bipush 48, 2) := by decide +kernel
theorem dX8_sign_31 : decode cX8_sign 31 = .ok (.isub, 1) := by decide +kernel
theorem dX8_sign_32 : decode cX8_sign 32 = .ok (.iastore, 1) := by decide +kernel
theorem dX8_sign_33 : decode cX8_sign 33 = .ok (.iinc 1 1, 3) := by decide +kernel
theorem dX8_sign_36 : decode cX8_sign 36 = .ok (.goto (-24), 3) := by decide +kernel
theorem dX8_sign_39 : decode cX8_sign 39 = .ok (.aload_n 0, 1) := by decide +kernel
theorem dX8_sign_40 : decode cX8_sign 40 = .ok (.iconst 0, 1) := by decide +kernel
theorem dX8_sign_41 : decode cX8_sign 41 = .ok (.putfield 71, 3) := by decide +kernel
theorem dX8_sign_44 : decode cX8_sign 44 = .ok (.aload_n 0, 1) := by decide +kernel
theorem dX8_sign_45 : decode cX8_sign 45 = .ok (.iconst 0, 1) := by decide +kernel
theorem dX8_sign_46 : decode cX8_sign 46 = .ok (.putfield 74, 3) := by decide +kernel
theorem dX8_sign_49 : decode cX8_sign 49 = .ok (.aload_n 0, 1) := by decide +kernel
theorem dX8_sign_50 : decode cX8_sign 50 = .ok (.iconst 0, 1) := by decide +kernel
theorem dX8_sign_51 : decode cX8_sign 51 = .ok (.putfield 77, 3) := by decide +kernel
theorem dX8_sign_54 : decode cX8_sign 54 = .ok (.aload_n 0, 1) := by decide +kernel
theorem dX8_sign_55 : decode cX8_sign 55 = .ok (.iconst 0, 1) := by decide +kernel
theorem dX8_sign_56 : decode cX8_sign 56 = .ok (.putfield 80, 3) := by decide +kernel
theorem dX8_sign_59 : decode cX8_sign 59 = .ok (.aload_n 0, 1) := by decide +kernel
theorem dX8_sign_60 : decode cX8_sign 60 = .ok (.iconst 1, 1) := by decide +kernel
theorem dX8_sign_61 : decode cX8_sign 61 = .ok (.putfield 63, 3) := by decide +kernel
theorem dX8_sign_64 : decode cX8_sign 64 = .ok (.aload_n 0, 1) := by decide +kernel
theorem dX8_sign_65 : decode cX8_sign 65 = .ok (.dup, 1) := by decide +kernel
theorem dX8_sign_66 : decode cX8_sign 66 = .ok (.getfield 83, 3) := by decide +kernel
theorem dX8_sign_69 : decode cX8_sign 69 = .ok (.iconst 1, 1) := by decide +kernel
theorem dX8_sign_70 : decode cX8_sign 70 = .ok (.iadd, 1) := by decide +kernel
theorem dX8_sign_71 : decode cX8_sign 71 = .ok (.putfield 83, 3) := by decide +kernel
theorem dX8_sign_74 : decode cX8_sign 74 = .ok (.aload_n 0, 1) := by decide +kernel
theorem dX8_sign_75 : decode cX8_sign 75 = .ok (.iconst 0, 1) := by decide +kernel
theorem dX8_sign_76 : decode cX8_sign 76 = .ok (.putfield 52, 3) := by decide +kernel
theorem dX8_sign_79 : decode cX8_sign 79 = .ok (.aload_n 0, 1) := by decide +kernel
theorem dX8_sign_80 : decode cX8_sign 80 = .ok (.invokevirtual 86, 3) := by decide +kernel
theorem dX8_sign_83 : decode cX8_sign 83 = .ok (.ireturn, 1) := by decide +kernel
set_option maxRecDepth 20000 in
theorem ggX8_hue_X8_in : GoodIn wsX8_hue wsX8_in := goodIn_r _ [7] (by decide +kernel) (by decide +kernel)
set_option maxRecDepth 20000 in
theorem gX8_hue_X8_in : GoodIn wsX8_hue (va_wsS RX8 46 yX8_in wsX8_in) := goodIn_app (goodIn_of _ (by decide +kernel)) ggX8_hue_X8_in
theorem dX8_hue_0 : decode cX8_hue 0 = .ok (.aload_n 0, 1) := by decide +kernel
theorem dX8_hue_1 : decode cX8_hue 1 = .ok (.getfield 63, 3) := by decide +kernel
theorem dX8_hue_4 : decode cX8_hue 4 = .ok (.ifCond .eq 24, 3) := by decide +kernel
theorem dX8_hue_7 : decode cX8_hue 7 = .ok (.iload_n 1, 1) := by decide +kernel
theorem dX8_hue_8 : decode cX8_hue 8 = .ok (.i2l, 1) := by decide +kernel
theorem dX8_hue_9 : decode cX8_hue 9 = .ok (.lconst 0, 1) := by decide +kernel
theorem dX8_hue_10 : decode cX8_hue 10 = .ok (.ldc2_w 89, 3) := by decide +kernel
theorem dX8_hue_13 : decode cX8_hue 13 = .ok (.invokestatic 46, 3) := by decide +kernel
theorem dX8_hue_16 : decode cX8_hue 16 = .ok (.ifCond .eq 12, 3) := by decide +kernel
theorem dX8_hue_19 : decode cX8_hue 19 = .ok (.aload_n 0, 1) := by decide +kernel
theorem dX8_hue_20 : decode cX8_hue 20 = .ok (.getfield 13, 3) := by decide +kernel
theorem dX8_hue_23 : decode cX8_hue 23 = .ok (.iload_n 1, 1) := by decide +kernel
theorem dX8_hue_24 : decode cX8_hue 24 = .ok (.iaload, 1) := by decide +kernel
theorem dX8_hue_25 : decode cX8_hue 25 = .ok (.goto 5, 3) := by decide +kernel
theorem dX8_hue_28 : decode cX8_hue 28 = .ok (.bipush (-101), 2) := by decide +kernel
theorem dX8_hue_30 : decode cX8_hue 30 = .ok (.ireturn, 1) := by decide +kernel
set_option maxRecDepth 20000 in
theorem ggX8_isPerson_X8_in : GoodIn wsX8_isPerson wsX8_in := goodIn_r _ [5] (by decide +kernel) (by decide +kernel)
set_option maxRecDepth 20000 in
theorem gX8_isPerson_X8_in : GoodIn wsX8_isPerson (va_wsS RX8 46 yX8_in wsX8_in) := goodIn_app (goodIn_of _ (by decide +kernel)) ggX8_isPerson_X8_in
theorem dX8_isPerson_0 : decode cX8_isPerson 0 = .ok (.iload_n 1, 1) := by decide +kernel
theorem dX8_isPerson_1 : decode cX8_isPerson 1 = .ok (.i2l, 1) := by decide +kernel
theorem dX8_isPerson_2 : decode cX8_isPerson 2 = .ok (.lconst 0, 1) := by decide +kernel
theorem dX8_isPerson_3 : decode cX8_isPerson 3 = .ok (.aload_n 0, 1) := by decide +kernel
theorem dX8_isPerson_4 : decode cX8_isPerson 4 = .ok (.getfield 71, 3) := by decide +kernel
theorem dX8_isPerson_7 : decode cX8_isPerson 7 = .ok (.iconst 1, 1) := by decide +kernel
theorem dX8_isPerson_8 : decode cX8_isPerson 8 = .ok (.isub, 1) := by decide +kernel
theorem dX8_isPerson_9 : decode cX8_isPerson 9 = .ok (.i2l, 1) := by decide +kernel
theorem dX8_isPerson_10 : decode cX8_isPerson 10 = .ok (.invokestatic 46, 3) := by decide +kernel
theorem dX8_isPerson_13 : decode cX8_isPerson 13 = .ok (.ireturn, 1) := by decide +kernel
set_option maxRecDepth 20000 in
theorem ggX8_isInk_X8_in : GoodIn wsX8_isInk wsX8_in := goodIn_r _ [5] (by decide +kernel) (by decide +kernel)
set_option maxRecDepth 20000 in
theorem gX8_isInk_X8_in : GoodIn wsX8_isInk (va_wsS RX8 46 yX8_in wsX8_in) := goodIn_app (goodIn_of _ (by decide +kernel)) ggX8_isInk_X8_in
theorem dX8_isInk_0 : decode cX8_isInk 0 = .ok (.iload_n 1, 1) := by decide +kernel
theorem dX8_isInk_1 : decode cX8_isInk 1 = .ok (.i2l, 1) := by decide +kernel
theorem dX8_isInk_2 : decode cX8_isInk 2 = .ok (.lconst 0, 1) := by decide +kernel
theorem dX8_isInk_3 : decode cX8_isInk 3 = .ok (.aload_n 0, 1) := by decide +kernel
theorem dX8_isInk_4 : decode cX8_isInk 4 = .ok (.getfield 74, 3) := by decide +kernel
theorem dX8_isInk_7 : decode cX8_isInk 7 = .ok (.iconst 1, 1) := by decide +kernel
theorem dX8_isInk_8 : decode cX8_isInk 8 = .ok (.isub, 1) := by decide +kernel
theorem dX8_isInk_9 : decode cX8_isInk 9 = .ok (.i2l, 1) := by decide +kernel
theorem dX8_isInk_10 : decode cX8_isInk 10 = .ok (.invokestatic 46, 3) := by decide +kernel
theorem dX8_isInk_13 : decode cX8_isInk 13 = .ok (.ireturn, 1) := by decide +kernel
set_option maxRecDepth 20000 in
theorem ggX8_layer_X8_isInk : GoodIn wsX8_layer wsX8_isInk := goodIn_r _ [9, 10, 11, 12, 8, 13, 14, 15, 16, 17, 18, 19, 20, 21, 22, 23, 24, 25, 26, 27, 28, 29, 30, 31, 32, 33, 34, 35, 36, 37, 38] (by decide +kernel) (by decide +kernel)
set_option maxRecDepth 20000 in
theorem gX8_layer_X8_isInk : GoodIn wsX8_layer (wsV RX8 91 RX8 yX8_isInk wsX8_isInk) := goodIn_app (goodIn_of _ (by decide +kernel)) ggX8_layer_X8_isInk
set_option maxRecDepth 20000 in
theorem ggX8_layer_X8_in : GoodIn wsX8_layer wsX8_in := goodIn_r _ [13] (by decide +kernel) (by decide +kernel)
set_option maxRecDepth 20000 in
theorem gX8_layer_X8_in : GoodIn wsX8_layer (va_wsS RX8 46 yX8_in wsX8_in) := goodIn_app (goodIn_of _ (by decide +kernel)) ggX8_layer_X8_in
theorem dX8_layer_0 : decode cX8_layer 0 = .ok (.aload_n 0, 1) := by decide +kernel
theorem dX8_layer_1 : decode cX8_layer 1 = .ok (.iload_n 1, 1) := by decide +kernel
theorem dX8_layer_2 : decode cX8_layer 2 = .ok (.invokevirtual 91, 3) := by decide +kernel
theorem dX8_layer_5 : decode cX8_layer 5 = .ok (.ifCond .ne 6, 3) := by decide +kernel
theorem dX8_layer_8 : decode cX8_layer 8 = .ok (.bipush (-101), 2) := by decide +kernel
theorem dX8_layer_10 : decode cX8_layer 10 = .ok (.ireturn, 1) := by decide +kernel
theorem dX8_layer_11 : decode cX8_layer 11 = .ok (.iload_n 2, 1) := by decide +kernel
theorem dX8_layer_12 : decode cX8_layer 12 = .ok (.i2l, 1) := by decide +kernel
theorem dX8_layer_13 : decode cX8_layer 13 = .ok (.lconst 0, 1) := by decide +kernel
theorem dX8_layer_14 : decode cX8_layer 14 = .ok (.ldc2_w 95, 3) := by decide +kernel
theorem dX8_layer_17 : decode cX8_layer 17 = .ok (.invokestatic 46, 3) := by decide +kernel
theorem dX8_layer_20 : decode cX8_layer 20 = .ok (.ifCond .ne 6, 3) := by decide +kernel
theorem dX8_layer_23 : decode cX8_layer 23 = .ok (.bipush (-102), 2) := by decide +kernel
theorem dX8_layer_25 : decode cX8_layer 25 = .ok (.ireturn, 1) := by decide +kernel
theorem dX8_layer_26 : decode cX8_layer 26 = .ok (.iconst 0, 1) := by decide +kernel
theorem dX8_layer_27 : decode cX8_layer 27 = .ok (.istore_n 3, 1) := by decide +kernel
theorem dX8_layer_28 : decode cX8_layer 28 = .ok (.iconst 0, 1) := by decide +kernel
theorem dX8_layer_29 : decode cX8_layer 29 = .ok (.istore 4, 2) := by decide +kernel
theorem dX8_layer_31 : decode cX8_layer 31 = .ok (.iload 4, 2) := by decide +kernel
theorem dX8_layer_33 : decode cX8_layer 33 = .ok (.bipush 6, 2) := by decide +kernel
theorem dX8_layer_35 : decode cX8_layer 35 = .ok (.if_icmp .ge 69, 3) := by decide +kernel
theorem dX8_layer_38 : decode cX8_layer 38 = .ok (.aload_n 0, 1) := by decide +kernel
theorem dX8_layer_39 : decode cX8_layer 39 = .ok (.getfield 13, 3) := by decide +kernel
theorem dX8_layer_42 : decode cX8_layer 42 = .ok (.iload 4, 2) := by decide +kernel
theorem dX8_layer_44 : decode cX8_layer 44 = .ok (.iaload, 1) := by decide +kernel
theorem dX8_layer_45 : decode cX8_layer 45 = .ok (.istore 5, 2) := by decide +kernel
theorem dX8_layer_47 : decode cX8_layer 47 = .ok (.aload_n 0, 1) := by decide +kernel
theorem dX8_layer_48 : decode cX8_layer 48 = .ok (.getfield 13, 3) := by decide +kernel
theorem dX8_layer_51 : decode cX8_layer 51 = .ok (.iload 4, 2) := by decide +kernel
theorem dX8_layer_53 : decode cX8_layer 53 = .ok (.iload_n 2, 1) := by decide +kernel
theorem dX8_layer_54 : decode cX8_layer 54 = .ok (.iload 4, 2) := by decide +kernel
theorem dX8_layer_56 : decode cX8_layer 56 = .ok (.ishr, 1) := by decide +kernel
theorem dX8_layer_57 : decode cX8_layer 57 = .ok (.iconst 1, 1) := by decide +kernel
theorem dX8_layer_58 : decode cX8_layer 58 = .ok (.iand, 1) := by decide +kernel
theorem dX8_layer_59 : decode cX8_layer 59 = .ok (.iconst 1, 1) := by decide +kernel
theorem dX8_layer_60 : decode cX8_layer 60 = .ok (.if_icmp .ne 15, 3) := by decide +kernel
theorem dX8_layer_63 : decode cX8_layer 63 = .ok (.iload 5, 2) := by decide +kernel
theorem dX8_layer_65 : decode cX8_layer 65 = .ok (.aload_n 0, 1) := by decide +kernel
theorem dX8_layer_66 : decode cX8_layer 66 = .ok (.getfield 19, 3) := by decide +kernel
theorem dX8_layer_69 : decode cX8_layer 69 = .ok (.iload_n 1, 1) := by decide +kernel
theorem dX8_layer_70 : decode cX8_layer 70 = .ok (.iaload, 1) := by decide +kernel
theorem dX8_layer_71 : decode cX8_layer 71 = .ok (.ior, 1) := by decide +kernel
theorem dX8_layer_72 : decode cX8_layer 72 = .ok (.goto 5, 3) := by decide +kernel
theorem dX8_layer_75 : decode cX8_layer 75 = .ok (.iload 5, 2) := by decide +kernel
theorem dX8_layer_77 : decode cX8_layer 77 = .ok (.iastore, 1) := by decide +kernel
theorem dX8_layer_78 : decode cX8_layer 78 = .ok (.iload_n 3, 1) := by decide +kernel
theorem dX8_layer_79 : decode cX8_layer 79 = .ok (.aload_n 0, 1) := by decide +kernel
theorem dX8_layer_80 : decode cX8_layer 80 = .ok (.getfield 13, 3) := by decide +kernel
theorem dX8_layer_83 : decode cX8_layer 83 = .ok (.iload 4, 2) := by decide +kernel
theorem dX8_layer_85 : decode cX8_layer 85 = .ok (.iaload, 1) := by decide +kernel
theorem dX8_layer_86 : decode cX8_layer 86 = .ok (.iload 5, 2) := by decide +kernel
theorem dX8_layer_88 : decode cX8_layer 88 = .ok (.if_icmp .ne 7, 3) := by decide +kernel
theorem dX8_layer_91 : decode cX8_layer 91 = .ok (.iconst 0, 1) := by decide +kernel
theorem dX8_layer_92 : decode cX8_layer 92 = .ok (.goto 4, 3) := by decide +kernel
theorem dX8_layer_95 : decode cX8_layer 95 = .ok (.iconst 1, 1) := by decide +kernel
theorem dX8_layer_96 : decode cX8_layer 96 = .ok (.iadd, 1) := by decide +kernel
theorem dX8_layer_97 : decode cX8_layer 97 = .ok (.istore_n 3, 1) := by decide +kernel
theorem dX8_layer_98 : decode cX8_layer 98 = .ok (.iinc 4 1, 3) := by decide +kernel
theorem dX8_layer_101 : decode cX8_layer 101 = .ok (.goto (-70), 3) := by decide +kernel
theorem dX8_layer_104 : decode cX8_layer 104 = .ok (.aload_n 0, 1) := by decide +kernel
theorem dX8_layer_105 : decode cX8_layer 105 = .ok (.dup, 1) := by decide +kernel
theorem dX8_layer_106 : decode cX8_layer 106 = .ok (.getfield 80, 3) := by decide +kernel
theorem dX8_layer_109 : decode cX8_layer 109 = .ok (.iconst 1, 1) := by decide +kernel
theorem dX8_layer_110 : decode cX8_layer 110 = .ok (.iadd, 1) := by decide +kernel
theorem dX8_layer_111 : decode cX8_layer 111 = .ok (.putfield 80, 3) := by decide +kernel
theorem dX8_layer_114 : decode cX8_layer 114 = .ok (.iload_n 3, 1) := by decide +kernel
theorem dX8_layer_115 : decode cX8_layer 115 = .ok (.ireturn, 1) := by decide +kernel
theorem dX8_seenBy_0 : decode cX8_seenBy 0 = .ok (.iload_n 3, 1) := by decide +kernel
theorem dX8_seenBy_1 : decode cX8_seenBy 1 = .ok (.iload_n 1, 1) := by decide +kernel
theorem dX8_seenBy_2 : decode cX8_seenBy 2 = .ok (.iand, 1) := by decide +kernel
theorem dX8_seenBy_3 : decode cX8_seenBy 3 = .ok (.istore 4, 2) := by decide +kernel
theorem dX8_seenBy_5 : decode cX8_seenBy 5 = .ok (.iload_n 3, 1) := by decide +kernel
theorem dX8_seenBy_6 : decode cX8_seenBy 6 = .ok (.iload_n 2, 1) := by decide +kernel
theorem dX8_seenBy_7 : decode cX8_seenBy 7 = .ok (.iand, 1) := by decide +kernel
theorem dX8_seenBy_8 : decode cX8_seenBy 8 = .ok (.istore 5, 2) := by decide +kernel
theorem dX8_seenBy_10 : decode cX8_seenBy 10 = .ok (.iload_n 0, 1) := by decide +kernel
theorem dX8_seenBy_11 : decode cX8_seenBy 11 = .ok (.tableswitch 60 0 3 #[29, 35, 41, 47], 29) := by decide +kernel
theorem dX8_seenBy_40 : decode cX8_seenBy 40 = .ok (.iload 4, 2) := by decide +kernel
theorem dX8_seenBy_42 : decode cX8_seenBy 42 = .ok (.iload 5, 2) := by decide +kernel
theorem dX8_seenBy_44 : decode cX8_seenBy 44 = .ok (.ior, 1) := by decide +kernel
theorem dX8_seenBy_45 : decode cX8_seenBy 45 = .ok (.ireturn, 1) := by decide +kernel
theorem dX8_seenBy_46 : decode cX8_seenBy 46 = .ok (.iload 4, 2) := by decide +kernel
theorem dX8_seenBy_48 : decode cX8_seenBy 48 = .ok (.iload 5, 2) := by decide +kernel
theorem dX8_seenBy_50 : decode cX8_seenBy 50 = .ok (.ixor, 1) := by decide +kernel
theorem dX8_seenBy_51 : decode cX8_seenBy 51 = .ok (.ireturn, 1) := by decide +kernel
theorem dX8_seenBy_52 : decode cX8_seenBy 52 = .ok (.iload 4, 2) := by decide +kernel
theorem dX8_seenBy_54 : decode cX8_seenBy 54 = .ok (.iload 5, 2) := by decide +kernel
theorem dX8_seenBy_56 : decode cX8_seenBy 56 = .ok (.iand, 1) := by decide +kernel
theorem dX8_seenBy_57 : decode cX8_seenBy 57 = .ok (.ireturn, 1) := by decide +kernel
theorem dX8_seenBy_58 : decode cX8_seenBy 58 = .ok (.iload 4, 2) := by decide +kernel
theorem dX8_seenBy_60 : decode cX8_seenBy 60 = .ok (.ifCond .ne 8, 3) := by decide +kernel
theorem dX8_seenBy_63 : decode cX8_seenBy 63 = .ok (.iload 5, 2) := by decide +kernel
theorem dX8_seenBy_65 : decode cX8_seenBy 65 = .ok (.goto 5, 3) := by decide +kernel
theorem dX8_seenBy_68 : decode cX8_seenBy 68 = .ok (.iload 4, 2) := by decide +kernel
theorem dX8_seenBy_70 : decode cX8_seenBy 70 = .ok (.ireturn, 1) := by decide +kernel
theorem dX8_seenBy_71 : decode cX8_seenBy 71 = .ok (.iload 5, 2) := by decide +kernel
theorem dX8_seenBy_73 : decode cX8_seenBy 73 = .ok (.ireturn, 1) := by decide +kernel
set_option maxRecDepth 20000 in
theorem ggX8_seesOf_X8_seenBy : GoodIn wsX8_seesOf wsX8_seenBy := goodIn_r _ [5] (by decide +kernel) (by decide +kernel)
set_option maxRecDepth 20000 in
theorem gX8_seesOf_X8_seenBy : GoodIn wsX8_seesOf (va_wsS RX8 97 yX8_seenBy wsX8_seenBy) := goodIn_app (goodIn_of _ (by decide +kernel)) ggX8_seesOf_X8_seenBy
theorem dX8_seesOf_0 : decode cX8_seesOf 0 = .ok (.aload_n 0, 1) := by decide +kernel
theorem dX8_seesOf_1 : decode cX8_seesOf 1 = .ok (.getfield 16, 3) := by decide +kernel
theorem dX8_seesOf_4 : decode cX8_seesOf 4 = .ok (.bipush 10, 2) := by decide +kernel
theorem dX8_seesOf_6 : decode cX8_seesOf 6 = .ok (.iload_n 1, 1) := by decide +kernel
theorem dX8_seesOf_7 : decode cX8_seesOf 7 = .ok (.imul, 1) := by decide +kernel
theorem dX8_seesOf_8 : decode cX8_seesOf 8 = .ok (.iaload, 1) := by decide +kernel
theorem dX8_seesOf_9 : decode cX8_seesOf 9 = .ok (.aload_n 0, 1) := by decide +kernel
theorem dX8_seesOf_10 : decode cX8_seesOf 10 = .ok (.getfield 16, 3) := by decide +kernel
theorem dX8_seesOf_13 : decode cX8_seesOf 13 = .ok (.bipush 10, 2) := by decide +kernel
theorem dX8_seesOf_15 : decode cX8_seesOf 15 = .ok (.iload_n 1, 1) := by decide +kernel
theorem dX8_seesOf_16 : decode cX8_seesOf 16 = .ok (.imul, 1) := by decide +kernel
theorem dX8_seesOf_17 : decode cX8_seesOf 17 = .ok (.iconst 1, 1) := by decide +kernel
theorem dX8_seesOf_18 : decode cX8_seesOf 18 = .ok (.iadd, 1) := by decide +kernel
theorem dX8_seesOf_19 : decode cX8_seesOf 19 = .ok (.iaload, 1) := by decide +kernel
theorem dX8_seesOf_20 : decode cX8_seesOf 20 = .ok (.aload_n 0, 1) := by decide +kernel
theorem dX8_seesOf_21 : decode cX8_seesOf 21 = .ok (.getfield 16, 3) := by decide +kernel
theorem dX8_seesOf_24 : decode cX8_seesOf 24 = .ok (.bipush 10, 2) := by decide +kernel
theorem dX8_seesOf_26 : decode cX8_seesOf 26 = .ok (.iload_n 1, 1) := by decide +kernel
theorem dX8_seesOf_27 : decode cX8_seesOf 27 = .ok (.imul, 1) := by decide +kernel
theorem dX8_seesOf_28 : decode cX8_seesOf 28 = .ok (.iconst 2, 1) := by decide +kernel
theorem dX8_seesOf_29 : decode cX8_seesOf 29 = .ok (.iadd, 1) := by decide +kernel
theorem dX8_seesOf_30 : decode cX8_seesOf 30 = .ok (.iaload, 1) := by decide +kernel
theorem dX8_seesOf_31 : decode cX8_seesOf 31 = .ok (.iload_n 2, 1) := by decide +kernel
theorem dX8_seesOf_32 : decode cX8_seesOf 32 = .ok (.invokestatic 97, 3) := by decide +kernel
theorem dX8_seesOf_35 : decode cX8_seesOf 35 = .ok (.ireturn, 1) := by decide +kernel
set_option maxRecDepth 20000 in
theorem ggX8_person_X8_in : GoodIn wsX8_person wsX8_in := goodIn_r _ [8] (by decide +kernel) (by decide +kernel)
set_option maxRecDepth 20000 in
theorem gX8_person_X8_in : GoodIn wsX8_person (va_wsS RX8 46 yX8_in wsX8_in) := goodIn_app (goodIn_of _ (by decide +kernel)) ggX8_person_X8_in
set_option maxRecDepth 20000 in
theorem ggX8_person_X8_isHue : GoodIn wsX8_person wsX8_isHue := goodIn_r _ [11, 12, 5, 6, 7, 8] (by decide +kernel) (by decide +kernel)
set_option maxRecDepth 20000 in
theorem gX8_person_X8_isHue : GoodIn wsX8_person (va_wsS RX8 103 yX8_isHue wsX8_isHue) := goodIn_app (goodIn_of _ (by decide +kernel)) ggX8_person_X8_isHue
theorem dX8_person_0 : decode cX8_person 0 = .ok (.iload_n 1, 1) := by decide +kernel
theorem dX8_person_1 : decode cX8_person 1 = .ok (.i2l, 1) := by decide +kernel
theorem dX8_person_2 : decode cX8_person 2 = .ok (.lconst 0, 1) := by decide +kernel
theorem dX8_person_3 : decode cX8_person 3 = .ok (.ldc2_w 101, 3) := by decide +kernel
theorem dX8_person_6 : decode cX8_person 6 = .ok (.invokestatic 46, 3) := by decide +kernel
theorem dX8_person_9 : decode cX8_person 9 = .ok (.ifCond .eq 17, 3) := by decide +kernel
theorem dX8_person_12 : decode cX8_person 12 = .ok (.iload_n 2, 1) := by decide +kernel
theorem dX8_person_13 : decode cX8_person 13 = .ok (.invokestatic 103, 3) := by decide +kernel
theorem dX8_person_16 : decode cX8_person 16 = .ok (.ifCond .eq 10, 3) := by decide +kernel
theorem dX8_person_19 : decode cX8_person 19 = .ok (.iload_n 3, 1) := by decide +kernel
theorem dX8_person_20 : decode cX8_person 20 = .ok (.invokestatic 103, 3) := by decide +kernel
theorem dX8_person_23 : decode cX8_person 23 = .ok (.ifCond .ne 6, 3) := by decide +kernel
theorem dX8_person_26 : decode cX8_person 26 = .ok (.bipush (-102), 2) := by decide +kernel
theorem dX8_person_28 : decode cX8_person 28 = .ok (.ireturn, 1) := by decide +kernel
theorem dX8_person_29 : decode cX8_person 29 = .ok (.aload_n 0, 1) := by decide +kernel
theorem dX8_person_30 : decode cX8_person 30 = .ok (.getfield 63, 3) := by decide +kernel
theorem dX8_person_33 : decode cX8_person 33 = .ok (.ifCond .ne 6, 3) := by decide +kernel
theorem dX8_person_36 : decode cX8_person 36 = .ok (.bipush (-103), 2) := by decide +kernel
theorem dX8_person_38 : decode cX8_person 38 = .ok (.ireturn, 1) := by decide +kernel
theorem dX8_person_39 : decode cX8_person 39 = .ok (.aload_n 0, 1) := by decide +kernel
theorem dX8_person_40 : decode cX8_person 40 = .ok (.getfield 71, 3) := by decide +kernel
theorem dX8_person_43 : decode cX8_person 43 = .ok (.iconst 4, 1) := by decide +kernel
theorem dX8_person_44 : decode cX8_person 44 = .ok (.if_icmp .ne 6, 3) := by decide +kernel
theorem dX8_person_47 : decode cX8_person 47 = .ok (.bipush (-104), 2) := by decide +kernel
theorem dX8_person_49 : decode cX8_person 49 = .ok (.ireturn, 1) := by decide +kernel
theorem dX8_person_50 : decode cX8_person 50 = .ok (.aload_n 0, 1) := by decide +kernel
theorem dX8_person_51 : decode cX8_person 51 = .ok (.getfield 16, 3) := by decide +kernel
theorem dX8_person_54 : decode cX8_person 54 = .ok (.bipush 10, 2) := by decide +kernel
theorem dX8_person_56 : decode cX8_person 56 = .ok (.aload_n 0, 1) := by decide +kernel
theorem dX8_person_57 : decode cX8_person 57 = .ok (.getfield 71, 3) := by decide +kernel
theorem dX8_person_60 : decode cX8_person 60 = .ok (.imul, 1) := by decide +kernel
theorem dX8_person_61 : decode cX8_person 61 = .ok (.iload_n 1, 1) := by decide +kernel
theorem dX8_person_62 : decode cX8_person 62 = .ok (.iastore, 1) := by decide +kernel
theorem dX8_person_63 : decode cX8_person 63 = .ok (.aload_n 0, 1) := by decide +kernel
theorem dX8_person_64 : decode cX8_person 64 = .ok (.getfield 16, 3) := by decide +kernel
theorem dX8_person_67 : decode cX8_person 67 = .ok (.bipush 10, 2) := by decide +kernel
theorem dX8_person_69 : decode cX8_person 69 = .ok (.aload_n 0, 1) := by decide +kernel
theorem dX8_person_70 : decode cX8_person 70 = .ok (.getfield 71, 3) := by decide +kernel
theorem dX8_person_73 : decode cX8_person 73 = .ok (.imul, 1) := by decide +kernel
theorem dX8_person_74 : decode cX8_person 74 = .ok (.iconst 1, 1) := by decide +kernel
theorem dX8_person_75 : decode cX8_person 75 = .ok (.iadd, 1) := by decide +kernel
theorem dX8_person_76 : decode cX8_person 76 = .ok (.iload_n 2, 1) := by decide +kernel
theorem dX8_person_77 : decode cX8_person 77 = .ok (.iastore, 1) := by decide +kernel
theorem dX8_person_78 : decode cX8_person 78 = .ok (.aload_n 0, 1) := by decide +kernel
theorem dX8_person_79 : decode cX8_person 79 = .ok (.getfield 16, 3) := by decide +kernel
theorem dX8_person_82 : decode cX8_person 82 = .ok (.bipush 10, 2) := by decide +kernel
theorem dX8_person_84 : decode cX8_person 84 = .ok (.aload_n 0, 1) := by decide +kernel
theorem dX8_person_85 : decode cX8_person 85 = .ok (.getfield 71, 3) := by decide +kernel
theorem dX8_person_88 : decode cX8_person 88 = .ok (.imul, 1) := by decide +kernel
theorem dX8_person_89 : decode cX8_person 89 = .ok (.iconst 2, 1) := by decide +kernel
theorem dX8_person_90 : decode cX8_person 90 = .ok (.iadd, 1) := by decide +kernel
theorem dX8_person_91 : decode cX8_person 91 = .ok (.iload_n 3, 1) := by decide +kernel
theorem dX8_person_92 : decode cX8_person 92 = .ok (.iastore, 1) := by decide +kernel
theorem dX8_person_93 : decode cX8_person 93 = .ok (.aload_n 0, 1) := by decide +kernel
theorem dX8_person_94 : decode cX8_person 94 = .ok (.getfield 16, 3) := by decide +kernel
theorem dX8_person_97 : decode cX8_person 97 = .ok (.bipush 10, 2) := by decide +kernel
theorem dX8_person_99 : decode cX8_person 99 = .ok (.aload_n 0, 1) := by decide +kernel
theorem dX8_person_100 : decode cX8_person 100 = .ok (.getfield 71, 3) := by decide +kernel
theorem dX8_person_103 : decode cX8_person 103 = .ok (.imul, 1) := by decide +kernel
theorem dX8_person_104 : decode cX8_person 104 = .ok (.iconst 3, 1) := by decide +kernel
theorem dX8_person_105 : decode cX8_person 105 = .ok (.iadd, 1) := by decide +kernel
theorem dX8_person_106 : decode cX8_person 106 = .ok (.iconst 0, 1) := by decide +kernel
theorem dX8_person_107 : decode cX8_person 107 = .ok (.iastore, 1) := by decide +kernel
theorem dX8_person_108 : decode cX8_person 108 = .ok (.aload_n 0, 1) := by decide +kernel
theorem dX8_person_109 : decode cX8_person 109 = .ok (.dup, 1) := by decide +kernel
theorem dX8_person_110 : decode cX8_person 110 = .ok (.getfield 71, 3) := by decide +kernel
theorem dX8_person_113 : decode cX8_person 113 = .ok (.iconst 1, 1) := by decide +kernel
theorem dX8_person_114 : decode cX8_person 114 = .ok (.iadd, 1) := by decide +kernel
theorem dX8_person_115 : decode cX8_person 115 = .ok (.putfield 71, 3) := by decide +kernel
theorem dX8_person_118 : decode cX8_person 118 = .ok (.aload_n 0, 1) := by decide +kernel
theorem dX8_person_119 : decode cX8_person 119 = .ok (.getfield 71, 3) := by decide +kernel
theorem dX8_person_122 : decode cX8_person 122 = .ok (.iconst 1, 1) := by decide +kernel
theorem dX8_person_123 : decode cX8_person 123 = .ok (.isub, 1) := by decide +kernel
theorem dX8_person_124 : decode cX8_person 124 = .ok (.ireturn, 1) := by decide +kernel
set_option maxRecDepth 20000 in
theorem ggX8_asTheyAre_X8_seesOf : GoodIn wsX8_asTheyAre wsX8_seesOf := goodIn_r _ [5, 6, 7, 8, 4, 9, 10, 11, 12, 13, 14, 15, 16, 17, 18, 19, 20, 21, 22, 23, 24, 25, 26, 27, 28, 29, 30, 31, 32, 33, 34] (by decide +kernel) (by decide +kernel)
set_option maxRecDepth 20000 in
theorem gX8_asTheyAre_X8_seesOf : GoodIn wsX8_asTheyAre (wsV RX8 106 RX8 yX8_seesOf wsX8_seesOf) := goodIn_app (goodIn_of _ (by decide +kernel)) ggX8_asTheyAre_X8_seesOf
theorem dX8_asTheyAre_0 : decode cX8_asTheyAre 0 = .ok (.iconst 0, 1) := by decide +kernel
theorem dX8_asTheyAre_1 : decode cX8_asTheyAre 1 = .ok (.istore_n 2, 1) := by decide +kernel
theorem dX8_asTheyAre_2 : decode cX8_asTheyAre 2 = .ok (.iconst 0, 1) := by decide +kernel
theorem dX8_asTheyAre_3 : decode cX8_asTheyAre 3 = .ok (.istore_n 3, 1) := by decide +kernel
theorem dX8_asTheyAre_4 : decode cX8_asTheyAre 4 = .ok (.iload_n 3, 1) := by decide +kernel
theorem dX8_asTheyAre_5 : decode cX8_asTheyAre 5 = .ok (.bipush 8, 2) := by decide +kernel
theorem dX8_asTheyAre_7 : decode cX8_asTheyAre 7 = .ok (.if_icmp .ge 27, 3) := by decide +kernel
theorem dX8_asTheyAre_10 : decode cX8_asTheyAre 10 = .ok (.iload_n 2, 1) := by decide +kernel
theorem dX8_asTheyAre_11 : decode cX8_asTheyAre 11 = .ok (.aload_n 0, 1) := by decide +kernel
theorem dX8_asTheyAre_12 : decode cX8_asTheyAre 12 = .ok (.iload_n 1, 1) := by decide +kernel
theorem dX8_asTheyAre_13 : decode cX8_asTheyAre 13 = .ok (.iload_n 3, 1) := by decide +kernel
theorem dX8_asTheyAre_14 : decode cX8_asTheyAre 14 = .ok (.invokevirtual 106, 3) := by decide +kernel
theorem dX8_asTheyAre_17 : decode cX8_asTheyAre 17 = .ok (.iload_n 3, 1) := by decide +kernel
theorem dX8_asTheyAre_18 : decode cX8_asTheyAre 18 = .ok (.if_icmp .ne 7, 3) := by decide +kernel
theorem dX8_asTheyAre_21 : decode cX8_asTheyAre 21 = .ok (.iconst 1, 1) := by decide +kernel
theorem dX8_asTheyAre_22 : decode cX8_asTheyAre 22 = .ok (.goto 4, 3) := by decide +kernel
theorem dX8_asTheyAre_25 : decode cX8_asTheyAre 25 = .ok (.iconst 0, 1) := by decide +kernel
theorem dX8_asTheyAre_26 : decode cX8_asTheyAre 26 = .ok (.iadd, 1) := by decide +kernel
theorem dX8_asTheyAre_27 : decode cX8_asTheyAre 27 = .ok (.istore_n 2, 1) := by decide +kernel
theorem dX8_asTheyAre_28 : decode cX8_asTheyAre 28 = .ok (.iinc 3 1, 3) := by decide +kernel
theorem dX8_asTheyAre_31 : decode cX8_asTheyAre 31 = .ok (.goto (-27), 3) := by decide +kernel
theorem dX8_asTheyAre_34 : decode cX8_asTheyAre 34 = .ok (.iload_n 2, 1) := by decide +kernel
theorem dX8_asTheyAre_35 : decode cX8_asTheyAre 35 = .ok (.ireturn, 1) := by decide +kernel
set_option maxRecDepth 20000 in
theorem ggX8_tell_X8_in : GoodIn wsX8_tell wsX8_in := goodIn_r _ [11] (by decide +kernel) (by decide +kernel)
set_option maxRecDepth 20000 in
theorem gX8_tell_X8_in : GoodIn wsX8_tell (va_wsS RX8 46 yX8_in wsX8_in) := goodIn_app (goodIn_of _ (by decide +kernel)) ggX8_tell_X8_in
set_option maxRecDepth 20000 in
theorem ggX8_tell_X8_seesOf : GoodIn wsX8_tell wsX8_seesOf := goodIn_r _ [15, 2, 16, 17, 10, 18, 23, 24, 25, 26, 27, 28, 29, 30, 31, 32, 33, 34, 35, 36, 37, 38, 39, 40, 41, 42, 43, 44, 45, 46, 47] (by decide +kernel) (by decide +kernel)
set_option maxRecDepth 20000 in
theorem gX8_tell_X8_seesOf : GoodIn wsX8_tell (wsV RX8 106 RX8 yX8_seesOf wsX8_seesOf) := goodIn_app (goodIn_of _ (by decide +kernel)) ggX8_tell_X8_seesOf
set_option maxRecDepth 20000 in
theorem ggX8_tell_X8_asTheyAre : GoodIn wsX8_tell wsX8_asTheyAre := goodIn_r _ [22, 12, 13, 14, 10, 15, 2, 16, 17, 18, 23, 24, 25, 26, 27, 28, 29, 30, 31, 32, 33, 34, 35, 36, 37, 38, 39, 40, 41, 42, 43, 44, 45, 46, 47] (by decide +kernel) (by decide +kernel)
set_option maxRecDepth 20000 in
theorem gX8_tell_X8_asTheyAre : GoodIn wsX8_tell (wsV RX8 120 RX8 yX8_asTheyAre wsX8_asTheyAre) := goodIn_app (goodIn_of _ (by decide +kernel)) ggX8_tell_X8_asTheyAre
theorem dX8_tell_0 : decode cX8_tell 0 = .ok (.iload_n 2, 1) := by decide +kernel
theorem dX8_tell_1 : decode cX8_tell 1 = .ok (.i2l, 1) := by decide +kernel
theorem dX8_tell_2 : decode cX8_tell 2 = .ok (.lconst 0, 1) := by decide +kernel
theorem dX8_tell_3 : decode cX8_tell 3 = .ok (.ldc2_w 110, 3) := by decide +kernel
theorem dX8_tell_6 : decode cX8_tell 6 = .ok (.invokestatic 46, 3) := by decide +kernel
theorem dX8_tell_9 : decode cX8_tell 9 = .ok (.ifCond .eq 15, 3) := by decide +kernel
theorem dX8_tell_12 : decode cX8_tell 12 = .ok (.aload_n 0, 1) := by decide +kernel
theorem dX8_tell_13 : decode cX8_tell 13 = .ok (.getfield 16, 3) := by decide +kernel
theorem dX8_tell_16 : decode cX8_tell 16 = .ok (.bipush 10, 2) := by decide +kernel
theorem dX8_tell_18 : decode cX8_tell 18 = .ok (.iload_n 1, 1) := by decide +kernel
theorem dX8_tell_19 : decode cX8_tell 19 = .ok (.imul, 1) := by decide +kernel
theorem dX8_tell_20 : decode cX8_tell 20 = .ok (.iload_n 2, 1) := by decide +kernel
theorem dX8_tell_21 : decode cX8_tell 21 = .ok (.iadd, 1) := by decide +kernel
theorem dX8_tell_22 : decode cX8_tell 22 = .ok (.iaload, 1) := by decide +kernel
theorem dX8_tell_23 : decode cX8_tell 23 = .ok (.ireturn, 1) := by decide +kernel
theorem dX8_tell_24 : decode cX8_tell 24 = .ok (.iload_n 2, 1) := by decide +kernel
theorem dX8_tell_25 : decode cX8_tell 25 = .ok (.i2l, 1) := by decide +kernel
theorem dX8_tell_26 : decode cX8_tell 26 = .ok (.ldc2_w 112, 3) := by decide +kernel
theorem dX8_tell_29 : decode cX8_tell 29 = .ok (.ldc2_w 114, 3) := by decide +kernel
theorem dX8_tell_32 : decode cX8_tell 32 = .ok (.invokestatic 46, 3) := by decide +kernel
theorem dX8_tell_35 : decode cX8_tell 35 = .ok (.ifCond .eq 18, 3) := by decide +kernel
theorem dX8_tell_38 : decode cX8_tell 38 = .ok (.aload_n 0, 1) := by decide +kernel
theorem dX8_tell_39 : decode cX8_tell 39 = .ok (.iload_n 1, 1) := by decide +kernel
theorem dX8_tell_40 : decode cX8_tell 40 = .ok (.aload_n 0, 1) := by decide +kernel
theorem dX8_tell_41 : decode cX8_tell 41 = .ok (.getfield 13, 3) := by decide +kernel
theorem dX8_tell_44 : decode cX8_tell 44 = .ok (.iload_n 2, 1) := by decide +kernel
theorem dX8_tell_45 : decode cX8_tell 45 = .ok (.bipush 10, 2) := by decide +kernel
theorem dX8_tell_47 : decode cX8_tell 47 = .ok (.isub, 1) := by decide +kernel
theorem dX8_tell_48 : decode cX8_tell 48 = .ok (.iaload, 1) := by decide +kernel
theorem dX8_tell_49 : decode cX8_tell 49 = .ok (.invokevirtual 106, 3) := by decide +kernel
theorem dX8_tell_52 : decode cX8_tell 52 = .ok (.ireturn, 1) := by decide +kernel
theorem dX8_tell_53 : decode cX8_tell 53 = .ok (.iload_n 2, 1) := by decide +kernel
theorem dX8_tell_54 : decode cX8_tell 54 = .ok (.i2l, 1) := by decide +kernel
theorem dX8_tell_55 : decode cX8_tell 55 = .ok (.ldc2_w 116, 3) := by decide +kernel
theorem dX8_tell_58 : decode cX8_tell 58 = .ok (.ldc2_w 118, 3) := by decide +kernel
theorem dX8_tell_61 : decode cX8_tell 61 = .ok (.invokestatic 46, 3) := by decide +kernel
theorem dX8_tell_64 : decode cX8_tell 64 = .ok (.ifCond .eq 37, 3) := by decide +kernel
theorem dX8_tell_67 : decode cX8_tell 67 = .ok (.aload_n 0, 1) := by decide +kernel
theorem dX8_tell_68 : decode cX8_tell 68 = .ok (.getfield 16, 3) := by decide +kernel
theorem dX8_tell_71 : decode cX8_tell 71 = .ok (.bipush 10, 2) := by decide +kernel
theorem dX8_tell_73 : decode cX8_tell 73 = .ok (.iload_n 1, 1) := by decide +kernel
theorem dX8_tell_74 : decode cX8_tell 74 = .ok (.imul, 1) := by decide +kernel
theorem dX8_tell_75 : decode cX8_tell 75 = .ok (.iconst 3, 1) := by decide +kernel
theorem dX8_tell_76 : decode cX8_tell 76 = .ok (.iadd, 1) := by decide +kernel
theorem dX8_tell_77 : decode cX8_tell 77 = .ok (.iaload, 1) := by decide +kernel
theorem dX8_tell_78 : decode cX8_tell 78 = .ok (.iconst 1, 1) := by decide +kernel
theorem dX8_tell_79 : decode cX8_tell 79 = .ok (.if_icmp .ne 20, 3) := by decide +kernel
theorem dX8_tell_82 : decode cX8_tell 82 = .ok (.aload_n 0, 1) := by decide +kernel
theorem dX8_tell_83 : decode cX8_tell 83 = .ok (.getfield 16, 3) := by decide +kernel
theorem dX8_tell_86 : decode cX8_tell 86 = .ok (.bipush 10, 2) := by decide +kernel
theorem dX8_tell_88 : decode cX8_tell 88 = .ok (.iload_n 1, 1) := by decide +kernel
theorem dX8_tell_89 : decode cX8_tell 89 = .ok (.imul, 1) := by decide +kernel
theorem dX8_tell_90 : decode cX8_tell 90 = .ok (.iload_n 2, 1) := by decide +kernel
theorem dX8_tell_91 : decode cX8_tell 91 = .ok (.iadd, 1) := by decide +kernel
theorem dX8_tell_92 : decode cX8_tell 92 = .ok (.bipush 16, 2) := by decide +kernel
theorem dX8_tell_94 : decode cX8_tell 94 = .ok (.isub, 1) := by decide +kernel
theorem dX8_tell_95 : decode cX8_tell 95 = .ok (.iaload, 1) := by decide +kernel
theorem dX8_tell_96 : decode cX8_tell 96 = .ok (.goto 4, 3) := by decide +kernel
theorem dX8_tell_99 : decode cX8_tell 99 = .ok (.iconst (-1), 1) := by decide +kernel
theorem dX8_tell_100 : decode cX8_tell 100 = .ok (.ireturn, 1) := by decide +kernel
theorem dX8_tell_101 : decode cX8_tell 101 = .ok (.iload_n 2, 1) := by decide +kernel
theorem dX8_tell_102 : decode cX8_tell 102 = .ok (.iconst 3, 1) := by decide +kernel
theorem dX8_tell_103 : decode cX8_tell 103 = .ok (.if_icmp .ne 11, 3) := by decide +kernel
theorem dX8_tell_106 : decode cX8_tell 106 = .ok (.aload_n 0, 1) := by decide +kernel
theorem dX8_tell_107 : decode cX8_tell 107 = .ok (.iload_n 1, 1) := by decide +kernel
theorem dX8_tell_108 : decode cX8_tell 108 = .ok (.invokevirtual 120, 3) := by decide +kernel
theorem dX8_tell_111 : decode cX8_tell 111 = .ok (.goto 5, 3) := by decide +kernel
theorem dX8_tell_114 : decode cX8_tell 114 = .ok (.bipush (-102), 2) := by decide +kernel
theorem dX8_tell_116 : decode cX8_tell 116 = .ok (.ireturn, 1) := by decide +kernel
set_option maxRecDepth 20000 in
theorem ggX8_about_X8_isPerson : GoodIn wsX8_about wsX8_isPerson := goodIn_r _ [5, 6, 7, 8, 4, 9, 32, 33, 34, 35, 36, 37, 38, 39, 40, 41, 42, 43, 44, 45, 46, 47, 48, 49, 50, 51, 52, 53, 54, 55, 56] (by decide +kernel) (by decide +kernel)
set_option maxRecDepth 20000 in
theorem gX8_about_X8_isPerson : GoodIn wsX8_about (wsV RX8 124 RX8 yX8_isPerson wsX8_isPerson) := goodIn_app (goodIn_of _ (by decide +kernel)) ggX8_about_X8_isPerson
set_option maxRecDepth 20000 in
theorem ggX8_about_X8_tell : GoodIn wsX8_about wsX8_tell := goodIn_r _ [13, 14, 15, 16, 17, 18, 19, 20, 7, 8, 4, 9, 21, 22, 23, 24, 25, 26, 27, 28, 29, 30, 31, 32, 33, 34, 35, 36, 37, 38, 39, 40, 41, 42, 43, 44, 45, 46, 47, 48, 49, 50, 51, 52, 53, 54, 55, 56] (by decide +kernel) (by decide +kernel)
set_option maxRecDepth 20000 in
theorem gX8_about_X8_tell : GoodIn wsX8_about (wsV RX8 127 RX8 yX8_tell wsX8_tell) := goodIn_app (goodIn_of _ (by decide +kernel)) ggX8_about_X8_tell
theorem dX8_about_0 : decode cX8_about 0 = .ok (.aload_n 0, 1) := by decide +kernel
theorem dX8_about_1 : decode cX8_about 1 = .ok (.iload_n 1, 1) := by decide +kernel
theorem dX8_about_2 : decode cX8_about 2 = .ok (.invokevirtual 124, 3) := by decide +kernel
theorem dX8_about_5 : decode cX8_about 5 = .ok (.ifCond .eq 12, 3) := by decide +kernel
theorem dX8_about_8 : decode cX8_about 8 = .ok (.aload_n 0, 1) := by decide +kernel
theorem dX8_about_9 : decode cX8_about 9 = .ok (.iload_n 1, 1) := by decide +kernel
theorem dX8_about_10 : decode cX8_about 10 = .ok (.iload_n 2, 1) := by decide +kernel
theorem dX8_about_11 : decode cX8_about 11 = .ok (.invokevirtual 127, 3) := by decide +kernel
theorem dX8_about_14 : decode cX8_about 14 = .ok (.goto 5, 3) := by decide +kernel
theorem dX8_about_17 : decode cX8_about 17 = .ok (.bipush (-101), 2) := by decide +kernel
theorem dX8_about_19 : decode cX8_about 19 = .ok (.ireturn, 1) := by decide +kernel
set_option maxRecDepth 20000 in
theorem ggX8_as_X8_isPerson : GoodIn wsX8_as wsX8_isPerson := goodIn_r _ [7, 8, 9, 10, 6, 11, 12, 13, 14, 15, 16, 17, 18, 19, 20, 21, 22, 23, 24, 25, 26, 27, 28, 29, 30, 31, 32, 33, 34, 35, 36] (by decide +kernel) (by decide +kernel)
set_option maxRecDepth 20000 in
theorem gX8_as_X8_isPerson : GoodIn wsX8_as (wsV RX8 124 RX8 yX8_isPerson wsX8_isPerson) := goodIn_app (goodIn_of _ (by decide +kernel)) ggX8_as_X8_isPerson
set_option maxRecDepth 20000 in
theorem ggX8_as_X8_in : GoodIn wsX8_as wsX8_in := goodIn_r _ [11] (by decide +kernel) (by decide +kernel)
set_option maxRecDepth 20000 in
theorem gX8_as_X8_in : GoodIn wsX8_as (va_wsS RX8 46 yX8_in wsX8_in) := goodIn_app (goodIn_of _ (by decide +kernel)) ggX8_as_X8_in
theorem dX8_as_0 : decode cX8_as 0 = .ok (.aload_n 0, 1) := by decide +kernel
theorem dX8_as_1 : decode cX8_as 1 = .ok (.iload_n 1, 1) := by decide +kernel
theorem dX8_as_2 : decode cX8_as 2 = .ok (.invokevirtual 124, 3) := by decide +kernel
theorem dX8_as_5 : decode cX8_as 5 = .ok (.ifCond .ne 6, 3) := by decide +kernel
theorem dX8_as_8 : decode cX8_as 8 = .ok (.bipush (-101), 2) := by decide +kernel
theorem dX8_as_10 : decode cX8_as 10 = .ok (.ireturn, 1) := by decide +kernel
theorem dX8_as_11 : decode cX8_as 11 = .ok (.iload_n 2, 1) := by decide +kernel
theorem dX8_as_12 : decode cX8_as 12 = .ok (.i2l, 1) := by decide +kernel
theorem dX8_as_13 : decode cX8_as 13 = .ok (.lconst 0, 1) := by decide +kernel
theorem dX8_as_14 : decode cX8_as 14 = .ok (.ldc2_w 101, 3) := by decide +kernel
theorem dX8_as_17 : decode cX8_as 17 = .ok (.invokestatic 46, 3) := by decide +kernel
theorem dX8_as_20 : decode cX8_as 20 = .ok (.ifCond .ne 6, 3) := by decide +kernel
theorem dX8_as_23 : decode cX8_as 23 = .ok (.bipush (-102), 2) := by decide +kernel
theorem dX8_as_25 : decode cX8_as 25 = .ok (.ireturn, 1) := by decide +kernel
theorem dX8_as_26 : decode cX8_as 26 = .ok (.aload_n 0, 1) := by decide +kernel
theorem dX8_as_27 : decode cX8_as 27 = .ok (.getfield 16, 3) := by decide +kernel
theorem dX8_as_30 : decode cX8_as 30 = .ok (.bipush 10, 2) := by decide +kernel
theorem dX8_as_32 : decode cX8_as 32 = .ok (.iload_n 1, 1) := by decide +kernel
theorem dX8_as_33 : decode cX8_as 33 = .ok (.imul, 1) := by decide +kernel
theorem dX8_as_34 : decode cX8_as 34 = .ok (.iaload, 1) := by decide +kernel
theorem dX8_as_35 : decode cX8_as 35 = .ok (.istore_n 3, 1) := by decide +kernel
theorem dX8_as_36 : decode cX8_as 36 = .ok (.iload_n 2, 1) := by decide +kernel
theorem dX8_as_37 : decode cX8_as 37 = .ok (.ifCond .eq 18, 3) := by decide +kernel
theorem dX8_as_40 : decode cX8_as 40 = .ok (.iload_n 2, 1) := by decide +kernel
theorem dX8_as_41 : decode cX8_as 41 = .ok (.iload_n 3, 1) := by decide +kernel
theorem dX8_as_42 : decode cX8_as 42 = .ok (.if_icmp .eq 13, 3) := by decide +kernel
theorem dX8_as_45 : decode cX8_as 45 = .ok (.iload_n 2, 1) := by decide +kernel
theorem dX8_as_46 : decode cX8_as 46 = .ok (.iconst 3, 1) := by decide +kernel
theorem dX8_as_47 : decode cX8_as 47 = .ok (.if_icmp .ne 12, 3) := by decide +kernel
theorem dX8_as_50 : decode cX8_as 50 = .ok (.iload_n 3, 1) := by decide +kernel
theorem dX8_as_51 : decode cX8_as 51 = .ok (.iconst 4, 1) := by decide +kernel
theorem dX8_as_52 : decode cX8_as 52 = .ok (.if_icmp .ne 7, 3) := by decide +kernel
theorem dX8_as_55 : decode cX8_as 55 = .ok (.iconst 1, 1) := by decide +kernel
theorem dX8_as_56 : decode cX8_as 56 = .ok (.goto 4, 3) := by decide +kernel
theorem dX8_as_59 : decode cX8_as 59 = .ok (.iconst 0, 1) := by decide +kernel
theorem dX8_as_60 : decode cX8_as 60 = .ok (.istore 4, 2) := by decide +kernel
theorem dX8_as_62 : decode cX8_as 62 = .ok (.iload 4, 2) := by decide +kernel
theorem dX8_as_64 : decode cX8_as 64 = .ok (.ifCond .eq 7, 3) := by decide +kernel
theorem dX8_as_67 : decode cX8_as 67 = .ok (.iload_n 1, 1) := by decide +kernel
theorem dX8_as_68 : decode cX8_as 68 = .ok (.goto 4, 3) := by decide +kernel
theorem dX8_as_71 : decode cX8_as 71 = .ok (.iconst (-1), 1) := by decide +kernel
theorem dX8_as_72 : decode cX8_as 72 = .ok (.ireturn, 1) := by decide +kernel
set_option maxRecDepth 20000 in
theorem ggX8_sees_X8_isPerson : GoodIn wsX8_sees wsX8_isPerson := goodIn_r _ [5, 6, 7, 8, 4, 9, 22, 23, 24, 25, 26, 27, 28, 29, 30, 31, 32, 33, 34, 35, 36, 37, 38, 39, 40, 41, 42, 43, 44, 45, 46] (by decide +kernel) (by decide +kernel)
set_option maxRecDepth 20000 in
theorem gX8_sees_X8_isPerson : GoodIn wsX8_sees (wsV RX8 124 RX8 yX8_isPerson wsX8_isPerson) := goodIn_app (goodIn_of _ (by decide +kernel)) ggX8_sees_X8_isPerson
set_option maxRecDepth 20000 in
theorem ggX8_sees_X8_isHue : GoodIn wsX8_sees wsX8_isHue := goodIn_r _ [12, 13, 7, 8, 4, 9] (by decide +kernel) (by decide +kernel)
set_option maxRecDepth 20000 in
theorem gX8_sees_X8_isHue : GoodIn wsX8_sees (va_wsS RX8 103 yX8_isHue wsX8_isHue) := goodIn_app (goodIn_of _ (by decide +kernel)) ggX8_sees_X8_isHue
set_option maxRecDepth 20000 in
theorem ggX8_sees_X8_seesOf : GoodIn wsX8_sees wsX8_seesOf := goodIn_r _ [17, 18, 19, 20, 4, 21, 22, 23, 24, 25, 26, 27, 28, 29, 30, 31, 32, 33, 34, 35, 36, 37, 38, 39, 40, 41, 42, 43, 44, 45, 46] (by decide +kernel) (by decide +kernel)
set_option maxRecDepth 20000 in
theorem gX8_sees_X8_seesOf : GoodIn wsX8_sees (wsV RX8 106 RX8 yX8_seesOf wsX8_seesOf) := goodIn_app (goodIn_of _ (by decide +kernel)) ggX8_sees_X8_seesOf
theorem dX8_sees_0 : decode cX8_sees 0 = .ok (.aload_n 0, 1) := by decide +kernel
theorem dX8_sees_1 : decode cX8_sees 1 = .ok (.iload_n 1, 1) := by decide +kernel
theorem dX8_sees_2 : decode cX8_sees 2 = .ok (.invokevirtual 124, 3) := by decide +kernel
theorem dX8_sees_5 : decode cX8_sees 5 = .ok (.ifCond .ne 6, 3) := by decide +kernel
theorem dX8_sees_8 : decode cX8_sees 8 = .ok (.bipush (-101), 2) := by decide +kernel
