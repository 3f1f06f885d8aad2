set_option maxRecDepth 20000 in
theorem ggX7_init_X3_init : GoodIn wsX7_init wsX3_init := goodIn_r _ [21, 22, 2, 3, 10, 23, 62, 63] (by decide +kernel) (by decide +kernel)
set_option maxRecDepth 20000 in
theorem gX7_init_X3_init_n11 : GoodIn wsX7_init (wsX3_init) := ggX7_init_X3_init
set_option maxRecDepth 20000 in
theorem ggX7_init_X1_init : GoodIn wsX7_init wsX1_init := goodIn_r _ [25, 26, 2, 3, 10, 27, 28, 29, 30, 80, 81, 82, 83, 84, 85] (by decide +kernel) (by decide +kernel)
set_option maxRecDepth 20000 in
theorem gX7_init_X1_init_n28 : GoodIn wsX7_init (wsX1_init) := ggX7_init_X1_init
set_option maxRecDepth 20000 in
theorem ggX7_init_X7_newPerson : GoodIn wsX7_init wsX7_newPerson := goodIn_r _ [34, 35, 36, 37, 38, 39, 40, 41, 42, 43, 44, 45, 46, 8, 47, 48, 49, 50, 51, 52, 53, 2, 3, 54, 55, 56, 57, 58, 59, 60, 61, 86, 87, 88, 89, 90, 91, 92, 93, 94, 95, 96, 97, 98, 99, 100, 101, 102, 103, 104, 105, 106, 107, 108, 109, 110, 111, 112, 113, 114, 115] (by decide +kernel) (by decide +kernel)
set_option maxRecDepth 20000 in
theorem gX7_init_X7_newPerson : GoodIn wsX7_init (va_wsS RX7 46 yX7_newPerson wsX7_newPerson) := goodIn_app (goodIn_of _ (by decide +kernel)) ggX7_init_X7_newPerson
theorem dX7_init_0 : decode cX7_init 0 = .ok (.aload_n 0, 1) := by decide +kernel
theorem dX7_init_1 : decode cX7_init 1 = .ok (.invokespecial 3, 3) := by decide +kernel
theorem dX7_init_4 : decode cX7_init 4 = .ok (.aload_n 0, 1) := by decide +kernel
theorem dX7_init_5 : decode cX7_init 5 = .ok (.new 9, 3) := by decide +kernel
theorem dX7_init_8 : decode cX7_init 8 = .ok (.dup, 1) := by decide +kernel
theorem dX7_init_9 : decode cX7_init 9 = .ok (.invokespecial 11, 3) := by decide +kernel
theorem dX7_init_12 : decode cX7_init 12 = .ok (.putfield 12, 3) := by decide +kernel
theorem dX7_init_15 : decode cX7_init 15 = .ok (.aload_n 0, 1) := by decide +kernel
theorem dX7_init_16 : decode cX7_init 16 = .ok (.iconst 4, 1) := by decide +kernel
theorem dX7_init_17 : decode cX7_init 17 = .ok (.anewarray 16, 3) := by decide +kernel
theorem dX7_init_20 : decode cX7_init 20 = .ok (.putfield 18, 3) := by decide +kernel
theorem dX7_init_23 : decode cX7_init 23 = .ok (.aload_n 0, 1) := by decide +kernel
theorem dX7_init_24 : decode cX7_init 24 = .ok (.iconst 5, 1) := by decide +kernel
theorem dX7_init_25 : decode cX7_init 25 = .ok (.newarray .int, 2) := by decide +kernel
theorem dX7_init_27 : decode cX7_init 27 = .ok (.putfield 22, 3) := by decide +kernel
theorem dX7_init_30 : decode cX7_init 30 = .ok (.aload_n 0, 1) := by decide +kernel
theorem dX7_init_31 : decode cX7_init 31 = .ok (.new 26, 3) := by decide +kernel
theorem dX7_init_34 : decode cX7_init 34 = .ok (.dup, 1) := by decide +kernel
theorem dX7_init_35 : decode cX7_init 35 = .ok (.invokespecial 28, 3) := by decide +kernel
theorem dX7_init_38 : decode cX7_init 38 = .ok (.putfield 29, 3) := by decide +kernel
theorem dX7_init_41 : decode cX7_init 41 = .ok (.aload_n 0, 1) := by decide +kernel
theorem dX7_init_42 : decode cX7_init 42 = .ok (.iconst 5, 1) := by decide +kernel
theorem dX7_init_43 : decode cX7_init 43 = .ok (.anewarray 16, 3) := by decide +kernel
theorem dX7_init_46 : decode cX7_init 46 = .ok (.putfield 33, 3) := by decide +kernel
theorem dX7_init_49 : decode cX7_init 49 = .ok (.aload_n 0, 1) := by decide +kernel
theorem dX7_init_50 : decode cX7_init 50 = .ok (.bipush 64, 2) := by decide +kernel
theorem dX7_init_52 : decode cX7_init 52 = .ok (.newarray .int, 2) := by decide +kernel
theorem dX7_init_54 : decode cX7_init 54 = .ok (.putfield 36, 3) := by decide +kernel
theorem dX7_init_57 : decode cX7_init 57 = .ok (.aload_n 0, 1) := by decide +kernel
theorem dX7_init_58 : decode cX7_init 58 = .ok (.iconst (-1), 1) := by decide +kernel
theorem dX7_init_59 : decode cX7_init 59 = .ok (.putfield 39, 3) := by decide +kernel
theorem dX7_init_62 : decode cX7_init 62 = .ok (.aload_n 0, 1) := by decide +kernel
theorem dX7_init_63 : decode cX7_init 63 = .ok (.iconst (-1), 1) := by decide +kernel
theorem dX7_init_64 : decode cX7_init 64 = .ok (.putfield 43, 3) := by decide +kernel
theorem dX7_init_67 : decode cX7_init 67 = .ok (.iconst 0, 1) := by decide +kernel
theorem dX7_init_68 : decode cX7_init 68 = .ok (.istore_n 1, 1) := by decide +kernel
theorem dX7_init_69 : decode cX7_init 69 = .ok (.iload_n 1, 1) := by decide +kernel
theorem dX7_init_70 : decode cX7_init 70 = .ok (.iconst 5, 1) := by decide +kernel
theorem dX7_init_71 : decode cX7_init 71 = .ok (.if_icmp .ge 19, 3) := by decide +kernel
theorem dX7_init_74 : decode cX7_init 74 = .ok (.aload_n 0, 1) := by decide +kernel
theorem dX7_init_75 : decode cX7_init 75 = .ok (.getfield 33, 3) := by decide +kernel
theorem dX7_init_78 : decode cX7_init 78 = .ok (.iload_n 1, 1) := by decide +kernel
theorem dX7_init_79 : decode cX7_init 79 = .ok (.iload_n 1, 1) := by decide +kernel
theorem dX7_init_80 : decode cX7_init 80 = .ok (.invokestatic 46, 3) := by decide +kernel
theorem dX7_init_83 : decode cX7_init 83 = .ok (.aastore, 1) := by decide +kernel
theorem dX7_init_84 : decode cX7_init 84 = .ok (.iinc 1 1, 3) := by decide +kernel
theorem dX7_init_87 : decode cX7_init 87 = .ok (.goto (-18), 3) := by decide +kernel
theorem dX7_init_90 : decode cX7_init 90 = .ok (.return_, 1) := by decide +kernel
set_option maxRecDepth 20000 in
theorem ggX7_letter_X3_put : GoodIn wsX7_letter wsX3_put := goodIn_r _ [6, 7, 8, 25, 26] (by decide +kernel) (by decide +kernel)
set_option maxRecDepth 20000 in
theorem gX7_letter_X3_put : GoodIn wsX7_letter (wsV RX7 53 RX3 yX3_put wsX3_put) := goodIn_app (goodIn_of _ (by decide +kernel)) ggX7_letter_X3_put
theorem dX7_letter_0 : decode cX7_letter 0 = .ok (.iload_n 1, 1) := by decide +kernel
theorem dX7_letter_1 : decode cX7_letter 1 = .ok (.iconst 1, 1) := by decide +kernel
theorem dX7_letter_2 : decode cX7_letter 2 = .ok (.if_icmp .lt 9, 3) := by decide +kernel
theorem dX7_letter_5 : decode cX7_letter 5 = .ok (.iload_n 1, 1) := by decide +kernel
theorem dX7_letter_6 : decode cX7_letter 6 = .ok (.bipush 126, 2) := by decide +kernel
theorem dX7_letter_8 : decode cX7_letter 8 = .ok (.if_icmp .le 6, 3) := by decide +kernel
theorem dX7_letter_11 : decode cX7_letter 11 = .ok (.bipush (-102), 2) := by decide +kernel
theorem dX7_letter_13 : decode cX7_letter 13 = .ok (.ireturn, 1) := by decide +kernel
theorem dX7_letter_14 : decode cX7_letter 14 = .ok (.aload_n 0, 1) := by decide +kernel
theorem dX7_letter_15 : decode cX7_letter 15 = .ok (.getfield 12, 3) := by decide +kernel
theorem dX7_letter_18 : decode cX7_letter 18 = .ok (.getfield 50, 3) := by decide +kernel
theorem dX7_letter_21 : decode cX7_letter 21 = .ok (.bipush 10, 2) := by decide +kernel
theorem dX7_letter_23 : decode cX7_letter 23 = .ok (.if_icmp .lt 6, 3) := by decide +kernel
theorem dX7_letter_26 : decode cX7_letter 26 = .ok (.bipush (-104), 2) := by decide +kernel
theorem dX7_letter_28 : decode cX7_letter 28 = .ok (.ireturn, 1) := by decide +kernel
theorem dX7_letter_29 : decode cX7_letter 29 = .ok (.aload_n 0, 1) := by decide +kernel
theorem dX7_letter_30 : decode cX7_letter 30 = .ok (.getfield 12, 3) := by decide +kernel
theorem dX7_letter_33 : decode cX7_letter 33 = .ok (.iload_n 1, 1) := by decide +kernel
theorem dX7_letter_34 : decode cX7_letter 34 = .ok (.invokevirtual 53, 3) := by decide +kernel
theorem dX7_letter_37 : decode cX7_letter 37 = .ok (.aload_n 0, 1) := by decide +kernel
theorem dX7_letter_38 : decode cX7_letter 38 = .ok (.getfield 12, 3) := by decide +kernel
theorem dX7_letter_41 : decode cX7_letter 41 = .ok (.getfield 50, 3) := by decide +kernel
theorem dX7_letter_44 : decode cX7_letter 44 = .ok (.ireturn, 1) := by decide +kernel
set_option maxRecDepth 20000 in
theorem ggX7_blank_X3_empty : GoodIn wsX7_blank wsX3_empty := goodIn_r _ [6, 7, 24, 25] (by decide +kernel) (by decide +kernel)
set_option maxRecDepth 20000 in
theorem gX7_blank_X3_empty : GoodIn wsX7_blank (wsV RX7 57 RX3 yX3_empty wsX3_empty) := goodIn_app (goodIn_of _ (by decide +kernel)) ggX7_blank_X3_empty
theorem dX7_blank_0 : decode cX7_blank 0 = .ok (.aload_n 0, 1) := by decide +kernel
theorem dX7_blank_1 : decode cX7_blank 1 = .ok (.getfield 12, 3) := by decide +kernel
theorem dX7_blank_4 : decode cX7_blank 4 = .ok (.getfield 50, 3) := by decide +kernel
theorem dX7_blank_7 : decode cX7_blank 7 = .ok (.istore_n 1, 1) := by decide +kernel
theorem dX7_blank_8 : decode cX7_blank 8 = .ok (.aload_n 0, 1) := by decide +kernel
theorem dX7_blank_9 : decode cX7_blank 9 = .ok (.getfield 12, 3) := by decide +kernel
theorem dX7_blank_12 : decode cX7_blank 12 = .ok (.invokevirtual 57, 3) := by decide +kernel
theorem dX7_blank_15 : decode cX7_blank 15 = .ok (.iload_n 1, 1) := by decide +kernel
theorem dX7_blank_16 : decode cX7_blank 16 = .ok (.ireturn, 1) := by decide +kernel
set_option maxRecDepth 20000 in
theorem ggX7_fault_X3_soundLetters : GoodIn wsX7_fault wsX3_soundLetters := goodIn_r _ [6, 7, 8, 9, 10, 11, 28, 29] (by decide +kernel) (by decide +kernel)
set_option maxRecDepth 20000 in
theorem gX7_fault_X3_soundLetters : GoodIn wsX7_fault (wsV RX7 60 RX3 yX3_soundLetters wsX3_soundLetters) := goodIn_app (goodIn_of _ (by decide +kernel)) ggX7_fault_X3_soundLetters
theorem dX7_fault_0 : decode cX7_fault 0 = .ok (.aload_n 0, 1) := by decide +kernel
theorem dX7_fault_1 : decode cX7_fault 1 = .ok (.getfield 12, 3) := by decide +kernel
theorem dX7_fault_4 : decode cX7_fault 4 = .ok (.invokevirtual 60, 3) := by decide +kernel
theorem dX7_fault_7 : decode cX7_fault 7 = .ok (.ireturn, 1) := by decide +kernel
set_option maxRecDepth 20000 in
theorem ggX7_sign_X3_asText : GoodIn wsX7_sign wsX3_asText := goodIn_r _ [13, 14, 15, 16, 17, 18, 12, 19, 20, 21, 22, 23, 24, 58, 59] (by decide +kernel) (by decide +kernel)
set_option maxRecDepth 20000 in
theorem gX7_sign_X3_asText : GoodIn wsX7_sign (wsV RX7 64 RX3 yX3_asText wsX3_asText) := goodIn_app (goodIn_of _ (by decide +kernel)) ggX7_sign_X3_asText
set_option maxRecDepth 20000 in
theorem ggX7_sign_X1_clear : GoodIn wsX7_sign wsX1_clear := goodIn_r _ [29, 30, 60, 61, 62, 63, 64, 65] (by decide +kernel) (by decide +kernel)
set_option maxRecDepth 20000 in
theorem gX7_sign_X1_clear : GoodIn wsX7_sign (wsV RX7 76 RX1 yX1_clear wsX1_clear) := goodIn_app (goodIn_of _ (by decide +kernel)) ggX7_sign_X1_clear
set_option maxRecDepth 20000 in
theorem ggX7_sign_X3_empty : GoodIn wsX7_sign wsX3_empty := goodIn_r _ [34, 14, 58, 59] (by decide +kernel) (by decide +kernel)
set_option maxRecDepth 20000 in
theorem gX7_sign_X3_empty : GoodIn wsX7_sign (wsV RX7 57 RX3 yX3_empty wsX3_empty) := goodIn_app (goodIn_of _ (by decide +kernel)) ggX7_sign_X3_empty
set_option maxRecDepth 20000 in
theorem ggX7_sign_X7_colouredCells : GoodIn wsX7_sign wsX7_colouredCells := goodIn_r _ [38, 2, 39, 40, 21, 41, 42, 43, 44, 45, 46, 47, 48, 49, 50, 51, 52, 53, 54, 55, 56, 57] (by decide +kernel) (by decide +kernel)
set_option maxRecDepth 20000 in
theorem gX7_sign_X7_colouredCells : GoodIn wsX7_sign (wsV RX7 82 RX7 yX7_colouredCells wsX7_colouredCells) := goodIn_app (goodIn_of _ (by decide +kernel)) ggX7_sign_X7_colouredCells
theorem dX7_sign_0 : decode cX7_sign 0 = .ok (.aload_n 0, 1) := by decide +kernel
theorem dX7_sign_1 : decode cX7_sign 1 = .ok (.getfield 12, 3) := by decide +kernel
theorem dX7_sign_4 : decode cX7_sign 4 = .ok (.invokevirtual 64, 3) := by decide +kernel
theorem dX7_sign_7 : decode cX7_sign 7 = .ok (.istore_n 1, 1) := by decide +kernel
theorem dX7_sign_8 : decode cX7_sign 8 = .ok (.iload_n 1, 1) := by decide +kernel
theorem dX7_sign_9 : decode cX7_sign 9 = .ok (.iconst (-1), 1) := by decide +kernel
theorem dX7_sign_10 : decode cX7_sign 10 = .ok (.if_icmp .ne 6, 3) := by decide +kernel
theorem dX7_sign_13 : decode cX7_sign 13 = .ok (.bipush (-103), 2) := by decide +kernel
theorem dX7_sign_15 : decode cX7_sign 15 = .ok (.ireturn, 1) := by decide +kernel
theorem dX7_sign_16 : decode cX7_sign 16 = .ok (.aload_n 0, 1) := by decide +kernel
theorem dX7_sign_17 : decode cX7_sign 17 = .ok (.iload_n 1, 1) := by decide +kernel
theorem dX7_sign_18 : decode cX7_sign 18 = .ok (.putfield 39, 3) := by decide +kernel
theorem dX7_sign_21 : decode cX7_sign 21 = .ok (.aload_n 0, 1) := by decide +kernel
theorem dX7_sign_22 : decode cX7_sign 22 = .ok (.iconst 0, 1) := by decide +kernel
theorem dX7_sign_23 : decode cX7_sign 23 = .ok (.putfield 67, 3) := by decide +kernel
theorem dX7_sign_26 : decode cX7_sign 26 = .ok (.aload_n 0, 1) := by decide +kernel
theorem dX7_sign_27 : decode cX7_sign 27 = .ok (.iconst 0, 1) := by decide +kernel
theorem dX7_sign_28 : decode cX7_sign 28 = .ok (.putfield 70, 3) := by decide +kernel
theorem dX7_sign_31 : decode cX7_sign 31 = .ok (.aload_n 0, 1) := by decide +kernel
theorem dX7_sign_32 : decode cX7_sign 32 = .ok (.iconst 0, 1) := by decide +kernel
theorem dX7_sign_33 : decode cX7_sign 33 = .ok (.putfield 73, 3) := by decide +kernel
theorem dX7_sign_36 : decode cX7_sign 36 = .ok (.aload_n 0, 1) := by decide +kernel
theorem dX7_sign_37 : decode cX7_sign 37 = .ok (.getfield 29, 3) := by decide +kernel
theorem dX7_sign_40 : decode cX7_sign 40 = .ok (.invokevirtual 76, 3) := by decide +kernel
theorem dX7_sign_43 : decode cX7_sign 43 = .ok (.aload_n 0, 1) := by decide +kernel
theorem dX7_sign_44 : decode cX7_sign 44 = .ok (.iconst (-1), 1) := by decide +kernel
theorem dX7_sign_45 : decode cX7_sign 45 = .ok (.putfield 43, 3) := by decide +kernel
theorem dX7_sign_48 : decode cX7_sign 48 = .ok (.aload_n 0, 1) := by decide +kernel
theorem dX7_sign_49 : decode cX7_sign 49 = .ok (.dup, 1) := by decide +kernel
theorem dX7_sign_50 : decode cX7_sign 50 = .ok (.getfield 79, 3) := by decide +kernel
theorem dX7_sign_53 : decode cX7_sign 53 = .ok (.iconst 1, 1) := by decide +kernel
theorem dX7_sign_54 : decode cX7_sign 54 = .ok (.iadd, 1) := by decide +kernel
theorem dX7_sign_55 : decode cX7_sign 55 = .ok (.putfield 79, 3) := by decide +kernel
theorem dX7_sign_58 : decode cX7_sign 58 = .ok (.aload_n 0, 1) := by decide +kernel
theorem dX7_sign_59 : decode cX7_sign 59 = .ok (.getfield 12, 3) := by decide +kernel
theorem dX7_sign_62 : decode cX7_sign 62 = .ok (.invokevirtual 57, 3) := by decide +kernel
theorem dX7_sign_65 : decode cX7_sign 65 = .ok (.aload_n 0, 1) := by decide +kernel
theorem dX7_sign_66 : decode cX7_sign 66 = .ok (.invokevirtual 82, 3) := by decide +kernel
theorem dX7_sign_69 : decode cX7_sign 69 = .ok (.ireturn, 1) := by decide +kernel
set_option maxRecDepth 20000 in
theorem ggX7_hue_X7_hueAt : GoodIn wsX7_hue wsX7_hueAt := goodIn_r _ [5] (by decide +kernel) (by decide +kernel)
set_option maxRecDepth 20000 in
theorem gX7_hue_X7_hueAt : GoodIn wsX7_hue (va_wsS RX7 85 yX7_hueAt wsX7_hueAt) := goodIn_app (goodIn_of _ (by decide +kernel)) ggX7_hue_X7_hueAt
theorem dX7_hue_0 : decode cX7_hue 0 = .ok (.aload_n 0, 1) := by decide +kernel
theorem dX7_hue_1 : decode cX7_hue 1 = .ok (.getfield 39, 3) := by decide +kernel
theorem dX7_hue_4 : decode cX7_hue 4 = .ok (.iconst (-1), 1) := by decide +kernel
theorem dX7_hue_5 : decode cX7_hue 5 = .ok (.if_icmp .eq 13, 3) := by decide +kernel
theorem dX7_hue_8 : decode cX7_hue 8 = .ok (.iload_n 1, 1) := by decide +kernel
theorem dX7_hue_9 : decode cX7_hue 9 = .ok (.ifCond .lt 9, 3) := by decide +kernel
theorem dX7_hue_12 : decode cX7_hue 12 = .ok (.iload_n 1, 1) := by decide +kernel
theorem dX7_hue_13 : decode cX7_hue 13 = .ok (.bipush 6, 2) := by decide +kernel
theorem dX7_hue_15 : decode cX7_hue 15 = .ok (.if_icmp .lt 6, 3) := by decide +kernel
theorem dX7_hue_18 : decode cX7_hue 18 = .ok (.bipush (-101), 2) := by decide +kernel
theorem dX7_hue_20 : decode cX7_hue 20 = .ok (.ireturn, 1) := by decide +kernel
theorem dX7_hue_21 : decode cX7_hue 21 = .ok (.aload_n 0, 1) := by decide +kernel
theorem dX7_hue_22 : decode cX7_hue 22 = .ok (.getfield 39, 3) := by decide +kernel
theorem dX7_hue_25 : decode cX7_hue 25 = .ok (.iload_n 1, 1) := by decide +kernel
theorem dX7_hue_26 : decode cX7_hue 26 = .ok (.invokestatic 85, 3) := by decide +kernel
theorem dX7_hue_29 : decode cX7_hue 29 = .ok (.ireturn, 1) := by decide +kernel
set_option maxRecDepth 20000 in
theorem ggX7_layer_X7_isInk : GoodIn wsX7_layer wsX7_isInk := goodIn_r _ [8, 9, 19, 20, 21, 22, 23, 24, 25, 26, 27, 28, 29, 30, 31, 32, 33, 34] (by decide +kernel) (by decide +kernel)
set_option maxRecDepth 20000 in
theorem gX7_layer_X7_isInk : GoodIn wsX7_layer (wsV RX7 89 RX7 yX7_isInk wsX7_isInk) := goodIn_app (goodIn_of _ (by decide +kernel)) ggX7_layer_X7_isInk
set_option maxRecDepth 20000 in
theorem ggX7_layer_X7_hueAt : GoodIn wsX7_layer wsX7_hueAt := goodIn_r _ [12] (by decide +kernel) (by decide +kernel)
set_option maxRecDepth 20000 in
theorem gX7_layer_X7_hueAt : GoodIn wsX7_layer (va_wsS RX7 85 yX7_hueAt wsX7_hueAt) := goodIn_app (goodIn_of _ (by decide +kernel)) ggX7_layer_X7_hueAt
set_option maxRecDepth 20000 in
theorem ggX7_layer_X7_holds : GoodIn wsX7_layer wsX7_holds := goodIn_r _ [15] (by decide +kernel) (by decide +kernel)
set_option maxRecDepth 20000 in
theorem gX7_layer_X7_holds : GoodIn wsX7_layer (va_wsS RX7 93 yX7_holds wsX7_holds) := goodIn_app (goodIn_of _ (by decide +kernel)) ggX7_layer_X7_holds
set_option maxRecDepth 20000 in
theorem ggX7_layer_X7_withHue : GoodIn wsX7_layer wsX7_withHue := goodIn_r _ [18] (by decide +kernel) (by decide +kernel)
set_option maxRecDepth 20000 in
theorem gX7_layer_X7_withHue : GoodIn wsX7_layer (va_wsS RX7 97 yX7_withHue wsX7_withHue) := goodIn_app (goodIn_of _ (by decide +kernel)) ggX7_layer_X7_withHue
theorem dX7_layer_0 : decode cX7_layer 0 = .ok (.aload_n 0, 1) := by decide +kernel
theorem dX7_layer_1 : decode cX7_layer 1 = .ok (.iload_n 1, 1) := by decide +kernel
theorem dX7_layer_2 : decode cX7_layer 2 = .ok (.invokevirtual 89, 3) := by decide +kernel
theorem dX7_layer_5 : decode cX7_layer 5 = .ok (.ifCond .ne 6, 3) := by decide +kernel
theorem dX7_layer_8 : decode cX7_layer 8 = .ok (.bipush (-101), 2) := by decide +kernel
theorem dX7_layer_10 : decode cX7_layer 10 = .ok (.ireturn, 1) := by decide +kernel
theorem dX7_layer_11 : decode cX7_layer 11 = .ok (.iload_n 2, 1) := by decide +kernel
theorem dX7_layer_12 : decode cX7_layer 12 = .ok (.ifCond .lt 9, 3) := by decide +kernel
theorem dX7_layer_15 : decode cX7_layer 15 = .ok (.iload_n 2, 1) := by decide +kernel
theorem dX7_layer_16 : decode cX7_layer 16 = .ok (.bipush 64, 2) := by decide +kernel
theorem dX7_layer_18 : decode cX7_layer 18 = .ok (.if_icmp .lt 6, 3) := by decide +kernel
theorem dX7_layer_21 : decode cX7_layer 21 = .ok (.bipush (-102), 2) := by decide +kernel
theorem dX7_layer_23 : decode cX7_layer 23 = .ok (.ireturn, 1) := by decide +kernel
theorem dX7_layer_24 : decode cX7_layer 24 = .ok (.iconst 0, 1) := by decide +kernel
theorem dX7_layer_25 : decode cX7_layer 25 = .ok (.istore_n 3, 1) := by decide +kernel
theorem dX7_layer_26 : decode cX7_layer 26 = .ok (.iconst 0, 1) := by decide +kernel
theorem dX7_layer_27 : decode cX7_layer 27 = .ok (.istore 4, 2) := by decide +kernel
theorem dX7_layer_29 : decode cX7_layer 29 = .ok (.iload 4, 2) := by decide +kernel
theorem dX7_layer_31 : decode cX7_layer 31 = .ok (.bipush 6, 2) := by decide +kernel
theorem dX7_layer_33 : decode cX7_layer 33 = .ok (.if_icmp .ge 65, 3) := by decide +kernel
theorem dX7_layer_36 : decode cX7_layer 36 = .ok (.aload_n 0, 1) := by decide +kernel
theorem dX7_layer_37 : decode cX7_layer 37 = .ok (.getfield 39, 3) := by decide +kernel
theorem dX7_layer_40 : decode cX7_layer 40 = .ok (.iload 4, 2) := by decide +kernel
theorem dX7_layer_42 : decode cX7_layer 42 = .ok (.invokestatic 85, 3) := by decide +kernel
theorem dX7_layer_45 : decode cX7_layer 45 = .ok (.istore 5, 2) := by decide +kernel
theorem dX7_layer_47 : decode cX7_layer 47 = .ok (.iload 5, 2) := by decide +kernel
theorem dX7_layer_49 : decode cX7_layer 49 = .ok (.aload_n 0, 1) := by decide +kernel
theorem dX7_layer_50 : decode cX7_layer 50 = .ok (.getfield 22, 3) := by decide +kernel
theorem dX7_layer_53 : decode cX7_layer 53 = .ok (.iload_n 1, 1) := by decide +kernel
theorem dX7_layer_54 : decode cX7_layer 54 = .ok (.iaload, 1) := by decide +kernel
theorem dX7_layer_55 : decode cX7_layer 55 = .ok (.ior, 1) := by decide +kernel
theorem dX7_layer_56 : decode cX7_layer 56 = .ok (.istore 6, 2) := by decide +kernel
theorem dX7_layer_58 : decode cX7_layer 58 = .ok (.iload_n 2, 1) := by decide +kernel
theorem dX7_layer_59 : decode cX7_layer 59 = .ok (.iload 4, 2) := by decide +kernel
theorem dX7_layer_61 : decode cX7_layer 61 = .ok (.invokestatic 93, 3) := by decide +kernel
theorem dX7_layer_64 : decode cX7_layer 64 = .ok (.ifCond .eq 28, 3) := by decide +kernel
theorem dX7_layer_67 : decode cX7_layer 67 = .ok (.iload 6, 2) := by decide +kernel
theorem dX7_layer_69 : decode cX7_layer 69 = .ok (.iload 5, 2) := by decide +kernel
theorem dX7_layer_71 : decode cX7_layer 71 = .ok (.if_icmp .eq 21, 3) := by decide +kernel
theorem dX7_layer_74 : decode cX7_layer 74 = .ok (.aload_n 0, 1) := by decide +kernel
theorem dX7_layer_75 : decode cX7_layer 75 = .ok (.aload_n 0, 1) := by decide +kernel
theorem dX7_layer_76 : decode cX7_layer 76 = .ok (.getfield 39, 3) := by decide +kernel
theorem dX7_layer_79 : decode cX7_layer 79 = .ok (.iload 4, 2) := by decide +kernel
theorem dX7_layer_81 : decode cX7_layer 81 = .ok (.iload 6, 2) := by decide +kernel
theorem dX7_layer_83 : decode cX7_layer 83 = .ok (.invokestatic 97, 3) := by decide +kernel
theorem dX7_layer_86 : decode cX7_layer 86 = .ok (.putfield 39, 3) := by decide +kernel
theorem dX7_layer_89 : decode cX7_layer 89 = .ok (.iinc 3 1, 3) := by decide +kernel
theorem dX7_layer_92 : decode cX7_layer 92 = .ok (.iinc 4 1, 3) := by decide +kernel
theorem dX7_layer_95 : decode cX7_layer 95 = .ok (.goto (-66), 3) := by decide +kernel
theorem dX7_layer_98 : decode cX7_layer 98 = .ok (.aload_n 0, 1) := by decide +kernel
theorem dX7_layer_99 : decode cX7_layer 99 = .ok (.dup, 1) := by decide +kernel
theorem dX7_layer_100 : decode cX7_layer 100 = .ok (.getfield 73, 3) := by decide +kernel
theorem dX7_layer_103 : decode cX7_layer 103 = .ok (.iconst 1, 1) := by decide +kernel
theorem dX7_layer_104 : decode cX7_layer 104 = .ok (.iadd, 1) := by decide +kernel
theorem dX7_layer_105 : decode cX7_layer 105 = .ok (.putfield 73, 3) := by decide +kernel
theorem dX7_layer_108 : decode cX7_layer 108 = .ok (.iload_n 3, 1) := by decide +kernel
theorem dX7_layer_109 : decode cX7_layer 109 = .ok (.ireturn, 1) := by decide +kernel
set_option maxRecDepth 20000 in
theorem ggX7_person_X7_isKind : GoodIn wsX7_person wsX7_isKind := goodIn_r _ [9] (by decide +kernel) (by decide +kernel)
set_option maxRecDepth 20000 in
theorem gX7_person_X7_isKind : GoodIn wsX7_person (va_wsS RX7 101 yX7_isKind wsX7_isKind) := goodIn_app (goodIn_of _ (by decide +kernel)) ggX7_person_X7_isKind
set_option maxRecDepth 20000 in
theorem ggX7_person_X7_isHue : GoodIn wsX7_person wsX7_isHue := goodIn_r _ [12] (by decide +kernel) (by decide +kernel)
set_option maxRecDepth 20000 in
theorem gX7_person_X7_isHue : GoodIn wsX7_person (va_wsS RX7 104 yX7_isHue wsX7_isHue) := goodIn_app (goodIn_of _ (by decide +kernel)) ggX7_person_X7_isHue
set_option maxRecDepth 20000 in
theorem ggX7_person_X7_newPerson : GoodIn wsX7_person wsX7_newPerson := goodIn_r _ [15, 16, 17, 18, 19, 20, 21, 22, 23, 24, 25, 26, 27, 28, 29, 30, 31, 32, 33, 34, 35, 36, 37, 38, 39, 40, 41, 42, 43, 44, 45, 62, 63, 64, 65, 66, 67, 68, 69, 70, 71, 72, 73, 86, 87, 88, 89, 90, 91, 80, 81, 82, 83, 84, 85, 74, 75, 76, 77, 78, 79] (by decide +kernel) (by decide +kernel)
set_option maxRecDepth 20000 in
theorem gX7_person_X7_newPerson : GoodIn wsX7_person (va_wsS RX7 46 yX7_newPerson wsX7_newPerson) := goodIn_app (goodIn_of _ (by decide +kernel)) ggX7_person_X7_newPerson
theorem dX7_person_0 : decode cX7_person 0 = .ok (.iload_n 1, 1) := by decide +kernel
theorem dX7_person_1 : decode cX7_person 1 = .ok (.invokestatic 101, 3) := by decide +kernel
theorem dX7_person_4 : decode cX7_person 4 = .ok (.ifCond .eq 17, 3) := by decide +kernel
theorem dX7_person_7 : decode cX7_person 7 = .ok (.iload_n 2, 1) := by decide +kernel
theorem dX7_person_8 : decode cX7_person 8 = .ok (.invokestatic 104, 3) := by decide +kernel
theorem dX7_person_11 : decode cX7_person 11 = .ok (.ifCond .eq 10, 3) := by decide +kernel
theorem dX7_person_14 : decode cX7_person 14 = .ok (.iload_n 3, 1) := by decide +kernel
theorem dX7_person_15 : decode cX7_person 15 = .ok (.invokestatic 104, 3) := by decide +kernel
theorem dX7_person_18 : decode cX7_person 18 = .ok (.ifCond .ne 6, 3) := by decide +kernel
theorem dX7_person_21 : decode cX7_person 21 = .ok (.bipush (-102), 2) := by decide +kernel
theorem dX7_person_23 : decode cX7_person 23 = .ok (.ireturn, 1) := by decide +kernel
theorem dX7_person_24 : decode cX7_person 24 = .ok (.aload_n 0, 1) := by decide +kernel
theorem dX7_person_25 : decode cX7_person 25 = .ok (.getfield 39, 3) := by decide +kernel
theorem dX7_person_28 : decode cX7_person 28 = .ok (.iconst (-1), 1) := by decide +kernel
theorem dX7_person_29 : decode cX7_person 29 = .ok (.if_icmp .ne 6, 3) := by decide +kernel
theorem dX7_person_32 : decode cX7_person 32 = .ok (.bipush (-103), 2) := by decide +kernel
theorem dX7_person_34 : decode cX7_person 34 = .ok (.ireturn, 1) := by decide +kernel
theorem dX7_person_35 : decode cX7_person 35 = .ok (.aload_n 0, 1) := by decide +kernel
theorem dX7_person_36 : decode cX7_person 36 = .ok (.getfield 67, 3) := by decide +kernel
theorem dX7_person_39 : decode cX7_person 39 = .ok (.iconst 4, 1) := by decide +kernel
theorem dX7_person_40 : decode cX7_person 40 = .ok (.if_icmp .lt 6, 3) := by decide +kernel
theorem dX7_person_43 : decode cX7_person 43 = .ok (.bipush (-104), 2) := by decide +kernel
theorem dX7_person_45 : decode cX7_person 45 = .ok (.ireturn, 1) := by decide +kernel
theorem dX7_person_46 : decode cX7_person 46 = .ok (.iload_n 1, 1) := by decide +kernel
theorem dX7_person_47 : decode cX7_person 47 = .ok (.invokestatic 46, 3) := by decide +kernel
theorem dX7_person_50 : decode cX7_person 50 = .ok (.astore 4, 2) := by decide +kernel
theorem dX7_person_52 : decode cX7_person 52 = .ok (.aload 4, 2) := by decide +kernel
theorem dX7_person_54 : decode cX7_person 54 = .ok (.iload_n 2, 1) := by decide +kernel
theorem dX7_person_55 : decode cX7_person 55 = .ok (.putfield 107, 3) := by decide +kernel
theorem dX7_person_58 : decode cX7_person 58 = .ok (.aload 4, 2) := by decide +kernel
theorem dX7_person_60 : decode cX7_person 60 = .ok (.iload_n 3, 1) := by decide +kernel
theorem dX7_person_61 : decode cX7_person 61 = .ok (.putfield 110, 3) := by decide +kernel
theorem dX7_person_64 : decode cX7_person 64 = .ok (.aload_n 0, 1) := by decide +kernel
theorem dX7_person_65 : decode cX7_person 65 = .ok (.getfield 18, 3) := by decide +kernel
theorem dX7_person_68 : decode cX7_person 68 = .ok (.aload_n 0, 1) := by decide +kernel
theorem dX7_person_69 : decode cX7_person 69 = .ok (.getfield 67, 3) := by decide +kernel
theorem dX7_person_72 : decode cX7_person 72 = .ok (.aload 4, 2) := by decide +kernel
theorem dX7_person_74 : decode cX7_person 74 = .ok (.aastore, 1) := by decide +kernel
theorem dX7_person_75 : decode cX7_person 75 = .ok (.aload_n 0, 1) := by decide +kernel
theorem dX7_person_76 : decode cX7_person 76 = .ok (.dup, 1) := by decide +kernel
theorem dX7_person_77 : decode cX7_person 77 = .ok (.getfield 67, 3) := by decide +kernel
theorem dX7_person_80 : decode cX7_person 80 = .ok (.iconst 1, 1) := by decide +kernel
theorem dX7_person_81 : decode cX7_person 81 = .ok (.iadd, 1) := by decide +kernel
theorem dX7_person_82 : decode cX7_person 82 = .ok (.putfield 67, 3) := by decide +kernel
theorem dX7_person_85 : decode cX7_person 85 = .ok (.aload_n 0, 1) := by decide +kernel
theorem dX7_person_86 : decode cX7_person 86 = .ok (.getfield 67, 3) := by decide +kernel
theorem dX7_person_89 : decode cX7_person 89 = .ok (.iconst 1, 1) := by decide +kernel
theorem dX7_person_90 : decode cX7_person 90 = .ok (.isub, 1) := by decide +kernel
theorem dX7_person_91 : decode cX7_person 91 = .ok (.ireturn, 1) := by decide +kernel
set_option maxRecDepth 20000 in
theorem ggX7_about_X7_known : GoodIn wsX7_about wsX7_known := goodIn_r _ [9, 10, 11, 86, 87, 88, 89, 90, 91, 92, 93, 94, 95, 96, 97, 98, 99, 100, 101] (by decide +kernel) (by decide +kernel)
set_option maxRecDepth 20000 in
theorem gX7_about_X7_known : GoodIn wsX7_about (wsV RX7 113 RX7 yX7_known wsX7_known) := goodIn_app (goodIn_of _ (by decide +kernel)) ggX7_about_X7_known
set_option maxRecDepth 20000 in
theorem ggX7_about_X7_hueAt : GoodIn wsX7_about wsX7_hueAt := goodIn_r _ [14] (by decide +kernel) (by decide +kernel)
set_option maxRecDepth 20000 in
theorem gX7_about_X7_hueAt : GoodIn wsX7_about (va_wsS RX7 85 yX7_hueAt wsX7_hueAt) := goodIn_app (goodIn_of _ (by decide +kernel)) ggX7_about_X7_hueAt
set_option maxRecDepth 20000 in
theorem ggX7_about_X0_glimpse : GoodIn wsX7_about wsX0_glimpse := goodIn_r _ [21, 22, 23, 24, 25, 102, 103, 104, 105, 106, 107, 108, 109, 110, 111, 112, 113, 114, 115, 116, 117, 118, 119, 120, 121, 122, 123, 124, 125, 126, 127, 128, 129, 130, 131] (by decide +kernel) (by decide +kernel)
set_option maxRecDepth 20000 in
theorem gX7_about_X0_glimpse_u116X0 : GoodIn wsX7_about (va_wsO RX7 116 RX0 "EachEye$Person" ⟨"EachEye$Person", "glimpse", "(I)I"⟩ yX0_glimpse wsX0_glimpse) := goodIn_app (goodIn_of _ (by decide +kernel)) ggX7_about_X0_glimpse
set_option maxRecDepth 20000 in
theorem ggX7_about_X2_glimpse : GoodIn wsX7_about wsX2_glimpse := goodIn_r _ [30, 31, 32, 33, 34, 102, 103, 104, 105, 106, 107, 108, 109, 110, 111, 112, 113, 114, 115, 116, 117, 118, 119, 120, 121, 122, 123, 124, 125, 126, 127, 128, 129, 130, 131] (by decide +kernel) (by decide +kernel)
set_option maxRecDepth 20000 in
theorem gX7_about_X2_glimpse_u116X2 : GoodIn wsX7_about (va_wsO RX7 116 RX2 "EachEye$Person" ⟨"EachEye$Person", "glimpse", "(I)I"⟩ yX2_glimpse wsX2_glimpse) := goodIn_app (goodIn_of _ (by decide +kernel)) ggX7_about_X2_glimpse
set_option maxRecDepth 20000 in
theorem ggX7_about_X4_glimpse : GoodIn wsX7_about wsX4_glimpse := goodIn_r _ [26, 39, 40, 102, 103, 104, 105, 106, 107, 108, 109, 110, 111, 112, 113, 114, 115, 116, 117, 118, 119, 120, 121, 122, 123, 124, 125, 126, 127, 128, 129, 130, 131] (by decide +kernel) (by decide +kernel)
set_option maxRecDepth 20000 in
theorem gX7_about_X4_glimpse : GoodIn wsX7_about (wsV RX7 116 RX4 yX4_glimpse wsX4_glimpse) := goodIn_app (goodIn_of _ (by decide +kernel)) ggX7_about_X4_glimpse
set_option maxRecDepth 20000 in
theorem ggX7_about_X5_glimpse : GoodIn wsX7_about wsX5_glimpse := goodIn_r _ [44, 45, 46, 102, 103, 104, 105, 106, 107, 108, 109, 110, 111, 112, 113, 114, 115, 116, 117, 118, 119, 120, 121, 122, 123, 124, 125, 126, 127, 128, 129, 130, 131] (by decide +kernel) (by decide +kernel)
set_option maxRecDepth 20000 in
theorem gX7_about_X5_glimpse_u116X5 : GoodIn wsX7_about (va_wsO RX7 116 RX5 "EachEye$Person" ⟨"EachEye$Person", "glimpse", "(I)I"⟩ yX5_glimpse wsX5_glimpse) := goodIn_app (goodIn_of _ (by decide +kernel)) ggX7_about_X5_glimpse
set_option maxRecDepth 20000 in
theorem ggX7_about_X6_glimpse : GoodIn wsX7_about wsX6_glimpse := goodIn_r _ [50, 51, 52, 53, 54, 102, 103, 104, 105, 106, 107, 108, 109, 110, 111, 112, 113, 114, 115, 116, 117, 118, 119, 120, 121, 122, 123, 124, 125, 126, 127, 128, 129, 130, 131] (by decide +kernel) (by decide +kernel)
set_option maxRecDepth 20000 in
theorem gX7_about_X6_glimpse_u116X6 : GoodIn wsX7_about (va_wsO RX7 116 RX6 "EachEye$Person" ⟨"EachEye$Person", "glimpse", "(I)I"⟩ yX6_glimpse wsX6_glimpse) := goodIn_app (goodIn_of _ (by decide +kernel)) ggX7_about_X6_glimpse
set_option maxRecDepth 20000 in
theorem ggX7_about_X0_kind : GoodIn wsX7_about wsX0_kind := goodIn_r _ [60] (by decide +kernel) (by decide +kernel)
set_option maxRecDepth 20000 in
theorem gX7_about_X0_kind_u123X0 : GoodIn wsX7_about (va_wsO RX7 123 RX0 "EachEye$Person" ⟨"EachEye$Person", "kind", "()I"⟩ yX0_kind wsX0_kind) := goodIn_app (goodIn_of _ (by decide +kernel)) ggX7_about_X0_kind
set_option maxRecDepth 20000 in
theorem ggX7_about_X2_kind : GoodIn wsX7_about wsX2_kind := goodIn_r _ [64] (by decide +kernel) (by decide +kernel)
set_option maxRecDepth 20000 in
theorem gX7_about_X2_kind_u123X2 : GoodIn wsX7_about (va_wsO RX7 123 RX2 "EachEye$Person" ⟨"EachEye$Person", "kind", "()I"⟩ yX2_kind wsX2_kind) := goodIn_app (goodIn_of _ (by decide +kernel)) ggX7_about_X2_kind
set_option maxRecDepth 20000 in
theorem ggX7_about_X4_kind : GoodIn wsX7_about wsX4_kind := goodIn_r _ [61] (by decide +kernel) (by decide +kernel)
set_option maxRecDepth 20000 in
theorem gX7_about_X4_kind : GoodIn wsX7_about (wsV RX7 123 RX4 yX4_kind wsX4_kind) := goodIn_app (goodIn_of _ (by decide +kernel)) ggX7_about_X4_kind
set_option maxRecDepth 20000 in
theorem ggX7_about_X5_kind : GoodIn wsX7_about wsX5_kind := goodIn_r _ [70] (by decide +kernel) (by decide +kernel)
set_option maxRecDepth 20000 in
theorem gX7_about_X5_kind_u123X5 : GoodIn wsX7_about (va_wsO RX7 123 RX5 "EachEye$Person" ⟨"EachEye$Person", "kind", "()I"⟩ yX5_kind wsX5_kind) := goodIn_app (goodIn_of _ (by decide +kernel)) ggX7_about_X5_kind
set_option maxRecDepth 20000 in
theorem ggX7_about_X6_kind : GoodIn wsX7_about wsX6_kind := goodIn_r _ [73] (by decide +kernel) (by decide +kernel)
set_option maxRecDepth 20000 in
theorem gX7_about_X6_kind_u123X6 : GoodIn wsX7_about (va_wsO RX7 123 RX6 "EachEye$Person" ⟨"EachEye$Person", "kind", "()I"⟩ yX6_kind wsX6_kind) := goodIn_app (goodIn_of _ (by decide +kernel)) ggX7_about_X6_kind
set_option maxRecDepth 20000 in
theorem ggX7_about_X4_truths : GoodIn wsX7_about wsX4_truths := goodIn_r _ [78, 79, 16, 17, 18, 19, 20, 21, 22, 23, 24, 25, 26, 27, 28, 29, 30, 31, 32, 33, 34, 80, 36, 37, 38, 39, 40, 41, 42, 43, 44, 45, 46, 47, 48, 49, 50, 51, 52, 53, 54, 102, 103, 104, 105, 106, 107, 108, 109, 110, 111, 112, 113, 114, 115, 116, 117, 118, 119, 120, 121, 122, 123, 124, 125, 126, 127, 128, 129, 130, 131] (by decide +kernel) (by decide +kernel)
set_option maxRecDepth 20000 in
theorem gX7_about_X4_truths_u126X0 : GoodIn wsX7_about (va_wsU RX7 126 RX0 "EachEye$Person" ⟨"EachEye$Person", "truths", "()I"⟩ yX4_truths wsX4_truths) := goodIn_app (goodIn_of _ (by decide +kernel)) ggX7_about_X4_truths
set_option maxRecDepth 20000 in
theorem gX7_about_X4_truths_u126X2 : GoodIn wsX7_about (va_wsU RX7 126 RX2 "EachEye$Person" ⟨"EachEye$Person", "truths", "()I"⟩ yX4_truths wsX4_truths) := goodIn_app (goodIn_of _ (by decide +kernel)) ggX7_about_X4_truths
set_option maxRecDepth 20000 in
theorem gX7_about_X4_truths : GoodIn wsX7_about (wsV RX7 126 RX4 yX4_truths wsX4_truths) := goodIn_app (goodIn_of _ (by decide +kernel)) ggX7_about_X4_truths
set_option maxRecDepth 20000 in
theorem gX7_about_X4_truths_u126X5 : GoodIn wsX7_about (va_wsU RX7 126 RX5 "EachEye$Person" ⟨"EachEye$Person", "truths", "()I"⟩ yX4_truths wsX4_truths) := goodIn_app (goodIn_of _ (by decide +kernel)) ggX7_about_X4_truths
set_option maxRecDepth 20000 in
theorem gX7_about_X4_truths_u126X6 : GoodIn wsX7_about (va_wsU RX7 126 RX6 "EachEye$Person" ⟨"EachEye$Person", "truths", "()I"⟩ yX4_truths wsX4_truths) := goodIn_app (goodIn_of _ (by decide +kernel)) ggX7_about_X4_truths
theorem dX7_about_0 : decode cX7_about 0 = .ok (.aload_n 0, 1) := by decide +kernel
theorem dX7_about_1 : decode cX7_about 1 = .ok (.iload_n 1, 1) := by decide +kernel
theorem dX7_about_2 : decode cX7_about 2 = .ok (.invokevirtual 113, 3) := by decide +kernel
theorem dX7_about_5 : decode cX7_about 5 = .ok (.astore_n 3, 1) := by decide +kernel
theorem dX7_about_6 : decode cX7_about 6 = .ok (.aload_n 3, 1) := by decide +kernel
theorem dX7_about_7 : decode cX7_about 7 = .ok (.ifnonnull 6, 3) := by decide +kernel
theorem dX7_about_10 : decode cX7_about 10 = .ok (.bipush (-101), 2) := by decide +kernel
theorem dX7_about_12 : decode cX7_about 12 = .ok (.ireturn, 1) := by decide +kernel
theorem dX7_about_13 : decode cX7_about 13 = .ok (.iload_n 2, 1) := by decide +kernel
theorem dX7_about_14 : decode cX7_about 14 = .ok (.bipush 10, 2) := by decide +kernel
theorem dX7_about_16 : decode cX7_about 16 = .ok (.if_icmp .lt 25, 3) := by decide +kernel
theorem dX7_about_19 : decode cX7_about 19 = .ok (.iload_n 2, 1) := by decide +kernel
theorem dX7_about_20 : decode cX7_about 20 = .ok (.bipush 16, 2) := by decide +kernel
theorem dX7_about_22 : decode cX7_about 22 = .ok (.if_icmp .ge 19, 3) := by decide +kernel
theorem dX7_about_25 : decode cX7_about 25 = .ok (.aload_n 3, 1) := by decide +kernel
theorem dX7_about_26 : decode cX7_about 26 = .ok (.aload_n 0, 1) := by decide +kernel
theorem dX7_about_27 : decode cX7_about 27 = .ok (.getfield 39, 3) := by decide +kernel
theorem dX7_about_30 : decode cX7_about 30 = .ok (.iload_n 2, 1) := by decide +kernel
theorem dX7_about_31 : decode cX7_about 31 = .ok (.bipush 10, 2) := by decide +kernel
theorem dX7_about_33 : decode cX7_about 33 = .ok (.isub, 1) := by decide +kernel
theorem dX7_about_34 : decode cX7_about 34 = .ok (.invokestatic 85, 3) := by decide +kernel
theorem dX7_about_37 : decode cX7_about 37 = .ok (.invokevirtual 116, 3) := by decide +kernel
theorem dX7_about_40 : decode cX7_about 40 = .ok (.ireturn, 1) := by decide +kernel
theorem dX7_about_41 : decode cX7_about 41 = .ok (.iload_n 2, 1) := by decide +kernel
theorem dX7_about_42 : decode cX7_about 42 = .ok (.bipush 20, 2) := by decide +kernel
theorem dX7_about_44 : decode cX7_about 44 = .ok (.if_icmp .lt 33, 3) := by decide +kernel
theorem dX7_about_47 : decode cX7_about 47 = .ok (.iload_n 2, 1) := by decide +kernel
theorem dX7_about_48 : decode cX7_about 48 = .ok (.bipush 26, 2) := by decide +kernel
theorem dX7_about_50 : decode cX7_about 50 = .ok (.if_icmp .ge 27, 3) := by decide +kernel
theorem dX7_about_53 : decode cX7_about 53 = .ok (.aload_n 3, 1) := by decide +kernel
theorem dX7_about_54 : decode cX7_about 54 = .ok (.getfield 120, 3) := by decide +kernel
theorem dX7_about_57 : decode cX7_about 57 = .ok (.iconst (-1), 1) := by decide +kernel
theorem dX7_about_58 : decode cX7_about 58 = .ok (.if_icmp .ne 7, 3) := by decide +kernel
theorem dX7_about_61 : decode cX7_about 61 = .ok (.iconst (-1), 1) := by decide +kernel
theorem dX7_about_62 : decode cX7_about 62 = .ok (.goto 14, 3) := by decide +kernel
theorem dX7_about_65 : decode cX7_about 65 = .ok (.aload_n 3, 1) := by decide +kernel
theorem dX7_about_66 : decode cX7_about 66 = .ok (.getfield 120, 3) := by decide +kernel
theorem dX7_about_69 : decode cX7_about 69 = .ok (.iload_n 2, 1) := by decide +kernel
theorem dX7_about_70 : decode cX7_about 70 = .ok (.bipush 20, 2) := by decide +kernel
theorem dX7_about_72 : decode cX7_about 72 = .ok (.isub, 1) := by decide +kernel
theorem dX7_about_73 : decode cX7_about 73 = .ok (.invokestatic 85, 3) := by decide +kernel
theorem dX7_about_76 : decode cX7_about 76 = .ok (.ireturn, 1) := by decide +kernel
theorem dX7_about_77 : decode cX7_about 77 = .ok (.iload_n 2, 1) := by decide +kernel
theorem dX7_about_78 : decode cX7_about 78 = .ok (.tableswitch 50 0 3 #[30, 35, 40, 45], 30) := by decide +kernel
theorem dX7_about_108 : decode cX7_about 108 = .ok (.aload_n 3, 1) := by decide +kernel
theorem dX7_about_109 : decode cX7_about 109 = .ok (.invokevirtual 123, 3) := by decide +kernel
theorem dX7_about_112 : decode cX7_about 112 = .ok (.ireturn, 1) := by decide +kernel
theorem dX7_about_113 : decode cX7_about 113 = .ok (.aload_n 3, 1) := by decide +kernel
theorem dX7_about_114 : decode cX7_about 114 = .ok (.getfield 107, 3) := by decide +kernel
theorem dX7_about_117 : decode cX7_about 117 = .ok (.ireturn, 1) := by decide +kernel
theorem dX7_about_118 : decode cX7_about 118 = .ok (.aload_n 3, 1) := by decide +kernel
theorem dX7_about_119 : decode cX7_about 119 = .ok (.getfield 110, 3) := by decide +kernel
theorem dX7_about_122 : decode cX7_about 122 = .ok (.ireturn, 1) := by decide +kernel
theorem dX7_about_123 : decode cX7_about 123 = .ok (.aload_n 3, 1) := by decide +kernel
theorem dX7_about_124 : decode cX7_about 124 = .ok (.invokevirtual 126, 3) := by decide +kernel
theorem dX7_about_127 : decode cX7_about 127 = .ok (.ireturn, 1) := by decide +kernel
theorem dX7_about_128 : decode cX7_about 128 = .ok (.bipush (-102), 2) := by decide +kernel
theorem dX7_about_130 : decode cX7_about 130 = .ok (.ireturn, 1) := by decide +kernel
set_option maxRecDepth 20000 in
theorem ggX7_as_X7_known : GoodIn wsX7_as wsX7_known := goodIn_r _ [5, 6, 7, 18, 19, 20, 21, 22, 23, 24, 25, 26, 27, 28, 29, 30, 31, 32, 33] (by decide +kernel) (by decide +kernel)
set_option maxRecDepth 20000 in
theorem gX7_as_X7_known : GoodIn wsX7_as (wsV RX7 113 RX7 yX7_known wsX7_known) := goodIn_app (goodIn_of _ (by decide +kernel)) ggX7_as_X7_known
set_option maxRecDepth 20000 in
theorem ggX7_as_X7_isKind : GoodIn wsX7_as wsX7_isKind := goodIn_r _ [10] (by decide +kernel) (by decide +kernel)
set_option maxRecDepth 20000 in
theorem gX7_as_X7_isKind : GoodIn wsX7_as (va_wsS RX7 101 yX7_isKind wsX7_isKind) := goodIn_app (goodIn_of _ (by decide +kernel)) ggX7_as_X7_isKind
set_option maxRecDepth 20000 in
theorem ggX7_as_X7_isOf : GoodIn wsX7_as wsX7_isOf := goodIn_r _ [13, 14, 15, 16, 17] (by decide +kernel) (by decide +kernel)
set_option maxRecDepth 20000 in
theorem gX7_as_X7_isOf : GoodIn wsX7_as (va_wsS RX7 129 yX7_isOf wsX7_isOf) := goodIn_app (goodIn_of _ (by decide +kernel)) ggX7_as_X7_isOf
theorem dX7_as_0 : decode cX7_as 0 = .ok (.aload_n 0, 1) := by decide +kernel
theorem dX7_as_1 : decode cX7_as 1 = .ok (.iload_n 1, 1) := by decide +kernel
theorem dX7_as_2 : decode cX7_as 2 = .ok (.invokevirtual 113, 3) := by decide +kernel
theorem dX7_as_5 : decode cX7_as 5 = .ok (.astore_n 3, 1) := by decide +kernel
theorem dX7_as_6 : decode cX7_as 6 = .ok (.aload_n 3, 1) := by decide +kernel
theorem dX7_as_7 : decode cX7_as 7 = .ok (.ifnonnull 6, 3) := by decide +kernel
theorem dX7_as_10 : decode cX7_as 10 = .ok (.bipush (-101), 2) := by decide +kernel
theorem dX7_as_12 : decode cX7_as 12 = .ok (.ireturn, 1) := by decide +kernel
theorem dX7_as_13 : decode cX7_as 13 = .ok (.iload_n 2, 1) := by decide +kernel
theorem dX7_as_14 : decode cX7_as 14 = .ok (.invokestatic 101, 3) := by decide +kernel
theorem dX7_as_17 : decode cX7_as 17 = .ok (.ifCond .ne 6, 3) := by decide +kernel
theorem dX7_as_20 : decode cX7_as 20 = .ok (.bipush (-102), 2) := by decide +kernel
theorem dX7_as_22 : decode cX7_as 22 = .ok (.ireturn, 1) := by decide +kernel
theorem dX7_as_23 : decode cX7_as 23 = .ok (.aload_n 3, 1) := by decide +kernel
theorem dX7_as_24 : decode cX7_as 24 = .ok (.iload_n 2, 1) := by decide +kernel
theorem dX7_as_25 : decode cX7_as 25 = .ok (.invokestatic 129, 3) := by decide +kernel
theorem dX7_as_28 : decode cX7_as 28 = .ok (.ifCond .eq 7, 3) := by decide +kernel
theorem dX7_as_31 : decode cX7_as 31 = .ok (.iload_n 1, 1) := by decide +kernel
theorem dX7_as_32 : decode cX7_as 32 = .ok (.goto 4, 3) := by decide +kernel
theorem dX7_as_35 : decode cX7_as 35 = .ok (.iconst (-1), 1) := by decide +kernel
theorem dX7_as_36 : decode cX7_as 36 = .ok (.ireturn, 1) := by decide +kernel
set_option maxRecDepth 20000 in
theorem ggX7_sees_X7_known : GoodIn wsX7_sees wsX7_known := goodIn_r _ [5, 6, 7, 51, 52, 53, 54, 55, 56, 57, 58, 59, 60, 61, 62, 63, 64, 65, 66] (by decide +kernel) (by decide +kernel)
set_option maxRecDepth 20000 in
theorem gX7_sees_X7_known : GoodIn wsX7_sees (wsV RX7 113 RX7 yX7_known wsX7_known) := goodIn_app (goodIn_of _ (by decide +kernel)) ggX7_sees_X7_known
set_option maxRecDepth 20000 in
theorem ggX7_sees_X7_isHue : GoodIn wsX7_sees wsX7_isHue := goodIn_r _ [10] (by decide +kernel) (by decide +kernel)
set_option maxRecDepth 20000 in
theorem gX7_sees_X7_isHue : GoodIn wsX7_sees (va_wsS RX7 104 yX7_isHue wsX7_isHue) := goodIn_app (goodIn_of _ (by decide +kernel)) ggX7_sees_X7_isHue
set_option maxRecDepth 20000 in
theorem ggX7_sees_X0_glimpse : GoodIn wsX7_sees wsX0_glimpse := goodIn_r _ [17, 18, 19, 20, 21, 67, 68, 69, 70, 71, 72, 73, 74, 75, 76, 77, 78, 79, 80, 81, 82, 83, 84, 85, 86, 87, 88, 89, 90, 91, 92, 93, 94, 95, 96] (by decide +kernel) (by decide +kernel)
set_option maxRecDepth 20000 in
theorem gX7_sees_X0_glimpse_u116X0 : GoodIn wsX7_sees (va_wsO RX7 116 RX0 "EachEye$Person" ⟨"EachEye$Person", "glimpse", "(I)I"⟩ yX0_glimpse wsX0_glimpse) := goodIn_app (goodIn_of _ (by decide +kernel)) ggX7_sees_X0_glimpse
set_option maxRecDepth 20000 in
theorem ggX7_sees_X2_glimpse : GoodIn wsX7_sees wsX2_glimpse := goodIn_r _ [26, 27, 28, 29, 30, 67, 68, 69, 70, 71, 72, 73, 74, 75, 76, 77, 78, 79, 80, 81, 82, 83, 84, 85, 86, 87, 88, 89, 90, 91, 92, 93, 94, 95, 96] (by decide +kernel) (by decide +kernel)
set_option maxRecDepth 20000 in
theorem gX7_sees_X2_glimpse_u116X2 : GoodIn wsX7_sees (va_wsO RX7 116 RX2 "EachEye$Person" ⟨"EachEye$Person", "glimpse", "(I)I"⟩ yX2_glimpse wsX2_glimpse) := goodIn_app (goodIn_of _ (by decide +kernel)) ggX7_sees_X2_glimpse
set_option maxRecDepth 20000 in
theorem ggX7_sees_X4_glimpse : GoodIn wsX7_sees wsX4_glimpse := goodIn_r _ [22, 35, 36, 67, 68, 69, 70, 71, 72, 73, 74, 75, 76, 77, 78, 79, 80, 81, 82, 83, 84, 85, 86, 87, 88, 89, 90, 91, 92, 93, 94, 95, 96] (by decide +kernel) (by decide +kernel)
set_option maxRecDepth 20000 in
theorem gX7_sees_X4_glimpse : GoodIn wsX7_sees (wsV RX7 116 RX4 yX4_glimpse wsX4_glimpse) := goodIn_app (goodIn_of _ (by decide +kernel)) ggX7_sees_X4_glimpse
set_option maxRecDepth 20000 in
theorem ggX7_sees_X5_glimpse : GoodIn wsX7_sees wsX5_glimpse := goodIn_r _ [40, 41, 42, 67, 68, 69, 70, 71, 72, 73, 74, 75, 76, 77, 78, 79, 80, 81, 82, 83, 84, 85, 86, 87, 88, 89, 90, 91, 92, 93, 94, 95, 96] (by decide +kernel) (by decide +kernel)
set_option maxRecDepth 20000 in
theorem gX7_sees_X5_glimpse_u116X5 : GoodIn wsX7_sees (va_wsO RX7 116 RX5 "EachEye$Person" ⟨"EachEye$Person", "glimpse", "(I)I"⟩ yX5_glimpse wsX5_glimpse) := goodIn_app (goodIn_of _ (by decide +kernel)) ggX7_sees_X5_glimpse
set_option maxRecDepth 20000 in
theorem ggX7_sees_X6_glimpse : GoodIn wsX7_sees wsX6_glimpse := goodIn_r _ [46, 47, 48, 49, 50, 67, 68, 69, 70, 71, 72, 73, 74, 75, 76, 77, 78, 79, 80, 81, 82, 83, 84, 85, 86, 87, 88, 89, 90, 91, 92, 93, 94, 95, 96] (by decide +kernel) (by decide +kernel)
set_option maxRecDepth 20000 in
theorem gX7_sees_X6_glimpse_u116X6 : GoodIn wsX7_sees (va_wsO RX7 116 RX6 "EachEye$Person" ⟨"EachEye$Person", "glimpse", "(I)I"⟩ yX6_glimpse wsX6_glimpse) := goodIn_app (goodIn_of _ (by decide +kernel)) ggX7_sees_X6_glimpse
theorem dX7_sees_0 : decode cX7_sees 0 = .ok (.aload_n 0, 1) := by decide +kernel
theorem dX7_sees_1 : decode cX7_sees 1 = .ok (.iload_n 1, 1) := by decide +kernel
theorem dX7_sees_2 : decode cX7_sees 2 = .ok (.invokevirtual 113, 3) := by decide +kernel
theorem dX7_sees_5 : decode cX7_sees 5 = .ok (.astore_n 3, 1) := by decide +kernel
theorem dX7_sees_6 : decode cX7_sees 6 = .ok (.aload_n 3, 1) := by decide +kernel
theorem dX7_sees_7 : decode cX7_sees 7 = .ok (.ifnonnull 6, 3) := by decide +kernel
theorem dX7_sees_10 : decode cX7_sees 10 = .ok (.bipush (-101), 2) := by decide +kernel
theorem dX7_sees_12 : decode cX7_sees 12 = .ok (.ireturn, 1) := by decide +kernel
theorem dX7_sees_13 : decode cX7_sees 13 = .ok (.iload_n 2, 1) := by decide +kernel
theorem dX7_sees_14 : decode cX7_sees 14 = .ok (.invokestatic 104, 3) := by decide +kernel
theorem dX7_sees_17 : decode cX7_sees 17 = .ok (.ifCond .ne 6, 3) := by decide +kernel
theorem dX7_sees_20 : decode cX7_sees 20 = .ok (.bipush (-102), 2) := by decide +kernel
theorem dX7_sees_22 : decode cX7_sees 22 = .ok (.ireturn, 1) := by decide +kernel
theorem dX7_sees_23 : decode cX7_sees 23 = .ok (.aload_n 3, 1) := by decide +kernel
theorem dX7_sees_24 : decode cX7_sees 24 = .ok (.iload_n 2, 1) := by decide +kernel
theorem dX7_sees_25 : decode cX7_sees 25 = .ok (.invokevirtual 116, 3) := by decide +kernel
theorem dX7_sees_28 : decode cX7_sees 28 = .ok (.ireturn, 1) := by decide +kernel
set_option maxRecDepth 20000 in
theorem ggX7_eye_X7_known : GoodIn wsX7_eye wsX7_known := goodIn_r _ [7, 8, 9, 43, 44, 45, 46, 47, 48, 49, 50, 51, 52, 53, 54, 55, 56, 57, 58] (by decide +kernel) (by decide +kernel)
set_option maxRecDepth 20000 in
theorem gX7_eye_X7_known : GoodIn wsX7_eye (wsV RX7 113 RX7 yX7_known wsX7_known) := goodIn_app (goodIn_of _ (by decide +kernel)) ggX7_eye_X7_known
set_option maxRecDepth 20000 in
theorem ggX7_eye_X7_isHue : GoodIn wsX7_eye wsX7_isHue := goodIn_r _ [12] (by decide +kernel) (by decide +kernel)
set_option maxRecDepth 20000 in
theorem gX7_eye_X7_isHue : GoodIn wsX7_eye (va_wsS RX7 104 yX7_isHue wsX7_isHue) := goodIn_app (goodIn_of _ (by decide +kernel)) ggX7_eye_X7_isHue
theorem dX7_eye_0 : decode cX7_eye 0 = .ok (.aload_n 0, 1) := by decide +kernel
theorem dX7_eye_1 : decode cX7_eye 1 = .ok (.iload_n 1, 1) := by decide +kernel
theorem dX7_eye_2 : decode cX7_eye 2 = .ok (.invokevirtual 113, 3) := by decide +kernel
theorem dX7_eye_5 : decode cX7_eye 5 = .ok (.astore 4, 2) := by decide +kernel
theorem dX7_eye_7 : decode cX7_eye 7 = .ok (.aload 4, 2) := by decide +kernel
theorem dX7_eye_9 : decode cX7_eye 9 = .ok (.ifnonnull 6, 3) := by decide +kernel
theorem dX7_eye_12 : decode cX7_eye 12 = .ok (.bipush (-101), 2) := by decide +kernel
theorem dX7_eye_14 : decode cX7_eye 14 = .ok (.ireturn, 1) := by decide +kernel
theorem dX7_eye_15 : decode cX7_eye 15 = .ok (.iload_n 2, 1) := by decide +kernel
theorem dX7_eye_16 : decode cX7_eye 16 = .ok (.ifCond .lt 15, 3) := by decide +kernel
theorem dX7_eye_19 : decode cX7_eye 19 = .ok (.iload_n 2, 1) := by decide +kernel
theorem dX7_eye_20 : decode cX7_eye 20 = .ok (.iconst 1, 1) := by decide +kernel
theorem dX7_eye_21 : decode cX7_eye 21 = .ok (.if_icmp .gt 10, 3) := by decide +kernel
theorem dX7_eye_24 : decode cX7_eye 24 = .ok (.iload_n 3, 1) := by decide +kernel
theorem dX7_eye_25 : decode cX7_eye 25 = .ok (.invokestatic 104, 3) := by decide +kernel
theorem dX7_eye_28 : decode cX7_eye 28 = .ok (.ifCond .ne 6, 3) := by decide +kernel
theorem dX7_eye_31 : decode cX7_eye 31 = .ok (.bipush (-102), 2) := by decide +kernel
theorem dX7_eye_33 : decode cX7_eye 33 = .ok (.ireturn, 1) := by decide +kernel
theorem dX7_eye_34 : decode cX7_eye 34 = .ok (.iload_n 2, 1) := by decide +kernel
theorem dX7_eye_35 : decode cX7_eye 35 = .ok (.ifCond .ne 11, 3) := by decide +kernel
theorem dX7_eye_38 : decode cX7_eye 38 = .ok (.aload 4, 2) := by decide +kernel
theorem dX7_eye_40 : decode cX7_eye 40 = .ok (.getfield 107, 3) := by decide +kernel
theorem dX7_eye_43 : decode cX7_eye 43 = .ok (.goto 8, 3) := by decide +kernel
theorem dX7_eye_46 : decode cX7_eye 46 = .ok (.aload 4, 2) := by decide +kernel
theorem dX7_eye_48 : decode cX7_eye 48 = .ok (.getfield 110, 3) := by decide +kernel
theorem dX7_eye_51 : decode cX7_eye 51 = .ok (.istore 5, 2) := by decide +kernel
theorem dX7_eye_53 : decode cX7_eye 53 = .ok (.iload_n 2, 1) := by decide +kernel
theorem dX7_eye_54 : decode cX7_eye 54 = .ok (.ifCond .ne 12, 3) := by decide +kernel
theorem dX7_eye_57 : decode cX7_eye 57 = .ok (.aload 4, 2) := by decide +kernel
theorem dX7_eye_59 : decode cX7_eye 59 = .ok (.iload_n 3, 1) := by decide +kernel
theorem dX7_eye_60 : decode cX7_eye 60 = .ok (.putfield 107, 3) := by decide +kernel
theorem dX7_eye_63 : decode cX7_eye 63 = .ok (.goto 9, 3) := by decide +kernel
theorem dX7_eye_66 : decode cX7_eye 66 = .ok (.aload 4, 2) := by decide +kernel
theorem dX7_eye_68 : decode cX7_eye 68 = .ok (.iload_n 3, 1) := by decide +kernel
theorem dX7_eye_69 : decode cX7_eye 69 = .ok (.putfield 110, 3) := by decide +kernel
theorem dX7_eye_72 : decode cX7_eye 72 = .ok (.iload 5, 2) := by decide +kernel
theorem dX7_eye_74 : decode cX7_eye 74 = .ok (.ireturn, 1) := by decide +kernel
set_option maxRecDepth 20000 in
theorem ggX7_ink_X7_isHue : GoodIn wsX7_ink wsX7_isHue := goodIn_r _ [7] (by decide +kernel) (by decide +kernel)
set_option maxRecDepth 20000 in
theorem gX7_ink_X7_isHue : GoodIn wsX7_ink (va_wsS RX7 104 yX7_isHue wsX7_isHue) := goodIn_app (goodIn_of _ (by decide +kernel)) ggX7_ink_X7_isHue
theorem dX7_ink_0 : decode cX7_ink 0 = .ok (.iload_n 1, 1) := by decide +kernel
theorem dX7_ink_1 : decode cX7_ink 1 = .ok (.invokestatic 104, 3) := by decide +kernel
theorem dX7_ink_4 : decode cX7_ink 4 = .ok (.ifCond .eq 7, 3) := by decide +kernel
theorem dX7_ink_7 : decode cX7_ink 7 = .ok (.iload_n 1, 1) := by decide +kernel
theorem dX7_ink_8 : decode cX7_ink 8 = .ok (.ifCond .ne 6, 3) := by decide +kernel
theorem dX7_ink_11 : decode cX7_ink 11 = .ok (.bipush (-102), 2) := by decide +kernel
theorem dX7_ink_13 : decode cX7_ink 13 = .ok (.ireturn, 1) := by decide +kernel
theorem dX7_ink_14 : decode cX7_ink 14 = .ok (.aload_n 0, 1) := by decide +kernel
theorem dX7_ink_15 : decode cX7_ink 15 = .ok (.getfield 39, 3) := by decide +kernel
theorem dX7_ink_18 : decode cX7_ink 18 = .ok (.iconst (-1), 1) := by decide +kernel
theorem dX7_ink_19 : decode cX7_ink 19 = .ok (.if_icmp .ne 6, 3) := by decide +kernel
theorem dX7_ink_22 : decode cX7_ink 22 = .ok (.bipush (-103), 2) := by decide +kernel
theorem dX7_ink_24 : decode cX7_ink 24 = .ok (.ireturn, 1) := by decide +kernel
theorem dX7_ink_25 : decode cX7_ink 25 = .ok (.aload_n 0, 1) := by decide +kernel
theorem dX7_ink_26 : decode cX7_ink 26 = .ok (.getfield 70, 3) := by decide +kernel
theorem dX7_ink_29 : decode cX7_ink 29 = .ok (.iconst 5, 1) := by decide +kernel
theorem dX7_ink_30 : decode cX7_ink 30 = .ok (.if_icmp .lt 6, 3) := by decide +kernel
theorem dX7_ink_33 : decode cX7_ink 33 = .ok (.bipush (-104), 2) := by decide +kernel
theorem dX7_ink_35 : decode cX7_ink 35 = .ok (.ireturn, 1) := by decide +kernel
theorem dX7_ink_36 : decode cX7_ink 36 = .ok (.aload_n 0, 1) := by decide +kernel
theorem dX7_ink_37 : decode cX7_ink 37 = .ok (.getfield 22, 3) := by decide +kernel
theorem dX7_ink_40 : decode cX7_ink 40 = .ok (.aload_n 0, 1) := by decide +kernel
theorem dX7_ink_41 : decode cX7_ink 41 = .ok (.getfield 70, 3) := by decide +kernel
theorem dX7_ink_44 : decode cX7_ink 44 = .ok (.iload_n 1, 1) := by decide +kernel
theorem dX7_ink_45 : decode cX7_ink 45 = .ok (.iastore, 1) := by decide +kernel
theorem dX7_ink_46 : decode cX7_ink 46 = .ok (.aload_n 0, 1) := by decide +kernel
theorem dX7_ink_47 : decode cX7_ink 47 = .ok (.dup, 1) := by decide +kernel
theorem dX7_ink_48 : decode cX7_ink 48 = .ok (.getfield 70, 3) := by decide +kernel
theorem dX7_ink_51 : decode cX7_ink 51 = .ok (.iconst 1, 1) := by decide +kernel
theorem dX7_ink_52 : decode cX7_ink 52 = .ok (.iadd, 1) := by decide +kernel
theorem dX7_ink_53 : decode cX7_ink 53 = .ok (.putfield 70, 3) := by decide +kernel
theorem dX7_ink_56 : decode cX7_ink 56 = .ok (.aload_n 0, 1) := by decide +kernel
theorem dX7_ink_57 : decode cX7_ink 57 = .ok (.getfield 70, 3) := by decide +kernel
theorem dX7_ink_60 : decode cX7_ink 60 = .ok (.iconst 1, 1) := by decide +kernel
theorem dX7_ink_61 : decode cX7_ink 61 = .ok (.isub, 1) := by decide +kernel
theorem dX7_ink_62 : decode cX7_ink 62 = .ok (.ireturn, 1) := by decide +kernel
set_option maxRecDepth 20000 in
theorem ggX7_inkOf_X7_isInk : GoodIn wsX7_inkOf wsX7_isInk := goodIn_r _ [6, 7, 8, 9, 10, 11, 12, 13, 14, 15, 16, 17, 18, 19, 20, 21, 22, 23] (by decide +kernel) (by decide +kernel)
set_option maxRecDepth 20000 in
theorem gX7_inkOf_X7_isInk : GoodIn wsX7_inkOf (wsV RX7 89 RX7 yX7_isInk wsX7_isInk) := goodIn_app (goodIn_of _ (by decide +kernel)) ggX7_inkOf_X7_isInk
theorem dX7_inkOf_0 : decode cX7_inkOf 0 = .ok (.aload_n 0, 1) := by decide +kernel
theorem dX7_inkOf_1 : decode cX7_inkOf 1 = .ok (.iload_n 1, 1) := by decide +kernel
theorem dX7_inkOf_2 : decode cX7_inkOf 2 = .ok (.invokevirtual 89, 3) := by decide +kernel
theorem dX7_inkOf_5 : decode cX7_inkOf 5 = .ok (.ifCond .eq 12, 3) := by decide +kernel
theorem dX7_inkOf_8 : decode cX7_inkOf 8 = .ok (.aload_n 0, 1) := by decide +kernel
theorem dX7_inkOf_9 : decode cX7_inkOf 9 = .ok (.getfield 22, 3) := by decide +kernel
theorem dX7_inkOf_12 : decode cX7_inkOf 12 = .ok (.iload_n 1, 1) := by decide +kernel
theorem dX7_inkOf_13 : decode cX7_inkOf 13 = .ok (.iaload, 1) := by decide +kernel
theorem dX7_inkOf_14 : decode cX7_inkOf 14 = .ok (.goto 5, 3) := by decide +kernel
theorem dX7_inkOf_17 : decode cX7_inkOf 17 = .ok (.bipush (-101), 2) := by decide +kernel
theorem dX7_inkOf_19 : decode cX7_inkOf 19 = .ok (.ireturn, 1) := by decide +kernel
set_option maxRecDepth 20000 in
theorem ggX7_word_X7_known : GoodIn wsX7_word wsX7_known := goodIn_r _ [7, 8, 9, 33, 34, 35, 36, 37, 38, 39, 40, 41, 42, 43, 44, 45, 46, 47, 48] (by decide +kernel) (by decide +kernel)
set_option maxRecDepth 20000 in
theorem gX7_word_X7_known : GoodIn wsX7_word (wsV RX7 113 RX7 yX7_known wsX7_known) := goodIn_app (goodIn_of _ (by decide +kernel)) ggX7_word_X7_known
set_option maxRecDepth 20000 in
theorem ggX7_word_X3_asText : GoodIn wsX7_word wsX3_asText := goodIn_r _ [14, 15, 16, 17, 18, 19, 13, 20, 21, 6, 22, 23, 24, 79, 80] (by decide +kernel) (by decide +kernel)
set_option maxRecDepth 20000 in
theorem gX7_word_X3_asText : GoodIn wsX7_word (wsV RX7 64 RX3 yX3_asText wsX3_asText) := goodIn_app (goodIn_of _ (by decide +kernel)) ggX7_word_X3_asText
set_option maxRecDepth 20000 in
theorem ggX7_word_X3_empty : GoodIn wsX7_word wsX3_empty := goodIn_r _ [28, 15, 79, 80] (by decide +kernel) (by decide +kernel)
set_option maxRecDepth 20000 in
theorem gX7_word_X3_empty : GoodIn wsX7_word (wsV RX7 57 RX3 yX3_empty wsX3_empty) := goodIn_app (goodIn_of _ (by decide +kernel)) ggX7_word_X3_empty
set_option maxRecDepth 20000 in
theorem ggX7_word_X7_toldPeople : GoodIn wsX7_word wsX7_toldPeople := goodIn_r _ [32, 8, 2, 3, 4, 5, 6, 7, 9, 33, 34, 35, 36, 37, 38, 39, 40, 41, 42, 43, 44, 45, 46, 47, 48, 49, 50, 51, 52, 53, 54, 55, 56, 57, 58, 59, 60, 61, 62, 63, 64, 65, 66, 67, 68, 69, 70, 71, 72, 73, 74, 75, 76, 77, 78] (by decide +kernel) (by decide +kernel)
set_option maxRecDepth 20000 in
theorem gX7_word_X7_toldPeople : GoodIn wsX7_word (wsV RX7 133 RX7 yX7_toldPeople wsX7_toldPeople) := goodIn_app (goodIn_of _ (by decide +kernel)) ggX7_word_X7_toldPeople
theorem dX7_word_0 : decode cX7_word 0 = .ok (.aload_n 0, 1) := by decide +kernel
theorem dX7_word_1 : decode cX7_word 1 = .ok (.iload_n 1, 1) := by decide +kernel
theorem dX7_word_2 : decode cX7_word 2 = .ok (.invokevirtual 113, 3) := by decide +kernel
theorem dX7_word_5 : decode cX7_word 5 = .ok (.astore_n 2, 1) := by decide +kernel
theorem dX7_word_6 : decode cX7_word 6 = .ok (.aload_n 2, 1) := by decide +kernel
theorem dX7_word_7 : decode cX7_word 7 = .ok (.ifnonnull 6, 3) := by decide +kernel
theorem dX7_word_10 : decode cX7_word 10 = .ok (.bipush (-101), 2) := by decide +kernel
theorem dX7_word_12 : decode cX7_word 12 = .ok (.ireturn, 1) := by decide +kernel
theorem dX7_word_13 : decode cX7_word 13 = .ok (.aload_n 0, 1) := by decide +kernel
theorem dX7_word_14 : decode cX7_word 14 = .ok (.getfield 12, 3) := by decide +kernel
theorem dX7_word_17 : decode cX7_word 17 = .ok (.invokevirtual 64, 3) := by decide +kernel
theorem dX7_word_20 : decode cX7_word 20 = .ok (.istore_n 3, 1) := by decide +kernel
theorem dX7_word_21 : decode cX7_word 21 = .ok (.iload_n 3, 1) := by decide +kernel
theorem dX7_word_22 : decode cX7_word 22 = .ok (.iconst (-1), 1) := by decide +kernel
theorem dX7_word_23 : decode cX7_word 23 = .ok (.if_icmp .ne 6, 3) := by decide +kernel
theorem dX7_word_26 : decode cX7_word 26 = .ok (.bipush (-103), 2) := by decide +kernel
theorem dX7_word_28 : decode cX7_word 28 = .ok (.ireturn, 1) := by decide +kernel
theorem dX7_word_29 : decode cX7_word 29 = .ok (.aload_n 2, 1) := by decide +kernel
theorem dX7_word_30 : decode cX7_word 30 = .ok (.iload_n 3, 1) := by decide +kernel
theorem dX7_word_31 : decode cX7_word 31 = .ok (.putfield 120, 3) := by decide +kernel
theorem dX7_word_34 : decode cX7_word 34 = .ok (.aload_n 0, 1) := by decide +kernel
theorem dX7_word_35 : decode cX7_word 35 = .ok (.getfield 12, 3) := by decide +kernel
theorem dX7_word_38 : decode cX7_word 38 = .ok (.invokevirtual 57, 3) := by decide +kernel
theorem dX7_word_41 : decode cX7_word 41 = .ok (.aload_n 0, 1) := by decide +kernel
theorem dX7_word_42 : decode cX7_word 42 = .ok (.invokevirtual 133, 3) := by decide +kernel
theorem dX7_word_45 : decode cX7_word 45 = .ok (.ireturn, 1) := by decide +kernel
set_option maxRecDepth 20000 in
theorem ggX7_unword_X7_known : GoodIn wsX7_unword wsX7_known := goodIn_r _ [6, 7, 8, 39, 40, 41, 42, 43, 44, 45, 46, 47, 48, 49, 50, 51, 52, 53, 54] (by decide +kernel) (by decide +kernel)
set_option maxRecDepth 20000 in
theorem gX7_unword_X7_known : GoodIn wsX7_unword (wsV RX7 113 RX7 yX7_known wsX7_known) := goodIn_app (goodIn_of _ (by decide +kernel)) ggX7_unword_X7_known
theorem dX7_unword_0 : decode cX7_unword 0 = .ok (.aload_n 0, 1) := by decide +kernel
theorem dX7_unword_1 : decode cX7_unword 1 = .ok (.iload_n 1, 1) := by decide +kernel
theorem dX7_unword_2 : decode cX7_unword 2 = .ok (.invokevirtual 113, 3) := by decide +kernel
theorem dX7_unword_5 : decode cX7_unword 5 = .ok (.astore_n 2, 1) := by decide +kernel
theorem dX7_unword_6 : decode cX7_unword 6 = .ok (.aload_n 2, 1) := by decide +kernel
theorem dX7_unword_7 : decode cX7_unword 7 = .ok (.ifnonnull 6, 3) := by decide +kernel
theorem dX7_unword_10 : decode cX7_unword 10 = .ok (.bipush (-101), 2) := by decide +kernel
theorem dX7_unword_12 : decode cX7_unword 12 = .ok (.ireturn, 1) := by decide +kernel
theorem dX7_unword_13 : decode cX7_unword 13 = .ok (.aload_n 2, 1) := by decide +kernel
theorem dX7_unword_14 : decode cX7_unword 14 = .ok (.getfield 120, 3) := by decide +kernel
theorem dX7_unword_17 : decode cX7_unword 17 = .ok (.iconst (-1), 1) := by decide +kernel
theorem dX7_unword_18 : decode cX7_unword 18 = .ok (.if_icmp .ne 7, 3) := by decide +kernel
theorem dX7_unword_21 : decode cX7_unword 21 = .ok (.iconst 0, 1) := by decide +kernel
theorem dX7_unword_22 : decode cX7_unword 22 = .ok (.goto 4, 3) := by decide +kernel
theorem dX7_unword_25 : decode cX7_unword 25 = .ok (.iconst 1, 1) := by decide +kernel
theorem dX7_unword_26 : decode cX7_unword 26 = .ok (.istore_n 3, 1) := by decide +kernel
theorem dX7_unword_27 : decode cX7_unword 27 = .ok (.aload_n 2, 1) := by decide +kernel
theorem dX7_unword_28 : decode cX7_unword 28 = .ok (.iconst (-1), 1) := by decide +kernel
theorem dX7_unword_29 : decode cX7_unword 29 = .ok (.putfield 120, 3) := by decide +kernel
theorem dX7_unword_32 : decode cX7_unword 32 = .ok (.iload_n 3, 1) := by decide +kernel
theorem dX7_unword_33 : decode cX7_unword 33 = .ok (.ireturn, 1) := by decide +kernel
set_option maxRecDepth 20000 in
theorem ggX7_differ_X7_known : GoodIn wsX7_differ wsX7_known := goodIn_r _ [6, 7, 8, 52, 53, 54, 55, 56, 57, 58, 59, 60, 61, 62, 63, 64, 65, 66, 67] (by decide +kernel) (by decide +kernel)
set_option maxRecDepth 20000 in
theorem gX7_differ_X7_known : GoodIn wsX7_differ (wsV RX7 113 RX7 yX7_known wsX7_known) := goodIn_app (goodIn_of _ (by decide +kernel)) ggX7_differ_X7_known
set_option maxRecDepth 20000 in
theorem ggX7_differ_X7_hueAt : GoodIn wsX7_differ wsX7_hueAt := goodIn_r _ [11] (by decide +kernel) (by decide +kernel)
set_option maxRecDepth 20000 in
theorem gX7_differ_X7_hueAt : GoodIn wsX7_differ (va_wsS RX7 85 yX7_hueAt wsX7_hueAt) := goodIn_app (goodIn_of _ (by decide +kernel)) ggX7_differ_X7_hueAt
set_option maxRecDepth 20000 in
theorem ggX7_differ_X0_glimpse : GoodIn wsX7_differ wsX0_glimpse := goodIn_r _ [18, 19, 20, 21, 22, 68, 69, 70, 71, 72, 73, 74, 75, 76, 77, 78, 79, 80, 81, 82, 83, 84, 85, 86, 87, 88, 89, 90, 91, 92, 93, 94, 95, 96, 97] (by decide +kernel) (by decide +kernel)
set_option maxRecDepth 20000 in
theorem gX7_differ_X0_glimpse_u116X0 : GoodIn wsX7_differ (va_wsO RX7 116 RX0 "EachEye$Person" ⟨"EachEye$Person", "glimpse", "(I)I"⟩ yX0_glimpse wsX0_glimpse) := goodIn_app (goodIn_of _ (by decide +kernel)) ggX7_differ_X0_glimpse
set_option maxRecDepth 20000 in
theorem ggX7_differ_X2_glimpse : GoodIn wsX7_differ wsX2_glimpse := goodIn_r _ [27, 28, 29, 30, 31, 68, 69, 70, 71, 72, 73, 74, 75, 76, 77, 78, 79, 80, 81, 82, 83, 84, 85, 86, 87, 88, 89, 90, 91, 92, 93, 94, 95, 96, 97] (by decide +kernel) (by decide +kernel)
set_option maxRecDepth 20000 in
theorem gX7_differ_X2_glimpse_u116X2 : GoodIn wsX7_differ (va_wsO RX7 116 RX2 "EachEye$Person" ⟨"EachEye$Person", "glimpse", "(I)I"⟩ yX2_glimpse wsX2_glimpse) := goodIn_app (goodIn_of _ (by decide +kernel)) ggX7_differ_X2_glimpse
set_option maxRecDepth 20000 in
theorem ggX7_differ_X4_glimpse : GoodIn wsX7_differ wsX4_glimpse := goodIn_r _ [23, 36, 37, 68, 69, 70, 71, 72, 73, 74, 75, 76, 77, 78, 79, 80, 81, 82, 83, 84, 85, 86, 87, 88, 89, 90, 91, 92, 93, 94, 95, 96, 97] (by decide +kernel) (by decide +kernel)
set_option maxRecDepth 20000 in
theorem gX7_differ_X4_glimpse : GoodIn wsX7_differ (wsV RX7 116 RX4 yX4_glimpse wsX4_glimpse) := goodIn_app (goodIn_of _ (by decide +kernel)) ggX7_differ_X4_glimpse
set_option maxRecDepth 20000 in
theorem ggX7_differ_X5_glimpse : GoodIn wsX7_differ wsX5_glimpse := goodIn_r _ [41, 42, 43, 68, 69, 70, 71, 72, 73, 74, 75, 76, 77, 78, 79, 80, 81, 82, 83, 84, 85, 86, 87, 88, 89, 90, 91, 92, 93, 94, 95, 96, 97] (by decide +kernel) (by decide +kernel)
set_option maxRecDepth 20000 in
theorem gX7_differ_X5_glimpse_u116X5 : GoodIn wsX7_differ (va_wsO RX7 116 RX5 "EachEye$Person" ⟨"EachEye$Person", "glimpse", "(I)I"⟩ yX5_glimpse wsX5_glimpse) := goodIn_app (goodIn_of _ (by decide +kernel)) ggX7_differ_X5_glimpse
set_option maxRecDepth 20000 in
theorem ggX7_differ_X6_glimpse : GoodIn wsX7_differ wsX6_glimpse := goodIn_r _ [47, 48, 49, 50, 51, 68, 69, 70, 71, 72, 73, 74, 75, 76, 77, 78, 79, 80, 81, 82, 83, 84, 85, 86, 87, 88, 89, 90, 91, 92, 93, 94, 95, 96, 97] (by decide +kernel) (by decide +kernel)
set_option maxRecDepth 20000 in
theorem gX7_differ_X6_glimpse_u116X6 : GoodIn wsX7_differ (va_wsO RX7 116 RX6 "EachEye$Person" ⟨"EachEye$Person", "glimpse", "(I)I"⟩ yX6_glimpse wsX6_glimpse) := goodIn_app (goodIn_of _ (by decide +kernel)) ggX7_differ_X6_glimpse
theorem dX7_differ_0 : decode cX7_differ 0 = .ok (.aload_n 0, 1) := by decide +kernel
