theorem dX7_differ_1 : decode cX7_differ 1 = .ok (.iload_n 1, 1) := by decide +kernel
theorem dX7_differ_2 : decode cX7_differ 2 = .ok (.invokevirtual 113, 3) := by decide +kernel
theorem dX7_differ_5 : decode cX7_differ 5 = .ok (.astore_n 3, 1) := by decide +kernel
theorem dX7_differ_6 : decode cX7_differ 6 = .ok (.aload_n 0, 1) := by decide +kernel
theorem dX7_differ_7 : decode cX7_differ 7 = .ok (.iload_n 2, 1) := by decide +kernel
theorem dX7_differ_8 : decode cX7_differ 8 = .ok (.invokevirtual 113, 3) := by decide +kernel
theorem dX7_differ_11 : decode cX7_differ 11 = .ok (.astore 4, 2) := by decide +kernel
theorem dX7_differ_13 : decode cX7_differ 13 = .ok (.aload_n 3, 1) := by decide +kernel
theorem dX7_differ_14 : decode cX7_differ 14 = .ok (.ifnull 8, 3) := by decide +kernel
theorem dX7_differ_17 : decode cX7_differ 17 = .ok (.aload 4, 2) := by decide +kernel
theorem dX7_differ_19 : decode cX7_differ 19 = .ok (.ifnonnull 6, 3) := by decide +kernel
theorem dX7_differ_22 : decode cX7_differ 22 = .ok (.bipush (-101), 2) := by decide +kernel
theorem dX7_differ_24 : decode cX7_differ 24 = .ok (.ireturn, 1) := by decide +kernel
theorem dX7_differ_25 : decode cX7_differ 25 = .ok (.iconst 0, 1) := by decide +kernel
theorem dX7_differ_26 : decode cX7_differ 26 = .ok (.istore 5, 2) := by decide +kernel
theorem dX7_differ_28 : decode cX7_differ 28 = .ok (.iload 5, 2) := by decide +kernel
theorem dX7_differ_30 : decode cX7_differ 30 = .ok (.bipush 6, 2) := by decide +kernel
theorem dX7_differ_32 : decode cX7_differ 32 = .ok (.if_icmp .ge 39, 3) := by decide +kernel
theorem dX7_differ_35 : decode cX7_differ 35 = .ok (.aload_n 0, 1) := by decide +kernel
theorem dX7_differ_36 : decode cX7_differ 36 = .ok (.getfield 39, 3) := by decide +kernel
theorem dX7_differ_39 : decode cX7_differ 39 = .ok (.iload 5, 2) := by decide +kernel
theorem dX7_differ_41 : decode cX7_differ 41 = .ok (.invokestatic 85, 3) := by decide +kernel
theorem dX7_differ_44 : decode cX7_differ 44 = .ok (.istore 6, 2) := by decide +kernel
theorem dX7_differ_46 : decode cX7_differ 46 = .ok (.aload_n 3, 1) := by decide +kernel
theorem dX7_differ_47 : decode cX7_differ 47 = .ok (.iload 6, 2) := by decide +kernel
theorem dX7_differ_49 : decode cX7_differ 49 = .ok (.invokevirtual 116, 3) := by decide +kernel
theorem dX7_differ_52 : decode cX7_differ 52 = .ok (.aload 4, 2) := by decide +kernel
theorem dX7_differ_54 : decode cX7_differ 54 = .ok (.iload 6, 2) := by decide +kernel
theorem dX7_differ_56 : decode cX7_differ 56 = .ok (.invokevirtual 116, 3) := by decide +kernel
theorem dX7_differ_59 : decode cX7_differ 59 = .ok (.if_icmp .eq 6, 3) := by decide +kernel
theorem dX7_differ_62 : decode cX7_differ 62 = .ok (.iload 5, 2) := by decide +kernel
theorem dX7_differ_64 : decode cX7_differ 64 = .ok (.ireturn, 1) := by decide +kernel
theorem dX7_differ_65 : decode cX7_differ 65 = .ok (.iinc 5 1, 3) := by decide +kernel
theorem dX7_differ_68 : decode cX7_differ 68 = .ok (.goto (-40), 3) := by decide +kernel
theorem dX7_differ_71 : decode cX7_differ 71 = .ok (.iconst (-1), 1) := by decide +kernel
theorem dX7_differ_72 : decode cX7_differ 72 = .ok (.ireturn, 1) := by decide +kernel
set_option maxRecDepth 20000 in
theorem ggX7_alike_X7_known : GoodIn wsX7_alike wsX7_known := goodIn_r _ [5, 6, 7, 48, 49, 50, 51, 52, 53, 54, 55, 56, 57, 58, 59, 60, 61, 62, 63] (by decide +kernel) (by decide +kernel)
set_option maxRecDepth 20000 in
theorem gX7_alike_X7_known : GoodIn wsX7_alike (wsV RX7 113 RX7 yX7_known wsX7_known) := goodIn_app (goodIn_of _ (by decide +kernel)) ggX7_alike_X7_known
set_option maxRecDepth 20000 in
theorem ggX7_alike_X0_glimpse : GoodIn wsX7_alike wsX0_glimpse := goodIn_r _ [14, 15, 16, 17, 18, 64, 65, 66, 67, 68, 69, 70, 71, 72, 73, 74, 75, 76, 77, 78, 79, 80, 81, 82, 83, 84, 85, 86, 87, 88, 89, 90, 91, 92, 93] (by decide +kernel) (by decide +kernel)
set_option maxRecDepth 20000 in
theorem gX7_alike_X0_glimpse_u116X0 : GoodIn wsX7_alike (va_wsO RX7 116 RX0 "EachEye$Person" ⟨"EachEye$Person", "glimpse", "(I)I"⟩ yX0_glimpse wsX0_glimpse) := goodIn_app (goodIn_of _ (by decide +kernel)) ggX7_alike_X0_glimpse
set_option maxRecDepth 20000 in
theorem ggX7_alike_X2_glimpse : GoodIn wsX7_alike wsX2_glimpse := goodIn_r _ [23, 24, 25, 26, 27, 64, 65, 66, 67, 68, 69, 70, 71, 72, 73, 74, 75, 76, 77, 78, 79, 80, 81, 82, 83, 84, 85, 86, 87, 88, 89, 90, 91, 92, 93] (by decide +kernel) (by decide +kernel)
set_option maxRecDepth 20000 in
theorem gX7_alike_X2_glimpse_u116X2 : GoodIn wsX7_alike (va_wsO RX7 116 RX2 "EachEye$Person" ⟨"EachEye$Person", "glimpse", "(I)I"⟩ yX2_glimpse wsX2_glimpse) := goodIn_app (goodIn_of _ (by decide +kernel)) ggX7_alike_X2_glimpse
set_option maxRecDepth 20000 in
theorem ggX7_alike_X4_glimpse : GoodIn wsX7_alike wsX4_glimpse := goodIn_r _ [19, 32, 33, 64, 65, 66, 67, 68, 69, 70, 71, 72, 73, 74, 75, 76, 77, 78, 79, 80, 81, 82, 83, 84, 85, 86, 87, 88, 89, 90, 91, 92, 93] (by decide +kernel) (by decide +kernel)
set_option maxRecDepth 20000 in
theorem gX7_alike_X4_glimpse : GoodIn wsX7_alike (wsV RX7 116 RX4 yX4_glimpse wsX4_glimpse) := goodIn_app (goodIn_of _ (by decide +kernel)) ggX7_alike_X4_glimpse
set_option maxRecDepth 20000 in
theorem ggX7_alike_X5_glimpse : GoodIn wsX7_alike wsX5_glimpse := goodIn_r _ [37, 38, 39, 64, 65, 66, 67, 68, 69, 70, 71, 72, 73, 74, 75, 76, 77, 78, 79, 80, 81, 82, 83, 84, 85, 86, 87, 88, 89, 90, 91, 92, 93] (by decide +kernel) (by decide +kernel)
set_option maxRecDepth 20000 in
theorem gX7_alike_X5_glimpse_u116X5 : GoodIn wsX7_alike (va_wsO RX7 116 RX5 "EachEye$Person" ⟨"EachEye$Person", "glimpse", "(I)I"⟩ yX5_glimpse wsX5_glimpse) := goodIn_app (goodIn_of _ (by decide +kernel)) ggX7_alike_X5_glimpse
set_option maxRecDepth 20000 in
theorem ggX7_alike_X6_glimpse : GoodIn wsX7_alike wsX6_glimpse := goodIn_r _ [43, 44, 45, 46, 47, 64, 65, 66, 67, 68, 69, 70, 71, 72, 73, 74, 75, 76, 77, 78, 79, 80, 81, 82, 83, 84, 85, 86, 87, 88, 89, 90, 91, 92, 93] (by decide +kernel) (by decide +kernel)
set_option maxRecDepth 20000 in
theorem gX7_alike_X6_glimpse_u116X6 : GoodIn wsX7_alike (va_wsO RX7 116 RX6 "EachEye$Person" ⟨"EachEye$Person", "glimpse", "(I)I"⟩ yX6_glimpse wsX6_glimpse) := goodIn_app (goodIn_of _ (by decide +kernel)) ggX7_alike_X6_glimpse
theorem dX7_alike_0 : decode cX7_alike 0 = .ok (.aload_n 0, 1) := by decide +kernel
theorem dX7_alike_1 : decode cX7_alike 1 = .ok (.iload_n 1, 1) := by decide +kernel
theorem dX7_alike_2 : decode cX7_alike 2 = .ok (.invokevirtual 113, 3) := by decide +kernel
theorem dX7_alike_5 : decode cX7_alike 5 = .ok (.astore_n 3, 1) := by decide +kernel
theorem dX7_alike_6 : decode cX7_alike 6 = .ok (.aload_n 0, 1) := by decide +kernel
theorem dX7_alike_7 : decode cX7_alike 7 = .ok (.iload_n 2, 1) := by decide +kernel
theorem dX7_alike_8 : decode cX7_alike 8 = .ok (.invokevirtual 113, 3) := by decide +kernel
theorem dX7_alike_11 : decode cX7_alike 11 = .ok (.astore 4, 2) := by decide +kernel
theorem dX7_alike_13 : decode cX7_alike 13 = .ok (.aload_n 3, 1) := by decide +kernel
theorem dX7_alike_14 : decode cX7_alike 14 = .ok (.ifnull 8, 3) := by decide +kernel
theorem dX7_alike_17 : decode cX7_alike 17 = .ok (.aload 4, 2) := by decide +kernel
theorem dX7_alike_19 : decode cX7_alike 19 = .ok (.ifnonnull 6, 3) := by decide +kernel
theorem dX7_alike_22 : decode cX7_alike 22 = .ok (.bipush (-101), 2) := by decide +kernel
theorem dX7_alike_24 : decode cX7_alike 24 = .ok (.ireturn, 1) := by decide +kernel
theorem dX7_alike_25 : decode cX7_alike 25 = .ok (.iconst 0, 1) := by decide +kernel
theorem dX7_alike_26 : decode cX7_alike 26 = .ok (.istore 5, 2) := by decide +kernel
theorem dX7_alike_28 : decode cX7_alike 28 = .ok (.iconst 0, 1) := by decide +kernel
theorem dX7_alike_29 : decode cX7_alike 29 = .ok (.istore 6, 2) := by decide +kernel
theorem dX7_alike_31 : decode cX7_alike 31 = .ok (.iload 6, 2) := by decide +kernel
theorem dX7_alike_33 : decode cX7_alike 33 = .ok (.bipush 8, 2) := by decide +kernel
theorem dX7_alike_35 : decode cX7_alike 35 = .ok (.if_icmp .ge 28, 3) := by decide +kernel
theorem dX7_alike_38 : decode cX7_alike 38 = .ok (.aload_n 3, 1) := by decide +kernel
theorem dX7_alike_39 : decode cX7_alike 39 = .ok (.iload 6, 2) := by decide +kernel
theorem dX7_alike_41 : decode cX7_alike 41 = .ok (.invokevirtual 116, 3) := by decide +kernel
theorem dX7_alike_44 : decode cX7_alike 44 = .ok (.aload 4, 2) := by decide +kernel
theorem dX7_alike_46 : decode cX7_alike 46 = .ok (.iload 6, 2) := by decide +kernel
theorem dX7_alike_48 : decode cX7_alike 48 = .ok (.invokevirtual 116, 3) := by decide +kernel
theorem dX7_alike_51 : decode cX7_alike 51 = .ok (.if_icmp .ne 6, 3) := by decide +kernel
theorem dX7_alike_54 : decode cX7_alike 54 = .ok (.iinc 5 1, 3) := by decide +kernel
theorem dX7_alike_57 : decode cX7_alike 57 = .ok (.iinc 6 1, 3) := by decide +kernel
theorem dX7_alike_60 : decode cX7_alike 60 = .ok (.goto (-29), 3) := by decide +kernel
theorem dX7_alike_63 : decode cX7_alike 63 = .ok (.iload 5, 2) := by decide +kernel
theorem dX7_alike_65 : decode cX7_alike 65 = .ok (.ireturn, 1) := by decide +kernel
set_option maxRecDepth 20000 in
theorem ggX7_few_X7_fewestInks : GoodIn wsX7_few wsX7_fewestInks := goodIn_r _ [6, 7, 8, 9, 10, 11, 12, 13, 14, 15, 16, 17, 5, 18, 19, 20, 21, 22, 1, 23, 24, 25, 26, 27, 28, 29, 30, 31, 32, 33, 34, 35, 36, 37, 38, 39, 40, 41, 42, 43, 44, 45, 46, 47, 48, 49, 50, 51, 52, 53, 54, 55, 56, 57, 58, 59, 60, 61, 62, 63, 64, 65, 66, 67, 68, 69, 70, 71, 72, 73, 74, 75, 76, 77, 78, 79, 80, 81, 82, 83, 84, 85, 86, 87, 88, 89, 90, 91, 92, 93, 94, 95, 96, 97, 98, 99, 100, 101, 102, 103, 104, 105, 106, 107, 108, 109, 110, 111, 112, 113, 114, 115, 116, 117, 118, 119, 120, 121, 122, 123, 124, 125, 126, 127, 128, 129, 130] (by decide +kernel) (by decide +kernel)
set_option maxRecDepth 20000 in
theorem gX7_few_X7_fewestInks : GoodIn wsX7_few (wsV RX7 136 RX7 yX7_fewestInks wsX7_fewestInks) := goodIn_app (goodIn_of _ (by decide +kernel)) ggX7_few_X7_fewestInks
set_option maxRecDepth 20000 in
theorem ggX7_few_J6_bitCount_0f7a4 : GoodIn wsX7_few wsJ6_bitCount_0f7a4 := goodIn_r _ [11, 12, 13, 14] (by decide +kernel) (by decide +kernel)
set_option maxRecDepth 20000 in
theorem gX7_few_J6_bitCount_0f7a4 : GoodIn wsX7_few (va_wsS RX7 139 yJ6_bitCount_0f7a4 wsJ6_bitCount_0f7a4) := goodIn_app (goodIn_of _ (by decide +kernel)) ggX7_few_J6_bitCount_0f7a4
theorem dX7_few_0 : decode cX7_few 0 = .ok (.iload_n 1, 1) := by decide +kernel
theorem dX7_few_1 : decode cX7_few 1 = .ok (.ifCond .lt 8, 3) := by decide +kernel
theorem dX7_few_4 : decode cX7_few 4 = .ok (.iload_n 1, 1) := by decide +kernel
theorem dX7_few_5 : decode cX7_few 5 = .ok (.iconst 1, 1) := by decide +kernel
theorem dX7_few_6 : decode cX7_few 6 = .ok (.if_icmp .le 6, 3) := by decide +kernel
theorem dX7_few_9 : decode cX7_few 9 = .ok (.bipush (-102), 2) := by decide +kernel
theorem dX7_few_11 : decode cX7_few 11 = .ok (.ireturn, 1) := by decide +kernel
theorem dX7_few_12 : decode cX7_few 12 = .ok (.aload_n 0, 1) := by decide +kernel
theorem dX7_few_13 : decode cX7_few 13 = .ok (.getfield 39, 3) := by decide +kernel
theorem dX7_few_16 : decode cX7_few 16 = .ok (.iconst (-1), 1) := by decide +kernel
theorem dX7_few_17 : decode cX7_few 17 = .ok (.if_icmp .ne 6, 3) := by decide +kernel
theorem dX7_few_20 : decode cX7_few 20 = .ok (.bipush (-103), 2) := by decide +kernel
theorem dX7_few_22 : decode cX7_few 22 = .ok (.ireturn, 1) := by decide +kernel
theorem dX7_few_23 : decode cX7_few 23 = .ok (.aload_n 0, 1) := by decide +kernel
theorem dX7_few_24 : decode cX7_few 24 = .ok (.invokevirtual 136, 3) := by decide +kernel
theorem dX7_few_27 : decode cX7_few 27 = .ok (.istore_n 2, 1) := by decide +kernel
theorem dX7_few_28 : decode cX7_few 28 = .ok (.iload_n 2, 1) := by decide +kernel
theorem dX7_few_29 : decode cX7_few 29 = .ok (.iconst (-1), 1) := by decide +kernel
theorem dX7_few_30 : decode cX7_few 30 = .ok (.if_icmp .ne 5, 3) := by decide +kernel
theorem dX7_few_33 : decode cX7_few 33 = .ok (.iconst (-1), 1) := by decide +kernel
theorem dX7_few_34 : decode cX7_few 34 = .ok (.ireturn, 1) := by decide +kernel
theorem dX7_few_35 : decode cX7_few 35 = .ok (.iload_n 1, 1) := by decide +kernel
theorem dX7_few_36 : decode cX7_few 36 = .ok (.ifCond .ne 10, 3) := by decide +kernel
theorem dX7_few_39 : decode cX7_few 39 = .ok (.iload_n 2, 1) := by decide +kernel
theorem dX7_few_40 : decode cX7_few 40 = .ok (.invokestatic 139, 3) := by decide +kernel
theorem dX7_few_43 : decode cX7_few 43 = .ok (.goto 4, 3) := by decide +kernel
theorem dX7_few_46 : decode cX7_few 46 = .ok (.iload_n 2, 1) := by decide +kernel
theorem dX7_few_47 : decode cX7_few 47 = .ok (.ireturn, 1) := by decide +kernel
set_option maxRecDepth 20000 in
theorem ggX7_card_X7_isHue : GoodIn wsX7_card wsX7_isHue := goodIn_r _ [5] (by decide +kernel) (by decide +kernel)
set_option maxRecDepth 20000 in
theorem gX7_card_X7_isHue : GoodIn wsX7_card (va_wsS RX7 104 yX7_isHue wsX7_isHue) := goodIn_app (goodIn_of _ (by decide +kernel)) ggX7_card_X7_isHue
set_option maxRecDepth 20000 in
theorem ggX7_card_X1_put : GoodIn wsX7_card wsX1_put := goodIn_r _ [10, 11, 12, 13, 30, 31, 32, 33, 34, 35] (by decide +kernel) (by decide +kernel)
set_option maxRecDepth 20000 in
theorem gX7_card_X1_put : GoodIn wsX7_card (wsV RX7 145 RX1 yX1_put wsX1_put) := goodIn_app (goodIn_of _ (by decide +kernel)) ggX7_card_X1_put
theorem dX7_card_0 : decode cX7_card 0 = .ok (.iload_n 1, 1) := by decide +kernel
theorem dX7_card_1 : decode cX7_card 1 = .ok (.invokestatic 104, 3) := by decide +kernel
theorem dX7_card_4 : decode cX7_card 4 = .ok (.ifCond .eq 10, 3) := by decide +kernel
theorem dX7_card_7 : decode cX7_card 7 = .ok (.iload_n 2, 1) := by decide +kernel
theorem dX7_card_8 : decode cX7_card 8 = .ok (.invokestatic 104, 3) := by decide +kernel
theorem dX7_card_11 : decode cX7_card 11 = .ok (.ifCond .ne 6, 3) := by decide +kernel
theorem dX7_card_14 : decode cX7_card 14 = .ok (.bipush (-102), 2) := by decide +kernel
theorem dX7_card_16 : decode cX7_card 16 = .ok (.ireturn, 1) := by decide +kernel
theorem dX7_card_17 : decode cX7_card 17 = .ok (.aload_n 0, 1) := by decide +kernel
theorem dX7_card_18 : decode cX7_card 18 = .ok (.getfield 29, 3) := by decide +kernel
theorem dX7_card_21 : decode cX7_card 21 = .ok (.getfield 144, 3) := by decide +kernel
theorem dX7_card_24 : decode cX7_card 24 = .ok (.bipush 8, 2) := by decide +kernel
theorem dX7_card_26 : decode cX7_card 26 = .ok (.if_icmp .lt 6, 3) := by decide +kernel
theorem dX7_card_29 : decode cX7_card 29 = .ok (.bipush (-104), 2) := by decide +kernel
theorem dX7_card_31 : decode cX7_card 31 = .ok (.ireturn, 1) := by decide +kernel
theorem dX7_card_32 : decode cX7_card 32 = .ok (.aload_n 0, 1) := by decide +kernel
theorem dX7_card_33 : decode cX7_card 33 = .ok (.getfield 29, 3) := by decide +kernel
theorem dX7_card_36 : decode cX7_card 36 = .ok (.iload_n 1, 1) := by decide +kernel
theorem dX7_card_37 : decode cX7_card 37 = .ok (.iload_n 2, 1) := by decide +kernel
theorem dX7_card_38 : decode cX7_card 38 = .ok (.invokevirtual 145, 3) := by decide +kernel
theorem dX7_card_41 : decode cX7_card 41 = .ok (.aload_n 0, 1) := by decide +kernel
theorem dX7_card_42 : decode cX7_card 42 = .ok (.getfield 29, 3) := by decide +kernel
theorem dX7_card_45 : decode cX7_card 45 = .ok (.getfield 144, 3) := by decide +kernel
theorem dX7_card_48 : decode cX7_card 48 = .ok (.ireturn, 1) := by decide +kernel
set_option maxRecDepth 20000 in
theorem ggX7_forget_X1_clear : GoodIn wsX7_forget wsX1_clear := goodIn_r _ [6, 7, 24, 25, 26, 27, 28, 29] (by decide +kernel) (by decide +kernel)
set_option maxRecDepth 20000 in
theorem gX7_forget_X1_clear : GoodIn wsX7_forget (wsV RX7 76 RX1 yX1_clear wsX1_clear) := goodIn_app (goodIn_of _ (by decide +kernel)) ggX7_forget_X1_clear
theorem dX7_forget_0 : decode cX7_forget 0 = .ok (.aload_n 0, 1) := by decide +kernel
theorem dX7_forget_1 : decode cX7_forget 1 = .ok (.getfield 29, 3) := by decide +kernel
theorem dX7_forget_4 : decode cX7_forget 4 = .ok (.getfield 144, 3) := by decide +kernel
theorem dX7_forget_7 : decode cX7_forget 7 = .ok (.istore_n 1, 1) := by decide +kernel
theorem dX7_forget_8 : decode cX7_forget 8 = .ok (.aload_n 0, 1) := by decide +kernel
theorem dX7_forget_9 : decode cX7_forget 9 = .ok (.getfield 29, 3) := by decide +kernel
theorem dX7_forget_12 : decode cX7_forget 12 = .ok (.invokevirtual 76, 3) := by decide +kernel
theorem dX7_forget_15 : decode cX7_forget 15 = .ok (.iload_n 1, 1) := by decide +kernel
theorem dX7_forget_16 : decode cX7_forget 16 = .ok (.ireturn, 1) := by decide +kernel
set_option maxRecDepth 20000 in
theorem ggX7_who_X7_candidate : GoodIn wsX7_who wsX7_candidate := goodIn_r _ [7, 8, 9, 10, 6, 11, 12, 13, 14, 15, 16, 17, 66, 67, 68, 69, 70, 71, 72, 73, 74, 75, 76, 77, 78, 79, 80, 81, 82, 83, 84, 85, 86, 87, 88, 89, 90, 91, 92, 93, 94, 95, 96, 97, 98, 99, 100, 101, 102, 103, 104, 105, 106, 107, 108, 109, 110, 111] (by decide +kernel) (by decide +kernel)
set_option maxRecDepth 20000 in
theorem gX7_who_X7_candidate : GoodIn wsX7_who (wsV RX7 151 RX7 yX7_candidate wsX7_candidate) := goodIn_app (goodIn_of _ (by decide +kernel)) ggX7_who_X7_candidate
set_option maxRecDepth 20000 in
theorem ggX7_who_X1_fit : GoodIn wsX7_who wsX1_fit := goodIn_r _ [22, 23, 24, 25, 26, 27, 28, 29, 30, 31, 32, 33, 34, 35, 36, 37, 38, 39, 40, 41, 42, 43, 44, 45, 46, 47, 48, 49, 50, 51, 52, 53, 54, 55, 56, 57, 58, 59, 60, 61, 62, 63, 64, 65, 112, 113, 114, 115, 116, 117, 82, 83, 84, 85, 86, 87, 88, 89, 90, 91, 92, 93, 94, 95, 96, 97, 98, 99, 100, 101, 102, 103, 104, 105, 106, 107, 108, 109, 110, 111] (by decide +kernel) (by decide +kernel)
set_option maxRecDepth 20000 in
theorem gX7_who_X1_fit : GoodIn wsX7_who (wsV RX7 154 RX1 yX1_fit wsX1_fit) := goodIn_app (goodIn_of _ (by decide +kernel)) ggX7_who_X1_fit
theorem dX7_who_0 : decode cX7_who 0 = .ok (.iload_n 1, 1) := by decide +kernel
theorem dX7_who_1 : decode cX7_who 1 = .ok (.ifCond .lt 8, 3) := by decide +kernel
theorem dX7_who_4 : decode cX7_who 4 = .ok (.iload_n 1, 1) := by decide +kernel
theorem dX7_who_5 : decode cX7_who 5 = .ok (.iconst 1, 1) := by decide +kernel
theorem dX7_who_6 : decode cX7_who 6 = .ok (.if_icmp .le 6, 3) := by decide +kernel
theorem dX7_who_9 : decode cX7_who 9 = .ok (.bipush (-102), 2) := by decide +kernel
theorem dX7_who_11 : decode cX7_who 11 = .ok (.ireturn, 1) := by decide +kernel
theorem dX7_who_12 : decode cX7_who 12 = .ok (.aload_n 0, 1) := by decide +kernel
theorem dX7_who_13 : decode cX7_who 13 = .ok (.getfield 148, 3) := by decide +kernel
theorem dX7_who_16 : decode cX7_who 16 = .ok (.bipush 60, 2) := by decide +kernel
theorem dX7_who_18 : decode cX7_who 18 = .ok (.if_icmp .lt 6, 3) := by decide +kernel
theorem dX7_who_21 : decode cX7_who 21 = .ok (.bipush (-103), 2) := by decide +kernel
theorem dX7_who_23 : decode cX7_who 23 = .ok (.ireturn, 1) := by decide +kernel
theorem dX7_who_24 : decode cX7_who 24 = .ok (.aload_n 0, 1) := by decide +kernel
theorem dX7_who_25 : decode cX7_who 25 = .ok (.dup, 1) := by decide +kernel
theorem dX7_who_26 : decode cX7_who 26 = .ok (.getfield 148, 3) := by decide +kernel
theorem dX7_who_29 : decode cX7_who 29 = .ok (.iconst 1, 1) := by decide +kernel
theorem dX7_who_30 : decode cX7_who 30 = .ok (.iadd, 1) := by decide +kernel
theorem dX7_who_31 : decode cX7_who 31 = .ok (.putfield 148, 3) := by decide +kernel
theorem dX7_who_34 : decode cX7_who 34 = .ok (.iconst 0, 1) := by decide +kernel
theorem dX7_who_35 : decode cX7_who 35 = .ok (.istore_n 2, 1) := by decide +kernel
theorem dX7_who_36 : decode cX7_who 36 = .ok (.iconst (-1), 1) := by decide +kernel
theorem dX7_who_37 : decode cX7_who 37 = .ok (.istore_n 3, 1) := by decide +kernel
theorem dX7_who_38 : decode cX7_who 38 = .ok (.sipush 319, 3) := by decide +kernel
theorem dX7_who_41 : decode cX7_who 41 = .ok (.istore 4, 2) := by decide +kernel
theorem dX7_who_43 : decode cX7_who 43 = .ok (.iload 4, 2) := by decide +kernel
theorem dX7_who_45 : decode cX7_who 45 = .ok (.ifCond .lt 31, 3) := by decide +kernel
theorem dX7_who_48 : decode cX7_who 48 = .ok (.aload_n 0, 1) := by decide +kernel
theorem dX7_who_49 : decode cX7_who 49 = .ok (.getfield 29, 3) := by decide +kernel
theorem dX7_who_52 : decode cX7_who 52 = .ok (.aload_n 0, 1) := by decide +kernel
theorem dX7_who_53 : decode cX7_who 53 = .ok (.iload 4, 2) := by decide +kernel
theorem dX7_who_55 : decode cX7_who 55 = .ok (.invokevirtual 151, 3) := by decide +kernel
theorem dX7_who_58 : decode cX7_who 58 = .ok (.invokevirtual 154, 3) := by decide +kernel
theorem dX7_who_61 : decode cX7_who 61 = .ok (.ifCond .eq 9, 3) := by decide +kernel
theorem dX7_who_64 : decode cX7_who 64 = .ok (.iinc 2 1, 3) := by decide +kernel
theorem dX7_who_67 : decode cX7_who 67 = .ok (.iload 4, 2) := by decide +kernel
theorem dX7_who_69 : decode cX7_who 69 = .ok (.istore_n 3, 1) := by decide +kernel
theorem dX7_who_70 : decode cX7_who 70 = .ok (.iinc 4 (-1), 3) := by decide +kernel
theorem dX7_who_73 : decode cX7_who 73 = .ok (.goto (-30), 3) := by decide +kernel
theorem dX7_who_76 : decode cX7_who 76 = .ok (.iload_n 1, 1) := by decide +kernel
theorem dX7_who_77 : decode cX7_who 77 = .ok (.ifCond .ne 7, 3) := by decide +kernel
theorem dX7_who_80 : decode cX7_who 80 = .ok (.iload_n 2, 1) := by decide +kernel
theorem dX7_who_81 : decode cX7_who 81 = .ok (.goto 4, 3) := by decide +kernel
theorem dX7_who_84 : decode cX7_who 84 = .ok (.iload_n 3, 1) := by decide +kernel
theorem dX7_who_85 : decode cX7_who 85 = .ok (.ireturn, 1) := by decide +kernel
set_option maxRecDepth 20000 in
theorem ggX7_next_X7_countSayings : GoodIn wsX7_next wsX7_countSayings := goodIn_r _ [6, 7, 8, 9, 10, 11, 5, 12, 13, 14, 15, 16, 17, 18, 19, 20, 21, 22, 23, 24, 25, 26, 27, 28, 29, 30, 31, 32, 33, 34, 35, 36, 37, 38, 39, 40, 41, 42, 43, 44, 45, 46, 47, 48, 49, 50, 51, 52, 53, 54, 55, 56, 57, 58, 59, 60, 61, 62, 63, 64, 65, 66, 67, 68, 69, 70, 71, 72, 73, 74, 75, 84, 85, 86, 87, 88, 89, 90, 91, 92, 93, 94, 95, 96, 97, 98, 99, 100, 101, 102, 103, 104, 105, 106, 107, 108, 109, 110, 111, 112, 113, 114, 115, 116, 117, 118, 119, 120, 121, 122, 123, 124, 125, 126, 127, 128, 129, 130, 131, 132, 133, 134, 135] (by decide +kernel) (by decide +kernel)
set_option maxRecDepth 20000 in
theorem gX7_next_X7_countSayings : GoodIn wsX7_next (wsV RX7 158 RX7 yX7_countSayings wsX7_countSayings) := goodIn_app (goodIn_of _ (by decide +kernel)) ggX7_next_X7_countSayings
set_option maxRecDepth 20000 in
theorem ggX7_next_X7_worstLeft : GoodIn wsX7_next wsX7_worstLeft := goodIn_r _ [79, 7, 80, 81, 82, 83, 84, 85, 86, 87, 88, 89, 90, 91, 92, 93, 94, 95, 96, 97, 98, 99] (by decide +kernel) (by decide +kernel)
set_option maxRecDepth 20000 in
theorem gX7_next_X7_worstLeft : GoodIn wsX7_next (wsV RX7 161 RX7 yX7_worstLeft wsX7_worstLeft) := goodIn_app (goodIn_of _ (by decide +kernel)) ggX7_next_X7_worstLeft
theorem dX7_next_0 : decode cX7_next 0 = .ok (.aload_n 0, 1) := by decide +kernel
theorem dX7_next_1 : decode cX7_next 1 = .ok (.getfield 148, 3) := by decide +kernel
theorem dX7_next_4 : decode cX7_next 4 = .ok (.bipush 60, 2) := by decide +kernel
theorem dX7_next_6 : decode cX7_next 6 = .ok (.if_icmp .lt 6, 3) := by decide +kernel
theorem dX7_next_9 : decode cX7_next 9 = .ok (.bipush (-103), 2) := by decide +kernel
theorem dX7_next_11 : decode cX7_next 11 = .ok (.ireturn, 1) := by decide +kernel
theorem dX7_next_12 : decode cX7_next 12 = .ok (.aload_n 0, 1) := by decide +kernel
theorem dX7_next_13 : decode cX7_next 13 = .ok (.dup, 1) := by decide +kernel
theorem dX7_next_14 : decode cX7_next 14 = .ok (.getfield 148, 3) := by decide +kernel
theorem dX7_next_17 : decode cX7_next 17 = .ok (.iconst 1, 1) := by decide +kernel
theorem dX7_next_18 : decode cX7_next 18 = .ok (.iadd, 1) := by decide +kernel
theorem dX7_next_19 : decode cX7_next 19 = .ok (.putfield 148, 3) := by decide +kernel
theorem dX7_next_22 : decode cX7_next 22 = .ok (.aload_n 0, 1) := by decide +kernel
theorem dX7_next_23 : decode cX7_next 23 = .ok (.invokevirtual 158, 3) := by decide +kernel
theorem dX7_next_26 : decode cX7_next 26 = .ok (.ifCond .ne 5, 3) := by decide +kernel
theorem dX7_next_29 : decode cX7_next 29 = .ok (.iconst (-1), 1) := by decide +kernel
theorem dX7_next_30 : decode cX7_next 30 = .ok (.ireturn, 1) := by decide +kernel
theorem dX7_next_31 : decode cX7_next 31 = .ok (.iconst 0, 1) := by decide +kernel
theorem dX7_next_32 : decode cX7_next 32 = .ok (.istore_n 1, 1) := by decide +kernel
theorem dX7_next_33 : decode cX7_next 33 = .ok (.aload_n 0, 1) := by decide +kernel
theorem dX7_next_34 : decode cX7_next 34 = .ok (.iconst 0, 1) := by decide +kernel
theorem dX7_next_35 : decode cX7_next 35 = .ok (.invokevirtual 161, 3) := by decide +kernel
theorem dX7_next_38 : decode cX7_next 38 = .ok (.istore_n 2, 1) := by decide +kernel
theorem dX7_next_39 : decode cX7_next 39 = .ok (.iconst 1, 1) := by decide +kernel
theorem dX7_next_40 : decode cX7_next 40 = .ok (.istore_n 3, 1) := by decide +kernel
theorem dX7_next_41 : decode cX7_next 41 = .ok (.iload_n 3, 1) := by decide +kernel
theorem dX7_next_42 : decode cX7_next 42 = .ok (.bipush 8, 2) := by decide +kernel
theorem dX7_next_44 : decode cX7_next 44 = .ok (.if_icmp .ge 27, 3) := by decide +kernel
theorem dX7_next_47 : decode cX7_next 47 = .ok (.aload_n 0, 1) := by decide +kernel
theorem dX7_next_48 : decode cX7_next 48 = .ok (.iload_n 3, 1) := by decide +kernel
theorem dX7_next_49 : decode cX7_next 49 = .ok (.invokevirtual 161, 3) := by decide +kernel
theorem dX7_next_52 : decode cX7_next 52 = .ok (.istore 4, 2) := by decide +kernel
theorem dX7_next_54 : decode cX7_next 54 = .ok (.iload 4, 2) := by decide +kernel
theorem dX7_next_56 : decode cX7_next 56 = .ok (.iload_n 2, 1) := by decide +kernel
theorem dX7_next_57 : decode cX7_next 57 = .ok (.if_icmp .ge 8, 3) := by decide +kernel
theorem dX7_next_60 : decode cX7_next 60 = .ok (.iload_n 3, 1) := by decide +kernel
theorem dX7_next_61 : decode cX7_next 61 = .ok (.istore_n 1, 1) := by decide +kernel
theorem dX7_next_62 : decode cX7_next 62 = .ok (.iload 4, 2) := by decide +kernel
theorem dX7_next_64 : decode cX7_next 64 = .ok (.istore_n 2, 1) := by decide +kernel
theorem dX7_next_65 : decode cX7_next 65 = .ok (.iinc 3 1, 3) := by decide +kernel
theorem dX7_next_68 : decode cX7_next 68 = .ok (.goto (-27), 3) := by decide +kernel
theorem dX7_next_71 : decode cX7_next 71 = .ok (.iload_n 1, 1) := by decide +kernel
theorem dX7_next_72 : decode cX7_next 72 = .ok (.ireturn, 1) := by decide +kernel
set_option maxRecDepth 20000 in
theorem ggX7_ageing_X7_known : GoodIn wsX7_ageing wsX7_known := goodIn_r _ [8, 9, 10, 148, 149, 150, 151, 152, 153, 154, 155, 156, 157, 158, 159, 160, 161, 162, 163] (by decide +kernel) (by decide +kernel)
set_option maxRecDepth 20000 in
theorem gX7_ageing_X7_known : GoodIn wsX7_ageing (wsV RX7 113 RX7 yX7_known wsX7_known) := goodIn_app (goodIn_of _ (by decide +kernel)) ggX7_ageing_X7_known
set_option maxRecDepth 20000 in
theorem ggX7_ageing_X0_kind : GoodIn wsX7_ageing wsX0_kind := goodIn_r _ [17] (by decide +kernel) (by decide +kernel)
set_option maxRecDepth 20000 in
theorem gX7_ageing_X0_kind_u123X0 : GoodIn wsX7_ageing (va_wsO RX7 123 RX0 "EachEye$Person" ⟨"EachEye$Person", "kind", "()I"⟩ yX0_kind wsX0_kind) := goodIn_app (goodIn_of _ (by decide +kernel)) ggX7_ageing_X0_kind
set_option maxRecDepth 20000 in
theorem ggX7_ageing_X2_kind : GoodIn wsX7_ageing wsX2_kind := goodIn_r _ [22] (by decide +kernel) (by decide +kernel)
set_option maxRecDepth 20000 in
theorem gX7_ageing_X2_kind_u123X2 : GoodIn wsX7_ageing (va_wsO RX7 123 RX2 "EachEye$Person" ⟨"EachEye$Person", "kind", "()I"⟩ yX2_kind wsX2_kind) := goodIn_app (goodIn_of _ (by decide +kernel)) ggX7_ageing_X2_kind
set_option maxRecDepth 20000 in
theorem ggX7_ageing_X4_kind : GoodIn wsX7_ageing wsX4_kind := goodIn_r _ [18] (by decide +kernel) (by decide +kernel)
set_option maxRecDepth 20000 in
theorem gX7_ageing_X4_kind : GoodIn wsX7_ageing (wsV RX7 123 RX4 yX4_kind wsX4_kind) := goodIn_app (goodIn_of _ (by decide +kernel)) ggX7_ageing_X4_kind
set_option maxRecDepth 20000 in
theorem ggX7_ageing_X5_kind : GoodIn wsX7_ageing wsX5_kind := goodIn_r _ [30] (by decide +kernel) (by decide +kernel)
set_option maxRecDepth 20000 in
theorem gX7_ageing_X5_kind_u123X5 : GoodIn wsX7_ageing (va_wsO RX7 123 RX5 "EachEye$Person" ⟨"EachEye$Person", "kind", "()I"⟩ yX5_kind wsX5_kind) := goodIn_app (goodIn_of _ (by decide +kernel)) ggX7_ageing_X5_kind
set_option maxRecDepth 20000 in
theorem ggX7_ageing_X6_kind : GoodIn wsX7_ageing wsX6_kind := goodIn_r _ [34] (by decide +kernel) (by decide +kernel)
set_option maxRecDepth 20000 in
theorem gX7_ageing_X6_kind_u123X6 : GoodIn wsX7_ageing (va_wsO RX7 123 RX6 "EachEye$Person" ⟨"EachEye$Person", "kind", "()I"⟩ yX6_kind wsX6_kind) := goodIn_app (goodIn_of _ (by decide +kernel)) ggX7_ageing_X6_kind
set_option maxRecDepth 20000 in
theorem ggX7_ageing_X7_trial : GoodIn wsX7_ageing wsX7_trial := goodIn_r _ [38, 39, 1, 2, 40, 41, 7, 42, 148, 149, 150, 151, 152, 153, 154, 155, 156, 157, 158, 159, 160, 161, 162, 163, 118, 119, 120, 121, 122, 123, 124, 125, 126, 127, 128, 129, 130, 131, 132, 133, 134, 135, 136, 137, 138, 139, 140, 141, 142, 143, 144, 145, 146, 147] (by decide +kernel) (by decide +kernel)
set_option maxRecDepth 20000 in
theorem gX7_ageing_X7_trial : GoodIn wsX7_ageing (wsV RX7 164 RX7 yX7_trial wsX7_trial) := goodIn_app (goodIn_of _ (by decide +kernel)) ggX7_ageing_X7_trial
set_option maxRecDepth 20000 in
theorem ggX7_ageing_X4_reading : GoodIn wsX7_ageing wsX4_reading := goodIn_r _ [47, 48, 7, 49, 50, 51, 52, 53, 54, 16, 55, 56, 57, 58, 59, 60, 61, 62, 21, 63, 64, 65, 66, 67, 68, 69, 70, 26, 71, 72, 73, 74, 29, 75, 76, 77, 78, 79, 33, 80, 81, 82, 83, 84, 85, 86, 118, 119, 120, 121, 122, 123, 124, 125, 126, 127, 128, 129, 130, 131, 132, 133, 134, 135, 136, 137, 138, 139, 140, 141, 142, 143, 144, 145, 146, 147] (by decide +kernel) (by decide +kernel)
set_option maxRecDepth 20000 in
theorem gX7_ageing_X4_reading_u168X0 : GoodIn wsX7_ageing (va_wsU RX7 168 RX0 "EachEye$Person" ⟨"EachEye$Person", "reading", "(I)I"⟩ yX4_reading wsX4_reading) := goodIn_app (goodIn_of _ (by decide +kernel)) ggX7_ageing_X4_reading
set_option maxRecDepth 20000 in
theorem gX7_ageing_X4_reading_u168X2 : GoodIn wsX7_ageing (va_wsU RX7 168 RX2 "EachEye$Person" ⟨"EachEye$Person", "reading", "(I)I"⟩ yX4_reading wsX4_reading) := goodIn_app (goodIn_of _ (by decide +kernel)) ggX7_ageing_X4_reading
set_option maxRecDepth 20000 in
theorem gX7_ageing_X4_reading : GoodIn wsX7_ageing (wsV RX7 168 RX4 yX4_reading wsX4_reading) := goodIn_app (goodIn_of _ (by decide +kernel)) ggX7_ageing_X4_reading
set_option maxRecDepth 20000 in
theorem gX7_ageing_X4_reading_u168X5 : GoodIn wsX7_ageing (va_wsU RX7 168 RX5 "EachEye$Person" ⟨"EachEye$Person", "reading", "(I)I"⟩ yX4_reading wsX4_reading) := goodIn_app (goodIn_of _ (by decide +kernel)) ggX7_ageing_X4_reading
set_option maxRecDepth 20000 in
theorem gX7_ageing_X4_reading_u168X6 : GoodIn wsX7_ageing (va_wsU RX7 168 RX6 "EachEye$Person" ⟨"EachEye$Person", "reading", "(I)I"⟩ yX4_reading wsX4_reading) := goodIn_app (goodIn_of _ (by decide +kernel)) ggX7_ageing_X4_reading
set_option maxRecDepth 20000 in
theorem ggX7_ageing_X7_nextSeed : GoodIn wsX7_ageing wsX7_nextSeed := goodIn_r _ [94, 95, 96, 97] (by decide +kernel) (by decide +kernel)
set_option maxRecDepth 20000 in
theorem gX7_ageing_X7_nextSeed : GoodIn wsX7_ageing (va_wsS RX7 171 yX7_nextSeed wsX7_nextSeed) := goodIn_app (goodIn_of _ (by decide +kernel)) ggX7_ageing_X7_nextSeed
set_option maxRecDepth 20000 in
theorem ggX7_ageing_X7_drawn : GoodIn wsX7_ageing wsX7_drawn := goodIn_r _ [100] (by decide +kernel) (by decide +kernel)
set_option maxRecDepth 20000 in
theorem gX7_ageing_X7_drawn : GoodIn wsX7_ageing (va_wsS RX7 174 yX7_drawn wsX7_drawn) := goodIn_app (goodIn_of _ (by decide +kernel)) ggX7_ageing_X7_drawn
set_option maxRecDepth 20000 in
theorem ggX7_ageing_X4_lose : GoodIn wsX7_ageing wsX4_lose := goodIn_r _ [105, 71, 72, 118, 119, 120, 121, 122, 123, 124, 125, 126, 127, 128, 129, 130, 131, 132, 133, 134, 135, 136, 137, 138, 139, 140, 141, 142, 143, 144, 145, 146, 147] (by decide +kernel) (by decide +kernel)
set_option maxRecDepth 20000 in
theorem gX7_ageing_X4_lose_u177X0 : GoodIn wsX7_ageing (va_wsU RX7 177 RX0 "EachEye$Person" ⟨"EachEye$Person", "lose", "(II)V"⟩ yX4_lose wsX4_lose) := goodIn_app (goodIn_of _ (by decide +kernel)) ggX7_ageing_X4_lose
set_option maxRecDepth 20000 in
theorem gX7_ageing_X4_lose_u177X2 : GoodIn wsX7_ageing (va_wsU RX7 177 RX2 "EachEye$Person" ⟨"EachEye$Person", "lose", "(II)V"⟩ yX4_lose wsX4_lose) := goodIn_app (goodIn_of _ (by decide +kernel)) ggX7_ageing_X4_lose
set_option maxRecDepth 20000 in
theorem gX7_ageing_X4_lose : GoodIn wsX7_ageing (wsV RX7 177 RX4 yX4_lose wsX4_lose) := goodIn_app (goodIn_of _ (by decide +kernel)) ggX7_ageing_X4_lose
set_option maxRecDepth 20000 in
theorem gX7_ageing_X4_lose_u177X5 : GoodIn wsX7_ageing (va_wsU RX7 177 RX5 "EachEye$Person" ⟨"EachEye$Person", "lose", "(II)V"⟩ yX4_lose wsX4_lose) := goodIn_app (goodIn_of _ (by decide +kernel)) ggX7_ageing_X4_lose
set_option maxRecDepth 20000 in
theorem gX7_ageing_X4_lose_u177X6 : GoodIn wsX7_ageing (va_wsU RX7 177 RX6 "EachEye$Person" ⟨"EachEye$Person", "lose", "(II)V"⟩ yX4_lose wsX4_lose) := goodIn_app (goodIn_of _ (by decide +kernel)) ggX7_ageing_X4_lose
set_option maxRecDepth 20000 in
theorem ggX7_ageing_J6_bitCount_0f7a4 : GoodIn wsX7_ageing wsJ6_bitCount_0f7a4 := goodIn_r _ [114, 115, 116, 117] (by decide +kernel) (by decide +kernel)
set_option maxRecDepth 20000 in
theorem gX7_ageing_J6_bitCount_0f7a4 : GoodIn wsX7_ageing (va_wsS RX7 139 yJ6_bitCount_0f7a4 wsJ6_bitCount_0f7a4) := goodIn_app (goodIn_of _ (by decide +kernel)) ggX7_ageing_J6_bitCount_0f7a4
theorem dX7_ageing_0 : decode cX7_ageing 0 = .ok (.aload_n 0, 1) := by decide +kernel
theorem dX7_ageing_1 : decode cX7_ageing 1 = .ok (.iload_n 1, 1) := by decide +kernel
theorem dX7_ageing_2 : decode cX7_ageing 2 = .ok (.invokevirtual 113, 3) := by decide +kernel
theorem dX7_ageing_5 : decode cX7_ageing 5 = .ok (.astore 5, 2) := by decide +kernel
theorem dX7_ageing_7 : decode cX7_ageing 7 = .ok (.aload 5, 2) := by decide +kernel
theorem dX7_ageing_9 : decode cX7_ageing 9 = .ok (.ifnonnull 6, 3) := by decide +kernel
theorem dX7_ageing_12 : decode cX7_ageing 12 = .ok (.bipush (-101), 2) := by decide +kernel
theorem dX7_ageing_14 : decode cX7_ageing 14 = .ok (.ireturn, 1) := by decide +kernel
theorem dX7_ageing_15 : decode cX7_ageing 15 = .ok (.iload_n 2, 1) := by decide +kernel
theorem dX7_ageing_16 : decode cX7_ageing 16 = .ok (.iconst 1, 1) := by decide +kernel
theorem dX7_ageing_17 : decode cX7_ageing 17 = .ok (.if_icmp .lt 24, 3) := by decide +kernel
theorem dX7_ageing_20 : decode cX7_ageing 20 = .ok (.iload_n 2, 1) := by decide +kernel
theorem dX7_ageing_21 : decode cX7_ageing 21 = .ok (.bipush 60, 2) := by decide +kernel
theorem dX7_ageing_23 : decode cX7_ageing 23 = .ok (.if_icmp .gt 18, 3) := by decide +kernel
theorem dX7_ageing_26 : decode cX7_ageing 26 = .ok (.iload_n 3, 1) := by decide +kernel
theorem dX7_ageing_27 : decode cX7_ageing 27 = .ok (.ifCond .lt 14, 3) := by decide +kernel
theorem dX7_ageing_30 : decode cX7_ageing 30 = .ok (.iload 4, 2) := by decide +kernel
theorem dX7_ageing_32 : decode cX7_ageing 32 = .ok (.ifCond .lt 9, 3) := by decide +kernel
theorem dX7_ageing_35 : decode cX7_ageing 35 = .ok (.iload 4, 2) := by decide +kernel
theorem dX7_ageing_37 : decode cX7_ageing 37 = .ok (.iconst 2, 1) := by decide +kernel
theorem dX7_ageing_38 : decode cX7_ageing 38 = .ok (.if_icmp .le 6, 3) := by decide +kernel
theorem dX7_ageing_41 : decode cX7_ageing 41 = .ok (.bipush (-102), 2) := by decide +kernel
theorem dX7_ageing_43 : decode cX7_ageing 43 = .ok (.ireturn, 1) := by decide +kernel
theorem dX7_ageing_44 : decode cX7_ageing 44 = .ok (.aload_n 0, 1) := by decide +kernel
theorem dX7_ageing_45 : decode cX7_ageing 45 = .ok (.aload 5, 2) := by decide +kernel
theorem dX7_ageing_47 : decode cX7_ageing 47 = .ok (.invokevirtual 123, 3) := by decide +kernel
theorem dX7_ageing_50 : decode cX7_ageing 50 = .ok (.aload 5, 2) := by decide +kernel
theorem dX7_ageing_52 : decode cX7_ageing 52 = .ok (.getfield 107, 3) := by decide +kernel
theorem dX7_ageing_55 : decode cX7_ageing 55 = .ok (.aload 5, 2) := by decide +kernel
theorem dX7_ageing_57 : decode cX7_ageing 57 = .ok (.getfield 110, 3) := by decide +kernel
theorem dX7_ageing_60 : decode cX7_ageing 60 = .ok (.invokevirtual 164, 3) := by decide +kernel
theorem dX7_ageing_63 : decode cX7_ageing 63 = .ok (.astore 6, 2) := by decide +kernel
theorem dX7_ageing_65 : decode cX7_ageing 65 = .ok (.aload 5, 2) := by decide +kernel
theorem dX7_ageing_67 : decode cX7_ageing 67 = .ok (.aload_n 0, 1) := by decide +kernel
theorem dX7_ageing_68 : decode cX7_ageing 68 = .ok (.getfield 39, 3) := by decide +kernel
theorem dX7_ageing_71 : decode cX7_ageing 71 = .ok (.invokevirtual 168, 3) := by decide +kernel
theorem dX7_ageing_74 : decode cX7_ageing 74 = .ok (.istore 7, 2) := by decide +kernel
theorem dX7_ageing_76 : decode cX7_ageing 76 = .ok (.iconst (-1), 1) := by decide +kernel
theorem dX7_ageing_77 : decode cX7_ageing 77 = .ok (.istore 8, 2) := by decide +kernel
theorem dX7_ageing_79 : decode cX7_ageing 79 = .ok (.iload_n 3, 1) := by decide +kernel
theorem dX7_ageing_80 : decode cX7_ageing 80 = .ok (.istore 9, 2) := by decide +kernel
theorem dX7_ageing_82 : decode cX7_ageing 82 = .ok (.iconst 1, 1) := by decide +kernel
theorem dX7_ageing_83 : decode cX7_ageing 83 = .ok (.istore 10, 2) := by decide +kernel
theorem dX7_ageing_85 : decode cX7_ageing 85 = .ok (.iload 10, 2) := by decide +kernel
theorem dX7_ageing_87 : decode cX7_ageing 87 = .ok (.iload_n 2, 1) := by decide +kernel
theorem dX7_ageing_88 : decode cX7_ageing 88 = .ok (.if_icmp .gt 69, 3) := by decide +kernel
theorem dX7_ageing_91 : decode cX7_ageing 91 = .ok (.iload 9, 2) := by decide +kernel
theorem dX7_ageing_93 : decode cX7_ageing 93 = .ok (.invokestatic 171, 3) := by decide +kernel
theorem dX7_ageing_96 : decode cX7_ageing 96 = .ok (.istore 9, 2) := by decide +kernel
theorem dX7_ageing_98 : decode cX7_ageing 98 = .ok (.iload 9, 2) := by decide +kernel
theorem dX7_ageing_100 : decode cX7_ageing 100 = .ok (.iconst 2, 1) := by decide +kernel
theorem dX7_ageing_101 : decode cX7_ageing 101 = .ok (.invokestatic 174, 3) := by decide +kernel
theorem dX7_ageing_104 : decode cX7_ageing 104 = .ok (.istore 11, 2) := by decide +kernel
theorem dX7_ageing_106 : decode cX7_ageing 106 = .ok (.iload 9, 2) := by decide +kernel
theorem dX7_ageing_108 : decode cX7_ageing 108 = .ok (.invokestatic 171, 3) := by decide +kernel
theorem dX7_ageing_111 : decode cX7_ageing 111 = .ok (.istore 9, 2) := by decide +kernel
theorem dX7_ageing_113 : decode cX7_ageing 113 = .ok (.aload 6, 2) := by decide +kernel
theorem dX7_ageing_115 : decode cX7_ageing 115 = .ok (.iload 11, 2) := by decide +kernel
theorem dX7_ageing_117 : decode cX7_ageing 117 = .ok (.iload 9, 2) := by decide +kernel
theorem dX7_ageing_119 : decode cX7_ageing 119 = .ok (.bipush 8, 2) := by decide +kernel
theorem dX7_ageing_121 : decode cX7_ageing 121 = .ok (.invokestatic 174, 3) := by decide +kernel
theorem dX7_ageing_124 : decode cX7_ageing 124 = .ok (.invokevirtual 177, 3) := by decide +kernel
theorem dX7_ageing_127 : decode cX7_ageing 127 = .ok (.iload 8, 2) := by decide +kernel
theorem dX7_ageing_129 : decode cX7_ageing 129 = .ok (.iconst (-1), 1) := by decide +kernel
theorem dX7_ageing_130 : decode cX7_ageing 130 = .ok (.if_icmp .ne 21, 3) := by decide +kernel
theorem dX7_ageing_133 : decode cX7_ageing 133 = .ok (.aload 6, 2) := by decide +kernel
theorem dX7_ageing_135 : decode cX7_ageing 135 = .ok (.aload_n 0, 1) := by decide +kernel
theorem dX7_ageing_136 : decode cX7_ageing 136 = .ok (.getfield 39, 3) := by decide +kernel
theorem dX7_ageing_139 : decode cX7_ageing 139 = .ok (.invokevirtual 168, 3) := by decide +kernel
theorem dX7_ageing_142 : decode cX7_ageing 142 = .ok (.iload 7, 2) := by decide +kernel
theorem dX7_ageing_144 : decode cX7_ageing 144 = .ok (.if_icmp .eq 7, 3) := by decide +kernel
theorem dX7_ageing_147 : decode cX7_ageing 147 = .ok (.iload 10, 2) := by decide +kernel
theorem dX7_ageing_149 : decode cX7_ageing 149 = .ok (.istore 8, 2) := by decide +kernel
theorem dX7_ageing_151 : decode cX7_ageing 151 = .ok (.iinc 10 1, 3) := by decide +kernel
theorem dX7_ageing_154 : decode cX7_ageing 154 = .ok (.goto (-69), 3) := by decide +kernel
theorem dX7_ageing_157 : decode cX7_ageing 157 = .ok (.iload 4, 2) := by decide +kernel
theorem dX7_ageing_159 : decode cX7_ageing 159 = .ok (.lookupswitch 46 #[(0, 25), (1, 28)], 25) := by decide +kernel
theorem dX7_ageing_184 : decode cX7_ageing 184 = .ok (.iload 8, 2) := by decide +kernel
theorem dX7_ageing_186 : decode cX7_ageing 186 = .ok (.ireturn, 1) := by decide +kernel
theorem dX7_ageing_187 : decode cX7_ageing 187 = .ok (.aload 6, 2) := by decide +kernel
theorem dX7_ageing_189 : decode cX7_ageing 189 = .ok (.getfield 107, 3) := by decide +kernel
theorem dX7_ageing_192 : decode cX7_ageing 192 = .ok (.invokestatic 139, 3) := by decide +kernel
theorem dX7_ageing_195 : decode cX7_ageing 195 = .ok (.aload 6, 2) := by decide +kernel
theorem dX7_ageing_197 : decode cX7_ageing 197 = .ok (.getfield 110, 3) := by decide +kernel
theorem dX7_ageing_200 : decode cX7_ageing 200 = .ok (.invokestatic 139, 3) := by decide +kernel
theorem dX7_ageing_203 : decode cX7_ageing 203 = .ok (.iadd, 1) := by decide +kernel
theorem dX7_ageing_204 : decode cX7_ageing 204 = .ok (.ireturn, 1) := by decide +kernel
theorem dX7_ageing_205 : decode cX7_ageing 205 = .ok (.iload 9, 2) := by decide +kernel
theorem dX7_ageing_207 : decode cX7_ageing 207 = .ok (.ireturn, 1) := by decide +kernel
set_option maxRecDepth 20000 in
theorem ggX7_image_X7_known : GoodIn wsX7_image wsX7_known := goodIn_r _ [14, 3, 15, 48, 49, 50, 51, 52, 53, 54, 55, 56, 57, 58, 59, 60, 61, 62, 63] (by decide +kernel) (by decide +kernel)
set_option maxRecDepth 20000 in
theorem gX7_image_X7_known : GoodIn wsX7_image (wsV RX7 113 RX7 yX7_known wsX7_known) := goodIn_app (goodIn_of _ (by decide +kernel)) ggX7_image_X7_known
set_option maxRecDepth 20000 in
theorem ggX7_image_X4_keep : GoodIn wsX7_image wsX4_keep := goodIn_r _ [21, 22, 23, 24, 25, 26, 27, 64, 65, 66, 67, 68, 69, 70, 71, 72, 73, 74, 75, 76, 77, 78, 79, 80, 81, 82, 83, 84, 85, 86, 87, 88, 89, 90, 91, 92, 93] (by decide +kernel) (by decide +kernel)
set_option maxRecDepth 20000 in
theorem gX7_image_X4_keep_u189X0 : GoodIn wsX7_image (va_wsU RX7 189 RX0 "EachEye$Person" ⟨"EachEye$Person", "keep", "()V"⟩ yX4_keep wsX4_keep) := goodIn_app (goodIn_of _ (by decide +kernel)) ggX7_image_X4_keep
set_option maxRecDepth 20000 in
theorem gX7_image_X4_keep_u189X2 : GoodIn wsX7_image (va_wsU RX7 189 RX2 "EachEye$Person" ⟨"EachEye$Person", "keep", "()V"⟩ yX4_keep wsX4_keep) := goodIn_app (goodIn_of _ (by decide +kernel)) ggX7_image_X4_keep
set_option maxRecDepth 20000 in
theorem gX7_image_X4_keep : GoodIn wsX7_image (wsV RX7 189 RX4 yX4_keep wsX4_keep) := goodIn_app (goodIn_of _ (by decide +kernel)) ggX7_image_X4_keep
set_option maxRecDepth 20000 in
theorem gX7_image_X4_keep_u189X5 : GoodIn wsX7_image (va_wsU RX7 189 RX5 "EachEye$Person" ⟨"EachEye$Person", "keep", "()V"⟩ yX4_keep wsX4_keep) := goodIn_app (goodIn_of _ (by decide +kernel)) ggX7_image_X4_keep
set_option maxRecDepth 20000 in
theorem gX7_image_X4_keep_u189X6 : GoodIn wsX7_image (va_wsU RX7 189 RX6 "EachEye$Person" ⟨"EachEye$Person", "keep", "()V"⟩ yX4_keep wsX4_keep) := goodIn_app (goodIn_of _ (by decide +kernel)) ggX7_image_X4_keep
set_option maxRecDepth 20000 in
theorem ggX7_image_X1_keep : GoodIn wsX7_image wsX1_keep := goodIn_r _ [37, 38, 39, 40, 41, 42, 43, 44, 45, 46, 47, 94, 95, 96, 97, 98, 99] (by decide +kernel) (by decide +kernel)
set_option maxRecDepth 20000 in
theorem gX7_image_X1_keep : GoodIn wsX7_image (wsV RX7 192 RX1 yX1_keep wsX1_keep) := goodIn_app (goodIn_of _ (by decide +kernel)) ggX7_image_X1_keep
theorem dX7_image_0 : decode cX7_image 0 = .ok (.aload_n 0, 1) := by decide +kernel
theorem dX7_image_1 : decode cX7_image 1 = .ok (.getfield 39, 3) := by decide +kernel
theorem dX7_image_4 : decode cX7_image 4 = .ok (.iconst (-1), 1) := by decide +kernel
theorem dX7_image_5 : decode cX7_image 5 = .ok (.if_icmp .ne 6, 3) := by decide +kernel
theorem dX7_image_8 : decode cX7_image 8 = .ok (.bipush (-103), 2) := by decide +kernel
theorem dX7_image_10 : decode cX7_image 10 = .ok (.ireturn, 1) := by decide +kernel
theorem dX7_image_11 : decode cX7_image 11 = .ok (.aload_n 0, 1) := by decide +kernel
theorem dX7_image_12 : decode cX7_image 12 = .ok (.aload_n 0, 1) := by decide +kernel
theorem dX7_image_13 : decode cX7_image 13 = .ok (.getfield 39, 3) := by decide +kernel
theorem dX7_image_16 : decode cX7_image 16 = .ok (.putfield 43, 3) := by decide +kernel
theorem dX7_image_19 : decode cX7_image 19 = .ok (.aload_n 0, 1) := by decide +kernel
theorem dX7_image_20 : decode cX7_image 20 = .ok (.aload_n 0, 1) := by decide +kernel
theorem dX7_image_21 : decode cX7_image 21 = .ok (.getfield 67, 3) := by decide +kernel
theorem dX7_image_24 : decode cX7_image 24 = .ok (.putfield 180, 3) := by decide +kernel
theorem dX7_image_27 : decode cX7_image 27 = .ok (.aload_n 0, 1) := by decide +kernel
theorem dX7_image_28 : decode cX7_image 28 = .ok (.aload_n 0, 1) := by decide +kernel
theorem dX7_image_29 : decode cX7_image 29 = .ok (.getfield 70, 3) := by decide +kernel
theorem dX7_image_32 : decode cX7_image 32 = .ok (.putfield 183, 3) := by decide +kernel
theorem dX7_image_35 : decode cX7_image 35 = .ok (.aload_n 0, 1) := by decide +kernel
theorem dX7_image_36 : decode cX7_image 36 = .ok (.aload_n 0, 1) := by decide +kernel
theorem dX7_image_37 : decode cX7_image 37 = .ok (.getfield 73, 3) := by decide +kernel
theorem dX7_image_40 : decode cX7_image 40 = .ok (.putfield 186, 3) := by decide +kernel
theorem dX7_image_43 : decode cX7_image 43 = .ok (.iconst 0, 1) := by decide +kernel
theorem dX7_image_44 : decode cX7_image 44 = .ok (.istore_n 1, 1) := by decide +kernel
theorem dX7_image_45 : decode cX7_image 45 = .ok (.iload_n 1, 1) := by decide +kernel
theorem dX7_image_46 : decode cX7_image 46 = .ok (.aload_n 0, 1) := by decide +kernel
theorem dX7_image_47 : decode cX7_image 47 = .ok (.getfield 67, 3) := by decide +kernel
theorem dX7_image_50 : decode cX7_image 50 = .ok (.if_icmp .ge 23, 3) := by decide +kernel
theorem dX7_image_53 : decode cX7_image 53 = .ok (.aload_n 0, 1) := by decide +kernel
theorem dX7_image_54 : decode cX7_image 54 = .ok (.iload_n 1, 1) := by decide +kernel
theorem dX7_image_55 : decode cX7_image 55 = .ok (.invokevirtual 113, 3) := by decide +kernel
theorem dX7_image_58 : decode cX7_image 58 = .ok (.astore_n 2, 1) := by decide +kernel
theorem dX7_image_59 : decode cX7_image 59 = .ok (.aload_n 2, 1) := by decide +kernel
theorem dX7_image_60 : decode cX7_image 60 = .ok (.ifnull 7, 3) := by decide +kernel
theorem dX7_image_63 : decode cX7_image 63 = .ok (.aload_n 2, 1) := by decide +kernel
theorem dX7_image_64 : decode cX7_image 64 = .ok (.invokevirtual 189, 3) := by decide +kernel
theorem dX7_image_67 : decode cX7_image 67 = .ok (.iinc 1 1, 3) := by decide +kernel
theorem dX7_image_70 : decode cX7_image 70 = .ok (.goto (-25), 3) := by decide +kernel
theorem dX7_image_73 : decode cX7_image 73 = .ok (.aload_n 0, 1) := by decide +kernel
theorem dX7_image_74 : decode cX7_image 74 = .ok (.getfield 29, 3) := by decide +kernel
theorem dX7_image_77 : decode cX7_image 77 = .ok (.invokevirtual 192, 3) := by decide +kernel
theorem dX7_image_80 : decode cX7_image 80 = .ok (.aload_n 0, 1) := by decide +kernel
theorem dX7_image_81 : decode cX7_image 81 = .ok (.getfield 67, 3) := by decide +kernel
theorem dX7_image_84 : decode cX7_image 84 = .ok (.ireturn, 1) := by decide +kernel
set_option maxRecDepth 20000 in
theorem ggX7_restore_X7_known : GoodIn wsX7_restore wsX7_known := goodIn_r _ [14, 4, 15, 48, 49, 50, 51, 52, 53, 54, 55, 56, 57, 58, 59, 60, 61, 62, 63] (by decide +kernel) (by decide +kernel)
set_option maxRecDepth 20000 in
theorem gX7_restore_X7_known : GoodIn wsX7_restore (wsV RX7 113 RX7 yX7_known wsX7_known) := goodIn_app (goodIn_of _ (by decide +kernel)) ggX7_restore_X7_known
set_option maxRecDepth 20000 in
theorem ggX7_restore_X4_goBack : GoodIn wsX7_restore wsX4_goBack := goodIn_r _ [21, 22, 23, 24, 25, 26, 27, 64, 65, 66, 67, 68, 69, 70, 71, 72, 73, 74, 75, 76, 77, 78, 79, 80, 81, 82, 83, 84, 85, 86, 87, 88, 89, 90, 91, 92, 93] (by decide +kernel) (by decide +kernel)
set_option maxRecDepth 20000 in
theorem gX7_restore_X4_goBack_u193X0 : GoodIn wsX7_restore (va_wsU RX7 193 RX0 "EachEye$Person" ⟨"EachEye$Person", "goBack", "()V"⟩ yX4_goBack wsX4_goBack) := goodIn_app (goodIn_of _ (by decide +kernel)) ggX7_restore_X4_goBack
set_option maxRecDepth 20000 in
theorem gX7_restore_X4_goBack_u193X2 : GoodIn wsX7_restore (va_wsU RX7 193 RX2 "EachEye$Person" ⟨"EachEye$Person", "goBack", "()V"⟩ yX4_goBack wsX4_goBack) := goodIn_app (goodIn_of _ (by decide +kernel)) ggX7_restore_X4_goBack
set_option maxRecDepth 20000 in
theorem gX7_restore_X4_goBack : GoodIn wsX7_restore (wsV RX7 193 RX4 yX4_goBack wsX4_goBack) := goodIn_app (goodIn_of _ (by decide +kernel)) ggX7_restore_X4_goBack
set_option maxRecDepth 20000 in
theorem gX7_restore_X4_goBack_u193X5 : GoodIn wsX7_restore (va_wsU RX7 193 RX5 "EachEye$Person" ⟨"EachEye$Person", "goBack", "()V"⟩ yX4_goBack wsX4_goBack) := goodIn_app (goodIn_of _ (by decide +kernel)) ggX7_restore_X4_goBack
set_option maxRecDepth 20000 in
theorem gX7_restore_X4_goBack_u193X6 : GoodIn wsX7_restore (va_wsU RX7 193 RX6 "EachEye$Person" ⟨"EachEye$Person", "goBack", "()V"⟩ yX4_goBack wsX4_goBack) := goodIn_app (goodIn_of _ (by decide +kernel)) ggX7_restore_X4_goBack
set_option maxRecDepth 20000 in
theorem ggX7_restore_X1_goBack : GoodIn wsX7_restore wsX1_goBack := goodIn_r _ [37, 38, 39, 40, 41, 42, 43, 44, 45, 46, 47, 94, 95, 96, 97, 98, 99] (by decide +kernel) (by decide +kernel)
set_option maxRecDepth 20000 in
theorem gX7_restore_X1_goBack : GoodIn wsX7_restore (wsV RX7 196 RX1 yX1_goBack wsX1_goBack) := goodIn_app (goodIn_of _ (by decide +kernel)) ggX7_restore_X1_goBack
theorem dX7_restore_0 : decode cX7_restore 0 = .ok (.aload_n 0, 1) := by decide +kernel
theorem dX7_restore_1 : decode cX7_restore 1 = .ok (.getfield 43, 3) := by decide +kernel
theorem dX7_restore_4 : decode cX7_restore 4 = .ok (.iconst (-1), 1) := by decide +kernel
theorem dX7_restore_5 : decode cX7_restore 5 = .ok (.if_icmp .ne 6, 3) := by decide +kernel
theorem dX7_restore_8 : decode cX7_restore 8 = .ok (.bipush (-103), 2) := by decide +kernel
theorem dX7_restore_10 : decode cX7_restore 10 = .ok (.ireturn, 1) := by decide +kernel
theorem dX7_restore_11 : decode cX7_restore 11 = .ok (.aload_n 0, 1) := by decide +kernel
theorem dX7_restore_12 : decode cX7_restore 12 = .ok (.aload_n 0, 1) := by decide +kernel
theorem dX7_restore_13 : decode cX7_restore 13 = .ok (.getfield 43, 3) := by decide +kernel
theorem dX7_restore_16 : decode cX7_restore 16 = .ok (.putfield 39, 3) := by decide +kernel
theorem dX7_restore_19 : decode cX7_restore 19 = .ok (.aload_n 0, 1) := by decide +kernel
theorem dX7_restore_20 : decode cX7_restore 20 = .ok (.aload_n 0, 1) := by decide +kernel
theorem dX7_restore_21 : decode cX7_restore 21 = .ok (.getfield 180, 3) := by decide +kernel
theorem dX7_restore_24 : decode cX7_restore 24 = .ok (.putfield 67, 3) := by decide +kernel
theorem dX7_restore_27 : decode cX7_restore 27 = .ok (.aload_n 0, 1) := by decide +kernel
theorem dX7_restore_28 : decode cX7_restore 28 = .ok (.aload_n 0, 1) := by decide +kernel
theorem dX7_restore_29 : decode cX7_restore 29 = .ok (.getfield 183, 3) := by decide +kernel
theorem dX7_restore_32 : decode cX7_restore 32 = .ok (.putfield 70, 3) := by decide +kernel
theorem dX7_restore_35 : decode cX7_restore 35 = .ok (.aload_n 0, 1) := by decide +kernel
theorem dX7_restore_36 : decode cX7_restore 36 = .ok (.aload_n 0, 1) := by decide +kernel
theorem dX7_restore_37 : decode cX7_restore 37 = .ok (.getfield 186, 3) := by decide +kernel
theorem dX7_restore_40 : decode cX7_restore 40 = .ok (.putfield 73, 3) := by decide +kernel
theorem dX7_restore_43 : decode cX7_restore 43 = .ok (.iconst 0, 1) := by decide +kernel
theorem dX7_restore_44 : decode cX7_restore 44 = .ok (.istore_n 1, 1) := by decide +kernel
theorem dX7_restore_45 : decode cX7_restore 45 = .ok (.iload_n 1, 1) := by decide +kernel
theorem dX7_restore_46 : decode cX7_restore 46 = .ok (.aload_n 0, 1) := by decide +kernel
theorem dX7_restore_47 : decode cX7_restore 47 = .ok (.getfield 67, 3) := by decide +kernel
theorem dX7_restore_50 : decode cX7_restore 50 = .ok (.if_icmp .ge 23, 3) := by decide +kernel
theorem dX7_restore_53 : decode cX7_restore 53 = .ok (.aload_n 0, 1) := by decide +kernel
theorem dX7_restore_54 : decode cX7_restore 54 = .ok (.iload_n 1, 1) := by decide +kernel
theorem dX7_restore_55 : decode cX7_restore 55 = .ok (.invokevirtual 113, 3) := by decide +kernel
theorem dX7_restore_58 : decode cX7_restore 58 = .ok (.astore_n 2, 1) := by decide +kernel
theorem dX7_restore_59 : decode cX7_restore 59 = .ok (.aload_n 2, 1) := by decide +kernel
theorem dX7_restore_60 : decode cX7_restore 60 = .ok (.ifnull 7, 3) := by decide +kernel
theorem dX7_restore_63 : decode cX7_restore 63 = .ok (.aload_n 2, 1) := by decide +kernel
theorem dX7_restore_64 : decode cX7_restore 64 = .ok (.invokevirtual 193, 3) := by decide +kernel
theorem dX7_restore_67 : decode cX7_restore 67 = .ok (.iinc 1 1, 3) := by decide +kernel
theorem dX7_restore_70 : decode cX7_restore 70 = .ok (.goto (-25), 3) := by decide +kernel
theorem dX7_restore_73 : decode cX7_restore 73 = .ok (.aload_n 0, 1) := by decide +kernel
theorem dX7_restore_74 : decode cX7_restore 74 = .ok (.getfield 29, 3) := by decide +kernel
theorem dX7_restore_77 : decode cX7_restore 77 = .ok (.invokevirtual 196, 3) := by decide +kernel
theorem dX7_restore_80 : decode cX7_restore 80 = .ok (.aload_n 0, 1) := by decide +kernel
theorem dX7_restore_81 : decode cX7_restore 81 = .ok (.getfield 67, 3) := by decide +kernel
theorem dX7_restore_84 : decode cX7_restore 84 = .ok (.ireturn, 1) := by decide +kernel
set_option maxRecDepth 20000 in
theorem ggX7_count_X7_colouredCells : GoodIn wsX7_count wsX7_colouredCells := goodIn_r _ [12, 13, 14, 15, 11, 16, 27, 28, 29, 30, 31, 32, 33, 34, 35, 36, 37, 38, 39, 40, 41, 42] (by decide +kernel) (by decide +kernel)
set_option maxRecDepth 20000 in
theorem gX7_count_X7_colouredCells : GoodIn wsX7_count (wsV RX7 82 RX7 yX7_colouredCells wsX7_colouredCells) := goodIn_app (goodIn_of _ (by decide +kernel)) ggX7_count_X7_colouredCells
set_option maxRecDepth 20000 in
theorem ggX7_count_X7_toldPeople : GoodIn wsX7_count wsX7_toldPeople := goodIn_r _ [20, 1, 21, 22, 23, 24, 11, 25, 26, 27, 28, 29, 30, 31, 32, 33, 34, 35, 36, 37, 38, 39, 40, 41, 42, 51, 52, 53, 54, 55, 56, 57, 58, 59, 60, 61, 62, 63, 64, 65, 66, 67, 68, 69, 70, 71, 72, 73, 74, 75, 76, 77, 78, 79, 80] (by decide +kernel) (by decide +kernel)
set_option maxRecDepth 20000 in
theorem gX7_count_X7_toldPeople : GoodIn wsX7_count (wsV RX7 133 RX7 yX7_toldPeople wsX7_toldPeople) := goodIn_app (goodIn_of _ (by decide +kernel)) ggX7_count_X7_toldPeople
theorem dX7_count_0 : decode cX7_count 0 = .ok (.iload_n 1, 1) := by decide +kernel
theorem dX7_count_1 : decode cX7_count 1 = .ok (.tableswitch 102 0 8 #[51, 56, 61, 66, 71, 76, 84, 92, 97], 51) := by decide +kernel
theorem dX7_count_52 : decode cX7_count 52 = .ok (.aload_n 0, 1) := by decide +kernel
theorem dX7_count_53 : decode cX7_count 53 = .ok (.invokevirtual 82, 3) := by decide +kernel
theorem dX7_count_56 : decode cX7_count 56 = .ok (.ireturn, 1) := by decide +kernel
theorem dX7_count_57 : decode cX7_count 57 = .ok (.aload_n 0, 1) := by decide +kernel
theorem dX7_count_58 : decode cX7_count 58 = .ok (.getfield 67, 3) := by decide +kernel
theorem dX7_count_61 : decode cX7_count 61 = .ok (.ireturn, 1) := by decide +kernel
theorem dX7_count_62 : decode cX7_count 62 = .ok (.aload_n 0, 1) := by decide +kernel
theorem dX7_count_63 : decode cX7_count 63 = .ok (.getfield 70, 3) := by decide +kernel
theorem dX7_count_66 : decode cX7_count 66 = .ok (.ireturn, 1) := by decide +kernel
theorem dX7_count_67 : decode cX7_count 67 = .ok (.aload_n 0, 1) := by decide +kernel
theorem dX7_count_68 : decode cX7_count 68 = .ok (.getfield 73, 3) := by decide +kernel
theorem dX7_count_71 : decode cX7_count 71 = .ok (.ireturn, 1) := by decide +kernel
theorem dX7_count_72 : decode cX7_count 72 = .ok (.aload_n 0, 1) := by decide +kernel
theorem dX7_count_73 : decode cX7_count 73 = .ok (.invokevirtual 133, 3) := by decide +kernel
theorem dX7_count_76 : decode cX7_count 76 = .ok (.ireturn, 1) := by decide +kernel
theorem dX7_count_77 : decode cX7_count 77 = .ok (.aload_n 0, 1) := by decide +kernel
theorem dX7_count_78 : decode cX7_count 78 = .ok (.getfield 29, 3) := by decide +kernel
theorem dX7_count_81 : decode cX7_count 81 = .ok (.getfield 144, 3) := by decide +kernel
theorem dX7_count_84 : decode cX7_count 84 = .ok (.ireturn, 1) := by decide +kernel
theorem dX7_count_85 : decode cX7_count 85 = .ok (.aload_n 0, 1) := by decide +kernel
theorem dX7_count_86 : decode cX7_count 86 = .ok (.getfield 12, 3) := by decide +kernel
theorem dX7_count_89 : decode cX7_count 89 = .ok (.getfield 50, 3) := by decide +kernel
theorem dX7_count_92 : decode cX7_count 92 = .ok (.ireturn, 1) := by decide +kernel
theorem dX7_count_93 : decode cX7_count 93 = .ok (.aload_n 0, 1) := by decide +kernel
theorem dX7_count_94 : decode cX7_count 94 = .ok (.getfield 79, 3) := by decide +kernel
theorem dX7_count_97 : decode cX7_count 97 = .ok (.ireturn, 1) := by decide +kernel
theorem dX7_count_98 : decode cX7_count 98 = .ok (.aload_n 0, 1) := by decide +kernel
theorem dX7_count_99 : decode cX7_count 99 = .ok (.getfield 148, 3) := by decide +kernel
theorem dX7_count_102 : decode cX7_count 102 = .ok (.ireturn, 1) := by decide +kernel
theorem dX7_count_103 : decode cX7_count 103 = .ok (.bipush (-102), 2) := by decide +kernel
theorem dX7_count_105 : decode cX7_count 105 = .ok (.ireturn, 1) := by decide +kernel
set_option maxRecDepth 20000 in
theorem ggX7_digest_X7_hueAt : GoodIn wsX7_digest wsX7_hueAt := goodIn_r _ [11] (by decide +kernel) (by decide +kernel)
set_option maxRecDepth 20000 in
theorem gX7_digest_X7_hueAt : GoodIn wsX7_digest (va_wsS RX7 85 yX7_hueAt wsX7_hueAt) := goodIn_app (goodIn_of _ (by decide +kernel)) ggX7_digest_X7_hueAt
set_option maxRecDepth 20000 in
theorem ggX7_digest_X7_few : GoodIn wsX7_digest wsX7_few := goodIn_r _ [15, 2, 16, 17, 18, 10, 19, 5, 20, 21, 22, 23, 24, 25, 26, 27, 28, 29, 30, 31, 32, 33, 34, 8, 9, 11, 35, 36, 37, 38, 6, 39, 40, 41, 42, 43, 44, 45, 4, 46, 47, 48, 49, 50, 51, 52, 53, 54, 55, 56, 57, 58, 59, 60, 61, 62, 63, 64, 65, 66, 67, 68, 69, 70, 71, 72, 73, 74, 75, 76, 77, 78, 79, 80, 81, 82, 83, 84, 85, 86, 87, 88, 89, 90, 91, 157, 158, 159, 160, 161, 162, 163, 164, 165, 166, 167, 168, 169, 170, 171, 172, 175, 176, 177, 178, 179, 180, 181, 182, 183, 184, 185, 186, 187, 188, 189, 190, 191, 192, 193, 194, 195, 196, 197, 198, 199, 200, 201, 202, 203, 204] (by decide +kernel) (by decide +kernel)
set_option maxRecDepth 20000 in
theorem gX7_digest_X7_few : GoodIn wsX7_digest (wsV RX7 201 RX7 yX7_few wsX7_few) := goodIn_app (goodIn_of _ (by decide +kernel)) ggX7_digest_X7_few
set_option maxRecDepth 20000 in
theorem ggX7_digest_X7_withPerson : GoodIn wsX7_digest wsX7_withPerson := goodIn_r _ [95, 3, 4, 96, 97, 98, 10, 99, 2, 46, 100, 101, 47, 48, 49, 50, 51, 8, 9, 11, 52, 53, 54, 55, 56, 57, 58, 59, 60, 61, 62, 63, 64, 65, 66, 67, 68, 69, 70, 71, 72, 73, 74, 75, 76, 77, 78, 79, 80, 81, 82, 83, 84, 85, 86, 87, 88, 89, 90, 91, 102, 103, 104, 105, 106, 107, 108, 109, 110, 111, 112, 113, 114, 115, 116, 117, 118, 119, 120, 121, 122, 123, 124, 125, 126, 127, 128, 129, 130, 131, 132, 133, 134, 135, 136, 137, 138, 139, 140, 157, 158, 159, 160, 161, 162, 163, 164, 165, 166, 167, 168, 169, 170, 171, 172, 175, 176, 177, 178, 179, 180, 181, 182, 183, 184, 185, 186, 187, 188, 189, 190, 191, 192, 193, 194, 195, 196, 197, 198, 199, 200, 201, 202, 203, 204] (by decide +kernel) (by decide +kernel)
set_option maxRecDepth 20000 in
theorem gX7_digest_X7_withPerson : GoodIn wsX7_digest (wsV RX7 204 RX7 yX7_withPerson wsX7_withPerson) := goodIn_app (goodIn_of _ (by decide +kernel)) ggX7_digest_X7_withPerson
set_option maxRecDepth 20000 in
theorem ggX7_digest_X7_count : GoodIn wsX7_digest wsX7_count := goodIn_r _ [144, 4, 5, 145, 146, 7, 147, 148, 149, 150, 151, 10, 152, 2, 8, 9, 11, 153, 154, 155, 156, 46, 47, 48, 49, 50, 51, 157, 158, 159, 160, 161, 162, 163, 164, 165, 166, 167, 168, 169, 170, 171, 172, 205, 206, 207, 208, 209, 210, 173, 174, 175, 176, 177, 178, 179, 180, 181, 182, 183, 184, 185, 186, 187, 188, 189, 190, 191, 192, 193, 194, 195, 196, 197, 198, 199, 200, 201, 202, 203, 204] (by decide +kernel) (by decide +kernel)
set_option maxRecDepth 20000 in
theorem gX7_digest_X7_count : GoodIn wsX7_digest (wsV RX7 211 RX7 yX7_count wsX7_count) := goodIn_app (goodIn_of _ (by decide +kernel)) ggX7_digest_X7_count
theorem dX7_digest_0 : decode cX7_digest 0 = .ok (.ldc2_w 197, 3) := by decide +kernel
theorem dX7_digest_3 : decode cX7_digest 3 = .ok (.lstore_n 1, 1) := by decide +kernel
theorem dX7_digest_4 : decode cX7_digest 4 = .ok (.aload_n 0, 1) := by decide +kernel
theorem dX7_digest_5 : decode cX7_digest 5 = .ok (.getfield 39, 3) := by decide +kernel
theorem dX7_digest_8 : decode cX7_digest 8 = .ok (.iconst (-1), 1) := by decide +kernel
theorem dX7_digest_9 : decode cX7_digest 9 = .ok (.if_icmp .eq 59, 3) := by decide +kernel
theorem dX7_digest_12 : decode cX7_digest 12 = .ok (.iconst 0, 1) := by decide +kernel
theorem dX7_digest_13 : decode cX7_digest 13 = .ok (.istore_n 3, 1) := by decide +kernel
theorem dX7_digest_14 : decode cX7_digest 14 = .ok (.iload_n 3, 1) := by decide +kernel
theorem dX7_digest_15 : decode cX7_digest 15 = .ok (.bipush 6, 2) := by decide +kernel
theorem dX7_digest_17 : decode cX7_digest 17 = .ok (.if_icmp .ge 25, 3) := by decide +kernel
theorem dX7_digest_20 : decode cX7_digest 20 = .ok (.ldc2_w 199, 3) := by decide +kernel
theorem dX7_digest_23 : decode cX7_digest 23 = .ok (.lload_n 1, 1) := by decide +kernel
theorem dX7_digest_24 : decode cX7_digest 24 = .ok (.lmul, 1) := by decide +kernel
theorem dX7_digest_25 : decode cX7_digest 25 = .ok (.aload_n 0, 1) := by decide +kernel
theorem dX7_digest_26 : decode cX7_digest 26 = .ok (.getfield 39, 3) := by decide +kernel
theorem dX7_digest_29 : decode cX7_digest 29 = .ok (.iload_n 3, 1) := by decide +kernel
theorem dX7_digest_30 : decode cX7_digest 30 = .ok (.invokestatic 85, 3) := by decide +kernel
theorem dX7_digest_33 : decode cX7_digest 33 = .ok (.i2l, 1) := by decide +kernel
theorem dX7_digest_34 : decode cX7_digest 34 = .ok (.ladd, 1) := by decide +kernel
theorem dX7_digest_35 : decode cX7_digest 35 = .ok (.lstore_n 1, 1) := by decide +kernel
theorem dX7_digest_36 : decode cX7_digest 36 = .ok (.iinc 3 1, 3) := by decide +kernel
theorem dX7_digest_39 : decode cX7_digest 39 = .ok (.goto (-25), 3) := by decide +kernel
theorem dX7_digest_42 : decode cX7_digest 42 = .ok (.ldc2_w 199, 3) := by decide +kernel
theorem dX7_digest_45 : decode cX7_digest 45 = .ok (.lload_n 1, 1) := by decide +kernel
theorem dX7_digest_46 : decode cX7_digest 46 = .ok (.lmul, 1) := by decide +kernel
theorem dX7_digest_47 : decode cX7_digest 47 = .ok (.aload_n 0, 1) := by decide +kernel
theorem dX7_digest_48 : decode cX7_digest 48 = .ok (.iconst 0, 1) := by decide +kernel
theorem dX7_digest_49 : decode cX7_digest 49 = .ok (.invokevirtual 201, 3) := by decide +kernel
theorem dX7_digest_52 : decode cX7_digest 52 = .ok (.i2l, 1) := by decide +kernel
theorem dX7_digest_53 : decode cX7_digest 53 = .ok (.ladd, 1) := by decide +kernel
theorem dX7_digest_54 : decode cX7_digest 54 = .ok (.lstore_n 1, 1) := by decide +kernel
theorem dX7_digest_55 : decode cX7_digest 55 = .ok (.ldc2_w 199, 3) := by decide +kernel
theorem dX7_digest_58 : decode cX7_digest 58 = .ok (.lload_n 1, 1) := by decide +kernel
theorem dX7_digest_59 : decode cX7_digest 59 = .ok (.lmul, 1) := by decide +kernel
theorem dX7_digest_60 : decode cX7_digest 60 = .ok (.aload_n 0, 1) := by decide +kernel
theorem dX7_digest_61 : decode cX7_digest 61 = .ok (.iconst 1, 1) := by decide +kernel
theorem dX7_digest_62 : decode cX7_digest 62 = .ok (.invokevirtual 201, 3) := by decide +kernel
theorem dX7_digest_65 : decode cX7_digest 65 = .ok (.i2l, 1) := by decide +kernel
theorem dX7_digest_66 : decode cX7_digest 66 = .ok (.ladd, 1) := by decide +kernel
theorem dX7_digest_67 : decode cX7_digest 67 = .ok (.lstore_n 1, 1) := by decide +kernel
theorem dX7_digest_68 : decode cX7_digest 68 = .ok (.iconst 0, 1) := by decide +kernel
theorem dX7_digest_69 : decode cX7_digest 69 = .ok (.istore_n 3, 1) := by decide +kernel
theorem dX7_digest_70 : decode cX7_digest 70 = .ok (.iload_n 3, 1) := by decide +kernel
theorem dX7_digest_71 : decode cX7_digest 71 = .ok (.aload_n 0, 1) := by decide +kernel
theorem dX7_digest_72 : decode cX7_digest 72 = .ok (.getfield 67, 3) := by decide +kernel
theorem dX7_digest_75 : decode cX7_digest 75 = .ok (.if_icmp .ge 16, 3) := by decide +kernel
theorem dX7_digest_78 : decode cX7_digest 78 = .ok (.aload_n 0, 1) := by decide +kernel
theorem dX7_digest_79 : decode cX7_digest 79 = .ok (.lload_n 1, 1) := by decide +kernel
theorem dX7_digest_80 : decode cX7_digest 80 = .ok (.iload_n 3, 1) := by decide +kernel
theorem dX7_digest_81 : decode cX7_digest 81 = .ok (.invokevirtual 204, 3) := by decide +kernel
theorem dX7_digest_84 : decode cX7_digest 84 = .ok (.lstore_n 1, 1) := by decide +kernel
theorem dX7_digest_85 : decode cX7_digest 85 = .ok (.iinc 3 1, 3) := by decide +kernel
theorem dX7_digest_88 : decode cX7_digest 88 = .ok (.goto (-18), 3) := by decide +kernel
theorem dX7_digest_91 : decode cX7_digest 91 = .ok (.iconst 0, 1) := by decide +kernel
theorem dX7_digest_92 : decode cX7_digest 92 = .ok (.istore_n 3, 1) := by decide +kernel
theorem dX7_digest_93 : decode cX7_digest 93 = .ok (.iload_n 3, 1) := by decide +kernel
theorem dX7_digest_94 : decode cX7_digest 94 = .ok (.aload_n 0, 1) := by decide +kernel
theorem dX7_digest_95 : decode cX7_digest 95 = .ok (.getfield 70, 3) := by decide +kernel
