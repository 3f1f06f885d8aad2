set_option maxRecDepth 20000 in
theorem ggX0_init_X4_init : GoodIn wsX0_init wsX4_init := goodIn_r _ [3, 4, 5, 6, 7, 8, 9, 10, 11, 12, 13, 14, 15, 16, 17, 18, 19, 20, 21, 22, 23, 24, 25, 26, 27, 28, 29, 30, 31, 32, 33, 34, 35, 36, 37, 38] (by decide +kernel) (by decide +kernel)
set_option maxRecDepth 20000 in
theorem gX0_init_X4_init_n3 : GoodIn wsX0_init (wsX4_init) := ggX0_init_X4_init
theorem dX0_init_0 : decode cX0_init 0 = .ok (.aload_n 0, 1) := by decide +kernel
theorem dX0_init_1 : decode cX0_init 1 = .ok (.invokespecial 3, 3) := by decide +kernel
theorem dX0_init_4 : decode cX0_init 4 = .ok (.return_, 1) := by decide +kernel
theorem dX0_kind_0 : decode cX0_kind 0 = .ok (.iconst 1, 1) := by decide +kernel
theorem dX0_kind_1 : decode cX0_kind 1 = .ok (.ireturn, 1) := by decide +kernel
theorem dX0_glimpse_0 : decode cX0_glimpse 0 = .ok (.iload_n 1, 1) := by decide +kernel
theorem dX0_glimpse_1 : decode cX0_glimpse 1 = .ok (.aload_n 0, 1) := by decide +kernel
theorem dX0_glimpse_2 : decode cX0_glimpse 2 = .ok (.getfield 9, 3) := by decide +kernel
theorem dX0_glimpse_5 : decode cX0_glimpse 5 = .ok (.aload_n 0, 1) := by decide +kernel
theorem dX0_glimpse_6 : decode cX0_glimpse 6 = .ok (.getfield 15, 3) := by decide +kernel
theorem dX0_glimpse_9 : decode cX0_glimpse 9 = .ok (.ixor, 1) := by decide +kernel
theorem dX0_glimpse_10 : decode cX0_glimpse 10 = .ok (.iand, 1) := by decide +kernel
theorem dX0_glimpse_11 : decode cX0_glimpse 11 = .ok (.ireturn, 1) := by decide +kernel
theorem dX1_init_0 : decode cX1_init 0 = .ok (.aload_n 0, 1) := by decide +kernel
theorem dX1_init_1 : decode cX1_init 1 = .ok (.invokespecial 3, 3) := by decide +kernel
theorem dX1_init_4 : decode cX1_init 4 = .ok (.aload_n 0, 1) := by decide +kernel
theorem dX1_init_5 : decode cX1_init 5 = .ok (.bipush 8, 2) := by decide +kernel
theorem dX1_init_7 : decode cX1_init 7 = .ok (.newarray .int, 2) := by decide +kernel
theorem dX1_init_9 : decode cX1_init 9 = .ok (.putfield 9, 3) := by decide +kernel
theorem dX1_init_12 : decode cX1_init 12 = .ok (.aload_n 0, 1) := by decide +kernel
theorem dX1_init_13 : decode cX1_init 13 = .ok (.bipush 8, 2) := by decide +kernel
theorem dX1_init_15 : decode cX1_init 15 = .ok (.newarray .int, 2) := by decide +kernel
theorem dX1_init_17 : decode cX1_init 17 = .ok (.putfield 15, 3) := by decide +kernel
theorem dX1_init_20 : decode cX1_init 20 = .ok (.aload_n 0, 1) := by decide +kernel
theorem dX1_init_21 : decode cX1_init 21 = .ok (.bipush 8, 2) := by decide +kernel
theorem dX1_init_23 : decode cX1_init 23 = .ok (.newarray .int, 2) := by decide +kernel
theorem dX1_init_25 : decode cX1_init 25 = .ok (.putfield 18, 3) := by decide +kernel
theorem dX1_init_28 : decode cX1_init 28 = .ok (.aload_n 0, 1) := by decide +kernel
theorem dX1_init_29 : decode cX1_init 29 = .ok (.bipush 8, 2) := by decide +kernel
theorem dX1_init_31 : decode cX1_init 31 = .ok (.newarray .int, 2) := by decide +kernel
theorem dX1_init_33 : decode cX1_init 33 = .ok (.putfield 21, 3) := by decide +kernel
theorem dX1_init_36 : decode cX1_init 36 = .ok (.return_, 1) := by decide +kernel
theorem dX1_put_0 : decode cX1_put 0 = .ok (.aload_n 0, 1) := by decide +kernel
theorem dX1_put_1 : decode cX1_put 1 = .ok (.getfield 24, 3) := by decide +kernel
theorem dX1_put_4 : decode cX1_put 4 = .ok (.bipush 8, 2) := by decide +kernel
theorem dX1_put_6 : decode cX1_put 6 = .ok (.if_icmp .ge 33, 3) := by decide +kernel
theorem dX1_put_9 : decode cX1_put 9 = .ok (.aload_n 0, 1) := by decide +kernel
theorem dX1_put_10 : decode cX1_put 10 = .ok (.getfield 9, 3) := by decide +kernel
theorem dX1_put_13 : decode cX1_put 13 = .ok (.aload_n 0, 1) := by decide +kernel
theorem dX1_put_14 : decode cX1_put 14 = .ok (.getfield 24, 3) := by decide +kernel
theorem dX1_put_17 : decode cX1_put 17 = .ok (.iload_n 1, 1) := by decide +kernel
theorem dX1_put_18 : decode cX1_put 18 = .ok (.iastore, 1) := by decide +kernel
theorem dX1_put_19 : decode cX1_put 19 = .ok (.aload_n 0, 1) := by decide +kernel
theorem dX1_put_20 : decode cX1_put 20 = .ok (.getfield 15, 3) := by decide +kernel
theorem dX1_put_23 : decode cX1_put 23 = .ok (.aload_n 0, 1) := by decide +kernel
theorem dX1_put_24 : decode cX1_put 24 = .ok (.getfield 24, 3) := by decide +kernel
theorem dX1_put_27 : decode cX1_put 27 = .ok (.iload_n 2, 1) := by decide +kernel
theorem dX1_put_28 : decode cX1_put 28 = .ok (.iastore, 1) := by decide +kernel
theorem dX1_put_29 : decode cX1_put 29 = .ok (.aload_n 0, 1) := by decide +kernel
theorem dX1_put_30 : decode cX1_put 30 = .ok (.dup, 1) := by decide +kernel
theorem dX1_put_31 : decode cX1_put 31 = .ok (.getfield 24, 3) := by decide +kernel
theorem dX1_put_34 : decode cX1_put 34 = .ok (.iconst 1, 1) := by decide +kernel
theorem dX1_put_35 : decode cX1_put 35 = .ok (.iadd, 1) := by decide +kernel
theorem dX1_put_36 : decode cX1_put 36 = .ok (.putfield 24, 3) := by decide +kernel
theorem dX1_put_39 : decode cX1_put 39 = .ok (.return_, 1) := by decide +kernel
theorem dX1_clear_0 : decode cX1_clear 0 = .ok (.aload_n 0, 1) := by decide +kernel
theorem dX1_clear_1 : decode cX1_clear 1 = .ok (.iconst 0, 1) := by decide +kernel
theorem dX1_clear_2 : decode cX1_clear 2 = .ok (.putfield 24, 3) := by decide +kernel
theorem dX1_clear_5 : decode cX1_clear 5 = .ok (.return_, 1) := by decide +kernel
set_option maxRecDepth 20000 in
theorem ggX1_fit_X0_glimpse : GoodIn wsX1_fit wsX0_glimpse := goodIn_r _ [10, 11, 12, 13, 14, 50, 51, 52, 53, 54, 55, 56, 57, 58, 59, 60, 61, 62, 63, 64, 65, 66, 67, 68, 69, 70, 71, 72, 73, 74, 75, 76, 77, 78, 79] (by decide +kernel) (by decide +kernel)
set_option maxRecDepth 20000 in
theorem gX1_fit_X0_glimpse_u28X0 : GoodIn wsX1_fit (va_wsO RX1 28 RX0 "EachEye$Person" ⟨"EachEye$Person", "glimpse", "(I)I"⟩ yX0_glimpse wsX0_glimpse) := goodIn_app (goodIn_of _ (by decide +kernel)) ggX1_fit_X0_glimpse
set_option maxRecDepth 20000 in
theorem ggX1_fit_X2_glimpse : GoodIn wsX1_fit wsX2_glimpse := goodIn_r _ [19, 20, 21, 22, 23, 50, 51, 52, 53, 54, 55, 56, 57, 58, 59, 60, 61, 62, 63, 64, 65, 66, 67, 68, 69, 70, 71, 72, 73, 74, 75, 76, 77, 78, 79] (by decide +kernel) (by decide +kernel)
set_option maxRecDepth 20000 in
theorem gX1_fit_X2_glimpse_u28X2 : GoodIn wsX1_fit (va_wsO RX1 28 RX2 "EachEye$Person" ⟨"EachEye$Person", "glimpse", "(I)I"⟩ yX2_glimpse wsX2_glimpse) := goodIn_app (goodIn_of _ (by decide +kernel)) ggX1_fit_X2_glimpse
set_option maxRecDepth 20000 in
theorem ggX1_fit_X4_glimpse : GoodIn wsX1_fit wsX4_glimpse := goodIn_r _ [15, 28, 29, 50, 51, 52, 53, 54, 55, 56, 57, 58, 59, 60, 61, 62, 63, 64, 65, 66, 67, 68, 69, 70, 71, 72, 73, 74, 75, 76, 77, 78, 79] (by decide +kernel) (by decide +kernel)
set_option maxRecDepth 20000 in
theorem gX1_fit_X4_glimpse : GoodIn wsX1_fit (wsV RX1 28 RX4 yX4_glimpse wsX4_glimpse) := goodIn_app (goodIn_of _ (by decide +kernel)) ggX1_fit_X4_glimpse
set_option maxRecDepth 20000 in
theorem ggX1_fit_X5_glimpse : GoodIn wsX1_fit wsX5_glimpse := goodIn_r _ [33, 34, 35, 50, 51, 52, 53, 54, 55, 56, 57, 58, 59, 60, 61, 62, 63, 64, 65, 66, 67, 68, 69, 70, 71, 72, 73, 74, 75, 76, 77, 78, 79] (by decide +kernel) (by decide +kernel)
set_option maxRecDepth 20000 in
theorem gX1_fit_X5_glimpse_u28X5 : GoodIn wsX1_fit (va_wsO RX1 28 RX5 "EachEye$Person" ⟨"EachEye$Person", "glimpse", "(I)I"⟩ yX5_glimpse wsX5_glimpse) := goodIn_app (goodIn_of _ (by decide +kernel)) ggX1_fit_X5_glimpse
set_option maxRecDepth 20000 in
theorem ggX1_fit_X6_glimpse : GoodIn wsX1_fit wsX6_glimpse := goodIn_r _ [39, 40, 41, 42, 43, 50, 51, 52, 53, 54, 55, 56, 57, 58, 59, 60, 61, 62, 63, 64, 65, 66, 67, 68, 69, 70, 71, 72, 73, 74, 75, 76, 77, 78, 79] (by decide +kernel) (by decide +kernel)
set_option maxRecDepth 20000 in
theorem gX1_fit_X6_glimpse_u28X6 : GoodIn wsX1_fit (va_wsO RX1 28 RX6 "EachEye$Person" ⟨"EachEye$Person", "glimpse", "(I)I"⟩ yX6_glimpse wsX6_glimpse) := goodIn_app (goodIn_of _ (by decide +kernel)) ggX1_fit_X6_glimpse
theorem dX1_fit_0 : decode cX1_fit 0 = .ok (.iconst 0, 1) := by decide +kernel
theorem dX1_fit_1 : decode cX1_fit 1 = .ok (.istore_n 2, 1) := by decide +kernel
theorem dX1_fit_2 : decode cX1_fit 2 = .ok (.iload_n 2, 1) := by decide +kernel
theorem dX1_fit_3 : decode cX1_fit 3 = .ok (.aload_n 0, 1) := by decide +kernel
theorem dX1_fit_4 : decode cX1_fit 4 = .ok (.getfield 24, 3) := by decide +kernel
theorem dX1_fit_7 : decode cX1_fit 7 = .ok (.if_icmp .ge 30, 3) := by decide +kernel
theorem dX1_fit_10 : decode cX1_fit 10 = .ok (.aload_n 1, 1) := by decide +kernel
theorem dX1_fit_11 : decode cX1_fit 11 = .ok (.aload_n 0, 1) := by decide +kernel
theorem dX1_fit_12 : decode cX1_fit 12 = .ok (.getfield 9, 3) := by decide +kernel
theorem dX1_fit_15 : decode cX1_fit 15 = .ok (.iload_n 2, 1) := by decide +kernel
theorem dX1_fit_16 : decode cX1_fit 16 = .ok (.iaload, 1) := by decide +kernel
theorem dX1_fit_17 : decode cX1_fit 17 = .ok (.invokevirtual 28, 3) := by decide +kernel
theorem dX1_fit_20 : decode cX1_fit 20 = .ok (.aload_n 0, 1) := by decide +kernel
theorem dX1_fit_21 : decode cX1_fit 21 = .ok (.getfield 15, 3) := by decide +kernel
theorem dX1_fit_24 : decode cX1_fit 24 = .ok (.iload_n 2, 1) := by decide +kernel
theorem dX1_fit_25 : decode cX1_fit 25 = .ok (.iaload, 1) := by decide +kernel
theorem dX1_fit_26 : decode cX1_fit 26 = .ok (.if_icmp .eq 5, 3) := by decide +kernel
theorem dX1_fit_29 : decode cX1_fit 29 = .ok (.iconst 0, 1) := by decide +kernel
theorem dX1_fit_30 : decode cX1_fit 30 = .ok (.ireturn, 1) := by decide +kernel
theorem dX1_fit_31 : decode cX1_fit 31 = .ok (.iinc 2 1, 3) := by decide +kernel
theorem dX1_fit_34 : decode cX1_fit 34 = .ok (.goto (-32), 3) := by decide +kernel
theorem dX1_fit_37 : decode cX1_fit 37 = .ok (.iconst 1, 1) := by decide +kernel
theorem dX1_fit_38 : decode cX1_fit 38 = .ok (.ireturn, 1) := by decide +kernel
theorem dX1_keep_0 : decode cX1_keep 0 = .ok (.aload_n 0, 1) := by decide +kernel
theorem dX1_keep_1 : decode cX1_keep 1 = .ok (.getfield 9, 3) := by decide +kernel
theorem dX1_keep_4 : decode cX1_keep 4 = .ok (.iconst 0, 1) := by decide +kernel
theorem dX1_keep_5 : decode cX1_keep 5 = .ok (.aload_n 0, 1) := by decide +kernel
theorem dX1_keep_6 : decode cX1_keep 6 = .ok (.getfield 18, 3) := by decide +kernel
theorem dX1_keep_9 : decode cX1_keep 9 = .ok (.iconst 0, 1) := by decide +kernel
theorem dX1_keep_10 : decode cX1_keep 10 = .ok (.bipush 8, 2) := by decide +kernel
theorem dX1_keep_12 : decode cX1_keep 12 = .ok (.invokestatic 34, 3) := by decide +kernel
theorem dX1_keep_15 : decode cX1_keep 15 = .ok (.aload_n 0, 1) := by decide +kernel
theorem dX1_keep_16 : decode cX1_keep 16 = .ok (.getfield 15, 3) := by decide +kernel
theorem dX1_keep_19 : decode cX1_keep 19 = .ok (.iconst 0, 1) := by decide +kernel
theorem dX1_keep_20 : decode cX1_keep 20 = .ok (.aload_n 0, 1) := by decide +kernel
theorem dX1_keep_21 : decode cX1_keep 21 = .ok (.getfield 21, 3) := by decide +kernel
theorem dX1_keep_24 : decode cX1_keep 24 = .ok (.iconst 0, 1) := by decide +kernel
theorem dX1_keep_25 : decode cX1_keep 25 = .ok (.bipush 8, 2) := by decide +kernel
theorem dX1_keep_27 : decode cX1_keep 27 = .ok (.invokestatic 34, 3) := by decide +kernel
theorem dX1_keep_30 : decode cX1_keep 30 = .ok (.aload_n 0, 1) := by decide +kernel
theorem dX1_keep_31 : decode cX1_keep 31 = .ok (.aload_n 0, 1) := by decide +kernel
theorem dX1_keep_32 : decode cX1_keep 32 = .ok (.getfield 24, 3) := by decide +kernel
theorem dX1_keep_35 : decode cX1_keep 35 = .ok (.putfield 40, 3) := by decide +kernel
theorem dX1_keep_38 : decode cX1_keep 38 = .ok (.return_, 1) := by decide +kernel
theorem dX1_goBack_0 : decode cX1_goBack 0 = .ok (.aload_n 0, 1) := by decide +kernel
theorem dX1_goBack_1 : decode cX1_goBack 1 = .ok (.getfield 18, 3) := by decide +kernel
theorem dX1_goBack_4 : decode cX1_goBack 4 = .ok (.iconst 0, 1) := by decide +kernel
theorem dX1_goBack_5 : decode cX1_goBack 5 = .ok (.aload_n 0, 1) := by decide +kernel
theorem dX1_goBack_6 : decode cX1_goBack 6 = .ok (.getfield 9, 3) := by decide +kernel
theorem dX1_goBack_9 : decode cX1_goBack 9 = .ok (.iconst 0, 1) := by decide +kernel
theorem dX1_goBack_10 : decode cX1_goBack 10 = .ok (.bipush 8, 2) := by decide +kernel
theorem dX1_goBack_12 : decode cX1_goBack 12 = .ok (.invokestatic 34, 3) := by decide +kernel
theorem dX1_goBack_15 : decode cX1_goBack 15 = .ok (.aload_n 0, 1) := by decide +kernel
theorem dX1_goBack_16 : decode cX1_goBack 16 = .ok (.getfield 21, 3) := by decide +kernel
theorem dX1_goBack_19 : decode cX1_goBack 19 = .ok (.iconst 0, 1) := by decide +kernel
theorem dX1_goBack_20 : decode cX1_goBack 20 = .ok (.aload_n 0, 1) := by decide +kernel
theorem dX1_goBack_21 : decode cX1_goBack 21 = .ok (.getfield 15, 3) := by decide +kernel
theorem dX1_goBack_24 : decode cX1_goBack 24 = .ok (.iconst 0, 1) := by decide +kernel
theorem dX1_goBack_25 : decode cX1_goBack 25 = .ok (.bipush 8, 2) := by decide +kernel
theorem dX1_goBack_27 : decode cX1_goBack 27 = .ok (.invokestatic 34, 3) := by decide +kernel
theorem dX1_goBack_30 : decode cX1_goBack 30 = .ok (.aload_n 0, 1) := by decide +kernel
theorem dX1_goBack_31 : decode cX1_goBack 31 = .ok (.aload_n 0, 1) := by decide +kernel
theorem dX1_goBack_32 : decode cX1_goBack 32 = .ok (.getfield 40, 3) := by decide +kernel
theorem dX1_goBack_35 : decode cX1_goBack 35 = .ok (.putfield 24, 3) := by decide +kernel
theorem dX1_goBack_38 : decode cX1_goBack 38 = .ok (.return_, 1) := by decide +kernel
set_option maxRecDepth 20000 in
theorem ggX2_init_X4_init : GoodIn wsX2_init wsX4_init := goodIn_r _ [3, 4, 5, 6, 7, 8, 9, 10, 11, 12, 13, 14, 15, 16, 17, 18, 19, 20, 21, 22, 23, 24, 25, 26, 27, 28, 29, 30, 31, 32, 33, 34, 35, 36, 37, 38] (by decide +kernel) (by decide +kernel)
set_option maxRecDepth 20000 in
theorem gX2_init_X4_init_n3 : GoodIn wsX2_init (wsX4_init) := ggX2_init_X4_init
theorem dX2_init_0 : decode cX2_init 0 = .ok (.aload_n 0, 1) := by decide +kernel
theorem dX2_init_1 : decode cX2_init 1 = .ok (.invokespecial 3, 3) := by decide +kernel
theorem dX2_init_4 : decode cX2_init 4 = .ok (.return_, 1) := by decide +kernel
theorem dX2_kind_0 : decode cX2_kind 0 = .ok (.iconst 2, 1) := by decide +kernel
theorem dX2_kind_1 : decode cX2_kind 1 = .ok (.ireturn, 1) := by decide +kernel
theorem dX2_glimpse_0 : decode cX2_glimpse 0 = .ok (.iload_n 1, 1) := by decide +kernel
theorem dX2_glimpse_1 : decode cX2_glimpse 1 = .ok (.aload_n 0, 1) := by decide +kernel
theorem dX2_glimpse_2 : decode cX2_glimpse 2 = .ok (.getfield 9, 3) := by decide +kernel
theorem dX2_glimpse_5 : decode cX2_glimpse 5 = .ok (.iand, 1) := by decide +kernel
theorem dX2_glimpse_6 : decode cX2_glimpse 6 = .ok (.aload_n 0, 1) := by decide +kernel
theorem dX2_glimpse_7 : decode cX2_glimpse 7 = .ok (.getfield 15, 3) := by decide +kernel
theorem dX2_glimpse_10 : decode cX2_glimpse 10 = .ok (.iand, 1) := by decide +kernel
theorem dX2_glimpse_11 : decode cX2_glimpse 11 = .ok (.ireturn, 1) := by decide +kernel
theorem dX3_init_0 : decode cX3_init 0 = .ok (.aload_n 0, 1) := by decide +kernel
theorem dX3_init_1 : decode cX3_init 1 = .ok (.invokespecial 3, 3) := by decide +kernel
theorem dX3_init_4 : decode cX3_init 4 = .ok (.aload_n 0, 1) := by decide +kernel
theorem dX3_init_5 : decode cX3_init 5 = .ok (.bipush 10, 2) := by decide +kernel
theorem dX3_init_7 : decode cX3_init 7 = .ok (.newarray .int, 2) := by decide +kernel
theorem dX3_init_9 : decode cX3_init 9 = .ok (.putfield 9, 3) := by decide +kernel
theorem dX3_init_12 : decode cX3_init 12 = .ok (.return_, 1) := by decide +kernel
theorem dX3_put_0 : decode cX3_put 0 = .ok (.aload_n 0, 1) := by decide +kernel
theorem dX3_put_1 : decode cX3_put 1 = .ok (.getfield 15, 3) := by decide +kernel
theorem dX3_put_4 : decode cX3_put 4 = .ok (.bipush 10, 2) := by decide +kernel
theorem dX3_put_6 : decode cX3_put 6 = .ok (.if_icmp .ge 23, 3) := by decide +kernel
theorem dX3_put_9 : decode cX3_put 9 = .ok (.aload_n 0, 1) := by decide +kernel
theorem dX3_put_10 : decode cX3_put 10 = .ok (.getfield 9, 3) := by decide +kernel
theorem dX3_put_13 : decode cX3_put 13 = .ok (.aload_n 0, 1) := by decide +kernel
theorem dX3_put_14 : decode cX3_put 14 = .ok (.getfield 15, 3) := by decide +kernel
theorem dX3_put_17 : decode cX3_put 17 = .ok (.iload_n 1, 1) := by decide +kernel
theorem dX3_put_18 : decode cX3_put 18 = .ok (.iastore, 1) := by decide +kernel
theorem dX3_put_19 : decode cX3_put 19 = .ok (.aload_n 0, 1) := by decide +kernel
theorem dX3_put_20 : decode cX3_put 20 = .ok (.dup, 1) := by decide +kernel
theorem dX3_put_21 : decode cX3_put 21 = .ok (.getfield 15, 3) := by decide +kernel
theorem dX3_put_24 : decode cX3_put 24 = .ok (.iconst 1, 1) := by decide +kernel
theorem dX3_put_25 : decode cX3_put 25 = .ok (.iadd, 1) := by decide +kernel
theorem dX3_put_26 : decode cX3_put 26 = .ok (.putfield 15, 3) := by decide +kernel
theorem dX3_put_29 : decode cX3_put 29 = .ok (.return_, 1) := by decide +kernel
theorem dX3_empty_0 : decode cX3_empty 0 = .ok (.aload_n 0, 1) := by decide +kernel
theorem dX3_empty_1 : decode cX3_empty 1 = .ok (.iconst 0, 1) := by decide +kernel
theorem dX3_empty_2 : decode cX3_empty 2 = .ok (.putfield 15, 3) := by decide +kernel
theorem dX3_empty_5 : decode cX3_empty 5 = .ok (.return_, 1) := by decide +kernel
set_option maxRecDepth 20000 in
theorem ggX3_soundLetters_X7_isHue : GoodIn wsX3_soundLetters wsX7_isHue := goodIn_r _ [5] (by decide +kernel) (by decide +kernel)
set_option maxRecDepth 20000 in
theorem gX3_soundLetters_X7_isHue_n19 : GoodIn wsX3_soundLetters (wsX7_isHue) := ggX3_soundLetters_X7_isHue
theorem dX3_soundLetters_0 : decode cX3_soundLetters 0 = .ok (.iconst 0, 1) := by decide +kernel
theorem dX3_soundLetters_1 : decode cX3_soundLetters 1 = .ok (.istore_n 1, 1) := by decide +kernel
theorem dX3_soundLetters_2 : decode cX3_soundLetters 2 = .ok (.iload_n 1, 1) := by decide +kernel
theorem dX3_soundLetters_3 : decode cX3_soundLetters 3 = .ok (.aload_n 0, 1) := by decide +kernel
theorem dX3_soundLetters_4 : decode cX3_soundLetters 4 = .ok (.getfield 15, 3) := by decide +kernel
theorem dX3_soundLetters_7 : decode cX3_soundLetters 7 = .ok (.if_icmp .ge 30, 3) := by decide +kernel
theorem dX3_soundLetters_10 : decode cX3_soundLetters 10 = .ok (.iload_n 1, 1) := by decide +kernel
theorem dX3_soundLetters_11 : decode cX3_soundLetters 11 = .ok (.bipush 6, 2) := by decide +kernel
theorem dX3_soundLetters_13 : decode cX3_soundLetters 13 = .ok (.if_icmp .ge 24, 3) := by decide +kernel
theorem dX3_soundLetters_16 : decode cX3_soundLetters 16 = .ok (.aload_n 0, 1) := by decide +kernel
theorem dX3_soundLetters_17 : decode cX3_soundLetters 17 = .ok (.getfield 9, 3) := by decide +kernel
theorem dX3_soundLetters_20 : decode cX3_soundLetters 20 = .ok (.iload_n 1, 1) := by decide +kernel
theorem dX3_soundLetters_21 : decode cX3_soundLetters 21 = .ok (.iaload, 1) := by decide +kernel
theorem dX3_soundLetters_22 : decode cX3_soundLetters 22 = .ok (.bipush 48, 2) := by decide +kernel
theorem dX3_soundLetters_24 : decode cX3_soundLetters 24 = .ok (.isub, 1) := by decide +kernel
theorem dX3_soundLetters_25 : decode cX3_soundLetters 25 = .ok (.invokestatic 19, 3) := by decide +kernel
theorem dX3_soundLetters_28 : decode cX3_soundLetters 28 = .ok (.ifCond .eq 9, 3) := by decide +kernel
theorem dX3_soundLetters_31 : decode cX3_soundLetters 31 = .ok (.iinc 1 1, 3) := by decide +kernel
theorem dX3_soundLetters_34 : decode cX3_soundLetters 34 = .ok (.goto (-32), 3) := by decide +kernel
theorem dX3_soundLetters_37 : decode cX3_soundLetters 37 = .ok (.iload_n 1, 1) := by decide +kernel
theorem dX3_soundLetters_38 : decode cX3_soundLetters 38 = .ok (.ireturn, 1) := by decide +kernel
set_option maxRecDepth 20000 in
theorem ggX3_asText_X3_soundLetters : GoodIn wsX3_asText wsX3_soundLetters := goodIn_r _ [7, 1, 2, 8, 9, 10, 13, 14] (by decide +kernel) (by decide +kernel)
set_option maxRecDepth 20000 in
theorem gX3_asText_X3_soundLetters : GoodIn wsX3_asText (wsV RX3 23 RX3 yX3_soundLetters wsX3_soundLetters) := goodIn_app (goodIn_of _ (by decide +kernel)) ggX3_asText_X3_soundLetters
set_option maxRecDepth 20000 in
theorem ggX3_asText_X7_withHue : GoodIn wsX3_asText wsX7_withHue := goodIn_r _ [12] (by decide +kernel) (by decide +kernel)
set_option maxRecDepth 20000 in
theorem gX3_asText_X7_withHue_n27 : GoodIn wsX3_asText (wsX7_withHue) := ggX3_asText_X7_withHue
theorem dX3_asText_0 : decode cX3_asText 0 = .ok (.aload_n 0, 1) := by decide +kernel
theorem dX3_asText_1 : decode cX3_asText 1 = .ok (.getfield 15, 3) := by decide +kernel
theorem dX3_asText_4 : decode cX3_asText 4 = .ok (.bipush 6, 2) := by decide +kernel
theorem dX3_asText_6 : decode cX3_asText 6 = .ok (.if_icmp .ne 12, 3) := by decide +kernel
theorem dX3_asText_9 : decode cX3_asText 9 = .ok (.aload_n 0, 1) := by decide +kernel
theorem dX3_asText_10 : decode cX3_asText 10 = .ok (.invokevirtual 23, 3) := by decide +kernel
theorem dX3_asText_13 : decode cX3_asText 13 = .ok (.bipush 6, 2) := by decide +kernel
theorem dX3_asText_15 : decode cX3_asText 15 = .ok (.if_icmp .eq 5, 3) := by decide +kernel
theorem dX3_asText_18 : decode cX3_asText 18 = .ok (.iconst (-1), 1) := by decide +kernel
theorem dX3_asText_19 : decode cX3_asText 19 = .ok (.ireturn, 1) := by decide +kernel
theorem dX3_asText_20 : decode cX3_asText 20 = .ok (.iconst 0, 1) := by decide +kernel
theorem dX3_asText_21 : decode cX3_asText 21 = .ok (.istore_n 1, 1) := by decide +kernel
theorem dX3_asText_22 : decode cX3_asText 22 = .ok (.iconst 0, 1) := by decide +kernel
theorem dX3_asText_23 : decode cX3_asText 23 = .ok (.istore_n 2, 1) := by decide +kernel
theorem dX3_asText_24 : decode cX3_asText 24 = .ok (.iload_n 2, 1) := by decide +kernel
theorem dX3_asText_25 : decode cX3_asText 25 = .ok (.bipush 6, 2) := by decide +kernel
theorem dX3_asText_27 : decode cX3_asText 27 = .ok (.if_icmp .ge 24, 3) := by decide +kernel
theorem dX3_asText_30 : decode cX3_asText 30 = .ok (.iload_n 1, 1) := by decide +kernel
theorem dX3_asText_31 : decode cX3_asText 31 = .ok (.iload_n 2, 1) := by decide +kernel
theorem dX3_asText_32 : decode cX3_asText 32 = .ok (.aload_n 0, 1) := by decide +kernel
theorem dX3_asText_33 : decode cX3_asText 33 = .ok (.getfield 9, 3) := by decide +kernel
theorem dX3_asText_36 : decode cX3_asText 36 = .ok (.iload_n 2, 1) := by decide +kernel
theorem dX3_asText_37 : decode cX3_asText 37 = .ok (.iaload, 1) := by decide +kernel
theorem dX3_asText_38 : decode cX3_asText 38 = .ok (.bipush 48, 2) := by decide +kernel
theorem dX3_asText_40 : decode cX3_asText 40 = .ok (.isub, 1) := by decide +kernel
theorem dX3_asText_41 : decode cX3_asText 41 = .ok (.invokestatic 27, 3) := by decide +kernel
theorem dX3_asText_44 : decode cX3_asText 44 = .ok (.istore_n 1, 1) := by decide +kernel
theorem dX3_asText_45 : decode cX3_asText 45 = .ok (.iinc 2 1, 3) := by decide +kernel
theorem dX3_asText_48 : decode cX3_asText 48 = .ok (.goto (-24), 3) := by decide +kernel
theorem dX3_asText_51 : decode cX3_asText 51 = .ok (.iload_n 1, 1) := by decide +kernel
theorem dX3_asText_52 : decode cX3_asText 52 = .ok (.ireturn, 1) := by decide +kernel
theorem dX4_init_0 : decode cX4_init 0 = .ok (.aload_n 0, 1) := by decide +kernel
theorem dX4_init_1 : decode cX4_init 1 = .ok (.invokespecial 3, 3) := by decide +kernel
theorem dX4_init_4 : decode cX4_init 4 = .ok (.aload_n 0, 1) := by decide +kernel
theorem dX4_init_5 : decode cX4_init 5 = .ok (.iconst (-1), 1) := by decide +kernel
theorem dX4_init_6 : decode cX4_init 6 = .ok (.putfield 9, 3) := by decide +kernel
theorem dX4_init_9 : decode cX4_init 9 = .ok (.aload_n 0, 1) := by decide +kernel
theorem dX4_init_10 : decode cX4_init 10 = .ok (.iconst (-1), 1) := by decide +kernel
theorem dX4_init_11 : decode cX4_init 11 = .ok (.putfield 15, 3) := by decide +kernel
theorem dX4_init_14 : decode cX4_init 14 = .ok (.return_, 1) := by decide +kernel
theorem dX4_kind_0 : decode cX4_kind 0 = .ok (.iconst 0, 1) := by decide +kernel
theorem dX4_kind_1 : decode cX4_kind 1 = .ok (.ireturn, 1) := by decide +kernel
theorem dX4_glimpse_0 : decode cX4_glimpse 0 = .ok (.iload_n 1, 1) := by decide +kernel
theorem dX4_glimpse_1 : decode cX4_glimpse 1 = .ok (.aload_n 0, 1) := by decide +kernel
theorem dX4_glimpse_2 : decode cX4_glimpse 2 = .ok (.getfield 18, 3) := by decide +kernel
theorem dX4_glimpse_5 : decode cX4_glimpse 5 = .ok (.aload_n 0, 1) := by decide +kernel
theorem dX4_glimpse_6 : decode cX4_glimpse 6 = .ok (.getfield 21, 3) := by decide +kernel
theorem dX4_glimpse_9 : decode cX4_glimpse 9 = .ok (.ior, 1) := by decide +kernel
theorem dX4_glimpse_10 : decode cX4_glimpse 10 = .ok (.iand, 1) := by decide +kernel
theorem dX4_glimpse_11 : decode cX4_glimpse 11 = .ok (.ireturn, 1) := by decide +kernel
set_option maxRecDepth 20000 in
theorem ggX4_reading_X7_hueAt : GoodIn wsX4_reading wsX7_hueAt := goodIn_r _ [3] (by decide +kernel) (by decide +kernel)
set_option maxRecDepth 20000 in
theorem gX4_reading_X7_hueAt_n24 : GoodIn wsX4_reading (wsX7_hueAt) := ggX4_reading_X7_hueAt
set_option maxRecDepth 20000 in
theorem ggX4_reading_X0_glimpse : GoodIn wsX4_reading wsX0_glimpse := goodIn_r _ [10, 11, 12, 13, 14, 46, 47, 48, 49, 50, 51, 52, 53, 54, 55, 56, 57, 58, 59, 60, 61, 62, 63, 64, 65, 66, 67, 68, 69, 70, 71, 72, 73, 74, 75] (by decide +kernel) (by decide +kernel)
set_option maxRecDepth 20000 in
theorem gX4_reading_X0_glimpse_u28X0 : GoodIn wsX4_reading (va_wsO RX4 28 RX0 "EachEye$Person" ⟨"EachEye$Person", "glimpse", "(I)I"⟩ yX0_glimpse wsX0_glimpse) := goodIn_app (goodIn_of _ (by decide +kernel)) ggX4_reading_X0_glimpse
set_option maxRecDepth 20000 in
theorem ggX4_reading_X2_glimpse : GoodIn wsX4_reading wsX2_glimpse := goodIn_r _ [19, 20, 21, 22, 23, 46, 47, 48, 49, 50, 51, 52, 53, 54, 55, 56, 57, 58, 59, 60, 61, 62, 63, 64, 65, 66, 67, 68, 69, 70, 71, 72, 73, 74, 75] (by decide +kernel) (by decide +kernel)
set_option maxRecDepth 20000 in
theorem gX4_reading_X2_glimpse_u28X2 : GoodIn wsX4_reading (va_wsO RX4 28 RX2 "EachEye$Person" ⟨"EachEye$Person", "glimpse", "(I)I"⟩ yX2_glimpse wsX2_glimpse) := goodIn_app (goodIn_of _ (by decide +kernel)) ggX4_reading_X2_glimpse
set_option maxRecDepth 20000 in
theorem ggX4_reading_X4_glimpse : GoodIn wsX4_reading wsX4_glimpse := goodIn_r _ [15, 28, 29, 46, 47, 48, 49, 50, 51, 52, 53, 54, 55, 56, 57, 58, 59, 60, 61, 62, 63, 64, 65, 66, 67, 68, 69, 70, 71, 72, 73, 74, 75] (by decide +kernel) (by decide +kernel)
set_option maxRecDepth 20000 in
theorem gX4_reading_X4_glimpse : GoodIn wsX4_reading (wsV RX4 28 RX4 yX4_glimpse wsX4_glimpse) := goodIn_app (goodIn_of _ (by decide +kernel)) ggX4_reading_X4_glimpse
set_option maxRecDepth 20000 in
theorem ggX4_reading_X5_glimpse : GoodIn wsX4_reading wsX5_glimpse := goodIn_r _ [33, 34, 35, 46, 47, 48, 49, 50, 51, 52, 53, 54, 55, 56, 57, 58, 59, 60, 61, 62, 63, 64, 65, 66, 67, 68, 69, 70, 71, 72, 73, 74, 75] (by decide +kernel) (by decide +kernel)
set_option maxRecDepth 20000 in
theorem gX4_reading_X5_glimpse_u28X5 : GoodIn wsX4_reading (va_wsO RX4 28 RX5 "EachEye$Person" ⟨"EachEye$Person", "glimpse", "(I)I"⟩ yX5_glimpse wsX5_glimpse) := goodIn_app (goodIn_of _ (by decide +kernel)) ggX4_reading_X5_glimpse
set_option maxRecDepth 20000 in
theorem ggX4_reading_X6_glimpse : GoodIn wsX4_reading wsX6_glimpse := goodIn_r _ [39, 40, 41, 42, 43, 46, 47, 48, 49, 50, 51, 52, 53, 54, 55, 56, 57, 58, 59, 60, 61, 62, 63, 64, 65, 66, 67, 68, 69, 70, 71, 72, 73, 74, 75] (by decide +kernel) (by decide +kernel)
set_option maxRecDepth 20000 in
theorem gX4_reading_X6_glimpse_u28X6 : GoodIn wsX4_reading (va_wsO RX4 28 RX6 "EachEye$Person" ⟨"EachEye$Person", "glimpse", "(I)I"⟩ yX6_glimpse wsX6_glimpse) := goodIn_app (goodIn_of _ (by decide +kernel)) ggX4_reading_X6_glimpse
set_option maxRecDepth 20000 in
theorem ggX4_reading_X7_withHue : GoodIn wsX4_reading wsX7_withHue := goodIn_r _ [45] (by decide +kernel) (by decide +kernel)
set_option maxRecDepth 20000 in
theorem gX4_reading_X7_withHue_n32 : GoodIn wsX4_reading (wsX7_withHue) := ggX4_reading_X7_withHue
theorem dX4_reading_0 : decode cX4_reading 0 = .ok (.iconst 0, 1) := by decide +kernel
theorem dX4_reading_1 : decode cX4_reading 1 = .ok (.istore_n 2, 1) := by decide +kernel
theorem dX4_reading_2 : decode cX4_reading 2 = .ok (.iconst 0, 1) := by decide +kernel
theorem dX4_reading_3 : decode cX4_reading 3 = .ok (.istore_n 3, 1) := by decide +kernel
theorem dX4_reading_4 : decode cX4_reading 4 = .ok (.iload_n 3, 1) := by decide +kernel
theorem dX4_reading_5 : decode cX4_reading 5 = .ok (.bipush 6, 2) := by decide +kernel
theorem dX4_reading_7 : decode cX4_reading 7 = .ok (.if_icmp .ge 24, 3) := by decide +kernel
theorem dX4_reading_10 : decode cX4_reading 10 = .ok (.iload_n 2, 1) := by decide +kernel
theorem dX4_reading_11 : decode cX4_reading 11 = .ok (.iload_n 3, 1) := by decide +kernel
theorem dX4_reading_12 : decode cX4_reading 12 = .ok (.aload_n 0, 1) := by decide +kernel
theorem dX4_reading_13 : decode cX4_reading 13 = .ok (.iload_n 1, 1) := by decide +kernel
theorem dX4_reading_14 : decode cX4_reading 14 = .ok (.iload_n 3, 1) := by decide +kernel
theorem dX4_reading_15 : decode cX4_reading 15 = .ok (.invokestatic 24, 3) := by decide +kernel
theorem dX4_reading_18 : decode cX4_reading 18 = .ok (.invokevirtual 28, 3) := by decide +kernel
theorem dX4_reading_21 : decode cX4_reading 21 = .ok (.invokestatic 32, 3) := by decide +kernel
theorem dX4_reading_24 : decode cX4_reading 24 = .ok (.istore_n 2, 1) := by decide +kernel
theorem dX4_reading_25 : decode cX4_reading 25 = .ok (.iinc 3 1, 3) := by decide +kernel
theorem dX4_reading_28 : decode cX4_reading 28 = .ok (.goto (-24), 3) := by decide +kernel
theorem dX4_reading_31 : decode cX4_reading 31 = .ok (.iload_n 2, 1) := by decide +kernel
theorem dX4_reading_32 : decode cX4_reading 32 = .ok (.ireturn, 1) := by decide +kernel
set_option maxRecDepth 20000 in
theorem ggX4_truths_X0_glimpse : GoodIn wsX4_truths wsX0_glimpse := goodIn_r _ [7, 8, 9, 10, 11, 41, 42, 43, 44, 45, 46, 47, 48, 49, 50, 51, 52, 53, 54, 55, 56, 57, 58, 59, 60, 61, 62, 63, 64, 65, 66, 67, 68, 69, 70] (by decide +kernel) (by decide +kernel)
set_option maxRecDepth 20000 in
theorem gX4_truths_X0_glimpse_u28X0 : GoodIn wsX4_truths (va_wsO RX4 28 RX0 "EachEye$Person" ⟨"EachEye$Person", "glimpse", "(I)I"⟩ yX0_glimpse wsX0_glimpse) := goodIn_app (goodIn_of _ (by decide +kernel)) ggX4_truths_X0_glimpse
set_option maxRecDepth 20000 in
theorem ggX4_truths_X2_glimpse : GoodIn wsX4_truths wsX2_glimpse := goodIn_r _ [16, 17, 18, 19, 20, 41, 42, 43, 44, 45, 46, 47, 48, 49, 50, 51, 52, 53, 54, 55, 56, 57, 58, 59, 60, 61, 62, 63, 64, 65, 66, 67, 68, 69, 70] (by decide +kernel) (by decide +kernel)
set_option maxRecDepth 20000 in
theorem gX4_truths_X2_glimpse_u28X2 : GoodIn wsX4_truths (va_wsO RX4 28 RX2 "EachEye$Person" ⟨"EachEye$Person", "glimpse", "(I)I"⟩ yX2_glimpse wsX2_glimpse) := goodIn_app (goodIn_of _ (by decide +kernel)) ggX4_truths_X2_glimpse
set_option maxRecDepth 20000 in
theorem ggX4_truths_X4_glimpse : GoodIn wsX4_truths wsX4_glimpse := goodIn_r _ [12, 25, 26, 41, 42, 43, 44, 45, 46, 47, 48, 49, 50, 51, 52, 53, 54, 55, 56, 57, 58, 59, 60, 61, 62, 63, 64, 65, 66, 67, 68, 69, 70] (by decide +kernel) (by decide +kernel)
set_option maxRecDepth 20000 in
theorem gX4_truths_X4_glimpse : GoodIn wsX4_truths (wsV RX4 28 RX4 yX4_glimpse wsX4_glimpse) := goodIn_app (goodIn_of _ (by decide +kernel)) ggX4_truths_X4_glimpse
set_option maxRecDepth 20000 in
theorem ggX4_truths_X5_glimpse : GoodIn wsX4_truths wsX5_glimpse := goodIn_r _ [30, 31, 32, 41, 42, 43, 44, 45, 46, 47, 48, 49, 50, 51, 52, 53, 54, 55, 56, 57, 58, 59, 60, 61, 62, 63, 64, 65, 66, 67, 68, 69, 70] (by decide +kernel) (by decide +kernel)
set_option maxRecDepth 20000 in
theorem gX4_truths_X5_glimpse_u28X5 : GoodIn wsX4_truths (va_wsO RX4 28 RX5 "EachEye$Person" ⟨"EachEye$Person", "glimpse", "(I)I"⟩ yX5_glimpse wsX5_glimpse) := goodIn_app (goodIn_of _ (by decide +kernel)) ggX4_truths_X5_glimpse
set_option maxRecDepth 20000 in
theorem ggX4_truths_X6_glimpse : GoodIn wsX4_truths wsX6_glimpse := goodIn_r _ [36, 37, 38, 39, 40, 41, 42, 43, 44, 45, 46, 47, 48, 49, 50, 51, 52, 53, 54, 55, 56, 57, 58, 59, 60, 61, 62, 63, 64, 65, 66, 67, 68, 69, 70] (by decide +kernel) (by decide +kernel)
set_option maxRecDepth 20000 in
theorem gX4_truths_X6_glimpse_u28X6 : GoodIn wsX4_truths (va_wsO RX4 28 RX6 "EachEye$Person" ⟨"EachEye$Person", "glimpse", "(I)I"⟩ yX6_glimpse wsX6_glimpse) := goodIn_app (goodIn_of _ (by decide +kernel)) ggX4_truths_X6_glimpse
theorem dX4_truths_0 : decode cX4_truths 0 = .ok (.iconst 0, 1) := by decide +kernel
theorem dX4_truths_1 : decode cX4_truths 1 = .ok (.istore_n 1, 1) := by decide +kernel
theorem dX4_truths_2 : decode cX4_truths 2 = .ok (.iconst 0, 1) := by decide +kernel
theorem dX4_truths_3 : decode cX4_truths 3 = .ok (.istore_n 2, 1) := by decide +kernel
theorem dX4_truths_4 : decode cX4_truths 4 = .ok (.iload_n 2, 1) := by decide +kernel
theorem dX4_truths_5 : decode cX4_truths 5 = .ok (.bipush 8, 2) := by decide +kernel
theorem dX4_truths_7 : decode cX4_truths 7 = .ok (.if_icmp .ge 21, 3) := by decide +kernel
theorem dX4_truths_10 : decode cX4_truths 10 = .ok (.aload_n 0, 1) := by decide +kernel
theorem dX4_truths_11 : decode cX4_truths 11 = .ok (.iload_n 2, 1) := by decide +kernel
theorem dX4_truths_12 : decode cX4_truths 12 = .ok (.invokevirtual 28, 3) := by decide +kernel
theorem dX4_truths_15 : decode cX4_truths 15 = .ok (.iload_n 2, 1) := by decide +kernel
theorem dX4_truths_16 : decode cX4_truths 16 = .ok (.if_icmp .ne 6, 3) := by decide +kernel
theorem dX4_truths_19 : decode cX4_truths 19 = .ok (.iinc 1 1, 3) := by decide +kernel
theorem dX4_truths_22 : decode cX4_truths 22 = .ok (.iinc 2 1, 3) := by decide +kernel
theorem dX4_truths_25 : decode cX4_truths 25 = .ok (.goto (-21), 3) := by decide +kernel
theorem dX4_truths_28 : decode cX4_truths 28 = .ok (.iload_n 1, 1) := by decide +kernel
theorem dX4_truths_29 : decode cX4_truths 29 = .ok (.ireturn, 1) := by decide +kernel
theorem dX4_lose_0 : decode cX4_lose 0 = .ok (.iload_n 2, 1) := by decide +kernel
theorem dX4_lose_1 : decode cX4_lose 1 = .ok (.ifCond .lt 8, 3) := by decide +kernel
theorem dX4_lose_4 : decode cX4_lose 4 = .ok (.iload_n 2, 1) := by decide +kernel
theorem dX4_lose_5 : decode cX4_lose 5 = .ok (.iconst 3, 1) := by decide +kernel
theorem dX4_lose_6 : decode cX4_lose 6 = .ok (.if_icmp .lt 4, 3) := by decide +kernel
theorem dX4_lose_9 : decode cX4_lose 9 = .ok (.return_, 1) := by decide +kernel
theorem dX4_lose_10 : decode cX4_lose 10 = .ok (.iload_n 1, 1) := by decide +kernel
theorem dX4_lose_11 : decode cX4_lose 11 = .ok (.ifCond .ne 20, 3) := by decide +kernel
theorem dX4_lose_14 : decode cX4_lose 14 = .ok (.aload_n 0, 1) := by decide +kernel
theorem dX4_lose_15 : decode cX4_lose 15 = .ok (.dup, 1) := by decide +kernel
theorem dX4_lose_16 : decode cX4_lose 16 = .ok (.getfield 18, 3) := by decide +kernel
theorem dX4_lose_19 : decode cX4_lose 19 = .ok (.iconst 1, 1) := by decide +kernel
theorem dX4_lose_20 : decode cX4_lose 20 = .ok (.iload_n 2, 1) := by decide +kernel
theorem dX4_lose_21 : decode cX4_lose 21 = .ok (.ishl, 1) := by decide +kernel
theorem dX4_lose_22 : decode cX4_lose 22 = .ok (.iconst (-1), 1) := by decide +kernel
theorem dX4_lose_23 : decode cX4_lose 23 = .ok (.ixor, 1) := by decide +kernel
theorem dX4_lose_24 : decode cX4_lose 24 = .ok (.iand, 1) := by decide +kernel
theorem dX4_lose_25 : decode cX4_lose 25 = .ok (.putfield 18, 3) := by decide +kernel
theorem dX4_lose_28 : decode cX4_lose 28 = .ok (.goto 17, 3) := by decide +kernel
theorem dX4_lose_31 : decode cX4_lose 31 = .ok (.aload_n 0, 1) := by decide +kernel
theorem dX4_lose_32 : decode cX4_lose 32 = .ok (.dup, 1) := by decide +kernel
theorem dX4_lose_33 : decode cX4_lose 33 = .ok (.getfield 21, 3) := by decide +kernel
theorem dX4_lose_36 : decode cX4_lose 36 = .ok (.iconst 1, 1) := by decide +kernel
theorem dX4_lose_37 : decode cX4_lose 37 = .ok (.iload_n 2, 1) := by decide +kernel
theorem dX4_lose_38 : decode cX4_lose 38 = .ok (.ishl, 1) := by decide +kernel
theorem dX4_lose_39 : decode cX4_lose 39 = .ok (.iconst (-1), 1) := by decide +kernel
theorem dX4_lose_40 : decode cX4_lose 40 = .ok (.ixor, 1) := by decide +kernel
theorem dX4_lose_41 : decode cX4_lose 41 = .ok (.iand, 1) := by decide +kernel
theorem dX4_lose_42 : decode cX4_lose 42 = .ok (.putfield 21, 3) := by decide +kernel
theorem dX4_lose_45 : decode cX4_lose 45 = .ok (.return_, 1) := by decide +kernel
theorem dX4_keep_0 : decode cX4_keep 0 = .ok (.aload_n 0, 1) := by decide +kernel
theorem dX4_keep_1 : decode cX4_keep 1 = .ok (.aload_n 0, 1) := by decide +kernel
theorem dX4_keep_2 : decode cX4_keep 2 = .ok (.getfield 18, 3) := by decide +kernel
theorem dX4_keep_5 : decode cX4_keep 5 = .ok (.putfield 36, 3) := by decide +kernel
theorem dX4_keep_8 : decode cX4_keep 8 = .ok (.aload_n 0, 1) := by decide +kernel
theorem dX4_keep_9 : decode cX4_keep 9 = .ok (.aload_n 0, 1) := by decide +kernel
theorem dX4_keep_10 : decode cX4_keep 10 = .ok (.getfield 21, 3) := by decide +kernel
theorem dX4_keep_13 : decode cX4_keep 13 = .ok (.putfield 39, 3) := by decide +kernel
theorem dX4_keep_16 : decode cX4_keep 16 = .ok (.aload_n 0, 1) := by decide +kernel
theorem dX4_keep_17 : decode cX4_keep 17 = .ok (.aload_n 0, 1) := by decide +kernel
theorem dX4_keep_18 : decode cX4_keep 18 = .ok (.getfield 9, 3) := by decide +kernel
theorem dX4_keep_21 : decode cX4_keep 21 = .ok (.putfield 15, 3) := by decide +kernel
theorem dX4_keep_24 : decode cX4_keep 24 = .ok (.return_, 1) := by decide +kernel
theorem dX4_goBack_0 : decode cX4_goBack 0 = .ok (.aload_n 0, 1) := by decide +kernel
theorem dX4_goBack_1 : decode cX4_goBack 1 = .ok (.aload_n 0, 1) := by decide +kernel
theorem dX4_goBack_2 : decode cX4_goBack 2 = .ok (.getfield 36, 3) := by decide +kernel
theorem dX4_goBack_5 : decode cX4_goBack 5 = .ok (.putfield 18, 3) := by decide +kernel
theorem dX4_goBack_8 : decode cX4_goBack 8 = .ok (.aload_n 0, 1) := by decide +kernel
theorem dX4_goBack_9 : decode cX4_goBack 9 = .ok (.aload_n 0, 1) := by decide +kernel
theorem dX4_goBack_10 : decode cX4_goBack 10 = .ok (.getfield 39, 3) := by decide +kernel
theorem dX4_goBack_13 : decode cX4_goBack 13 = .ok (.putfield 21, 3) := by decide +kernel
theorem dX4_goBack_16 : decode cX4_goBack 16 = .ok (.aload_n 0, 1) := by decide +kernel
theorem dX4_goBack_17 : decode cX4_goBack 17 = .ok (.aload_n 0, 1) := by decide +kernel
theorem dX4_goBack_18 : decode cX4_goBack 18 = .ok (.getfield 15, 3) := by decide +kernel
theorem dX4_goBack_21 : decode cX4_goBack 21 = .ok (.putfield 9, 3) := by decide +kernel
theorem dX4_goBack_24 : decode cX4_goBack 24 = .ok (.return_, 1) := by decide +kernel
set_option maxRecDepth 20000 in
theorem ggX5_init_X6_init : GoodIn wsX5_init wsX6_init := goodIn_r _ [3, 4, 5, 6, 7, 8, 9, 10, 11, 12, 13, 14, 15, 16, 17, 18, 19, 20, 21, 22, 23, 24, 25, 26, 27, 28, 29, 30, 31, 32, 33, 34, 35, 36, 37, 38, 39, 40, 41] (by decide +kernel) (by decide +kernel)
set_option maxRecDepth 20000 in
theorem gX5_init_X6_init_n3 : GoodIn wsX5_init (wsX6_init) := ggX5_init_X6_init
theorem dX5_init_0 : decode cX5_init 0 = .ok (.aload_n 0, 1) := by decide +kernel
theorem dX5_init_1 : decode cX5_init 1 = .ok (.invokespecial 3, 3) := by decide +kernel
theorem dX5_init_4 : decode cX5_init 4 = .ok (.return_, 1) := by decide +kernel
theorem dX5_kind_0 : decode cX5_kind 0 = .ok (.iconst 4, 1) := by decide +kernel
theorem dX5_kind_1 : decode cX5_kind 1 = .ok (.ireturn, 1) := by decide +kernel
theorem dX5_glimpse_0 : decode cX5_glimpse 0 = .ok (.iload_n 1, 1) := by decide +kernel
theorem dX5_glimpse_1 : decode cX5_glimpse 1 = .ok (.aload_n 0, 1) := by decide +kernel
theorem dX5_glimpse_2 : decode cX5_glimpse 2 = .ok (.getfield 9, 3) := by decide +kernel
theorem dX5_glimpse_5 : decode cX5_glimpse 5 = .ok (.iand, 1) := by decide +kernel
theorem dX5_glimpse_6 : decode cX5_glimpse 6 = .ok (.ireturn, 1) := by decide +kernel
set_option maxRecDepth 20000 in
theorem ggX6_init_X4_init : GoodIn wsX6_init wsX4_init := goodIn_r _ [3, 4, 5, 6, 7, 8, 9, 10, 11, 12, 13, 14, 15, 16, 17, 18, 19, 20, 21, 22, 23, 24, 25, 26, 27, 28, 29, 30, 31, 32, 33, 34, 35, 36, 37, 38] (by decide +kernel) (by decide +kernel)
set_option maxRecDepth 20000 in
theorem gX6_init_X4_init_n3 : GoodIn wsX6_init (wsX4_init) := ggX6_init_X4_init
theorem dX6_init_0 : decode cX6_init 0 = .ok (.aload_n 0, 1) := by decide +kernel
theorem dX6_init_1 : decode cX6_init 1 = .ok (.invokespecial 3, 3) := by decide +kernel
theorem dX6_init_4 : decode cX6_init 4 = .ok (.return_, 1) := by decide +kernel
theorem dX6_kind_0 : decode cX6_kind 0 = .ok (.iconst 3, 1) := by decide +kernel
theorem dX6_kind_1 : decode cX6_kind 1 = .ok (.ireturn, 1) := by decide +kernel
theorem dX6_glimpse_0 : decode cX6_glimpse 0 = .ok (.iload_n 1, 1) := by decide +kernel
theorem dX6_glimpse_1 : decode cX6_glimpse 1 = .ok (.aload_n 0, 1) := by decide +kernel
theorem dX6_glimpse_2 : decode cX6_glimpse 2 = .ok (.getfield 9, 3) := by decide +kernel
theorem dX6_glimpse_5 : decode cX6_glimpse 5 = .ok (.iand, 1) := by decide +kernel
theorem dX6_glimpse_6 : decode cX6_glimpse 6 = .ok (.istore_n 2, 1) := by decide +kernel
theorem dX6_glimpse_7 : decode cX6_glimpse 7 = .ok (.iload_n 2, 1) := by decide +kernel
theorem dX6_glimpse_8 : decode cX6_glimpse 8 = .ok (.ifCond .eq 7, 3) := by decide +kernel
theorem dX6_glimpse_11 : decode cX6_glimpse 11 = .ok (.iload_n 2, 1) := by decide +kernel
theorem dX6_glimpse_12 : decode cX6_glimpse 12 = .ok (.goto 9, 3) := by decide +kernel
theorem dX6_glimpse_15 : decode cX6_glimpse 15 = .ok (.iload_n 1, 1) := by decide +kernel
theorem dX6_glimpse_16 : decode cX6_glimpse 16 = .ok (.aload_n 0, 1) := by decide +kernel
theorem dX6_glimpse_17 : decode cX6_glimpse 17 = .ok (.getfield 15, 3) := by decide +kernel
theorem dX6_glimpse_20 : decode cX6_glimpse 20 = .ok (.iand, 1) := by decide +kernel
theorem dX6_glimpse_21 : decode cX6_glimpse 21 = .ok (.ireturn, 1) := by decide +kernel
