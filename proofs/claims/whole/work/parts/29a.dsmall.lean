theorem dX0_init_0 : decode cX0_init 0 = .ok (.aload_n 0, 1) := by decide +kernel
theorem dX0_init_1 : decode cX0_init 1 = .ok (.iload_n 1, 1) := by decide +kernel
theorem dX0_init_2 : decode cX0_init 2 = .ok (.invokespecial 3, 3) := by decide +kernel
theorem dX0_init_5 : decode cX0_init 5 = .ok (.aload_n 0, 1) := by decide +kernel
theorem dX0_init_6 : decode cX0_init 6 = .ok (.iload_n 2, 1) := by decide +kernel
theorem dX0_init_7 : decode cX0_init 7 = .ok (.putfield 9, 3) := by decide +kernel
theorem dX0_init_10 : decode cX0_init 10 = .ok (.aload_n 0, 1) := by decide +kernel
theorem dX0_init_11 : decode cX0_init 11 = .ok (.iload_n 3, 1) := by decide +kernel
theorem dX0_init_12 : decode cX0_init 12 = .ok (.putfield 15, 3) := by decide +kernel
theorem dX0_init_15 : decode cX0_init 15 = .ok (.aload_n 0, 1) := by decide +kernel
theorem dX0_init_16 : decode cX0_init 16 = .ok (.iload 4, 2) := by decide +kernel
theorem dX0_init_18 : decode cX0_init 18 = .ok (.putfield 18, 3) := by decide +kernel
theorem dX0_init_21 : decode cX0_init 21 = .ok (.aload_n 0, 1) := by decide +kernel
theorem dX0_init_22 : decode cX0_init 22 = .ok (.iload 5, 2) := by decide +kernel
theorem dX0_init_24 : decode cX0_init 24 = .ok (.putfield 21, 3) := by decide +kernel
theorem dX0_init_27 : decode cX0_init 27 = .ok (.aload_n 0, 1) := by decide +kernel
theorem dX0_init_28 : decode cX0_init 28 = .ok (.iload 6, 2) := by decide +kernel
theorem dX0_init_30 : decode cX0_init 30 = .ok (.putfield 24, 3) := by decide +kernel
theorem dX0_init_33 : decode cX0_init 33 = .ok (.return_, 1) := by decide +kernel
set_option maxRecDepth 20000 in
theorem ggX0_outcome_J6_bitCount_0f7a4 : GoodIn wsX0_outcome wsJ6_bitCount_0f7a4 := goodIn_r _ [11, 12, 13, 14] (by decide +kernel) (by decide +kernel)
set_option maxRecDepth 20000 in
theorem gX0_outcome_J6_bitCount_0f7a4 : GoodIn wsX0_outcome (va_wsS RX0 35 yJ6_bitCount_0f7a4 wsJ6_bitCount_0f7a4) := goodIn_app (goodIn_of _ (by decide +kernel)) ggX0_outcome_J6_bitCount_0f7a4
theorem dX0_outcome_0 : decode cX0_outcome 0 = .ok (.iload_n 2, 1) := by decide +kernel
theorem dX0_outcome_1 : decode cX0_outcome 1 = .ok (.aload_n 1, 1) := by decide +kernel
theorem dX0_outcome_2 : decode cX0_outcome 2 = .ok (.getfield 27, 3) := by decide +kernel
theorem dX0_outcome_5 : decode cX0_outcome 5 = .ok (.isub, 1) := by decide +kernel
theorem dX0_outcome_6 : decode cX0_outcome 6 = .ok (.aload_n 0, 1) := by decide +kernel
theorem dX0_outcome_7 : decode cX0_outcome 7 = .ok (.getfield 9, 3) := by decide +kernel
theorem dX0_outcome_10 : decode cX0_outcome 10 = .ok (.if_icmp .ge 5, 3) := by decide +kernel
theorem dX0_outcome_13 : decode cX0_outcome 13 = .ok (.iconst 2, 1) := by decide +kernel
theorem dX0_outcome_14 : decode cX0_outcome 14 = .ok (.ireturn, 1) := by decide +kernel
theorem dX0_outcome_15 : decode cX0_outcome 15 = .ok (.aload_n 1, 1) := by decide +kernel
theorem dX0_outcome_16 : decode cX0_outcome 16 = .ok (.getfield 32, 3) := by decide +kernel
theorem dX0_outcome_19 : decode cX0_outcome 19 = .ok (.invokestatic 35, 3) := by decide +kernel
theorem dX0_outcome_22 : decode cX0_outcome 22 = .ok (.aload_n 0, 1) := by decide +kernel
theorem dX0_outcome_23 : decode cX0_outcome 23 = .ok (.getfield 15, 3) := by decide +kernel
theorem dX0_outcome_26 : decode cX0_outcome 26 = .ok (.if_icmp .ge 5, 3) := by decide +kernel
theorem dX0_outcome_29 : decode cX0_outcome 29 = .ok (.iconst 3, 1) := by decide +kernel
theorem dX0_outcome_30 : decode cX0_outcome 30 = .ok (.ireturn, 1) := by decide +kernel
theorem dX0_outcome_31 : decode cX0_outcome 31 = .ok (.iload 4, 2) := by decide +kernel
theorem dX0_outcome_33 : decode cX0_outcome 33 = .ok (.aload_n 0, 1) := by decide +kernel
theorem dX0_outcome_34 : decode cX0_outcome 34 = .ok (.getfield 18, 3) := by decide +kernel
theorem dX0_outcome_37 : decode cX0_outcome 37 = .ok (.if_icmp .le 5, 3) := by decide +kernel
theorem dX0_outcome_40 : decode cX0_outcome 40 = .ok (.iconst 4, 1) := by decide +kernel
theorem dX0_outcome_41 : decode cX0_outcome 41 = .ok (.ireturn, 1) := by decide +kernel
theorem dX0_outcome_42 : decode cX0_outcome 42 = .ok (.iload_n 3, 1) := by decide +kernel
theorem dX0_outcome_43 : decode cX0_outcome 43 = .ok (.iload 4, 2) := by decide +kernel
theorem dX0_outcome_45 : decode cX0_outcome 45 = .ok (.iadd, 1) := by decide +kernel
theorem dX0_outcome_46 : decode cX0_outcome 46 = .ok (.istore 5, 2) := by decide +kernel
theorem dX0_outcome_48 : decode cX0_outcome 48 = .ok (.iload 5, 2) := by decide +kernel
theorem dX0_outcome_50 : decode cX0_outcome 50 = .ok (.ifCond .eq 19, 3) := by decide +kernel
theorem dX0_outcome_53 : decode cX0_outcome 53 = .ok (.iload_n 3, 1) := by decide +kernel
theorem dX0_outcome_54 : decode cX0_outcome 54 = .ok (.aload_n 0, 1) := by decide +kernel
theorem dX0_outcome_55 : decode cX0_outcome 55 = .ok (.getfield 24, 3) := by decide +kernel
theorem dX0_outcome_58 : decode cX0_outcome 58 = .ok (.imul, 1) := by decide +kernel
theorem dX0_outcome_59 : decode cX0_outcome 59 = .ok (.aload_n 0, 1) := by decide +kernel
theorem dX0_outcome_60 : decode cX0_outcome 60 = .ok (.getfield 21, 3) := by decide +kernel
theorem dX0_outcome_63 : decode cX0_outcome 63 = .ok (.iload 5, 2) := by decide +kernel
theorem dX0_outcome_65 : decode cX0_outcome 65 = .ok (.imul, 1) := by decide +kernel
theorem dX0_outcome_66 : decode cX0_outcome 66 = .ok (.if_icmp .ge 5, 3) := by decide +kernel
theorem dX0_outcome_69 : decode cX0_outcome 69 = .ok (.iconst 5, 1) := by decide +kernel
theorem dX0_outcome_70 : decode cX0_outcome 70 = .ok (.ireturn, 1) := by decide +kernel
theorem dX0_outcome_71 : decode cX0_outcome 71 = .ok (.iconst 1, 1) := by decide +kernel
theorem dX0_outcome_72 : decode cX0_outcome 72 = .ok (.ireturn, 1) := by decide +kernel
theorem dX1_init_0 : decode cX1_init 0 = .ok (.aload_n 0, 1) := by decide +kernel
theorem dX1_init_1 : decode cX1_init 1 = .ok (.invokespecial 1, 3) := by decide +kernel
theorem dX1_init_4 : decode cX1_init 4 = .ok (.aload_n 0, 1) := by decide +kernel
theorem dX1_init_5 : decode cX1_init 5 = .ok (.iload_n 1, 1) := by decide +kernel
theorem dX1_init_6 : decode cX1_init 6 = .ok (.putfield 7, 3) := by decide +kernel
theorem dX1_init_9 : decode cX1_init 9 = .ok (.aload_n 0, 1) := by decide +kernel
theorem dX1_init_10 : decode cX1_init 10 = .ok (.iload_n 2, 1) := by decide +kernel
theorem dX1_init_11 : decode cX1_init 11 = .ok (.putfield 13, 3) := by decide +kernel
theorem dX1_init_14 : decode cX1_init 14 = .ok (.return_, 1) := by decide +kernel
theorem dX2_init_0 : decode cX2_init 0 = .ok (.aload_n 0, 1) := by decide +kernel
theorem dX2_init_1 : decode cX2_init 1 = .ok (.invokespecial 3, 3) := by decide +kernel
theorem dX2_init_4 : decode cX2_init 4 = .ok (.aload_n 0, 1) := by decide +kernel
theorem dX2_init_5 : decode cX2_init 5 = .ok (.bipush 6, 2) := by decide +kernel
theorem dX2_init_7 : decode cX2_init 7 = .ok (.bipush 12, 2) := by decide +kernel
theorem dX2_init_9 : decode cX2_init 9 = .ok (.multianewarray 9 2, 4) := by decide +kernel
theorem dX2_init_13 : decode cX2_init 13 = .ok (.putfield 11, 3) := by decide +kernel
theorem dX2_init_16 : decode cX2_init 16 = .ok (.aload_n 0, 1) := by decide +kernel
theorem dX2_init_17 : decode cX2_init 17 = .ok (.bipush 63, 2) := by decide +kernel
theorem dX2_init_19 : decode cX2_init 19 = .ok (.newarray .int, 2) := by decide +kernel
theorem dX2_init_21 : decode cX2_init 21 = .ok (.putfield 16, 3) := by decide +kernel
theorem dX2_init_24 : decode cX2_init 24 = .ok (.aload_n 0, 1) := by decide +kernel
theorem dX2_init_25 : decode cX2_init 25 = .ok (.bipush 63, 2) := by decide +kernel
theorem dX2_init_27 : decode cX2_init 27 = .ok (.newarray .int, 2) := by decide +kernel
theorem dX2_init_29 : decode cX2_init 29 = .ok (.putfield 20, 3) := by decide +kernel
theorem dX2_init_32 : decode cX2_init 32 = .ok (.return_, 1) := by decide +kernel
theorem dX2_lacking_0 : decode cX2_lacking 0 = .ok (.iconst 0, 1) := by decide +kernel
theorem dX2_lacking_1 : decode cX2_lacking 1 = .ok (.istore_n 1, 1) := by decide +kernel
theorem dX2_lacking_2 : decode cX2_lacking 2 = .ok (.iconst 0, 1) := by decide +kernel
theorem dX2_lacking_3 : decode cX2_lacking 3 = .ok (.istore_n 2, 1) := by decide +kernel
theorem dX2_lacking_4 : decode cX2_lacking 4 = .ok (.iload_n 2, 1) := by decide +kernel
theorem dX2_lacking_5 : decode cX2_lacking 5 = .ok (.bipush 12, 2) := by decide +kernel
theorem dX2_lacking_7 : decode cX2_lacking 7 = .ok (.if_icmp .ge 26, 3) := by decide +kernel
theorem dX2_lacking_10 : decode cX2_lacking 10 = .ok (.aload_n 0, 1) := by decide +kernel
theorem dX2_lacking_11 : decode cX2_lacking 11 = .ok (.getfield 11, 3) := by decide +kernel
theorem dX2_lacking_14 : decode cX2_lacking 14 = .ok (.iconst 0, 1) := by decide +kernel
theorem dX2_lacking_15 : decode cX2_lacking 15 = .ok (.aaload, 1) := by decide +kernel
theorem dX2_lacking_16 : decode cX2_lacking 16 = .ok (.iload_n 2, 1) := by decide +kernel
theorem dX2_lacking_17 : decode cX2_lacking 17 = .ok (.iaload, 1) := by decide +kernel
theorem dX2_lacking_18 : decode cX2_lacking 18 = .ok (.ifCond .ne 9, 3) := by decide +kernel
theorem dX2_lacking_21 : decode cX2_lacking 21 = .ok (.iload_n 1, 1) := by decide +kernel
theorem dX2_lacking_22 : decode cX2_lacking 22 = .ok (.iconst 1, 1) := by decide +kernel
theorem dX2_lacking_23 : decode cX2_lacking 23 = .ok (.iload_n 2, 1) := by decide +kernel
theorem dX2_lacking_24 : decode cX2_lacking 24 = .ok (.ishl, 1) := by decide +kernel
theorem dX2_lacking_25 : decode cX2_lacking 25 = .ok (.ior, 1) := by decide +kernel
theorem dX2_lacking_26 : decode cX2_lacking 26 = .ok (.istore_n 1, 1) := by decide +kernel
theorem dX2_lacking_27 : decode cX2_lacking 27 = .ok (.iinc 2 1, 3) := by decide +kernel
theorem dX2_lacking_30 : decode cX2_lacking 30 = .ok (.goto (-26), 3) := by decide +kernel
theorem dX2_lacking_33 : decode cX2_lacking 33 = .ok (.iload_n 1, 1) := by decide +kernel
theorem dX2_lacking_34 : decode cX2_lacking 34 = .ok (.ireturn, 1) := by decide +kernel
theorem dX2_take_0 : decode cX2_take 0 = .ok (.iconst 0, 1) := by decide +kernel
theorem dX2_take_1 : decode cX2_take 1 = .ok (.istore_n 3, 1) := by decide +kernel
theorem dX2_take_2 : decode cX2_take 2 = .ok (.iconst 0, 1) := by decide +kernel
theorem dX2_take_3 : decode cX2_take 3 = .ok (.istore 4, 2) := by decide +kernel
theorem dX2_take_5 : decode cX2_take 5 = .ok (.iload 4, 2) := by decide +kernel
theorem dX2_take_7 : decode cX2_take 7 = .ok (.bipush 12, 2) := by decide +kernel
theorem dX2_take_9 : decode cX2_take 9 = .ok (.if_icmp .ge 55, 3) := by decide +kernel
theorem dX2_take_12 : decode cX2_take 12 = .ok (.iload 4, 2) := by decide +kernel
theorem dX2_take_14 : decode cX2_take 14 = .ok (.aload_n 2, 1) := by decide +kernel
theorem dX2_take_15 : decode cX2_take 15 = .ok (.getfield 23, 3) := by decide +kernel
theorem dX2_take_18 : decode cX2_take 18 = .ok (.if_icmp .ge 28, 3) := by decide +kernel
theorem dX2_take_21 : decode cX2_take 21 = .ok (.aload_n 0, 1) := by decide +kernel
theorem dX2_take_22 : decode cX2_take 22 = .ok (.getfield 11, 3) := by decide +kernel
theorem dX2_take_25 : decode cX2_take 25 = .ok (.iload_n 1, 1) := by decide +kernel
theorem dX2_take_26 : decode cX2_take 26 = .ok (.aaload, 1) := by decide +kernel
theorem dX2_take_27 : decode cX2_take 27 = .ok (.iload 4, 2) := by decide +kernel
theorem dX2_take_29 : decode cX2_take 29 = .ok (.iconst 0, 1) := by decide +kernel
theorem dX2_take_30 : decode cX2_take 30 = .ok (.bipush 9, 2) := by decide +kernel
theorem dX2_take_32 : decode cX2_take 32 = .ok (.aload_n 2, 1) := by decide +kernel
theorem dX2_take_33 : decode cX2_take 33 = .ok (.getfield 29, 3) := by decide +kernel
theorem dX2_take_36 : decode cX2_take 36 = .ok (.iload 4, 2) := by decide +kernel
theorem dX2_take_38 : decode cX2_take 38 = .ok (.baload, 1) := by decide +kernel
theorem dX2_take_39 : decode cX2_take 39 = .ok (.invokestatic 33, 3) := by decide +kernel
theorem dX2_take_42 : decode cX2_take 42 = .ok (.invokestatic 39, 3) := by decide +kernel
theorem dX2_take_45 : decode cX2_take 45 = .ok (.iastore, 1) := by decide +kernel
theorem dX2_take_46 : decode cX2_take 46 = .ok (.iload_n 3, 1) := by decide +kernel
theorem dX2_take_47 : decode cX2_take 47 = .ok (.aload_n 0, 1) := by decide +kernel
theorem dX2_take_48 : decode cX2_take 48 = .ok (.getfield 11, 3) := by decide +kernel
theorem dX2_take_51 : decode cX2_take 51 = .ok (.iload_n 1, 1) := by decide +kernel
theorem dX2_take_52 : decode cX2_take 52 = .ok (.aaload, 1) := by decide +kernel
theorem dX2_take_53 : decode cX2_take 53 = .ok (.iload 4, 2) := by decide +kernel
theorem dX2_take_55 : decode cX2_take 55 = .ok (.iaload, 1) := by decide +kernel
theorem dX2_take_56 : decode cX2_take 56 = .ok (.iadd, 1) := by decide +kernel
theorem dX2_take_57 : decode cX2_take 57 = .ok (.istore_n 3, 1) := by decide +kernel
theorem dX2_take_58 : decode cX2_take 58 = .ok (.iinc 4 1, 3) := by decide +kernel
theorem dX2_take_61 : decode cX2_take 61 = .ok (.goto (-56), 3) := by decide +kernel
theorem dX2_take_64 : decode cX2_take 64 = .ok (.iload_n 3, 1) := by decide +kernel
theorem dX2_take_65 : decode cX2_take 65 = .ok (.ireturn, 1) := by decide +kernel
set_option maxRecDepth 20000 in
theorem ggX2_weigh_X2_weighNumber : GoodIn wsX2_weigh wsX2_weighNumber := goodIn_r _ [7, 8, 9, 10, 11, 12, 1, 2, 13, 14, 15, 16, 17, 18, 6, 19, 20, 21, 22, 23, 24, 25, 26, 27, 28, 29, 30, 31, 32] (by decide +kernel) (by decide +kernel)
set_option maxRecDepth 20000 in
theorem gX2_weigh_X2_weighNumber : GoodIn wsX2_weigh (wsV RX2 42 RX2 yX2_weighNumber wsX2_weighNumber) := goodIn_app (goodIn_of _ (by decide +kernel)) ggX2_weigh_X2_weighNumber
theorem dX2_weigh_0 : decode cX2_weigh 0 = .ok (.iconst 0, 1) := by decide +kernel
theorem dX2_weigh_1 : decode cX2_weigh 1 = .ok (.istore_n 1, 1) := by decide +kernel
theorem dX2_weigh_2 : decode cX2_weigh 2 = .ok (.iload_n 1, 1) := by decide +kernel
theorem dX2_weigh_3 : decode cX2_weigh 3 = .ok (.bipush 62, 2) := by decide +kernel
theorem dX2_weigh_5 : decode cX2_weigh 5 = .ok (.if_icmp .gt 23, 3) := by decide +kernel
theorem dX2_weigh_8 : decode cX2_weigh 8 = .ok (.aload_n 0, 1) := by decide +kernel
theorem dX2_weigh_9 : decode cX2_weigh 9 = .ok (.getfield 16, 3) := by decide +kernel
theorem dX2_weigh_12 : decode cX2_weigh 12 = .ok (.iload_n 1, 1) := by decide +kernel
theorem dX2_weigh_13 : decode cX2_weigh 13 = .ok (.iconst 0, 1) := by decide +kernel
theorem dX2_weigh_14 : decode cX2_weigh 14 = .ok (.iastore, 1) := by decide +kernel
theorem dX2_weigh_15 : decode cX2_weigh 15 = .ok (.aload_n 0, 1) := by decide +kernel
theorem dX2_weigh_16 : decode cX2_weigh 16 = .ok (.getfield 20, 3) := by decide +kernel
theorem dX2_weigh_19 : decode cX2_weigh 19 = .ok (.iload_n 1, 1) := by decide +kernel
theorem dX2_weigh_20 : decode cX2_weigh 20 = .ok (.iconst 0, 1) := by decide +kernel
theorem dX2_weigh_21 : decode cX2_weigh 21 = .ok (.iastore, 1) := by decide +kernel
theorem dX2_weigh_22 : decode cX2_weigh 22 = .ok (.iinc 1 2, 3) := by decide +kernel
theorem dX2_weigh_25 : decode cX2_weigh 25 = .ok (.goto (-23), 3) := by decide +kernel
theorem dX2_weigh_28 : decode cX2_weigh 28 = .ok (.iconst 0, 1) := by decide +kernel
theorem dX2_weigh_29 : decode cX2_weigh 29 = .ok (.istore_n 1, 1) := by decide +kernel
theorem dX2_weigh_30 : decode cX2_weigh 30 = .ok (.iload_n 1, 1) := by decide +kernel
theorem dX2_weigh_31 : decode cX2_weigh 31 = .ok (.bipush 12, 2) := by decide +kernel
theorem dX2_weigh_33 : decode cX2_weigh 33 = .ok (.if_icmp .ge 14, 3) := by decide +kernel
theorem dX2_weigh_36 : decode cX2_weigh 36 = .ok (.aload_n 0, 1) := by decide +kernel
theorem dX2_weigh_37 : decode cX2_weigh 37 = .ok (.iload_n 1, 1) := by decide +kernel
theorem dX2_weigh_38 : decode cX2_weigh 38 = .ok (.invokevirtual 42, 3) := by decide +kernel
theorem dX2_weigh_41 : decode cX2_weigh 41 = .ok (.iinc 1 1, 3) := by decide +kernel
theorem dX2_weigh_44 : decode cX2_weigh 44 = .ok (.goto (-14), 3) := by decide +kernel
theorem dX2_weigh_47 : decode cX2_weigh 47 = .ok (.return_, 1) := by decide +kernel
set_option maxRecDepth 20000 in
theorem ggX2_weighNumber_X2_partnersHaving : GoodIn wsX2_weighNumber wsX2_partnersHaving := goodIn_r _ [15, 1, 16, 17, 18, 26, 27, 28] (by decide +kernel) (by decide +kernel)
set_option maxRecDepth 20000 in
theorem gX2_weighNumber_X2_partnersHaving : GoodIn wsX2_weighNumber (wsV RX2 46 RX2 yX2_partnersHaving wsX2_partnersHaving) := goodIn_app (goodIn_of _ (by decide +kernel)) ggX2_weighNumber_X2_partnersHaving
set_option maxRecDepth 20000 in
theorem ggX2_weighNumber_J6_bitCount_0f7a4 : GoodIn wsX2_weighNumber wsJ6_bitCount_0f7a4 := goodIn_r _ [22, 23, 24, 25] (by decide +kernel) (by decide +kernel)
set_option maxRecDepth 20000 in
theorem gX2_weighNumber_J6_bitCount_0f7a4 : GoodIn wsX2_weighNumber (va_wsS RX2 50 yJ6_bitCount_0f7a4 wsJ6_bitCount_0f7a4) := goodIn_app (goodIn_of _ (by decide +kernel)) ggX2_weighNumber_J6_bitCount_0f7a4
theorem dX2_weighNumber_0 : decode cX2_weighNumber 0 = .ok (.aload_n 0, 1) := by decide +kernel
theorem dX2_weighNumber_1 : decode cX2_weighNumber 1 = .ok (.getfield 11, 3) := by decide +kernel
theorem dX2_weighNumber_4 : decode cX2_weighNumber 4 = .ok (.iconst 0, 1) := by decide +kernel
theorem dX2_weighNumber_5 : decode cX2_weighNumber 5 = .ok (.aaload, 1) := by decide +kernel
theorem dX2_weighNumber_6 : decode cX2_weighNumber 6 = .ok (.iload_n 1, 1) := by decide +kernel
theorem dX2_weighNumber_7 : decode cX2_weighNumber 7 = .ok (.iaload, 1) := by decide +kernel
theorem dX2_weighNumber_8 : decode cX2_weighNumber 8 = .ok (.istore_n 2, 1) := by decide +kernel
theorem dX2_weighNumber_9 : decode cX2_weighNumber 9 = .ok (.iconst 0, 1) := by decide +kernel
theorem dX2_weighNumber_10 : decode cX2_weighNumber 10 = .ok (.iload_n 2, 1) := by decide +kernel
theorem dX2_weighNumber_11 : decode cX2_weighNumber 11 = .ok (.iconst 1, 1) := by decide +kernel
theorem dX2_weighNumber_12 : decode cX2_weighNumber 12 = .ok (.isub, 1) := by decide +kernel
theorem dX2_weighNumber_13 : decode cX2_weighNumber 13 = .ok (.invokestatic 39, 3) := by decide +kernel
theorem dX2_weighNumber_16 : decode cX2_weighNumber 16 = .ok (.istore_n 3, 1) := by decide +kernel
theorem dX2_weighNumber_17 : decode cX2_weighNumber 17 = .ok (.iload_n 2, 1) := by decide +kernel
theorem dX2_weighNumber_18 : decode cX2_weighNumber 18 = .ok (.ifCond .ne 14, 3) := by decide +kernel
theorem dX2_weighNumber_21 : decode cX2_weighNumber 21 = .ok (.aload_n 0, 1) := by decide +kernel
theorem dX2_weighNumber_22 : decode cX2_weighNumber 22 = .ok (.iload_n 1, 1) := by decide +kernel
theorem dX2_weighNumber_23 : decode cX2_weighNumber 23 = .ok (.iconst 2, 1) := by decide +kernel
theorem dX2_weighNumber_24 : decode cX2_weighNumber 24 = .ok (.bipush 9, 2) := by decide +kernel
theorem dX2_weighNumber_26 : decode cX2_weighNumber 26 = .ok (.invokevirtual 46, 3) := by decide +kernel
theorem dX2_weighNumber_29 : decode cX2_weighNumber 29 = .ok (.goto 4, 3) := by decide +kernel
theorem dX2_weighNumber_32 : decode cX2_weighNumber 32 = .ok (.iconst 0, 1) := by decide +kernel
theorem dX2_weighNumber_33 : decode cX2_weighNumber 33 = .ok (.istore 4, 2) := by decide +kernel
theorem dX2_weighNumber_35 : decode cX2_weighNumber 35 = .ok (.aload_n 0, 1) := by decide +kernel
theorem dX2_weighNumber_36 : decode cX2_weighNumber 36 = .ok (.iload_n 1, 1) := by decide +kernel
theorem dX2_weighNumber_37 : decode cX2_weighNumber 37 = .ok (.iconst 0, 1) := by decide +kernel
theorem dX2_weighNumber_38 : decode cX2_weighNumber 38 = .ok (.iconst 0, 1) := by decide +kernel
theorem dX2_weighNumber_39 : decode cX2_weighNumber 39 = .ok (.invokevirtual 46, 3) := by decide +kernel
theorem dX2_weighNumber_42 : decode cX2_weighNumber 42 = .ok (.istore 5, 2) := by decide +kernel
theorem dX2_weighNumber_44 : decode cX2_weighNumber 44 = .ok (.iconst 0, 1) := by decide +kernel
theorem dX2_weighNumber_45 : decode cX2_weighNumber 45 = .ok (.istore 6, 2) := by decide +kernel
theorem dX2_weighNumber_47 : decode cX2_weighNumber 47 = .ok (.iload 6, 2) := by decide +kernel
theorem dX2_weighNumber_49 : decode cX2_weighNumber 49 = .ok (.bipush 62, 2) := by decide +kernel
theorem dX2_weighNumber_51 : decode cX2_weighNumber 51 = .ok (.if_icmp .gt 50, 3) := by decide +kernel
theorem dX2_weighNumber_54 : decode cX2_weighNumber 54 = .ok (.iload 4, 2) := by decide +kernel
theorem dX2_weighNumber_56 : decode cX2_weighNumber 56 = .ok (.iload 6, 2) := by decide +kernel
theorem dX2_weighNumber_58 : decode cX2_weighNumber 58 = .ok (.iand, 1) := by decide +kernel
theorem dX2_weighNumber_59 : decode cX2_weighNumber 59 = .ok (.ifCond .eq 14, 3) := by decide +kernel
theorem dX2_weighNumber_62 : decode cX2_weighNumber 62 = .ok (.aload_n 0, 1) := by decide +kernel
theorem dX2_weighNumber_63 : decode cX2_weighNumber 63 = .ok (.getfield 16, 3) := by decide +kernel
theorem dX2_weighNumber_66 : decode cX2_weighNumber 66 = .ok (.iload 6, 2) := by decide +kernel
theorem dX2_weighNumber_68 : decode cX2_weighNumber 68 = .ok (.dup2, 1) := by decide +kernel
theorem dX2_weighNumber_69 : decode cX2_weighNumber 69 = .ok (.iaload, 1) := by decide +kernel
theorem dX2_weighNumber_70 : decode cX2_weighNumber 70 = .ok (.iconst 1, 1) := by decide +kernel
theorem dX2_weighNumber_71 : decode cX2_weighNumber 71 = .ok (.iadd, 1) := by decide +kernel
theorem dX2_weighNumber_72 : decode cX2_weighNumber 72 = .ok (.iastore, 1) := by decide +kernel
theorem dX2_weighNumber_73 : decode cX2_weighNumber 73 = .ok (.aload_n 0, 1) := by decide +kernel
theorem dX2_weighNumber_74 : decode cX2_weighNumber 74 = .ok (.getfield 20, 3) := by decide +kernel
theorem dX2_weighNumber_77 : decode cX2_weighNumber 77 = .ok (.iload 6, 2) := by decide +kernel
theorem dX2_weighNumber_79 : decode cX2_weighNumber 79 = .ok (.dup2, 1) := by decide +kernel
theorem dX2_weighNumber_80 : decode cX2_weighNumber 80 = .ok (.iaload, 1) := by decide +kernel
theorem dX2_weighNumber_81 : decode cX2_weighNumber 81 = .ok (.iload_n 3, 1) := by decide +kernel
theorem dX2_weighNumber_82 : decode cX2_weighNumber 82 = .ok (.iload 5, 2) := by decide +kernel
theorem dX2_weighNumber_84 : decode cX2_weighNumber 84 = .ok (.iload 6, 2) := by decide +kernel
theorem dX2_weighNumber_86 : decode cX2_weighNumber 86 = .ok (.iand, 1) := by decide +kernel
theorem dX2_weighNumber_87 : decode cX2_weighNumber 87 = .ok (.invokestatic 50, 3) := by decide +kernel
theorem dX2_weighNumber_90 : decode cX2_weighNumber 90 = .ok (.invokestatic 33, 3) := by decide +kernel
theorem dX2_weighNumber_93 : decode cX2_weighNumber 93 = .ok (.iadd, 1) := by decide +kernel
theorem dX2_weighNumber_94 : decode cX2_weighNumber 94 = .ok (.iastore, 1) := by decide +kernel
theorem dX2_weighNumber_95 : decode cX2_weighNumber 95 = .ok (.iinc 6 2, 3) := by decide +kernel
theorem dX2_weighNumber_98 : decode cX2_weighNumber 98 = .ok (.goto (-51), 3) := by decide +kernel
theorem dX2_weighNumber_101 : decode cX2_weighNumber 101 = .ok (.return_, 1) := by decide +kernel
set_option maxRecDepth 20000 in
theorem ggX2_partnersHaving_X10_isWithin : GoodIn wsX2_partnersHaving wsX10_isWithin := goodIn_r _ [4] (by decide +kernel) (by decide +kernel)
set_option maxRecDepth 20000 in
theorem gX2_partnersHaving_X10_isWithin_n56 : GoodIn wsX2_partnersHaving (wsX10_isWithin) := ggX2_partnersHaving_X10_isWithin
theorem dX2_partnersHaving_0 : decode cX2_partnersHaving 0 = .ok (.iconst 0, 1) := by decide +kernel
theorem dX2_partnersHaving_1 : decode cX2_partnersHaving 1 = .ok (.istore 4, 2) := by decide +kernel
theorem dX2_partnersHaving_3 : decode cX2_partnersHaving 3 = .ok (.iconst 1, 1) := by decide +kernel
theorem dX2_partnersHaving_4 : decode cX2_partnersHaving 4 = .ok (.istore 5, 2) := by decide +kernel
theorem dX2_partnersHaving_6 : decode cX2_partnersHaving 6 = .ok (.iload 5, 2) := by decide +kernel
theorem dX2_partnersHaving_8 : decode cX2_partnersHaving 8 = .ok (.bipush 6, 2) := by decide +kernel
theorem dX2_partnersHaving_10 : decode cX2_partnersHaving 10 = .ok (.if_icmp .ge 35, 3) := by decide +kernel
theorem dX2_partnersHaving_13 : decode cX2_partnersHaving 13 = .ok (.aload_n 0, 1) := by decide +kernel
theorem dX2_partnersHaving_14 : decode cX2_partnersHaving 14 = .ok (.getfield 11, 3) := by decide +kernel
theorem dX2_partnersHaving_17 : decode cX2_partnersHaving 17 = .ok (.iload 5, 2) := by decide +kernel
theorem dX2_partnersHaving_19 : decode cX2_partnersHaving 19 = .ok (.aaload, 1) := by decide +kernel
theorem dX2_partnersHaving_20 : decode cX2_partnersHaving 20 = .ok (.iload_n 1, 1) := by decide +kernel
theorem dX2_partnersHaving_21 : decode cX2_partnersHaving 21 = .ok (.iaload, 1) := by decide +kernel
theorem dX2_partnersHaving_22 : decode cX2_partnersHaving 22 = .ok (.iload_n 2, 1) := by decide +kernel
theorem dX2_partnersHaving_23 : decode cX2_partnersHaving 23 = .ok (.iload_n 3, 1) := by decide +kernel
theorem dX2_partnersHaving_24 : decode cX2_partnersHaving 24 = .ok (.invokestatic 56, 3) := by decide +kernel
theorem dX2_partnersHaving_27 : decode cX2_partnersHaving 27 = .ok (.ifCond .eq 12, 3) := by decide +kernel
theorem dX2_partnersHaving_30 : decode cX2_partnersHaving 30 = .ok (.iload 4, 2) := by decide +kernel
theorem dX2_partnersHaving_32 : decode cX2_partnersHaving 32 = .ok (.iconst 1, 1) := by decide +kernel
theorem dX2_partnersHaving_33 : decode cX2_partnersHaving 33 = .ok (.iload 5, 2) := by decide +kernel
theorem dX2_partnersHaving_35 : decode cX2_partnersHaving 35 = .ok (.ishl, 1) := by decide +kernel
theorem dX2_partnersHaving_36 : decode cX2_partnersHaving 36 = .ok (.ior, 1) := by decide +kernel
theorem dX2_partnersHaving_37 : decode cX2_partnersHaving 37 = .ok (.istore 4, 2) := by decide +kernel
theorem dX2_partnersHaving_39 : decode cX2_partnersHaving 39 = .ok (.iinc 5 1, 3) := by decide +kernel
theorem dX2_partnersHaving_42 : decode cX2_partnersHaving 42 = .ok (.goto (-36), 3) := by decide +kernel
theorem dX2_partnersHaving_45 : decode cX2_partnersHaving 45 = .ok (.iload 4, 2) := by decide +kernel
theorem dX2_partnersHaving_47 : decode cX2_partnersHaving 47 = .ok (.ireturn, 1) := by decide +kernel
theorem dX2_mostSwaps_0 : decode cX2_mostSwaps 0 = .ok (.bipush 12, 2) := by decide +kernel
theorem dX2_mostSwaps_2 : decode cX2_mostSwaps 2 = .ok (.istore_n 2, 1) := by decide +kernel
theorem dX2_mostSwaps_3 : decode cX2_mostSwaps 3 = .ok (.iconst 0, 1) := by decide +kernel
theorem dX2_mostSwaps_4 : decode cX2_mostSwaps 4 = .ok (.istore_n 3, 1) := by decide +kernel
theorem dX2_mostSwaps_5 : decode cX2_mostSwaps 5 = .ok (.iload_n 3, 1) := by decide +kernel
theorem dX2_mostSwaps_6 : decode cX2_mostSwaps 6 = .ok (.bipush 62, 2) := by decide +kernel
theorem dX2_mostSwaps_8 : decode cX2_mostSwaps 8 = .ok (.if_icmp .gt 39, 3) := by decide +kernel
theorem dX2_mostSwaps_11 : decode cX2_mostSwaps 11 = .ok (.iload_n 3, 1) := by decide +kernel
theorem dX2_mostSwaps_12 : decode cX2_mostSwaps 12 = .ok (.iload_n 1, 1) := by decide +kernel
theorem dX2_mostSwaps_13 : decode cX2_mostSwaps 13 = .ok (.iconst (-1), 1) := by decide +kernel
theorem dX2_mostSwaps_14 : decode cX2_mostSwaps 14 = .ok (.ixor, 1) := by decide +kernel
theorem dX2_mostSwaps_15 : decode cX2_mostSwaps 15 = .ok (.iand, 1) := by decide +kernel
theorem dX2_mostSwaps_16 : decode cX2_mostSwaps 16 = .ok (.ifCond .ne 25, 3) := by decide +kernel
theorem dX2_mostSwaps_19 : decode cX2_mostSwaps 19 = .ok (.iload_n 2, 1) := by decide +kernel
theorem dX2_mostSwaps_20 : decode cX2_mostSwaps 20 = .ok (.aload_n 0, 1) := by decide +kernel
theorem dX2_mostSwaps_21 : decode cX2_mostSwaps 21 = .ok (.getfield 20, 3) := by decide +kernel
theorem dX2_mostSwaps_24 : decode cX2_mostSwaps 24 = .ok (.iload_n 3, 1) := by decide +kernel
theorem dX2_mostSwaps_25 : decode cX2_mostSwaps 25 = .ok (.iaload, 1) := by decide +kernel
theorem dX2_mostSwaps_26 : decode cX2_mostSwaps 26 = .ok (.aload_n 0, 1) := by decide +kernel
theorem dX2_mostSwaps_27 : decode cX2_mostSwaps 27 = .ok (.getfield 16, 3) := by decide +kernel
theorem dX2_mostSwaps_30 : decode cX2_mostSwaps 30 = .ok (.iload_n 1, 1) := by decide +kernel
theorem dX2_mostSwaps_31 : decode cX2_mostSwaps 31 = .ok (.iload_n 3, 1) := by decide +kernel
theorem dX2_mostSwaps_32 : decode cX2_mostSwaps 32 = .ok (.iconst (-1), 1) := by decide +kernel
theorem dX2_mostSwaps_33 : decode cX2_mostSwaps 33 = .ok (.ixor, 1) := by decide +kernel
theorem dX2_mostSwaps_34 : decode cX2_mostSwaps 34 = .ok (.iand, 1) := by decide +kernel
theorem dX2_mostSwaps_35 : decode cX2_mostSwaps 35 = .ok (.iaload, 1) := by decide +kernel
theorem dX2_mostSwaps_36 : decode cX2_mostSwaps 36 = .ok (.iadd, 1) := by decide +kernel
theorem dX2_mostSwaps_37 : decode cX2_mostSwaps 37 = .ok (.invokestatic 33, 3) := by decide +kernel
theorem dX2_mostSwaps_40 : decode cX2_mostSwaps 40 = .ok (.istore_n 2, 1) := by decide +kernel
theorem dX2_mostSwaps_41 : decode cX2_mostSwaps 41 = .ok (.iinc 3 2, 3) := by decide +kernel
theorem dX2_mostSwaps_44 : decode cX2_mostSwaps 44 = .ok (.goto (-39), 3) := by decide +kernel
theorem dX2_mostSwaps_47 : decode cX2_mostSwaps 47 = .ok (.iload_n 2, 1) := by decide +kernel
theorem dX2_mostSwaps_48 : decode cX2_mostSwaps 48 = .ok (.ireturn, 1) := by decide +kernel
theorem dX3_init_0 : decode cX3_init 0 = .ok (.aload_n 0, 1) := by decide +kernel
theorem dX3_init_1 : decode cX3_init 1 = .ok (.invokespecial 3, 3) := by decide +kernel
theorem dX3_init_4 : decode cX3_init 4 = .ok (.aload_n 0, 1) := by decide +kernel
theorem dX3_init_5 : decode cX3_init 5 = .ok (.sipush 30000, 3) := by decide +kernel
theorem dX3_init_8 : decode cX3_init 8 = .ok (.putfield 9, 3) := by decide +kernel
theorem dX3_init_11 : decode cX3_init 11 = .ok (.aload_n 0, 1) := by decide +kernel
theorem dX3_init_12 : decode cX3_init 12 = .ok (.bipush 16, 2) := by decide +kernel
theorem dX3_init_14 : decode cX3_init 14 = .ok (.newarray .int, 2) := by decide +kernel
theorem dX3_init_16 : decode cX3_init 16 = .ok (.putfield 15, 3) := by decide +kernel
theorem dX3_init_19 : decode cX3_init 19 = .ok (.aload_n 0, 1) := by decide +kernel
theorem dX3_init_20 : decode cX3_init 20 = .ok (.bipush 16, 2) := by decide +kernel
theorem dX3_init_22 : decode cX3_init 22 = .ok (.newarray .int, 2) := by decide +kernel
theorem dX3_init_24 : decode cX3_init 24 = .ok (.putfield 19, 3) := by decide +kernel
theorem dX3_init_27 : decode cX3_init 27 = .ok (.return_, 1) := by decide +kernel
theorem dX3_hadTooSoon_0 : decode cX3_hadTooSoon 0 = .ok (.aload_n 0, 1) := by decide +kernel
theorem dX3_hadTooSoon_1 : decode cX3_hadTooSoon 1 = .ok (.getfield 15, 3) := by decide +kernel
theorem dX3_hadTooSoon_4 : decode cX3_hadTooSoon 4 = .ok (.iload_n 1, 1) := by decide +kernel
theorem dX3_hadTooSoon_5 : decode cX3_hadTooSoon 5 = .ok (.iaload, 1) := by decide +kernel
theorem dX3_hadTooSoon_6 : decode cX3_hadTooSoon 6 = .ok (.ifCond .le 22, 3) := by decide +kernel
theorem dX3_hadTooSoon_9 : decode cX3_hadTooSoon 9 = .ok (.iload_n 2, 1) := by decide +kernel
theorem dX3_hadTooSoon_10 : decode cX3_hadTooSoon 10 = .ok (.aload_n 0, 1) := by decide +kernel
theorem dX3_hadTooSoon_11 : decode cX3_hadTooSoon 11 = .ok (.getfield 19, 3) := by decide +kernel
theorem dX3_hadTooSoon_14 : decode cX3_hadTooSoon 14 = .ok (.iload_n 1, 1) := by decide +kernel
theorem dX3_hadTooSoon_15 : decode cX3_hadTooSoon 15 = .ok (.iaload, 1) := by decide +kernel
theorem dX3_hadTooSoon_16 : decode cX3_hadTooSoon 16 = .ok (.isub, 1) := by decide +kernel
theorem dX3_hadTooSoon_17 : decode cX3_hadTooSoon 17 = .ok (.aload_n 0, 1) := by decide +kernel
theorem dX3_hadTooSoon_18 : decode cX3_hadTooSoon 18 = .ok (.getfield 22, 3) := by decide +kernel
theorem dX3_hadTooSoon_21 : decode cX3_hadTooSoon 21 = .ok (.if_icmp .ge 7, 3) := by decide +kernel
theorem dX3_hadTooSoon_24 : decode cX3_hadTooSoon 24 = .ok (.iconst 1, 1) := by decide +kernel
theorem dX3_hadTooSoon_25 : decode cX3_hadTooSoon 25 = .ok (.goto 4, 3) := by decide +kernel
theorem dX3_hadTooSoon_28 : decode cX3_hadTooSoon 28 = .ok (.iconst 0, 1) := by decide +kernel
theorem dX3_hadTooSoon_29 : decode cX3_hadTooSoon 29 = .ok (.ireturn, 1) := by decide +kernel
theorem dX4_init_0 : decode cX4_init 0 = .ok (.aload_n 0, 1) := by decide +kernel
theorem dX4_init_1 : decode cX4_init 1 = .ok (.invokespecial 1, 3) := by decide +kernel
theorem dX4_init_4 : decode cX4_init 4 = .ok (.aload_n 0, 1) := by decide +kernel
theorem dX4_init_5 : decode cX4_init 5 = .ok (.iload_n 1, 1) := by decide +kernel
theorem dX4_init_6 : decode cX4_init 6 = .ok (.putfield 7, 3) := by decide +kernel
theorem dX4_init_9 : decode cX4_init 9 = .ok (.aload_n 0, 1) := by decide +kernel
theorem dX4_init_10 : decode cX4_init 10 = .ok (.iload_n 2, 1) := by decide +kernel
theorem dX4_init_11 : decode cX4_init 11 = .ok (.putfield 13, 3) := by decide +kernel
theorem dX4_init_14 : decode cX4_init 14 = .ok (.aload_n 0, 1) := by decide +kernel
theorem dX4_init_15 : decode cX4_init 15 = .ok (.aload_n 3, 1) := by decide +kernel
theorem dX4_init_16 : decode cX4_init 16 = .ok (.putfield 16, 3) := by decide +kernel
theorem dX4_init_19 : decode cX4_init 19 = .ok (.return_, 1) := by decide +kernel
theorem dX5_init_0 : decode cX5_init 0 = .ok (.aload_n 0, 1) := by decide +kernel
theorem dX5_init_1 : decode cX5_init 1 = .ok (.invokespecial 3, 3) := by decide +kernel
theorem dX5_init_4 : decode cX5_init 4 = .ok (.aload_n 0, 1) := by decide +kernel
theorem dX5_init_5 : decode cX5_init 5 = .ok (.bipush (-9), 2) := by decide +kernel
theorem dX5_init_7 : decode cX5_init 7 = .ok (.putfield 9, 3) := by decide +kernel
theorem dX5_init_10 : decode cX5_init 10 = .ok (.aload_n 0, 1) := by decide +kernel
theorem dX5_init_11 : decode cX5_init 11 = .ok (.bipush (-9), 2) := by decide +kernel
theorem dX5_init_13 : decode cX5_init 13 = .ok (.putfield 15, 3) := by decide +kernel
theorem dX5_init_16 : decode cX5_init 16 = .ok (.aload_n 0, 1) := by decide +kernel
theorem dX5_init_17 : decode cX5_init 17 = .ok (.bipush (-9), 2) := by decide +kernel
theorem dX5_init_19 : decode cX5_init 19 = .ok (.putfield 18, 3) := by decide +kernel
theorem dX5_init_22 : decode cX5_init 22 = .ok (.aload_n 0, 1) := by decide +kernel
theorem dX5_init_23 : decode cX5_init 23 = .ok (.bipush (-9), 2) := by decide +kernel
theorem dX5_init_25 : decode cX5_init 25 = .ok (.putfield 21, 3) := by decide +kernel
theorem dX5_init_28 : decode cX5_init 28 = .ok (.aload_n 0, 1) := by decide +kernel
theorem dX5_init_29 : decode cX5_init 29 = .ok (.iconst 3, 1) := by decide +kernel
theorem dX5_init_30 : decode cX5_init 30 = .ok (.anewarray 24, 3) := by decide +kernel
theorem dX5_init_33 : decode cX5_init 33 = .ok (.putfield 26, 3) := by decide +kernel
theorem dX5_init_36 : decode cX5_init 36 = .ok (.aload_n 0, 1) := by decide +kernel
theorem dX5_init_37 : decode cX5_init 37 = .ok (.iload_n 1, 1) := by decide +kernel
theorem dX5_init_38 : decode cX5_init 38 = .ok (.putfield 30, 3) := by decide +kernel
theorem dX5_init_41 : decode cX5_init 41 = .ok (.aload_n 0, 1) := by decide +kernel
theorem dX5_init_42 : decode cX5_init 42 = .ok (.iload_n 2, 1) := by decide +kernel
theorem dX5_init_43 : decode cX5_init 43 = .ok (.putfield 33, 3) := by decide +kernel
theorem dX5_init_46 : decode cX5_init 46 = .ok (.aload_n 0, 1) := by decide +kernel
theorem dX5_init_47 : decode cX5_init 47 = .ok (.iload_n 3, 1) := by decide +kernel
theorem dX5_init_48 : decode cX5_init 48 = .ok (.putfield 36, 3) := by decide +kernel
theorem dX5_init_51 : decode cX5_init 51 = .ok (.aload_n 0, 1) := by decide +kernel
theorem dX5_init_52 : decode cX5_init 52 = .ok (.iload 4, 2) := by decide +kernel
theorem dX5_init_54 : decode cX5_init 54 = .ok (.putfield 39, 3) := by decide +kernel
theorem dX5_init_57 : decode cX5_init 57 = .ok (.return_, 1) := by decide +kernel
theorem dX5_send_0 : decode cX5_send 0 = .ok (.aload_n 0, 1) := by decide +kernel
theorem dX5_send_1 : decode cX5_send 1 = .ok (.iload_n 1, 1) := by decide +kernel
theorem dX5_send_2 : decode cX5_send 2 = .ok (.putfield 9, 3) := by decide +kernel
theorem dX5_send_5 : decode cX5_send 5 = .ok (.aload_n 0, 1) := by decide +kernel
theorem dX5_send_6 : decode cX5_send 6 = .ok (.iload_n 1, 1) := by decide +kernel
theorem dX5_send_7 : decode cX5_send 7 = .ok (.aload_n 2, 1) := by decide +kernel
theorem dX5_send_8 : decode cX5_send 8 = .ok (.getfield 42, 3) := by decide +kernel
theorem dX5_send_11 : decode cX5_send 11 = .ok (.iadd, 1) := by decide +kernel
theorem dX5_send_12 : decode cX5_send 12 = .ok (.putfield 15, 3) := by decide +kernel
theorem dX5_send_15 : decode cX5_send 15 = .ok (.aload_n 0, 1) := by decide +kernel
theorem dX5_send_16 : decode cX5_send 16 = .ok (.iload_n 1, 1) := by decide +kernel
theorem dX5_send_17 : decode cX5_send 17 = .ok (.aload_n 2, 1) := by decide +kernel
theorem dX5_send_18 : decode cX5_send 18 = .ok (.getfield 47, 3) := by decide +kernel
theorem dX5_send_21 : decode cX5_send 21 = .ok (.iadd, 1) := by decide +kernel
theorem dX5_send_22 : decode cX5_send 22 = .ok (.putfield 18, 3) := by decide +kernel
theorem dX5_send_25 : decode cX5_send 25 = .ok (.return_, 1) := by decide +kernel
theorem dX5_lastDay_0 : decode cX5_lastDay 0 = .ok (.aload_n 0, 1) := by decide +kernel
theorem dX5_lastDay_1 : decode cX5_lastDay 1 = .ok (.getfield 26, 3) := by decide +kernel
theorem dX5_lastDay_4 : decode cX5_lastDay 4 = .ok (.iload_n 1, 1) := by decide +kernel
theorem dX5_lastDay_5 : decode cX5_lastDay 5 = .ok (.aaload, 1) := by decide +kernel
theorem dX5_lastDay_6 : decode cX5_lastDay 6 = .ok (.astore_n 2, 1) := by decide +kernel
theorem dX5_lastDay_7 : decode cX5_lastDay 7 = .ok (.aload_n 2, 1) := by decide +kernel
theorem dX5_lastDay_8 : decode cX5_lastDay 8 = .ok (.ifnonnull 8, 3) := by decide +kernel
theorem dX5_lastDay_11 : decode cX5_lastDay 11 = .ok (.bipush (-9), 2) := by decide +kernel
theorem dX5_lastDay_13 : decode cX5_lastDay 13 = .ok (.goto 7, 3) := by decide +kernel
theorem dX5_lastDay_16 : decode cX5_lastDay 16 = .ok (.aload_n 2, 1) := by decide +kernel
theorem dX5_lastDay_17 : decode cX5_lastDay 17 = .ok (.getfield 50, 3) := by decide +kernel
theorem dX5_lastDay_20 : decode cX5_lastDay 20 = .ok (.ireturn, 1) := by decide +kernel
theorem dX5_dayKnown_0 : decode cX5_dayKnown 0 = .ok (.aload_n 0, 1) := by decide +kernel
theorem dX5_dayKnown_1 : decode cX5_dayKnown 1 = .ok (.getfield 26, 3) := by decide +kernel
theorem dX5_dayKnown_4 : decode cX5_dayKnown 4 = .ok (.iload_n 1, 1) := by decide +kernel
theorem dX5_dayKnown_5 : decode cX5_dayKnown 5 = .ok (.aaload, 1) := by decide +kernel
theorem dX5_dayKnown_6 : decode cX5_dayKnown 6 = .ok (.astore_n 3, 1) := by decide +kernel
theorem dX5_dayKnown_7 : decode cX5_dayKnown 7 = .ok (.aload_n 3, 1) := by decide +kernel
theorem dX5_dayKnown_8 : decode cX5_dayKnown 8 = .ok (.ifnull 19, 3) := by decide +kernel
theorem dX5_dayKnown_11 : decode cX5_dayKnown 11 = .ok (.aload_n 3, 1) := by decide +kernel
theorem dX5_dayKnown_12 : decode cX5_dayKnown 12 = .ok (.getfield 53, 3) := by decide +kernel
theorem dX5_dayKnown_15 : decode cX5_dayKnown 15 = .ok (.iload_n 2, 1) := by decide +kernel
theorem dX5_dayKnown_16 : decode cX5_dayKnown 16 = .ok (.if_icmp .le 11, 3) := by decide +kernel
theorem dX5_dayKnown_19 : decode cX5_dayKnown 19 = .ok (.aload_n 3, 1) := by decide +kernel
theorem dX5_dayKnown_20 : decode cX5_dayKnown 20 = .ok (.getfield 54, 3) := by decide +kernel
theorem dX5_dayKnown_23 : decode cX5_dayKnown 23 = .ok (.astore_n 3, 1) := by decide +kernel
theorem dX5_dayKnown_24 : decode cX5_dayKnown 24 = .ok (.goto (-17), 3) := by decide +kernel
theorem dX5_dayKnown_27 : decode cX5_dayKnown 27 = .ok (.aload_n 3, 1) := by decide +kernel
theorem dX5_dayKnown_28 : decode cX5_dayKnown 28 = .ok (.ifnonnull 8, 3) := by decide +kernel
theorem dX5_dayKnown_31 : decode cX5_dayKnown 31 = .ok (.bipush (-9), 2) := by decide +kernel
theorem dX5_dayKnown_33 : decode cX5_dayKnown 33 = .ok (.goto 7, 3) := by decide +kernel
theorem dX5_dayKnown_36 : decode cX5_dayKnown 36 = .ok (.aload_n 3, 1) := by decide +kernel
theorem dX5_dayKnown_37 : decode cX5_dayKnown 37 = .ok (.getfield 50, 3) := by decide +kernel
theorem dX5_dayKnown_40 : decode cX5_dayKnown 40 = .ok (.ireturn, 1) := by decide +kernel
set_option maxRecDepth 20000 in
theorem ggX5_admits_X10_isWithin : GoodIn wsX5_admits wsX10_isWithin := goodIn_r _ [6] (by decide +kernel) (by decide +kernel)
set_option maxRecDepth 20000 in
theorem gX5_admits_X10_isWithin_n58 : GoodIn wsX5_admits (wsX10_isWithin) := ggX5_admits_X10_isWithin
set_option maxRecDepth 20000 in
theorem ggX5_admits_X5_lastDay : GoodIn wsX5_admits wsX5_lastDay := goodIn_r _ [11, 12, 13, 14, 15, 16, 17, 18, 19, 20, 21, 22, 23, 24, 25] (by decide +kernel) (by decide +kernel)
set_option maxRecDepth 20000 in
theorem gX5_admits_X5_lastDay : GoodIn wsX5_admits (wsV RX5 62 RX5 yX5_lastDay wsX5_lastDay) := goodIn_app (goodIn_of _ (by decide +kernel)) ggX5_admits_X5_lastDay
theorem dX5_admits_0 : decode cX5_admits 0 = .ok (.iload_n 1, 1) := by decide +kernel
theorem dX5_admits_1 : decode cX5_admits 1 = .ok (.ifCond .ne 28, 3) := by decide +kernel
theorem dX5_admits_4 : decode cX5_admits 4 = .ok (.aload_n 0, 1) := by decide +kernel
theorem dX5_admits_5 : decode cX5_admits 5 = .ok (.getfield 30, 3) := by decide +kernel
theorem dX5_admits_8 : decode cX5_admits 8 = .ok (.iconst 2, 1) := by decide +kernel
theorem dX5_admits_9 : decode cX5_admits 9 = .ok (.if_icmp .ne 20, 3) := by decide +kernel
theorem dX5_admits_12 : decode cX5_admits 12 = .ok (.iload_n 2, 1) := by decide +kernel
theorem dX5_admits_13 : decode cX5_admits 13 = .ok (.aload_n 0, 1) := by decide +kernel
theorem dX5_admits_14 : decode cX5_admits 14 = .ok (.getfield 15, 3) := by decide +kernel
theorem dX5_admits_17 : decode cX5_admits 17 = .ok (.aload_n 0, 1) := by decide +kernel
theorem dX5_admits_18 : decode cX5_admits 18 = .ok (.getfield 18, 3) := by decide +kernel
theorem dX5_admits_21 : decode cX5_admits 21 = .ok (.invokestatic 58, 3) := by decide +kernel
theorem dX5_admits_24 : decode cX5_admits 24 = .ok (.ifCond .ne 5, 3) := by decide +kernel
theorem dX5_admits_27 : decode cX5_admits 27 = .ok (.iconst 0, 1) := by decide +kernel
theorem dX5_admits_28 : decode cX5_admits 28 = .ok (.ireturn, 1) := by decide +kernel
theorem dX5_admits_29 : decode cX5_admits 29 = .ok (.iload_n 1, 1) := by decide +kernel
theorem dX5_admits_30 : decode cX5_admits 30 = .ok (.ifCond .le 24, 3) := by decide +kernel
theorem dX5_admits_33 : decode cX5_admits 33 = .ok (.aload_n 0, 1) := by decide +kernel
theorem dX5_admits_34 : decode cX5_admits 34 = .ok (.iload_n 1, 1) := by decide +kernel
theorem dX5_admits_35 : decode cX5_admits 35 = .ok (.iconst 1, 1) := by decide +kernel
theorem dX5_admits_36 : decode cX5_admits 36 = .ok (.isub, 1) := by decide +kernel
theorem dX5_admits_37 : decode cX5_admits 37 = .ok (.invokevirtual 62, 3) := by decide +kernel
theorem dX5_admits_40 : decode cX5_admits 40 = .ok (.istore_n 3, 1) := by decide +kernel
theorem dX5_admits_41 : decode cX5_admits 41 = .ok (.iload_n 3, 1) := by decide +kernel
theorem dX5_admits_42 : decode cX5_admits 42 = .ok (.bipush (-9), 2) := by decide +kernel
theorem dX5_admits_44 : decode cX5_admits 44 = .ok (.if_icmp .eq 8, 3) := by decide +kernel
theorem dX5_admits_47 : decode cX5_admits 47 = .ok (.iload_n 2, 1) := by decide +kernel
theorem dX5_admits_48 : decode cX5_admits 48 = .ok (.iload_n 3, 1) := by decide +kernel
theorem dX5_admits_49 : decode cX5_admits 49 = .ok (.if_icmp .ge 5, 3) := by decide +kernel
theorem dX5_admits_52 : decode cX5_admits 52 = .ok (.iconst 0, 1) := by decide +kernel
theorem dX5_admits_53 : decode cX5_admits 53 = .ok (.ireturn, 1) := by decide +kernel
theorem dX5_admits_54 : decode cX5_admits 54 = .ok (.iload_n 1, 1) := by decide +kernel
theorem dX5_admits_55 : decode cX5_admits 55 = .ok (.iconst 2, 1) := by decide +kernel
theorem dX5_admits_56 : decode cX5_admits 56 = .ok (.if_icmp .ge 13, 3) := by decide +kernel
theorem dX5_admits_59 : decode cX5_admits 59 = .ok (.aload_n 0, 1) := by decide +kernel
theorem dX5_admits_60 : decode cX5_admits 60 = .ok (.iload_n 1, 1) := by decide +kernel
theorem dX5_admits_61 : decode cX5_admits 61 = .ok (.iconst 1, 1) := by decide +kernel
theorem dX5_admits_62 : decode cX5_admits 62 = .ok (.iadd, 1) := by decide +kernel
theorem dX5_admits_63 : decode cX5_admits 63 = .ok (.invokevirtual 62, 3) := by decide +kernel
theorem dX5_admits_66 : decode cX5_admits 66 = .ok (.goto 5, 3) := by decide +kernel
theorem dX5_admits_69 : decode cX5_admits 69 = .ok (.bipush (-9), 2) := by decide +kernel
theorem dX5_admits_71 : decode cX5_admits 71 = .ok (.istore_n 3, 1) := by decide +kernel
theorem dX5_admits_72 : decode cX5_admits 72 = .ok (.iload_n 3, 1) := by decide +kernel
theorem dX5_admits_73 : decode cX5_admits 73 = .ok (.bipush (-9), 2) := by decide +kernel
theorem dX5_admits_75 : decode cX5_admits 75 = .ok (.if_icmp .eq 8, 3) := by decide +kernel
theorem dX5_admits_78 : decode cX5_admits 78 = .ok (.iload_n 2, 1) := by decide +kernel
theorem dX5_admits_79 : decode cX5_admits 79 = .ok (.iload_n 3, 1) := by decide +kernel
theorem dX5_admits_80 : decode cX5_admits 80 = .ok (.if_icmp .gt 7, 3) := by decide +kernel
theorem dX5_admits_83 : decode cX5_admits 83 = .ok (.iconst 1, 1) := by decide +kernel
theorem dX5_admits_84 : decode cX5_admits 84 = .ok (.goto 4, 3) := by decide +kernel
theorem dX5_admits_87 : decode cX5_admits 87 = .ok (.iconst 0, 1) := by decide +kernel
theorem dX5_admits_88 : decode cX5_admits 88 = .ok (.ireturn, 1) := by decide +kernel
set_option maxRecDepth 20000 in
theorem ggX5_proved_X5_dayKnown : GoodIn wsX5_proved wsX5_dayKnown := goodIn_r _ [12, 13, 14, 15, 16, 20, 21, 22, 23, 24, 25, 26, 27, 28, 29, 30, 31] (by decide +kernel) (by decide +kernel)
set_option maxRecDepth 20000 in
theorem gX5_proved_X5_dayKnown : GoodIn wsX5_proved (wsV RX5 75 RX5 yX5_dayKnown wsX5_dayKnown) := goodIn_app (goodIn_of _ (by decide +kernel)) ggX5_proved_X5_dayKnown
theorem dX5_proved_0 : decode cX5_proved 0 = .ok (.aload_n 1, 1) := by decide +kernel
theorem dX5_proved_1 : decode cX5_proved 1 = .ok (.getfield 66, 3) := by decide +kernel
theorem dX5_proved_4 : decode cX5_proved 4 = .ok (.ifCond .eq 25, 3) := by decide +kernel
theorem dX5_proved_7 : decode cX5_proved 7 = .ok (.aload_n 0, 1) := by decide +kernel
theorem dX5_proved_8 : decode cX5_proved 8 = .ok (.getfield 21, 3) := by decide +kernel
theorem dX5_proved_11 : decode cX5_proved 11 = .ok (.bipush (-9), 2) := by decide +kernel
theorem dX5_proved_13 : decode cX5_proved 13 = .ok (.if_icmp .eq 16, 3) := by decide +kernel
theorem dX5_proved_16 : decode cX5_proved 16 = .ok (.aload_n 0, 1) := by decide +kernel
theorem dX5_proved_17 : decode cX5_proved 17 = .ok (.getfield 21, 3) := by decide +kernel
theorem dX5_proved_20 : decode cX5_proved 20 = .ok (.iload_n 2, 1) := by decide +kernel
theorem dX5_proved_21 : decode cX5_proved 21 = .ok (.if_icmp .gt 8, 3) := by decide +kernel
theorem dX5_proved_24 : decode cX5_proved 24 = .ok (.aload_n 0, 1) := by decide +kernel
theorem dX5_proved_25 : decode cX5_proved 25 = .ok (.getfield 39, 3) := by decide +kernel
theorem dX5_proved_28 : decode cX5_proved 28 = .ok (.ireturn, 1) := by decide +kernel
theorem dX5_proved_29 : decode cX5_proved 29 = .ok (.aload_n 0, 1) := by decide +kernel
theorem dX5_proved_30 : decode cX5_proved 30 = .ok (.aload_n 1, 1) := by decide +kernel
theorem dX5_proved_31 : decode cX5_proved 31 = .ok (.getfield 72, 3) := by decide +kernel
theorem dX5_proved_34 : decode cX5_proved 34 = .ok (.iload_n 2, 1) := by decide +kernel
theorem dX5_proved_35 : decode cX5_proved 35 = .ok (.invokevirtual 75, 3) := by decide +kernel
theorem dX5_proved_38 : decode cX5_proved 38 = .ok (.istore 4, 2) := by decide +kernel
theorem dX5_proved_40 : decode cX5_proved 40 = .ok (.iload 4, 2) := by decide +kernel
theorem dX5_proved_42 : decode cX5_proved 42 = .ok (.bipush (-9), 2) := by decide +kernel
theorem dX5_proved_44 : decode cX5_proved 44 = .ok (.if_icmp .eq 6, 3) := by decide +kernel
theorem dX5_proved_47 : decode cX5_proved 47 = .ok (.iload 4, 2) := by decide +kernel
theorem dX5_proved_49 : decode cX5_proved 49 = .ok (.ireturn, 1) := by decide +kernel
theorem dX5_proved_50 : decode cX5_proved 50 = .ok (.aload_n 1, 1) := by decide +kernel
theorem dX5_proved_51 : decode cX5_proved 51 = .ok (.getfield 72, 3) := by decide +kernel
theorem dX5_proved_54 : decode cX5_proved 54 = .ok (.ifCond .ne 35, 3) := by decide +kernel
theorem dX5_proved_57 : decode cX5_proved 57 = .ok (.aload_n 0, 1) := by decide +kernel
theorem dX5_proved_58 : decode cX5_proved 58 = .ok (.getfield 30, 3) := by decide +kernel
theorem dX5_proved_61 : decode cX5_proved 61 = .ok (.iconst 2, 1) := by decide +kernel
theorem dX5_proved_62 : decode cX5_proved 62 = .ok (.if_icmp .ne 27, 3) := by decide +kernel
theorem dX5_proved_65 : decode cX5_proved 65 = .ok (.aload_n 0, 1) := by decide +kernel
theorem dX5_proved_66 : decode cX5_proved 66 = .ok (.getfield 39, 3) := by decide +kernel
theorem dX5_proved_69 : decode cX5_proved 69 = .ok (.iload_n 2, 1) := by decide +kernel
theorem dX5_proved_70 : decode cX5_proved 70 = .ok (.if_icmp .gt 19, 3) := by decide +kernel
theorem dX5_proved_73 : decode cX5_proved 73 = .ok (.iload_n 3, 1) := by decide +kernel
theorem dX5_proved_74 : decode cX5_proved 74 = .ok (.ifCond .eq 10, 3) := by decide +kernel
theorem dX5_proved_77 : decode cX5_proved 77 = .ok (.aload_n 0, 1) := by decide +kernel
theorem dX5_proved_78 : decode cX5_proved 78 = .ok (.getfield 18, 3) := by decide +kernel
theorem dX5_proved_81 : decode cX5_proved 81 = .ok (.goto 7, 3) := by decide +kernel
theorem dX5_proved_84 : decode cX5_proved 84 = .ok (.aload_n 0, 1) := by decide +kernel
theorem dX5_proved_85 : decode cX5_proved 85 = .ok (.getfield 15, 3) := by decide +kernel
theorem dX5_proved_88 : decode cX5_proved 88 = .ok (.ireturn, 1) := by decide +kernel
theorem dX5_proved_89 : decode cX5_proved 89 = .ok (.bipush (-9), 2) := by decide +kernel
theorem dX5_proved_91 : decode cX5_proved 91 = .ok (.ireturn, 1) := by decide +kernel
set_option maxRecDepth 20000 in
theorem ggX5_provedWith_X5_proved : GoodIn wsX5_provedWith wsX5_proved := goodIn_r _ [6, 7, 8, 9, 10, 11, 12, 13, 14, 15, 16, 5, 17, 18, 19, 20, 21, 31, 32, 33, 22, 23, 24, 25, 26, 27, 28, 29, 30, 34, 35, 36] (by decide +kernel) (by decide +kernel)
set_option maxRecDepth 20000 in
theorem gX5_provedWith_X5_proved : GoodIn wsX5_provedWith (wsV RX5 79 RX5 yX5_proved wsX5_proved) := goodIn_app (goodIn_of _ (by decide +kernel)) ggX5_provedWith_X5_proved
theorem dX5_provedWith_0 : decode cX5_provedWith 0 = .ok (.aload_n 0, 1) := by decide +kernel
theorem dX5_provedWith_1 : decode cX5_provedWith 1 = .ok (.getfield 36, 3) := by decide +kernel
theorem dX5_provedWith_4 : decode cX5_provedWith 4 = .ok (.iload_n 1, 1) := by decide +kernel
theorem dX5_provedWith_5 : decode cX5_provedWith 5 = .ok (.ishr, 1) := by decide +kernel
theorem dX5_provedWith_6 : decode cX5_provedWith 6 = .ok (.iconst 1, 1) := by decide +kernel
theorem dX5_provedWith_7 : decode cX5_provedWith 7 = .ok (.iand, 1) := by decide +kernel
theorem dX5_provedWith_8 : decode cX5_provedWith 8 = .ok (.ifCond .ne 8, 3) := by decide +kernel
theorem dX5_provedWith_11 : decode cX5_provedWith 11 = .ok (.bipush (-9), 2) := by decide +kernel
theorem dX5_provedWith_13 : decode cX5_provedWith 13 = .ok (.goto 11, 3) := by decide +kernel
theorem dX5_provedWith_16 : decode cX5_provedWith 16 = .ok (.aload_n 0, 1) := by decide +kernel
theorem dX5_provedWith_17 : decode cX5_provedWith 17 = .ok (.aload_n 2, 1) := by decide +kernel
theorem dX5_provedWith_18 : decode cX5_provedWith 18 = .ok (.iload_n 3, 1) := by decide +kernel
theorem dX5_provedWith_19 : decode cX5_provedWith 19 = .ok (.iload 4, 2) := by decide +kernel
theorem dX5_provedWith_21 : decode cX5_provedWith 21 = .ok (.invokevirtual 79, 3) := by decide +kernel
theorem dX5_provedWith_24 : decode cX5_provedWith 24 = .ok (.ireturn, 1) := by decide +kernel
theorem dX6_init_0 : decode cX6_init 0 = .ok (.aload_n 0, 1) := by decide +kernel
theorem dX6_init_1 : decode cX6_init 1 = .ok (.invokespecial 1, 3) := by decide +kernel
theorem dX6_init_4 : decode cX6_init 4 = .ok (.return_, 1) := by decide +kernel
theorem dX7_init_0 : decode cX7_init 0 = .ok (.aload_n 0, 1) := by decide +kernel
theorem dX7_init_1 : decode cX7_init 1 = .ok (.invokespecial 1, 3) := by decide +kernel
theorem dX7_init_4 : decode cX7_init 4 = .ok (.aload_n 0, 1) := by decide +kernel
theorem dX7_init_5 : decode cX7_init 5 = .ok (.iload_n 1, 1) := by decide +kernel
theorem dX7_init_6 : decode cX7_init 6 = .ok (.putfield 7, 3) := by decide +kernel
theorem dX7_init_9 : decode cX7_init 9 = .ok (.return_, 1) := by decide +kernel
theorem dX8_init_0 : decode cX8_init 0 = .ok (.aload_n 0, 1) := by decide +kernel
theorem dX8_init_1 : decode cX8_init 1 = .ok (.invokespecial 3, 3) := by decide +kernel
theorem dX8_init_4 : decode cX8_init 4 = .ok (.aload_n 0, 1) := by decide +kernel
theorem dX8_init_5 : decode cX8_init 5 = .ok (.iconst 1, 1) := by decide +kernel
theorem dX8_init_6 : decode cX8_init 6 = .ok (.putfield 9, 3) := by decide +kernel
theorem dX8_init_9 : decode cX8_init 9 = .ok (.aload_n 0, 1) := by decide +kernel
theorem dX8_init_10 : decode cX8_init 10 = .ok (.bipush 12, 2) := by decide +kernel
theorem dX8_init_12 : decode cX8_init 12 = .ok (.newarray .byte, 2) := by decide +kernel
theorem dX8_init_14 : decode cX8_init 14 = .ok (.putfield 15, 3) := by decide +kernel
theorem dX8_init_17 : decode cX8_init 17 = .ok (.return_, 1) := by decide +kernel
theorem dX8_renew_0 : decode cX8_renew 0 = .ok (.aload_n 0, 1) := by decide +kernel
theorem dX8_renew_1 : decode cX8_renew 1 = .ok (.iconst 0, 1) := by decide +kernel
theorem dX8_renew_2 : decode cX8_renew 2 = .ok (.putfield 9, 3) := by decide +kernel
theorem dX8_renew_5 : decode cX8_renew 5 = .ok (.aload_n 0, 1) := by decide +kernel
theorem dX8_renew_6 : decode cX8_renew 6 = .ok (.iload_n 1, 1) := by decide +kernel
theorem dX8_renew_7 : decode cX8_renew 7 = .ok (.putfield 19, 3) := by decide +kernel
theorem dX8_renew_10 : decode cX8_renew 10 = .ok (.iconst 0, 1) := by decide +kernel
theorem dX8_renew_11 : decode cX8_renew 11 = .ok (.istore_n 2, 1) := by decide +kernel
theorem dX8_renew_12 : decode cX8_renew 12 = .ok (.iload_n 2, 1) := by decide +kernel
theorem dX8_renew_13 : decode cX8_renew 13 = .ok (.bipush 12, 2) := by decide +kernel
theorem dX8_renew_15 : decode cX8_renew 15 = .ok (.if_icmp .ge 16, 3) := by decide +kernel
theorem dX8_renew_18 : decode cX8_renew 18 = .ok (.aload_n 0, 1) := by decide +kernel
theorem dX8_renew_19 : decode cX8_renew 19 = .ok (.getfield 15, 3) := by decide +kernel
theorem dX8_renew_22 : decode cX8_renew 22 = .ok (.iload_n 2, 1) := by decide +kernel
theorem dX8_renew_23 : decode cX8_renew 23 = .ok (.iconst 0, 1) := by decide +kernel
theorem dX8_renew_24 : decode cX8_renew 24 = .ok (.bastore, 1) := by decide +kernel
theorem dX8_renew_25 : decode cX8_renew 25 = .ok (.iinc 2 1, 3) := by decide +kernel
theorem dX8_renew_28 : decode cX8_renew 28 = .ok (.goto (-16), 3) := by decide +kernel
theorem dX8_renew_31 : decode cX8_renew 31 = .ok (.return_, 1) := by decide +kernel
set_option maxRecDepth 20000 in
theorem ggX8_hasRun_X10_isWithin : GoodIn wsX8_hasRun wsX10_isWithin := goodIn_r _ [4] (by decide +kernel) (by decide +kernel)
set_option maxRecDepth 20000 in
theorem gX8_hasRun_X10_isWithin_n23 : GoodIn wsX8_hasRun (wsX10_isWithin) := ggX8_hasRun_X10_isWithin
theorem dX8_hasRun_0 : decode cX8_hasRun 0 = .ok (.iload_n 2, 1) := by decide +kernel
theorem dX8_hasRun_1 : decode cX8_hasRun 1 = .ok (.iconst 0, 1) := by decide +kernel
theorem dX8_hasRun_2 : decode cX8_hasRun 2 = .ok (.aload_n 0, 1) := by decide +kernel
theorem dX8_hasRun_3 : decode cX8_hasRun 3 = .ok (.getfield 19, 3) := by decide +kernel
theorem dX8_hasRun_6 : decode cX8_hasRun 6 = .ok (.invokestatic 23, 3) := by decide +kernel
theorem dX8_hasRun_9 : decode cX8_hasRun 9 = .ok (.ifCond .eq 21, 3) := by decide +kernel
theorem dX8_hasRun_12 : decode cX8_hasRun 12 = .ok (.iload_n 1, 1) := by decide +kernel
theorem dX8_hasRun_13 : decode cX8_hasRun 13 = .ok (.iconst 0, 1) := by decide +kernel
theorem dX8_hasRun_14 : decode cX8_hasRun 14 = .ok (.aload_n 0, 1) := by decide +kernel
theorem dX8_hasRun_15 : decode cX8_hasRun 15 = .ok (.getfield 19, 3) := by decide +kernel
theorem dX8_hasRun_18 : decode cX8_hasRun 18 = .ok (.iload_n 2, 1) := by decide +kernel
theorem dX8_hasRun_19 : decode cX8_hasRun 19 = .ok (.isub, 1) := by decide +kernel
theorem dX8_hasRun_20 : decode cX8_hasRun 20 = .ok (.invokestatic 23, 3) := by decide +kernel
theorem dX8_hasRun_23 : decode cX8_hasRun 23 = .ok (.ifCond .eq 7, 3) := by decide +kernel
theorem dX8_hasRun_26 : decode cX8_hasRun 26 = .ok (.iconst 1, 1) := by decide +kernel
theorem dX8_hasRun_27 : decode cX8_hasRun 27 = .ok (.goto 4, 3) := by decide +kernel
theorem dX8_hasRun_30 : decode cX8_hasRun 30 = .ok (.iconst 0, 1) := by decide +kernel
theorem dX8_hasRun_31 : decode cX8_hasRun 31 = .ok (.ireturn, 1) := by decide +kernel
set_option maxRecDepth 20000 in
theorem ggX8_mixedInto_X10_mixed : GoodIn wsX8_mixedInto wsX10_mixed := goodIn_r _ [6, 7] (by decide +kernel) (by decide +kernel)
set_option maxRecDepth 20000 in
theorem gX8_mixedInto_X10_mixed_n27 : GoodIn wsX8_mixedInto (wsX10_mixed) := ggX8_mixedInto_X10_mixed
theorem dX8_mixedInto_0 : decode cX8_mixedInto 0 = .ok (.aload_n 0, 1) := by decide +kernel
theorem dX8_mixedInto_1 : decode cX8_mixedInto 1 = .ok (.getfield 9, 3) := by decide +kernel
theorem dX8_mixedInto_4 : decode cX8_mixedInto 4 = .ok (.ifCond .eq 9, 3) := by decide +kernel
theorem dX8_mixedInto_7 : decode cX8_mixedInto 7 = .ok (.lload_n 1, 1) := by decide +kernel
theorem dX8_mixedInto_8 : decode cX8_mixedInto 8 = .ok (.iconst (-1), 1) := by decide +kernel
theorem dX8_mixedInto_9 : decode cX8_mixedInto 9 = .ok (.invokestatic 27, 3) := by decide +kernel
theorem dX8_mixedInto_12 : decode cX8_mixedInto 12 = .ok (.lreturn, 1) := by decide +kernel
theorem dX8_mixedInto_13 : decode cX8_mixedInto 13 = .ok (.lload_n 1, 1) := by decide +kernel
theorem dX8_mixedInto_14 : decode cX8_mixedInto 14 = .ok (.aload_n 0, 1) := by decide +kernel
theorem dX8_mixedInto_15 : decode cX8_mixedInto 15 = .ok (.getfield 19, 3) := by decide +kernel
theorem dX8_mixedInto_18 : decode cX8_mixedInto 18 = .ok (.invokestatic 27, 3) := by decide +kernel
theorem dX8_mixedInto_21 : decode cX8_mixedInto 21 = .ok (.lstore_n 3, 1) := by decide +kernel
theorem dX8_mixedInto_22 : decode cX8_mixedInto 22 = .ok (.iconst 0, 1) := by decide +kernel
theorem dX8_mixedInto_23 : decode cX8_mixedInto 23 = .ok (.istore 5, 2) := by decide +kernel
theorem dX8_mixedInto_25 : decode cX8_mixedInto 25 = .ok (.iload 5, 2) := by decide +kernel
theorem dX8_mixedInto_27 : decode cX8_mixedInto 27 = .ok (.aload_n 0, 1) := by decide +kernel
theorem dX8_mixedInto_28 : decode cX8_mixedInto 28 = .ok (.getfield 19, 3) := by decide +kernel
theorem dX8_mixedInto_31 : decode cX8_mixedInto 31 = .ok (.if_icmp .ge 21, 3) := by decide +kernel
theorem dX8_mixedInto_34 : decode cX8_mixedInto 34 = .ok (.lload_n 3, 1) := by decide +kernel
theorem dX8_mixedInto_35 : decode cX8_mixedInto 35 = .ok (.aload_n 0, 1) := by decide +kernel
theorem dX8_mixedInto_36 : decode cX8_mixedInto 36 = .ok (.getfield 15, 3) := by decide +kernel
theorem dX8_mixedInto_39 : decode cX8_mixedInto 39 = .ok (.iload 5, 2) := by decide +kernel
theorem dX8_mixedInto_41 : decode cX8_mixedInto 41 = .ok (.baload, 1) := by decide +kernel
theorem dX8_mixedInto_42 : decode cX8_mixedInto 42 = .ok (.invokestatic 27, 3) := by decide +kernel
theorem dX8_mixedInto_45 : decode cX8_mixedInto 45 = .ok (.lstore_n 3, 1) := by decide +kernel
theorem dX8_mixedInto_46 : decode cX8_mixedInto 46 = .ok (.iinc 5 1, 3) := by decide +kernel
theorem dX8_mixedInto_49 : decode cX8_mixedInto 49 = .ok (.goto (-24), 3) := by decide +kernel
theorem dX8_mixedInto_52 : decode cX8_mixedInto 52 = .ok (.lload_n 3, 1) := by decide +kernel
theorem dX8_mixedInto_53 : decode cX8_mixedInto 53 = .ok (.lreturn, 1) := by decide +kernel
set_option maxRecDepth 20000 in
theorem ggX9_init_X7_init : GoodIn wsX9_init wsX7_init := goodIn_r _ [6, 7, 8, 9, 10, 14, 15, 16, 17, 18, 19, 11, 12, 13] (by decide +kernel) (by decide +kernel)
set_option maxRecDepth 20000 in
theorem gX9_init_X7_init : GoodIn wsX9_init (wsX7_init) := ggX9_init_X7_init
theorem dX9_init_0 : decode cX9_init 0 = .ok (.aload_n 0, 1) := by decide +kernel
theorem dX9_init_1 : decode cX9_init 1 = .ok (.iload_n 1, 1) := by decide +kernel
theorem dX9_init_2 : decode cX9_init 2 = .ok (.invokespecial 1, 3) := by decide +kernel
theorem dX9_init_5 : decode cX9_init 5 = .ok (.aload_n 0, 1) := by decide +kernel
theorem dX9_init_6 : decode cX9_init 6 = .ok (.iload_n 2, 1) := by decide +kernel
theorem dX9_init_7 : decode cX9_init 7 = .ok (.putfield 7, 3) := by decide +kernel
theorem dX9_init_10 : decode cX9_init 10 = .ok (.aload_n 0, 1) := by decide +kernel
theorem dX9_init_11 : decode cX9_init 11 = .ok (.iload_n 3, 1) := by decide +kernel
theorem dX9_init_12 : decode cX9_init 12 = .ok (.putfield 13, 3) := by decide +kernel
theorem dX9_init_15 : decode cX9_init 15 = .ok (.return_, 1) := by decide +kernel
set_option maxRecDepth 20000 in
theorem ggX10_init_X2_init : GoodIn wsX10_init wsX2_init := goodIn_r _ [31, 32, 2, 3, 33, 22, 34, 35, 36, 71, 72, 73] (by decide +kernel) (by decide +kernel)
set_option maxRecDepth 20000 in
theorem gX10_init_X2_init_n47 : GoodIn wsX10_init (wsX2_init) := ggX10_init_X2_init
set_option maxRecDepth 20000 in
theorem ggX10_init_X6_init : GoodIn wsX10_init wsX6_init := goodIn_r _ [38, 39, 2, 3] (by decide +kernel) (by decide +kernel)
set_option maxRecDepth 20000 in
theorem gX10_init_X6_init_n62 : GoodIn wsX10_init (wsX6_init) := ggX10_init_X6_init
set_option maxRecDepth 20000 in
theorem ggX10_init_X3_init : GoodIn wsX10_init wsX3_init := goodIn_r _ [41, 42, 2, 3, 43, 22, 44, 45, 76, 77, 78, 79] (by decide +kernel) (by decide +kernel)
set_option maxRecDepth 20000 in
theorem gX10_init_X3_init_n63 : GoodIn wsX10_init (wsX3_init) := ggX10_init_X3_init
set_option maxRecDepth 20000 in
theorem ggX10_init_X8_init : GoodIn wsX10_init wsX8_init := goodIn_r _ [47, 48, 2, 3, 49, 50, 51, 80, 81, 82] (by decide +kernel) (by decide +kernel)
set_option maxRecDepth 20000 in
theorem gX10_init_X8_init_n64 : GoodIn wsX10_init (wsX8_init) := ggX10_init_X8_init
