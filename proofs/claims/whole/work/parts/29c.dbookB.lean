theorem dX10_propose_0 : decode cX10_propose 0 = .ok (.aload_n 0, 1) := by decide +kernel
theorem dX10_propose_1 : decode cX10_propose 1 = .ok (.iload_n 1, 1) := by decide +kernel
theorem dX10_propose_2 : decode cX10_propose 2 = .ok (.invokevirtual 191, 3) := by decide +kernel
theorem dX10_propose_5 : decode cX10_propose 5 = .ok (.astore_n 3, 1) := by decide +kernel
theorem dX10_propose_6 : decode cX10_propose 6 = .ok (.aload_n 3, 1) := by decide +kernel
theorem dX10_propose_7 : decode cX10_propose 7 = .ok (.ifnull 11, 3) := by decide +kernel
theorem dX10_propose_10 : decode cX10_propose 10 = .ok (.aload_n 0, 1) := by decide +kernel
theorem dX10_propose_11 : decode cX10_propose 11 = .ok (.iload_n 2, 1) := by decide +kernel
theorem dX10_propose_12 : decode cX10_propose 12 = .ok (.invokevirtual 86, 3) := by decide +kernel
theorem dX10_propose_15 : decode cX10_propose 15 = .ok (.ifCond .ne 5, 3) := by decide +kernel
theorem dX10_propose_18 : decode cX10_propose 18 = .ok (.iconst (-1), 1) := by decide +kernel
theorem dX10_propose_19 : decode cX10_propose 19 = .ok (.ireturn, 1) := by decide +kernel
theorem dX10_propose_20 : decode cX10_propose 20 = .ok (.aload_n 3, 1) := by decide +kernel
theorem dX10_propose_21 : decode cX10_propose 21 = .ok (.getfield 195, 3) := by decide +kernel
theorem dX10_propose_24 : decode cX10_propose 24 = .ok (.ifCond .eq 9, 3) := by decide +kernel
theorem dX10_propose_27 : decode cX10_propose 27 = .ok (.aload_n 0, 1) := by decide +kernel
theorem dX10_propose_28 : decode cX10_propose 28 = .ok (.iconst 1, 1) := by decide +kernel
theorem dX10_propose_29 : decode cX10_propose 29 = .ok (.invokevirtual 127, 3) := by decide +kernel
theorem dX10_propose_32 : decode cX10_propose 32 = .ok (.ireturn, 1) := by decide +kernel
theorem dX10_propose_33 : decode cX10_propose 33 = .ok (.aload_n 3, 1) := by decide +kernel
theorem dX10_propose_34 : decode cX10_propose 34 = .ok (.dup, 1) := by decide +kernel
theorem dX10_propose_35 : decode cX10_propose 35 = .ok (.getfield 199, 3) := by decide +kernel
theorem dX10_propose_38 : decode cX10_propose 38 = .ok (.iconst 1, 1) := by decide +kernel
theorem dX10_propose_39 : decode cX10_propose 39 = .ok (.iload_n 2, 1) := by decide +kernel
theorem dX10_propose_40 : decode cX10_propose 40 = .ok (.ishl, 1) := by decide +kernel
theorem dX10_propose_41 : decode cX10_propose 41 = .ok (.ior, 1) := by decide +kernel
theorem dX10_propose_42 : decode cX10_propose 42 = .ok (.putfield 199, 3) := by decide +kernel
theorem dX10_propose_45 : decode cX10_propose 45 = .ok (.aload_n 3, 1) := by decide +kernel
theorem dX10_propose_46 : decode cX10_propose 46 = .ok (.getfield 199, 3) := by decide +kernel
theorem dX10_propose_49 : decode cX10_propose 49 = .ok (.invokestatic 143, 3) := by decide +kernel
theorem dX10_propose_52 : decode cX10_propose 52 = .ok (.ireturn, 1) := by decide +kernel
set_option maxRecDepth 20000 in
theorem ggX10_withdraw_X10_candidateAt : GoodIn wsX10_withdraw wsX10_candidateAt := goodIn_r _ [6, 7, 8, 9, 10, 5, 11, 21, 22, 23, 24, 25, 26, 27, 28, 29, 30, 31, 32, 33, 34, 35, 36, 37, 38, 39] (by decide +kernel) (by decide +kernel)
set_option maxRecDepth 20000 in
theorem gX10_withdraw_X10_candidateAt : GoodIn wsX10_withdraw (wsV RX10 191 RX10 yX10_candidateAt wsX10_candidateAt) := goodIn_app (goodIn_of _ (by decide +kernel)) ggX10_withdraw_X10_candidateAt
set_option maxRecDepth 20000 in
theorem ggX10_withdraw_X10_found : GoodIn wsX10_withdraw wsX10_found := goodIn_r _ [15, 16, 17, 21, 22, 23, 24, 25, 26, 27, 28, 29, 30, 31, 32, 33, 34, 35, 36, 37, 38, 39] (by decide +kernel) (by decide +kernel)
set_option maxRecDepth 20000 in
theorem gX10_withdraw_X10_found : GoodIn wsX10_withdraw (wsV RX10 127 RX10 yX10_found wsX10_found) := goodIn_app (goodIn_of _ (by decide +kernel)) ggX10_withdraw_X10_found
theorem dX10_withdraw_0 : decode cX10_withdraw 0 = .ok (.aload_n 0, 1) := by decide +kernel
theorem dX10_withdraw_1 : decode cX10_withdraw 1 = .ok (.iload_n 1, 1) := by decide +kernel
theorem dX10_withdraw_2 : decode cX10_withdraw 2 = .ok (.invokevirtual 191, 3) := by decide +kernel
theorem dX10_withdraw_5 : decode cX10_withdraw 5 = .ok (.astore_n 2, 1) := by decide +kernel
theorem dX10_withdraw_6 : decode cX10_withdraw 6 = .ok (.aload_n 2, 1) := by decide +kernel
theorem dX10_withdraw_7 : decode cX10_withdraw 7 = .ok (.ifnonnull 5, 3) := by decide +kernel
theorem dX10_withdraw_10 : decode cX10_withdraw 10 = .ok (.iconst (-1), 1) := by decide +kernel
theorem dX10_withdraw_11 : decode cX10_withdraw 11 = .ok (.ireturn, 1) := by decide +kernel
theorem dX10_withdraw_12 : decode cX10_withdraw 12 = .ok (.aload_n 2, 1) := by decide +kernel
theorem dX10_withdraw_13 : decode cX10_withdraw 13 = .ok (.getfield 195, 3) := by decide +kernel
theorem dX10_withdraw_16 : decode cX10_withdraw 16 = .ok (.ifCond .eq 9, 3) := by decide +kernel
theorem dX10_withdraw_19 : decode cX10_withdraw 19 = .ok (.aload_n 0, 1) := by decide +kernel
theorem dX10_withdraw_20 : decode cX10_withdraw 20 = .ok (.iconst 1, 1) := by decide +kernel
theorem dX10_withdraw_21 : decode cX10_withdraw 21 = .ok (.invokevirtual 127, 3) := by decide +kernel
theorem dX10_withdraw_24 : decode cX10_withdraw 24 = .ok (.ireturn, 1) := by decide +kernel
theorem dX10_withdraw_25 : decode cX10_withdraw 25 = .ok (.aload_n 2, 1) := by decide +kernel
theorem dX10_withdraw_26 : decode cX10_withdraw 26 = .ok (.iconst 1, 1) := by decide +kernel
theorem dX10_withdraw_27 : decode cX10_withdraw 27 = .ok (.putfield 195, 3) := by decide +kernel
theorem dX10_withdraw_30 : decode cX10_withdraw 30 = .ok (.iconst 1, 1) := by decide +kernel
theorem dX10_withdraw_31 : decode cX10_withdraw 31 = .ok (.ireturn, 1) := by decide +kernel
set_option maxRecDepth 20000 in
theorem ggX10_ballot_X10_candidateAt : GoodIn wsX10_ballot wsX10_candidateAt := goodIn_r _ [11, 12, 13, 14, 15, 10, 16, 50, 51, 52, 53, 54, 55, 56, 57, 58, 59, 60, 61, 62, 63, 64, 65, 66, 67, 68] (by decide +kernel) (by decide +kernel)
set_option maxRecDepth 20000 in
theorem gX10_ballot_X10_candidateAt : GoodIn wsX10_ballot (wsV RX10 191 RX10 yX10_candidateAt wsX10_candidateAt) := goodIn_app (goodIn_of _ (by decide +kernel)) ggX10_ballot_X10_candidateAt
set_option maxRecDepth 20000 in
theorem ggX10_ballot_X10_isWithin : GoodIn wsX10_ballot wsX10_isWithin := goodIn_r _ [16] (by decide +kernel) (by decide +kernel)
set_option maxRecDepth 20000 in
theorem gX10_ballot_X10_isWithin : GoodIn wsX10_ballot (va_wsS RX10 69 yX10_isWithin wsX10_isWithin) := goodIn_app (goodIn_of _ (by decide +kernel)) ggX10_ballot_X10_isWithin
set_option maxRecDepth 20000 in
theorem ggX10_ballot_X10_inForce : GoodIn wsX10_ballot wsX10_inForce := goodIn_r _ [19, 20, 72, 73, 74, 75, 76, 77, 78, 79, 80] (by decide +kernel) (by decide +kernel)
set_option maxRecDepth 20000 in
theorem gX10_ballot_X10_inForce : GoodIn wsX10_ballot (va_wsS RX10 164 yX10_inForce wsX10_inForce) := goodIn_app (goodIn_of _ (by decide +kernel)) ggX10_ballot_X10_inForce
set_option maxRecDepth 20000 in
theorem ggX10_ballot_X10_found : GoodIn wsX10_ballot wsX10_found := goodIn_r _ [24, 25, 26, 50, 51, 52, 53, 54, 55, 56, 57, 58, 59, 60, 61, 62, 63, 64, 65, 66, 67, 68] (by decide +kernel) (by decide +kernel)
set_option maxRecDepth 20000 in
theorem gX10_ballot_X10_found : GoodIn wsX10_ballot (wsV RX10 127 RX10 yX10_found wsX10_found) := goodIn_app (goodIn_of _ (by decide +kernel)) ggX10_ballot_X10_found
set_option maxRecDepth 20000 in
theorem ggX10_ballot_X0_outcome : GoodIn wsX10_ballot wsX0_outcome := goodIn_r _ [31, 32, 33, 34, 35, 36, 37, 38, 39, 40, 41, 42, 43, 44, 45, 69, 70, 71, 72, 73, 74, 75, 76, 77] (by decide +kernel) (by decide +kernel)
set_option maxRecDepth 20000 in
theorem gX10_ballot_X0_outcome : GoodIn wsX10_ballot (wsV RX10 202 RX0 yX0_outcome wsX0_outcome) := goodIn_app (goodIn_of _ (by decide +kernel)) ggX10_ballot_X0_outcome
set_option maxRecDepth 20000 in
theorem ggX10_ballot_X10_admitFellow : GoodIn wsX10_ballot wsX10_admitFellow := goodIn_r _ [49, 4, 50, 51, 52, 53, 54, 55, 56, 57, 58, 59, 60, 61, 62, 63, 64, 65, 66, 67, 68] (by decide +kernel) (by decide +kernel)
set_option maxRecDepth 20000 in
theorem gX10_ballot_X10_admitFellow : GoodIn wsX10_ballot (wsV RX10 76 RX10 yX10_admitFellow wsX10_admitFellow) := goodIn_app (goodIn_of _ (by decide +kernel)) ggX10_ballot_X10_admitFellow
theorem dX10_ballot_0 : decode cX10_ballot 0 = .ok (.aload_n 0, 1) := by decide +kernel
theorem dX10_ballot_1 : decode cX10_ballot 1 = .ok (.iload_n 1, 1) := by decide +kernel
theorem dX10_ballot_2 : decode cX10_ballot 2 = .ok (.invokevirtual 191, 3) := by decide +kernel
theorem dX10_ballot_5 : decode cX10_ballot 5 = .ok (.astore 4, 2) := by decide +kernel
theorem dX10_ballot_7 : decode cX10_ballot 7 = .ok (.aload 4, 2) := by decide +kernel
theorem dX10_ballot_9 : decode cX10_ballot 9 = .ok (.ifnull 25, 3) := by decide +kernel
theorem dX10_ballot_12 : decode cX10_ballot 12 = .ok (.iload_n 2, 1) := by decide +kernel
theorem dX10_ballot_13 : decode cX10_ballot 13 = .ok (.iconst 0, 1) := by decide +kernel
theorem dX10_ballot_14 : decode cX10_ballot 14 = .ok (.sipush 1000, 3) := by decide +kernel
theorem dX10_ballot_17 : decode cX10_ballot 17 = .ok (.invokestatic 69, 3) := by decide +kernel
theorem dX10_ballot_20 : decode cX10_ballot 20 = .ok (.ifCond .eq 14, 3) := by decide +kernel
theorem dX10_ballot_23 : decode cX10_ballot 23 = .ok (.iload_n 3, 1) := by decide +kernel
theorem dX10_ballot_24 : decode cX10_ballot 24 = .ok (.iconst 0, 1) := by decide +kernel
theorem dX10_ballot_25 : decode cX10_ballot 25 = .ok (.sipush 1000, 3) := by decide +kernel
theorem dX10_ballot_28 : decode cX10_ballot 28 = .ok (.invokestatic 69, 3) := by decide +kernel
theorem dX10_ballot_31 : decode cX10_ballot 31 = .ok (.ifCond .ne 5, 3) := by decide +kernel
theorem dX10_ballot_34 : decode cX10_ballot 34 = .ok (.iconst (-1), 1) := by decide +kernel
theorem dX10_ballot_35 : decode cX10_ballot 35 = .ok (.ireturn, 1) := by decide +kernel
theorem dX10_ballot_36 : decode cX10_ballot 36 = .ok (.aload_n 0, 1) := by decide +kernel
theorem dX10_ballot_37 : decode cX10_ballot 37 = .ok (.getfield 29, 3) := by decide +kernel
theorem dX10_ballot_40 : decode cX10_ballot 40 = .ok (.aload_n 0, 1) := by decide +kernel
theorem dX10_ballot_41 : decode cX10_ballot 41 = .ok (.getfield 179, 3) := by decide +kernel
theorem dX10_ballot_44 : decode cX10_ballot 44 = .ok (.aload_n 0, 1) := by decide +kernel
theorem dX10_ballot_45 : decode cX10_ballot 45 = .ok (.getfield 65, 3) := by decide +kernel
theorem dX10_ballot_48 : decode cX10_ballot 48 = .ok (.invokestatic 164, 3) := by decide +kernel
theorem dX10_ballot_51 : decode cX10_ballot 51 = .ok (.istore 5, 2) := by decide +kernel
theorem dX10_ballot_53 : decode cX10_ballot 53 = .ok (.iload 5, 2) := by decide +kernel
theorem dX10_ballot_55 : decode cX10_ballot 55 = .ok (.bipush (-9), 2) := by decide +kernel
theorem dX10_ballot_57 : decode cX10_ballot 57 = .ok (.if_icmp .ne 6, 3) := by decide +kernel
theorem dX10_ballot_60 : decode cX10_ballot 60 = .ok (.bipush (-4), 2) := by decide +kernel
theorem dX10_ballot_62 : decode cX10_ballot 62 = .ok (.ireturn, 1) := by decide +kernel
theorem dX10_ballot_63 : decode cX10_ballot 63 = .ok (.aload_n 0, 1) := by decide +kernel
theorem dX10_ballot_64 : decode cX10_ballot 64 = .ok (.getfield 73, 3) := by decide +kernel
theorem dX10_ballot_67 : decode cX10_ballot 67 = .ok (.bipush 16, 2) := by decide +kernel
theorem dX10_ballot_69 : decode cX10_ballot 69 = .ok (.if_icmp .lt 6, 3) := by decide +kernel
theorem dX10_ballot_72 : decode cX10_ballot 72 = .ok (.bipush (-2), 2) := by decide +kernel
theorem dX10_ballot_74 : decode cX10_ballot 74 = .ok (.ireturn, 1) := by decide +kernel
theorem dX10_ballot_75 : decode cX10_ballot 75 = .ok (.aload 4, 2) := by decide +kernel
theorem dX10_ballot_77 : decode cX10_ballot 77 = .ok (.getfield 195, 3) := by decide +kernel
theorem dX10_ballot_80 : decode cX10_ballot 80 = .ok (.ifCond .eq 9, 3) := by decide +kernel
theorem dX10_ballot_83 : decode cX10_ballot 83 = .ok (.aload_n 0, 1) := by decide +kernel
theorem dX10_ballot_84 : decode cX10_ballot 84 = .ok (.iconst 1, 1) := by decide +kernel
theorem dX10_ballot_85 : decode cX10_ballot 85 = .ok (.invokevirtual 127, 3) := by decide +kernel
theorem dX10_ballot_88 : decode cX10_ballot 88 = .ok (.ireturn, 1) := by decide +kernel
theorem dX10_ballot_89 : decode cX10_ballot 89 = .ok (.aload_n 0, 1) := by decide +kernel
theorem dX10_ballot_90 : decode cX10_ballot 90 = .ok (.getfield 29, 3) := by decide +kernel
theorem dX10_ballot_93 : decode cX10_ballot 93 = .ok (.iload 5, 2) := by decide +kernel
theorem dX10_ballot_95 : decode cX10_ballot 95 = .ok (.aaload, 1) := by decide +kernel
theorem dX10_ballot_96 : decode cX10_ballot 96 = .ok (.aload 4, 2) := by decide +kernel
theorem dX10_ballot_98 : decode cX10_ballot 98 = .ok (.aload_n 0, 1) := by decide +kernel
theorem dX10_ballot_99 : decode cX10_ballot 99 = .ok (.getfield 65, 3) := by decide +kernel
theorem dX10_ballot_102 : decode cX10_ballot 102 = .ok (.iload_n 2, 1) := by decide +kernel
theorem dX10_ballot_103 : decode cX10_ballot 103 = .ok (.iload_n 3, 1) := by decide +kernel
theorem dX10_ballot_104 : decode cX10_ballot 104 = .ok (.invokevirtual 202, 3) := by decide +kernel
theorem dX10_ballot_107 : decode cX10_ballot 107 = .ok (.istore 6, 2) := by decide +kernel
theorem dX10_ballot_109 : decode cX10_ballot 109 = .ok (.iload 6, 2) := by decide +kernel
theorem dX10_ballot_111 : decode cX10_ballot 111 = .ok (.iconst 1, 1) := by decide +kernel
theorem dX10_ballot_112 : decode cX10_ballot 112 = .ok (.if_icmp .ne 17, 3) := by decide +kernel
theorem dX10_ballot_115 : decode cX10_ballot 115 = .ok (.aload 4, 2) := by decide +kernel
theorem dX10_ballot_117 : decode cX10_ballot 117 = .ok (.iconst 1, 1) := by decide +kernel
theorem dX10_ballot_118 : decode cX10_ballot 118 = .ok (.putfield 195, 3) := by decide +kernel
theorem dX10_ballot_121 : decode cX10_ballot 121 = .ok (.aload_n 0, 1) := by decide +kernel
theorem dX10_ballot_122 : decode cX10_ballot 122 = .ok (.aload_n 0, 1) := by decide +kernel
theorem dX10_ballot_123 : decode cX10_ballot 123 = .ok (.invokevirtual 76, 3) := by decide +kernel
theorem dX10_ballot_126 : decode cX10_ballot 126 = .ok (.putfield 176, 3) := by decide +kernel
theorem dX10_ballot_129 : decode cX10_ballot 129 = .ok (.iload 6, 2) := by decide +kernel
theorem dX10_ballot_131 : decode cX10_ballot 131 = .ok (.ireturn, 1) := by decide +kernel
set_option maxRecDepth 20000 in
theorem ggX10_medal_X10_isWithin : GoodIn wsX10_medal wsX10_isWithin := goodIn_r _ [7] (by decide +kernel) (by decide +kernel)
set_option maxRecDepth 20000 in
theorem gX10_medal_X10_isWithin : GoodIn wsX10_medal (va_wsS RX10 69 yX10_isWithin wsX10_isWithin) := goodIn_app (goodIn_of _ (by decide +kernel)) ggX10_medal_X10_isWithin
set_option maxRecDepth 20000 in
theorem ggX10_medal_X10_isDay : GoodIn wsX10_medal wsX10_isDay := goodIn_r _ [10, 4, 5, 6, 7] (by decide +kernel) (by decide +kernel)
set_option maxRecDepth 20000 in
theorem gX10_medal_X10_isDay : GoodIn wsX10_medal (va_wsS RX10 151 yX10_isDay wsX10_isDay) := goodIn_app (goodIn_of _ (by decide +kernel)) ggX10_medal_X10_isDay
theorem dX10_medal_0 : decode cX10_medal 0 = .ok (.iload_n 1, 1) := by decide +kernel
theorem dX10_medal_1 : decode cX10_medal 1 = .ok (.iconst 0, 1) := by decide +kernel
theorem dX10_medal_2 : decode cX10_medal 2 = .ok (.iconst 3, 1) := by decide +kernel
theorem dX10_medal_3 : decode cX10_medal 3 = .ok (.invokestatic 69, 3) := by decide +kernel
theorem dX10_medal_6 : decode cX10_medal 6 = .ok (.ifCond .eq 17, 3) := by decide +kernel
theorem dX10_medal_9 : decode cX10_medal 9 = .ok (.iload_n 2, 1) := by decide +kernel
theorem dX10_medal_10 : decode cX10_medal 10 = .ok (.invokestatic 151, 3) := by decide +kernel
theorem dX10_medal_13 : decode cX10_medal 13 = .ok (.ifCond .eq 10, 3) := by decide +kernel
theorem dX10_medal_16 : decode cX10_medal 16 = .ok (.iload_n 3, 1) := by decide +kernel
theorem dX10_medal_17 : decode cX10_medal 17 = .ok (.invokestatic 151, 3) := by decide +kernel
theorem dX10_medal_20 : decode cX10_medal 20 = .ok (.ifCond .ne 5, 3) := by decide +kernel
theorem dX10_medal_23 : decode cX10_medal 23 = .ok (.iconst (-1), 1) := by decide +kernel
theorem dX10_medal_24 : decode cX10_medal 24 = .ok (.ireturn, 1) := by decide +kernel
theorem dX10_medal_25 : decode cX10_medal 25 = .ok (.aload_n 0, 1) := by decide +kernel
theorem dX10_medal_26 : decode cX10_medal 26 = .ok (.getfield 41, 3) := by decide +kernel
theorem dX10_medal_29 : decode cX10_medal 29 = .ok (.iload_n 1, 1) := by decide +kernel
theorem dX10_medal_30 : decode cX10_medal 30 = .ok (.aaload, 1) := by decide +kernel
theorem dX10_medal_31 : decode cX10_medal 31 = .ok (.iload_n 2, 1) := by decide +kernel
theorem dX10_medal_32 : decode cX10_medal 32 = .ok (.putfield 206, 3) := by decide +kernel
theorem dX10_medal_35 : decode cX10_medal 35 = .ok (.aload_n 0, 1) := by decide +kernel
theorem dX10_medal_36 : decode cX10_medal 36 = .ok (.getfield 41, 3) := by decide +kernel
theorem dX10_medal_39 : decode cX10_medal 39 = .ok (.iload_n 1, 1) := by decide +kernel
theorem dX10_medal_40 : decode cX10_medal 40 = .ok (.aaload, 1) := by decide +kernel
theorem dX10_medal_41 : decode cX10_medal 41 = .ok (.iload_n 3, 1) := by decide +kernel
theorem dX10_medal_42 : decode cX10_medal 42 = .ok (.putfield 209, 3) := by decide +kernel
theorem dX10_medal_45 : decode cX10_medal 45 = .ok (.iconst 1, 1) := by decide +kernel
theorem dX10_medal_46 : decode cX10_medal 46 = .ok (.ireturn, 1) := by decide +kernel
set_option maxRecDepth 20000 in
theorem ggX10_award_X10_isWithin : GoodIn wsX10_award wsX10_isWithin := goodIn_r _ [10] (by decide +kernel) (by decide +kernel)
set_option maxRecDepth 20000 in
theorem gX10_award_X10_isWithin : GoodIn wsX10_award (va_wsS RX10 69 yX10_isWithin wsX10_isWithin) := goodIn_app (goodIn_of _ (by decide +kernel)) ggX10_award_X10_isWithin
set_option maxRecDepth 20000 in
theorem ggX10_award_X10_isFellow : GoodIn wsX10_award wsX10_isFellow := goodIn_r _ [14, 15, 7, 8, 9, 10, 38, 39, 40, 41, 42, 43, 44, 45, 46, 47, 48, 49, 50, 51, 52, 53, 54, 55, 56] (by decide +kernel) (by decide +kernel)
set_option maxRecDepth 20000 in
theorem gX10_award_X10_isFellow : GoodIn wsX10_award (wsV RX10 86 RX10 yX10_isFellow wsX10_isFellow) := goodIn_app (goodIn_of _ (by decide +kernel)) ggX10_award_X10_isFellow
set_option maxRecDepth 20000 in
theorem ggX10_award_X3_hadTooSoon : GoodIn wsX10_award wsX3_hadTooSoon := goodIn_r _ [20, 21, 22, 23, 57, 58, 59, 60] (by decide +kernel) (by decide +kernel)
set_option maxRecDepth 20000 in
theorem gX10_award_X3_hadTooSoon : GoodIn wsX10_award (wsV RX10 215 RX3 yX3_hadTooSoon wsX3_hadTooSoon) := goodIn_app (goodIn_of _ (by decide +kernel)) ggX10_award_X3_hadTooSoon
set_option maxRecDepth 20000 in
theorem ggX10_award_X10_hasPrinted : GoodIn wsX10_award wsX10_hasPrinted := goodIn_r _ [27, 28, 29, 30, 3, 31, 32, 33, 34, 35, 36, 37, 38, 39, 40, 41, 42, 43, 44, 45, 46, 47, 48, 49, 50, 51, 52, 53, 54, 55, 56, 61, 62, 63, 64, 65, 66, 67, 68, 69, 70, 71, 72] (by decide +kernel) (by decide +kernel)
set_option maxRecDepth 20000 in
theorem gX10_award_X10_hasPrinted : GoodIn wsX10_award (wsV RX10 218 RX10 yX10_hasPrinted wsX10_hasPrinted) := goodIn_app (goodIn_of _ (by decide +kernel)) ggX10_award_X10_hasPrinted
theorem dX10_award_0 : decode cX10_award 0 = .ok (.iload_n 1, 1) := by decide +kernel
theorem dX10_award_1 : decode cX10_award 1 = .ok (.iconst 0, 1) := by decide +kernel
theorem dX10_award_2 : decode cX10_award 2 = .ok (.iconst 3, 1) := by decide +kernel
theorem dX10_award_3 : decode cX10_award 3 = .ok (.invokestatic 69, 3) := by decide +kernel
theorem dX10_award_6 : decode cX10_award 6 = .ok (.ifCond .eq 11, 3) := by decide +kernel
theorem dX10_award_9 : decode cX10_award 9 = .ok (.aload_n 0, 1) := by decide +kernel
theorem dX10_award_10 : decode cX10_award 10 = .ok (.iload_n 2, 1) := by decide +kernel
theorem dX10_award_11 : decode cX10_award 11 = .ok (.invokevirtual 86, 3) := by decide +kernel
theorem dX10_award_14 : decode cX10_award 14 = .ok (.ifCond .ne 5, 3) := by decide +kernel
theorem dX10_award_17 : decode cX10_award 17 = .ok (.iconst (-1), 1) := by decide +kernel
theorem dX10_award_18 : decode cX10_award 18 = .ok (.ireturn, 1) := by decide +kernel
theorem dX10_award_19 : decode cX10_award 19 = .ok (.aload_n 0, 1) := by decide +kernel
theorem dX10_award_20 : decode cX10_award 20 = .ok (.getfield 212, 3) := by decide +kernel
theorem dX10_award_23 : decode cX10_award 23 = .ok (.bipush 60, 2) := by decide +kernel
theorem dX10_award_25 : decode cX10_award 25 = .ok (.if_icmp .lt 6, 3) := by decide +kernel
theorem dX10_award_28 : decode cX10_award 28 = .ok (.bipush (-2), 2) := by decide +kernel
theorem dX10_award_30 : decode cX10_award 30 = .ok (.ireturn, 1) := by decide +kernel
theorem dX10_award_31 : decode cX10_award 31 = .ok (.aload_n 0, 1) := by decide +kernel
theorem dX10_award_32 : decode cX10_award 32 = .ok (.getfield 41, 3) := by decide +kernel
theorem dX10_award_35 : decode cX10_award 35 = .ok (.iload_n 1, 1) := by decide +kernel
theorem dX10_award_36 : decode cX10_award 36 = .ok (.aaload, 1) := by decide +kernel
theorem dX10_award_37 : decode cX10_award 37 = .ok (.astore_n 3, 1) := by decide +kernel
theorem dX10_award_38 : decode cX10_award 38 = .ok (.aload_n 3, 1) := by decide +kernel
theorem dX10_award_39 : decode cX10_award 39 = .ok (.iload_n 2, 1) := by decide +kernel
theorem dX10_award_40 : decode cX10_award 40 = .ok (.aload_n 0, 1) := by decide +kernel
theorem dX10_award_41 : decode cX10_award 41 = .ok (.getfield 65, 3) := by decide +kernel
theorem dX10_award_44 : decode cX10_award 44 = .ok (.invokevirtual 215, 3) := by decide +kernel
theorem dX10_award_47 : decode cX10_award 47 = .ok (.ifCond .eq 5, 3) := by decide +kernel
theorem dX10_award_50 : decode cX10_award 50 = .ok (.iconst 2, 1) := by decide +kernel
theorem dX10_award_51 : decode cX10_award 51 = .ok (.ireturn, 1) := by decide +kernel
theorem dX10_award_52 : decode cX10_award 52 = .ok (.aload_n 0, 1) := by decide +kernel
theorem dX10_award_53 : decode cX10_award 53 = .ok (.iload_n 2, 1) := by decide +kernel
theorem dX10_award_54 : decode cX10_award 54 = .ok (.aload_n 3, 1) := by decide +kernel
theorem dX10_award_55 : decode cX10_award 55 = .ok (.getfield 209, 3) := by decide +kernel
theorem dX10_award_58 : decode cX10_award 58 = .ok (.invokevirtual 218, 3) := by decide +kernel
theorem dX10_award_61 : decode cX10_award 61 = .ok (.ifCond .ne 5, 3) := by decide +kernel
theorem dX10_award_64 : decode cX10_award 64 = .ok (.iconst 3, 1) := by decide +kernel
theorem dX10_award_65 : decode cX10_award 65 = .ok (.ireturn, 1) := by decide +kernel
theorem dX10_award_66 : decode cX10_award 66 = .ok (.aload_n 3, 1) := by decide +kernel
theorem dX10_award_67 : decode cX10_award 67 = .ok (.getfield 221, 3) := by decide +kernel
theorem dX10_award_70 : decode cX10_award 70 = .ok (.iload_n 2, 1) := by decide +kernel
theorem dX10_award_71 : decode cX10_award 71 = .ok (.dup2, 1) := by decide +kernel
theorem dX10_award_72 : decode cX10_award 72 = .ok (.iaload, 1) := by decide +kernel
theorem dX10_award_73 : decode cX10_award 73 = .ok (.iconst 1, 1) := by decide +kernel
theorem dX10_award_74 : decode cX10_award 74 = .ok (.iadd, 1) := by decide +kernel
theorem dX10_award_75 : decode cX10_award 75 = .ok (.iastore, 1) := by decide +kernel
theorem dX10_award_76 : decode cX10_award 76 = .ok (.aload_n 3, 1) := by decide +kernel
theorem dX10_award_77 : decode cX10_award 77 = .ok (.getfield 224, 3) := by decide +kernel
theorem dX10_award_80 : decode cX10_award 80 = .ok (.iload_n 2, 1) := by decide +kernel
theorem dX10_award_81 : decode cX10_award 81 = .ok (.aload_n 0, 1) := by decide +kernel
theorem dX10_award_82 : decode cX10_award 82 = .ok (.getfield 65, 3) := by decide +kernel
theorem dX10_award_85 : decode cX10_award 85 = .ok (.iastore, 1) := by decide +kernel
theorem dX10_award_86 : decode cX10_award 86 = .ok (.aload_n 0, 1) := by decide +kernel
theorem dX10_award_87 : decode cX10_award 87 = .ok (.dup, 1) := by decide +kernel
theorem dX10_award_88 : decode cX10_award 88 = .ok (.getfield 212, 3) := by decide +kernel
theorem dX10_award_91 : decode cX10_award 91 = .ok (.iconst 1, 1) := by decide +kernel
theorem dX10_award_92 : decode cX10_award 92 = .ok (.iadd, 1) := by decide +kernel
theorem dX10_award_93 : decode cX10_award 93 = .ok (.putfield 212, 3) := by decide +kernel
theorem dX10_award_96 : decode cX10_award 96 = .ok (.iconst 1, 1) := by decide +kernel
theorem dX10_award_97 : decode cX10_award 97 = .ok (.ireturn, 1) := by decide +kernel
set_option maxRecDepth 20000 in
theorem ggX10_medals_X10_isWithin : GoodIn wsX10_medals wsX10_isWithin := goodIn_r _ [6] (by decide +kernel) (by decide +kernel)
set_option maxRecDepth 20000 in
theorem gX10_medals_X10_isWithin : GoodIn wsX10_medals (va_wsS RX10 69 yX10_isWithin wsX10_isWithin) := goodIn_app (goodIn_of _ (by decide +kernel)) ggX10_medals_X10_isWithin
set_option maxRecDepth 20000 in
theorem ggX10_medals_X10_isFellow : GoodIn wsX10_medals wsX10_isFellow := goodIn_r _ [10, 11, 3, 4, 5, 6, 12, 13, 14, 15, 16, 17, 18, 19, 20, 21, 22, 23, 24, 25, 26, 27, 28, 29, 30] (by decide +kernel) (by decide +kernel)
set_option maxRecDepth 20000 in
theorem gX10_medals_X10_isFellow : GoodIn wsX10_medals (wsV RX10 86 RX10 yX10_isFellow wsX10_isFellow) := goodIn_app (goodIn_of _ (by decide +kernel)) ggX10_medals_X10_isFellow
theorem dX10_medals_0 : decode cX10_medals 0 = .ok (.iload_n 1, 1) := by decide +kernel
theorem dX10_medals_1 : decode cX10_medals 1 = .ok (.iconst 0, 1) := by decide +kernel
theorem dX10_medals_2 : decode cX10_medals 2 = .ok (.iconst 3, 1) := by decide +kernel
theorem dX10_medals_3 : decode cX10_medals 3 = .ok (.invokestatic 69, 3) := by decide +kernel
theorem dX10_medals_6 : decode cX10_medals 6 = .ok (.ifCond .eq 11, 3) := by decide +kernel
theorem dX10_medals_9 : decode cX10_medals 9 = .ok (.aload_n 0, 1) := by decide +kernel
theorem dX10_medals_10 : decode cX10_medals 10 = .ok (.iload_n 2, 1) := by decide +kernel
theorem dX10_medals_11 : decode cX10_medals 11 = .ok (.invokevirtual 86, 3) := by decide +kernel
theorem dX10_medals_14 : decode cX10_medals 14 = .ok (.ifCond .ne 5, 3) := by decide +kernel
theorem dX10_medals_17 : decode cX10_medals 17 = .ok (.iconst (-1), 1) := by decide +kernel
theorem dX10_medals_18 : decode cX10_medals 18 = .ok (.ireturn, 1) := by decide +kernel
theorem dX10_medals_19 : decode cX10_medals 19 = .ok (.aload_n 0, 1) := by decide +kernel
theorem dX10_medals_20 : decode cX10_medals 20 = .ok (.getfield 41, 3) := by decide +kernel
theorem dX10_medals_23 : decode cX10_medals 23 = .ok (.iload_n 1, 1) := by decide +kernel
theorem dX10_medals_24 : decode cX10_medals 24 = .ok (.aaload, 1) := by decide +kernel
theorem dX10_medals_25 : decode cX10_medals 25 = .ok (.getfield 221, 3) := by decide +kernel
theorem dX10_medals_28 : decode cX10_medals 28 = .ok (.iload_n 2, 1) := by decide +kernel
theorem dX10_medals_29 : decode cX10_medals 29 = .ok (.iaload, 1) := by decide +kernel
theorem dX10_medals_30 : decode cX10_medals 30 = .ok (.ireturn, 1) := by decide +kernel
set_option maxRecDepth 20000 in
theorem ggX10_stock_X10_isPlace : GoodIn wsX10_stock wsX10_isPlace := goodIn_r _ [6, 7, 8, 5, 9] (by decide +kernel) (by decide +kernel)
set_option maxRecDepth 20000 in
theorem gX10_stock_X10_isPlace : GoodIn wsX10_stock (va_wsS RX10 227 yX10_isPlace wsX10_isPlace) := goodIn_app (goodIn_of _ (by decide +kernel)) ggX10_stock_X10_isPlace
set_option maxRecDepth 20000 in
theorem ggX10_stock_X10_isWithin : GoodIn wsX10_stock wsX10_isWithin := goodIn_r _ [9] (by decide +kernel) (by decide +kernel)
set_option maxRecDepth 20000 in
theorem gX10_stock_X10_isWithin : GoodIn wsX10_stock (va_wsS RX10 69 yX10_isWithin wsX10_isWithin) := goodIn_app (goodIn_of _ (by decide +kernel)) ggX10_stock_X10_isWithin
theorem dX10_stock_0 : decode cX10_stock 0 = .ok (.iload_n 1, 1) := by decide +kernel
theorem dX10_stock_1 : decode cX10_stock 1 = .ok (.iload_n 2, 1) := by decide +kernel
theorem dX10_stock_2 : decode cX10_stock 2 = .ok (.invokestatic 227, 3) := by decide +kernel
theorem dX10_stock_5 : decode cX10_stock 5 = .ok (.ifCond .eq 13, 3) := by decide +kernel
theorem dX10_stock_8 : decode cX10_stock 8 = .ok (.iload_n 3, 1) := by decide +kernel
theorem dX10_stock_9 : decode cX10_stock 9 = .ok (.iconst 0, 1) := by decide +kernel
theorem dX10_stock_10 : decode cX10_stock 10 = .ok (.bipush 9, 2) := by decide +kernel
theorem dX10_stock_12 : decode cX10_stock 12 = .ok (.invokestatic 69, 3) := by decide +kernel
theorem dX10_stock_15 : decode cX10_stock 15 = .ok (.ifCond .ne 5, 3) := by decide +kernel
theorem dX10_stock_18 : decode cX10_stock 18 = .ok (.iconst (-1), 1) := by decide +kernel
theorem dX10_stock_19 : decode cX10_stock 19 = .ok (.ireturn, 1) := by decide +kernel
theorem dX10_stock_20 : decode cX10_stock 20 = .ok (.aload_n 0, 1) := by decide +kernel
theorem dX10_stock_21 : decode cX10_stock 21 = .ok (.getfield 48, 3) := by decide +kernel
theorem dX10_stock_24 : decode cX10_stock 24 = .ok (.getfield 230, 3) := by decide +kernel
theorem dX10_stock_27 : decode cX10_stock 27 = .ok (.iload_n 1, 1) := by decide +kernel
theorem dX10_stock_28 : decode cX10_stock 28 = .ok (.aaload, 1) := by decide +kernel
theorem dX10_stock_29 : decode cX10_stock 29 = .ok (.iload_n 2, 1) := by decide +kernel
theorem dX10_stock_30 : decode cX10_stock 30 = .ok (.iaload, 1) := by decide +kernel
theorem dX10_stock_31 : decode cX10_stock 31 = .ok (.istore 4, 2) := by decide +kernel
theorem dX10_stock_33 : decode cX10_stock 33 = .ok (.aload_n 0, 1) := by decide +kernel
theorem dX10_stock_34 : decode cX10_stock 34 = .ok (.getfield 48, 3) := by decide +kernel
theorem dX10_stock_37 : decode cX10_stock 37 = .ok (.getfield 230, 3) := by decide +kernel
theorem dX10_stock_40 : decode cX10_stock 40 = .ok (.iload_n 1, 1) := by decide +kernel
theorem dX10_stock_41 : decode cX10_stock 41 = .ok (.aaload, 1) := by decide +kernel
theorem dX10_stock_42 : decode cX10_stock 42 = .ok (.iload_n 2, 1) := by decide +kernel
theorem dX10_stock_43 : decode cX10_stock 43 = .ok (.iload_n 3, 1) := by decide +kernel
theorem dX10_stock_44 : decode cX10_stock 44 = .ok (.iastore, 1) := by decide +kernel
theorem dX10_stock_45 : decode cX10_stock 45 = .ok (.iload 4, 2) := by decide +kernel
theorem dX10_stock_47 : decode cX10_stock 47 = .ok (.ireturn, 1) := by decide +kernel
set_option maxRecDepth 20000 in
theorem ggX10_copies_X10_isPlace : GoodIn wsX10_copies wsX10_isPlace := goodIn_r _ [6, 7, 8, 5, 9] (by decide +kernel) (by decide +kernel)
set_option maxRecDepth 20000 in
theorem gX10_copies_X10_isPlace : GoodIn wsX10_copies (va_wsS RX10 227 yX10_isPlace wsX10_isPlace) := goodIn_app (goodIn_of _ (by decide +kernel)) ggX10_copies_X10_isPlace
theorem dX10_copies_0 : decode cX10_copies 0 = .ok (.iload_n 1, 1) := by decide +kernel
theorem dX10_copies_1 : decode cX10_copies 1 = .ok (.iload_n 2, 1) := by decide +kernel
theorem dX10_copies_2 : decode cX10_copies 2 = .ok (.invokestatic 227, 3) := by decide +kernel
theorem dX10_copies_5 : decode cX10_copies 5 = .ok (.ifCond .ne 5, 3) := by decide +kernel
theorem dX10_copies_8 : decode cX10_copies 8 = .ok (.iconst (-1), 1) := by decide +kernel
theorem dX10_copies_9 : decode cX10_copies 9 = .ok (.ireturn, 1) := by decide +kernel
theorem dX10_copies_10 : decode cX10_copies 10 = .ok (.aload_n 0, 1) := by decide +kernel
theorem dX10_copies_11 : decode cX10_copies 11 = .ok (.getfield 48, 3) := by decide +kernel
theorem dX10_copies_14 : decode cX10_copies 14 = .ok (.getfield 230, 3) := by decide +kernel
theorem dX10_copies_17 : decode cX10_copies 17 = .ok (.iload_n 1, 1) := by decide +kernel
theorem dX10_copies_18 : decode cX10_copies 18 = .ok (.aaload, 1) := by decide +kernel
theorem dX10_copies_19 : decode cX10_copies 19 = .ok (.iload_n 2, 1) := by decide +kernel
theorem dX10_copies_20 : decode cX10_copies 20 = .ok (.iaload, 1) := by decide +kernel
theorem dX10_copies_21 : decode cX10_copies 21 = .ok (.ireturn, 1) := by decide +kernel
set_option maxRecDepth 20000 in
theorem ggX10_sheet_X10_isSheet : GoodIn wsX10_sheet wsX10_isSheet := goodIn_r _ [5, 6, 7, 4, 8] (by decide +kernel) (by decide +kernel)
set_option maxRecDepth 20000 in
theorem gX10_sheet_X10_isSheet : GoodIn wsX10_sheet (va_wsS RX10 234 yX10_isSheet wsX10_isSheet) := goodIn_app (goodIn_of _ (by decide +kernel)) ggX10_sheet_X10_isSheet
set_option maxRecDepth 20000 in
theorem ggX10_sheet_X10_found : GoodIn wsX10_sheet wsX10_found := goodIn_r _ [12, 13, 14, 23, 24, 25, 26, 27, 28, 29, 30, 31, 32, 33, 34, 35, 36, 37, 38, 39, 40, 41] (by decide +kernel) (by decide +kernel)
set_option maxRecDepth 20000 in
theorem gX10_sheet_X10_found : GoodIn wsX10_sheet (wsV RX10 127 RX10 yX10_found wsX10_found) := goodIn_app (goodIn_of _ (by decide +kernel)) ggX10_sheet_X10_found
set_option maxRecDepth 20000 in
theorem ggX10_sheet_X8_renew : GoodIn wsX10_sheet wsX8_renew := goodIn_r _ [19, 20, 21, 22, 42, 43, 44] (by decide +kernel) (by decide +kernel)
set_option maxRecDepth 20000 in
theorem gX10_sheet_X8_renew : GoodIn wsX10_sheet (wsV RX10 237 RX8 yX8_renew wsX8_renew) := goodIn_app (goodIn_of _ (by decide +kernel)) ggX10_sheet_X8_renew
theorem dX10_sheet_0 : decode cX10_sheet 0 = .ok (.iload_n 1, 1) := by decide +kernel
theorem dX10_sheet_1 : decode cX10_sheet 1 = .ok (.invokestatic 234, 3) := by decide +kernel
theorem dX10_sheet_4 : decode cX10_sheet 4 = .ok (.ifCond .eq 9, 3) := by decide +kernel
theorem dX10_sheet_7 : decode cX10_sheet 7 = .ok (.iload_n 2, 1) := by decide +kernel
theorem dX10_sheet_8 : decode cX10_sheet 8 = .ok (.bipush 12, 2) := by decide +kernel
theorem dX10_sheet_10 : decode cX10_sheet 10 = .ok (.if_icmp .le 5, 3) := by decide +kernel
theorem dX10_sheet_13 : decode cX10_sheet 13 = .ok (.iconst (-1), 1) := by decide +kernel
theorem dX10_sheet_14 : decode cX10_sheet 14 = .ok (.ireturn, 1) := by decide +kernel
theorem dX10_sheet_15 : decode cX10_sheet 15 = .ok (.iload_n 2, 1) := by decide +kernel
theorem dX10_sheet_16 : decode cX10_sheet 16 = .ok (.ifCond .ge 9, 3) := by decide +kernel
theorem dX10_sheet_19 : decode cX10_sheet 19 = .ok (.aload_n 0, 1) := by decide +kernel
theorem dX10_sheet_20 : decode cX10_sheet 20 = .ok (.iconst 5, 1) := by decide +kernel
theorem dX10_sheet_21 : decode cX10_sheet 21 = .ok (.invokevirtual 127, 3) := by decide +kernel
theorem dX10_sheet_24 : decode cX10_sheet 24 = .ok (.ireturn, 1) := by decide +kernel
theorem dX10_sheet_25 : decode cX10_sheet 25 = .ok (.aload_n 0, 1) := by decide +kernel
theorem dX10_sheet_26 : decode cX10_sheet 26 = .ok (.getfield 54, 3) := by decide +kernel
theorem dX10_sheet_29 : decode cX10_sheet 29 = .ok (.iload_n 1, 1) := by decide +kernel
theorem dX10_sheet_30 : decode cX10_sheet 30 = .ok (.aaload, 1) := by decide +kernel
theorem dX10_sheet_31 : decode cX10_sheet 31 = .ok (.iload_n 2, 1) := by decide +kernel
theorem dX10_sheet_32 : decode cX10_sheet 32 = .ok (.invokevirtual 237, 3) := by decide +kernel
theorem dX10_sheet_35 : decode cX10_sheet 35 = .ok (.iload_n 2, 1) := by decide +kernel
theorem dX10_sheet_36 : decode cX10_sheet 36 = .ok (.ireturn, 1) := by decide +kernel
set_option maxRecDepth 20000 in
theorem ggX10_lay_X10_isSheet : GoodIn wsX10_lay wsX10_isSheet := goodIn_r _ [8, 9, 10, 7, 11] (by decide +kernel) (by decide +kernel)
set_option maxRecDepth 20000 in
theorem gX10_lay_X10_isSheet : GoodIn wsX10_lay (va_wsS RX10 234 yX10_isSheet wsX10_isSheet) := goodIn_app (goodIn_of _ (by decide +kernel)) ggX10_lay_X10_isSheet
set_option maxRecDepth 20000 in
theorem ggX10_lay_X10_found : GoodIn wsX10_lay wsX10_found := goodIn_r _ [15, 16, 17, 18, 19, 20, 21, 22, 23, 24, 25, 26, 27, 28, 29, 30, 31, 32, 33, 34, 35, 36] (by decide +kernel) (by decide +kernel)
set_option maxRecDepth 20000 in
theorem gX10_lay_X10_found : GoodIn wsX10_lay (wsV RX10 127 RX10 yX10_found wsX10_found) := goodIn_app (goodIn_of _ (by decide +kernel)) ggX10_lay_X10_found
set_option maxRecDepth 20000 in
theorem ggX10_lay_X10_isWithin : GoodIn wsX10_lay wsX10_isWithin := goodIn_r _ [11] (by decide +kernel) (by decide +kernel)
set_option maxRecDepth 20000 in
theorem gX10_lay_X10_isWithin : GoodIn wsX10_lay (va_wsS RX10 69 yX10_isWithin wsX10_isWithin) := goodIn_app (goodIn_of _ (by decide +kernel)) ggX10_lay_X10_isWithin
theorem dX10_lay_0 : decode cX10_lay 0 = .ok (.iload_n 1, 1) := by decide +kernel
theorem dX10_lay_1 : decode cX10_lay 1 = .ok (.invokestatic 234, 3) := by decide +kernel
theorem dX10_lay_4 : decode cX10_lay 4 = .ok (.ifCond .ne 5, 3) := by decide +kernel
theorem dX10_lay_7 : decode cX10_lay 7 = .ok (.iconst (-1), 1) := by decide +kernel
theorem dX10_lay_8 : decode cX10_lay 8 = .ok (.ireturn, 1) := by decide +kernel
theorem dX10_lay_9 : decode cX10_lay 9 = .ok (.aload_n 0, 1) := by decide +kernel
theorem dX10_lay_10 : decode cX10_lay 10 = .ok (.getfield 54, 3) := by decide +kernel
theorem dX10_lay_13 : decode cX10_lay 13 = .ok (.iload_n 1, 1) := by decide +kernel
theorem dX10_lay_14 : decode cX10_lay 14 = .ok (.aaload, 1) := by decide +kernel
theorem dX10_lay_15 : decode cX10_lay 15 = .ok (.astore 4, 2) := by decide +kernel
theorem dX10_lay_17 : decode cX10_lay 17 = .ok (.aload 4, 2) := by decide +kernel
theorem dX10_lay_19 : decode cX10_lay 19 = .ok (.getfield 241, 3) := by decide +kernel
theorem dX10_lay_22 : decode cX10_lay 22 = .ok (.ifCond .eq 9, 3) := by decide +kernel
theorem dX10_lay_25 : decode cX10_lay 25 = .ok (.aload_n 0, 1) := by decide +kernel
theorem dX10_lay_26 : decode cX10_lay 26 = .ok (.iconst 1, 1) := by decide +kernel
theorem dX10_lay_27 : decode cX10_lay 27 = .ok (.invokevirtual 127, 3) := by decide +kernel
theorem dX10_lay_30 : decode cX10_lay 30 = .ok (.ireturn, 1) := by decide +kernel
theorem dX10_lay_31 : decode cX10_lay 31 = .ok (.iload_n 2, 1) := by decide +kernel
theorem dX10_lay_32 : decode cX10_lay 32 = .ok (.iconst 0, 1) := by decide +kernel
theorem dX10_lay_33 : decode cX10_lay 33 = .ok (.aload 4, 2) := by decide +kernel
theorem dX10_lay_35 : decode cX10_lay 35 = .ok (.getfield 242, 3) := by decide +kernel
theorem dX10_lay_38 : decode cX10_lay 38 = .ok (.iconst 1, 1) := by decide +kernel
theorem dX10_lay_39 : decode cX10_lay 39 = .ok (.isub, 1) := by decide +kernel
theorem dX10_lay_40 : decode cX10_lay 40 = .ok (.invokestatic 69, 3) := by decide +kernel
theorem dX10_lay_43 : decode cX10_lay 43 = .ok (.ifCond .ne 9, 3) := by decide +kernel
theorem dX10_lay_46 : decode cX10_lay 46 = .ok (.aload_n 0, 1) := by decide +kernel
theorem dX10_lay_47 : decode cX10_lay 47 = .ok (.iconst 2, 1) := by decide +kernel
theorem dX10_lay_48 : decode cX10_lay 48 = .ok (.invokevirtual 127, 3) := by decide +kernel
theorem dX10_lay_51 : decode cX10_lay 51 = .ok (.ireturn, 1) := by decide +kernel
theorem dX10_lay_52 : decode cX10_lay 52 = .ok (.aload 4, 2) := by decide +kernel
theorem dX10_lay_54 : decode cX10_lay 54 = .ok (.getfield 245, 3) := by decide +kernel
theorem dX10_lay_57 : decode cX10_lay 57 = .ok (.iload_n 2, 1) := by decide +kernel
theorem dX10_lay_58 : decode cX10_lay 58 = .ok (.baload, 1) := by decide +kernel
theorem dX10_lay_59 : decode cX10_lay 59 = .ok (.istore 5, 2) := by decide +kernel
theorem dX10_lay_61 : decode cX10_lay 61 = .ok (.aload 4, 2) := by decide +kernel
theorem dX10_lay_63 : decode cX10_lay 63 = .ok (.getfield 245, 3) := by decide +kernel
theorem dX10_lay_66 : decode cX10_lay 66 = .ok (.iload_n 2, 1) := by decide +kernel
theorem dX10_lay_67 : decode cX10_lay 67 = .ok (.iload_n 3, 1) := by decide +kernel
theorem dX10_lay_68 : decode cX10_lay 68 = .ok (.i2b, 1) := by decide +kernel
theorem dX10_lay_69 : decode cX10_lay 69 = .ok (.bastore, 1) := by decide +kernel
theorem dX10_lay_70 : decode cX10_lay 70 = .ok (.iload 5, 2) := by decide +kernel
theorem dX10_lay_72 : decode cX10_lay 72 = .ok (.sipush 1000, 3) := by decide +kernel
theorem dX10_lay_75 : decode cX10_lay 75 = .ok (.iadd, 1) := by decide +kernel
theorem dX10_lay_76 : decode cX10_lay 76 = .ok (.ireturn, 1) := by decide +kernel
set_option maxRecDepth 20000 in
theorem ggX10_tear_X10_isSheet : GoodIn wsX10_tear wsX10_isSheet := goodIn_r _ [6, 7, 8, 5, 9] (by decide +kernel) (by decide +kernel)
set_option maxRecDepth 20000 in
theorem gX10_tear_X10_isSheet : GoodIn wsX10_tear (va_wsS RX10 234 yX10_isSheet wsX10_isSheet) := goodIn_app (goodIn_of _ (by decide +kernel)) ggX10_tear_X10_isSheet
set_option maxRecDepth 20000 in
theorem ggX10_tear_X10_found : GoodIn wsX10_tear wsX10_found := goodIn_r _ [13, 14, 15, 16, 17, 18, 19, 20, 21, 22, 23, 24, 25, 26, 27, 28, 29, 30, 31, 32, 33, 34] (by decide +kernel) (by decide +kernel)
set_option maxRecDepth 20000 in
theorem gX10_tear_X10_found : GoodIn wsX10_tear (wsV RX10 127 RX10 yX10_found wsX10_found) := goodIn_app (goodIn_of _ (by decide +kernel)) ggX10_tear_X10_found
theorem dX10_tear_0 : decode cX10_tear 0 = .ok (.iload_n 1, 1) := by decide +kernel
theorem dX10_tear_1 : decode cX10_tear 1 = .ok (.invokestatic 234, 3) := by decide +kernel
theorem dX10_tear_4 : decode cX10_tear 4 = .ok (.ifCond .ne 5, 3) := by decide +kernel
theorem dX10_tear_7 : decode cX10_tear 7 = .ok (.iconst (-1), 1) := by decide +kernel
theorem dX10_tear_8 : decode cX10_tear 8 = .ok (.ireturn, 1) := by decide +kernel
theorem dX10_tear_9 : decode cX10_tear 9 = .ok (.aload_n 0, 1) := by decide +kernel
theorem dX10_tear_10 : decode cX10_tear 10 = .ok (.getfield 54, 3) := by decide +kernel
theorem dX10_tear_13 : decode cX10_tear 13 = .ok (.iload_n 1, 1) := by decide +kernel
theorem dX10_tear_14 : decode cX10_tear 14 = .ok (.aaload, 1) := by decide +kernel
theorem dX10_tear_15 : decode cX10_tear 15 = .ok (.getfield 241, 3) := by decide +kernel
theorem dX10_tear_18 : decode cX10_tear 18 = .ok (.ifCond .eq 9, 3) := by decide +kernel
theorem dX10_tear_21 : decode cX10_tear 21 = .ok (.aload_n 0, 1) := by decide +kernel
theorem dX10_tear_22 : decode cX10_tear 22 = .ok (.iconst 1, 1) := by decide +kernel
theorem dX10_tear_23 : decode cX10_tear 23 = .ok (.invokevirtual 127, 3) := by decide +kernel
theorem dX10_tear_26 : decode cX10_tear 26 = .ok (.ireturn, 1) := by decide +kernel
theorem dX10_tear_27 : decode cX10_tear 27 = .ok (.aload_n 0, 1) := by decide +kernel
theorem dX10_tear_28 : decode cX10_tear 28 = .ok (.getfield 54, 3) := by decide +kernel
theorem dX10_tear_31 : decode cX10_tear 31 = .ok (.iload_n 1, 1) := by decide +kernel
theorem dX10_tear_32 : decode cX10_tear 32 = .ok (.aaload, 1) := by decide +kernel
theorem dX10_tear_33 : decode cX10_tear 33 = .ok (.iconst 1, 1) := by decide +kernel
theorem dX10_tear_34 : decode cX10_tear 34 = .ok (.putfield 241, 3) := by decide +kernel
theorem dX10_tear_37 : decode cX10_tear 37 = .ok (.iconst 1, 1) := by decide +kernel
theorem dX10_tear_38 : decode cX10_tear 38 = .ok (.ireturn, 1) := by decide +kernel
set_option maxRecDepth 20000 in
theorem ggX10_copy_X10_isSheet : GoodIn wsX10_copy wsX10_isSheet := goodIn_r _ [11, 12, 13, 10, 14] (by decide +kernel) (by decide +kernel)
set_option maxRecDepth 20000 in
theorem gX10_copy_X10_isSheet : GoodIn wsX10_copy (va_wsS RX10 234 yX10_isSheet wsX10_isSheet) := goodIn_app (goodIn_of _ (by decide +kernel)) ggX10_copy_X10_isSheet
set_option maxRecDepth 20000 in
theorem ggX10_copy_X10_found : GoodIn wsX10_copy wsX10_found := goodIn_r _ [18, 19, 20, 27, 28, 29, 30, 31, 32, 33, 34, 35, 36, 37, 38, 39, 40, 41, 42, 43, 44, 45] (by decide +kernel) (by decide +kernel)
set_option maxRecDepth 20000 in
theorem gX10_copy_X10_found : GoodIn wsX10_copy (wsV RX10 127 RX10 yX10_found wsX10_found) := goodIn_app (goodIn_of _ (by decide +kernel)) ggX10_copy_X10_found
set_option maxRecDepth 20000 in
theorem ggX10_copy_X8_hasRun : GoodIn wsX10_copy wsX8_hasRun := goodIn_r _ [25, 26, 13, 10, 14, 46, 47, 48] (by decide +kernel) (by decide +kernel)
set_option maxRecDepth 20000 in
theorem gX10_copy_X8_hasRun : GoodIn wsX10_copy (wsV RX10 249 RX8 yX8_hasRun wsX8_hasRun) := goodIn_app (goodIn_of _ (by decide +kernel)) ggX10_copy_X8_hasRun
theorem dX10_copy_0 : decode cX10_copy 0 = .ok (.iload_n 1, 1) := by decide +kernel
theorem dX10_copy_1 : decode cX10_copy 1 = .ok (.invokestatic 234, 3) := by decide +kernel
theorem dX10_copy_4 : decode cX10_copy 4 = .ok (.ifCond .eq 10, 3) := by decide +kernel
theorem dX10_copy_7 : decode cX10_copy 7 = .ok (.iload_n 3, 1) := by decide +kernel
theorem dX10_copy_8 : decode cX10_copy 8 = .ok (.invokestatic 234, 3) := by decide +kernel
theorem dX10_copy_11 : decode cX10_copy 11 = .ok (.ifCond .ne 5, 3) := by decide +kernel
theorem dX10_copy_14 : decode cX10_copy 14 = .ok (.iconst (-1), 1) := by decide +kernel
theorem dX10_copy_15 : decode cX10_copy 15 = .ok (.ireturn, 1) := by decide +kernel
theorem dX10_copy_16 : decode cX10_copy 16 = .ok (.aload_n 0, 1) := by decide +kernel
theorem dX10_copy_17 : decode cX10_copy 17 = .ok (.getfield 54, 3) := by decide +kernel
theorem dX10_copy_20 : decode cX10_copy 20 = .ok (.iload_n 1, 1) := by decide +kernel
theorem dX10_copy_21 : decode cX10_copy 21 = .ok (.aaload, 1) := by decide +kernel
theorem dX10_copy_22 : decode cX10_copy 22 = .ok (.astore 6, 2) := by decide +kernel
theorem dX10_copy_24 : decode cX10_copy 24 = .ok (.aload_n 0, 1) := by decide +kernel
theorem dX10_copy_25 : decode cX10_copy 25 = .ok (.getfield 54, 3) := by decide +kernel
theorem dX10_copy_28 : decode cX10_copy 28 = .ok (.iload_n 3, 1) := by decide +kernel
theorem dX10_copy_29 : decode cX10_copy 29 = .ok (.aaload, 1) := by decide +kernel
theorem dX10_copy_30 : decode cX10_copy 30 = .ok (.astore 7, 2) := by decide +kernel
theorem dX10_copy_32 : decode cX10_copy 32 = .ok (.aload 6, 2) := by decide +kernel
theorem dX10_copy_34 : decode cX10_copy 34 = .ok (.getfield 241, 3) := by decide +kernel
theorem dX10_copy_37 : decode cX10_copy 37 = .ok (.ifCond .ne 11, 3) := by decide +kernel
theorem dX10_copy_40 : decode cX10_copy 40 = .ok (.aload 7, 2) := by decide +kernel
theorem dX10_copy_42 : decode cX10_copy 42 = .ok (.getfield 241, 3) := by decide +kernel
theorem dX10_copy_45 : decode cX10_copy 45 = .ok (.ifCond .eq 9, 3) := by decide +kernel
theorem dX10_copy_48 : decode cX10_copy 48 = .ok (.aload_n 0, 1) := by decide +kernel
theorem dX10_copy_49 : decode cX10_copy 49 = .ok (.iconst 1, 1) := by decide +kernel
theorem dX10_copy_50 : decode cX10_copy 50 = .ok (.invokevirtual 127, 3) := by decide +kernel
theorem dX10_copy_53 : decode cX10_copy 53 = .ok (.ireturn, 1) := by decide +kernel
theorem dX10_copy_54 : decode cX10_copy 54 = .ok (.aload 6, 2) := by decide +kernel
theorem dX10_copy_56 : decode cX10_copy 56 = .ok (.iload_n 2, 1) := by decide +kernel
theorem dX10_copy_57 : decode cX10_copy 57 = .ok (.iload 5, 2) := by decide +kernel
theorem dX10_copy_59 : decode cX10_copy 59 = .ok (.invokevirtual 249, 3) := by decide +kernel
theorem dX10_copy_62 : decode cX10_copy 62 = .ok (.ifCond .eq 15, 3) := by decide +kernel
theorem dX10_copy_65 : decode cX10_copy 65 = .ok (.aload 7, 2) := by decide +kernel
theorem dX10_copy_67 : decode cX10_copy 67 = .ok (.iload 4, 2) := by decide +kernel
theorem dX10_copy_69 : decode cX10_copy 69 = .ok (.iload 5, 2) := by decide +kernel
theorem dX10_copy_71 : decode cX10_copy 71 = .ok (.invokevirtual 249, 3) := by decide +kernel
theorem dX10_copy_74 : decode cX10_copy 74 = .ok (.ifCond .ne 9, 3) := by decide +kernel
theorem dX10_copy_77 : decode cX10_copy 77 = .ok (.aload_n 0, 1) := by decide +kernel
theorem dX10_copy_78 : decode cX10_copy 78 = .ok (.iconst 2, 1) := by decide +kernel
theorem dX10_copy_79 : decode cX10_copy 79 = .ok (.invokevirtual 127, 3) := by decide +kernel
theorem dX10_copy_82 : decode cX10_copy 82 = .ok (.ireturn, 1) := by decide +kernel
theorem dX10_copy_83 : decode cX10_copy 83 = .ok (.aload 6, 2) := by decide +kernel
theorem dX10_copy_85 : decode cX10_copy 85 = .ok (.getfield 245, 3) := by decide +kernel
theorem dX10_copy_88 : decode cX10_copy 88 = .ok (.iload_n 2, 1) := by decide +kernel
theorem dX10_copy_89 : decode cX10_copy 89 = .ok (.aload 7, 2) := by decide +kernel
theorem dX10_copy_91 : decode cX10_copy 91 = .ok (.getfield 245, 3) := by decide +kernel
theorem dX10_copy_94 : decode cX10_copy 94 = .ok (.iload 4, 2) := by decide +kernel
theorem dX10_copy_96 : decode cX10_copy 96 = .ok (.iload 5, 2) := by decide +kernel
theorem dX10_copy_98 : decode cX10_copy 98 = .ok (.invokestatic 252, 3) := by decide +kernel
theorem dX10_copy_101 : decode cX10_copy 101 = .ok (.iconst 1, 1) := by decide +kernel
theorem dX10_copy_102 : decode cX10_copy 102 = .ok (.ireturn, 1) := by decide +kernel
set_option maxRecDepth 20000 in
theorem ggX10_fill_X10_isWithin : GoodIn wsX10_fill wsX10_isWithin := goodIn_r _ [7] (by decide +kernel) (by decide +kernel)
set_option maxRecDepth 20000 in
theorem gX10_fill_X10_isWithin : GoodIn wsX10_fill (va_wsS RX10 69 yX10_isWithin wsX10_isWithin) := goodIn_app (goodIn_of _ (by decide +kernel)) ggX10_fill_X10_isWithin
set_option maxRecDepth 20000 in
theorem ggX10_fill_X10_isSheet : GoodIn wsX10_fill wsX10_isSheet := goodIn_r _ [10, 4, 5, 6, 7] (by decide +kernel) (by decide +kernel)
set_option maxRecDepth 20000 in
theorem gX10_fill_X10_isSheet : GoodIn wsX10_fill (va_wsS RX10 234 yX10_isSheet wsX10_isSheet) := goodIn_app (goodIn_of _ (by decide +kernel)) ggX10_fill_X10_isSheet
set_option maxRecDepth 20000 in
theorem ggX10_fill_X10_found : GoodIn wsX10_fill wsX10_found := goodIn_r _ [14, 15, 16, 32, 33, 34, 35, 36, 37, 38, 39, 40, 41, 42, 43, 44, 45, 46, 47, 48, 49, 50] (by decide +kernel) (by decide +kernel)
set_option maxRecDepth 20000 in
theorem gX10_fill_X10_found : GoodIn wsX10_fill (wsV RX10 127 RX10 yX10_found wsX10_found) := goodIn_app (goodIn_of _ (by decide +kernel)) ggX10_fill_X10_found
set_option maxRecDepth 20000 in
theorem ggX10_fill_X2_take : GoodIn wsX10_fill wsX2_take := goodIn_r _ [21, 22, 23, 24, 25, 26, 27, 28, 29, 30, 31, 51, 52, 53, 54, 55, 56] (by decide +kernel) (by decide +kernel)
set_option maxRecDepth 20000 in
theorem gX10_fill_X2_take : GoodIn wsX10_fill (wsV RX10 258 RX2 yX2_take wsX2_take) := goodIn_app (goodIn_of _ (by decide +kernel)) ggX10_fill_X2_take
theorem dX10_fill_0 : decode cX10_fill 0 = .ok (.iload_n 1, 1) := by decide +kernel
theorem dX10_fill_1 : decode cX10_fill 1 = .ok (.iconst 0, 1) := by decide +kernel
theorem dX10_fill_2 : decode cX10_fill 2 = .ok (.iconst 5, 1) := by decide +kernel
theorem dX10_fill_3 : decode cX10_fill 3 = .ok (.invokestatic 69, 3) := by decide +kernel
theorem dX10_fill_6 : decode cX10_fill 6 = .ok (.ifCond .eq 10, 3) := by decide +kernel
theorem dX10_fill_9 : decode cX10_fill 9 = .ok (.iload_n 2, 1) := by decide +kernel
theorem dX10_fill_10 : decode cX10_fill 10 = .ok (.invokestatic 234, 3) := by decide +kernel
theorem dX10_fill_13 : decode cX10_fill 13 = .ok (.ifCond .ne 5, 3) := by decide +kernel
theorem dX10_fill_16 : decode cX10_fill 16 = .ok (.iconst (-1), 1) := by decide +kernel
theorem dX10_fill_17 : decode cX10_fill 17 = .ok (.ireturn, 1) := by decide +kernel
theorem dX10_fill_18 : decode cX10_fill 18 = .ok (.aload_n 0, 1) := by decide +kernel
theorem dX10_fill_19 : decode cX10_fill 19 = .ok (.getfield 54, 3) := by decide +kernel
theorem dX10_fill_22 : decode cX10_fill 22 = .ok (.iload_n 2, 1) := by decide +kernel
theorem dX10_fill_23 : decode cX10_fill 23 = .ok (.aaload, 1) := by decide +kernel
theorem dX10_fill_24 : decode cX10_fill 24 = .ok (.getfield 241, 3) := by decide +kernel
theorem dX10_fill_27 : decode cX10_fill 27 = .ok (.ifCond .eq 9, 3) := by decide +kernel
theorem dX10_fill_30 : decode cX10_fill 30 = .ok (.aload_n 0, 1) := by decide +kernel
theorem dX10_fill_31 : decode cX10_fill 31 = .ok (.iconst 1, 1) := by decide +kernel
theorem dX10_fill_32 : decode cX10_fill 32 = .ok (.invokevirtual 127, 3) := by decide +kernel
theorem dX10_fill_35 : decode cX10_fill 35 = .ok (.ireturn, 1) := by decide +kernel
theorem dX10_fill_36 : decode cX10_fill 36 = .ok (.aload_n 0, 1) := by decide +kernel
theorem dX10_fill_37 : decode cX10_fill 37 = .ok (.getfield 48, 3) := by decide +kernel
theorem dX10_fill_40 : decode cX10_fill 40 = .ok (.iload_n 1, 1) := by decide +kernel
theorem dX10_fill_41 : decode cX10_fill 41 = .ok (.aload_n 0, 1) := by decide +kernel
theorem dX10_fill_42 : decode cX10_fill 42 = .ok (.getfield 54, 3) := by decide +kernel
theorem dX10_fill_45 : decode cX10_fill 45 = .ok (.iload_n 2, 1) := by decide +kernel
theorem dX10_fill_46 : decode cX10_fill 46 = .ok (.aaload, 1) := by decide +kernel
theorem dX10_fill_47 : decode cX10_fill 47 = .ok (.invokevirtual 258, 3) := by decide +kernel
theorem dX10_fill_50 : decode cX10_fill 50 = .ok (.ireturn, 1) := by decide +kernel
set_option maxRecDepth 20000 in
theorem ggX10_lacks_X2_lacking : GoodIn wsX10_lacks wsX2_lacking := goodIn_r _ [6, 7, 27, 28, 29] (by decide +kernel) (by decide +kernel)
set_option maxRecDepth 20000 in
theorem gX10_lacks_X2_lacking : GoodIn wsX10_lacks (wsV RX10 262 RX2 yX2_lacking wsX2_lacking) := goodIn_app (goodIn_of _ (by decide +kernel)) ggX10_lacks_X2_lacking
theorem dX10_lacks_0 : decode cX10_lacks 0 = .ok (.aload_n 0, 1) := by decide +kernel
theorem dX10_lacks_1 : decode cX10_lacks 1 = .ok (.getfield 48, 3) := by decide +kernel
theorem dX10_lacks_4 : decode cX10_lacks 4 = .ok (.invokevirtual 262, 3) := by decide +kernel
theorem dX10_lacks_7 : decode cX10_lacks 7 = .ok (.ireturn, 1) := by decide +kernel
set_option maxRecDepth 20000 in
theorem ggX10_swaps_X2_weigh : GoodIn wsX10_swaps wsX2_weigh := goodIn_r _ [6, 7, 8, 9, 10, 11, 5, 12, 13, 14, 15, 16, 17, 18, 19, 20, 21, 22, 23, 24, 25, 26, 27, 28, 29, 30, 31, 32, 33, 34, 58, 59, 60] (by decide +kernel) (by decide +kernel)
set_option maxRecDepth 20000 in
theorem gX10_swaps_X2_weigh : GoodIn wsX10_swaps (wsV RX10 265 RX2 yX2_weigh wsX2_weigh) := goodIn_app (goodIn_of _ (by decide +kernel)) ggX10_swaps_X2_weigh
set_option maxRecDepth 20000 in
theorem ggX10_swaps_X2_mostSwaps : GoodIn wsX10_swaps wsX2_mostSwaps := goodIn_r _ [38, 8, 7, 18, 19, 16, 20, 58, 59, 60] (by decide +kernel) (by decide +kernel)
set_option maxRecDepth 20000 in
theorem gX10_swaps_X2_mostSwaps : GoodIn wsX10_swaps (wsV RX10 268 RX2 yX2_mostSwaps wsX2_mostSwaps) := goodIn_app (goodIn_of _ (by decide +kernel)) ggX10_swaps_X2_mostSwaps
theorem dX10_swaps_0 : decode cX10_swaps 0 = .ok (.iload_n 1, 1) := by decide +kernel
theorem dX10_swaps_1 : decode cX10_swaps 1 = .ok (.bipush (-63), 2) := by decide +kernel
theorem dX10_swaps_3 : decode cX10_swaps 3 = .ok (.iand, 1) := by decide +kernel
theorem dX10_swaps_4 : decode cX10_swaps 4 = .ok (.ifCond .eq 5, 3) := by decide +kernel
theorem dX10_swaps_7 : decode cX10_swaps 7 = .ok (.iconst (-1), 1) := by decide +kernel
theorem dX10_swaps_8 : decode cX10_swaps 8 = .ok (.ireturn, 1) := by decide +kernel
theorem dX10_swaps_9 : decode cX10_swaps 9 = .ok (.aload_n 0, 1) := by decide +kernel
theorem dX10_swaps_10 : decode cX10_swaps 10 = .ok (.getfield 48, 3) := by decide +kernel
theorem dX10_swaps_13 : decode cX10_swaps 13 = .ok (.invokevirtual 265, 3) := by decide +kernel
theorem dX10_swaps_16 : decode cX10_swaps 16 = .ok (.aload_n 0, 1) := by decide +kernel
theorem dX10_swaps_17 : decode cX10_swaps 17 = .ok (.getfield 48, 3) := by decide +kernel
theorem dX10_swaps_20 : decode cX10_swaps 20 = .ok (.iload_n 1, 1) := by decide +kernel
theorem dX10_swaps_21 : decode cX10_swaps 21 = .ok (.invokevirtual 268, 3) := by decide +kernel
theorem dX10_swaps_24 : decode cX10_swaps 24 = .ok (.ireturn, 1) := by decide +kernel
set_option maxRecDepth 20000 in
theorem ggX10_whole_X2_lacking : GoodIn wsX10_whole wsX2_lacking := goodIn_r _ [7, 8, 64, 65, 66] (by decide +kernel) (by decide +kernel)
set_option maxRecDepth 20000 in
theorem gX10_whole_X2_lacking : GoodIn wsX10_whole (wsV RX10 262 RX2 yX2_lacking wsX2_lacking) := goodIn_app (goodIn_of _ (by decide +kernel)) ggX10_whole_X2_lacking
set_option maxRecDepth 20000 in
theorem ggX10_whole_J6_bitCount_0f7a4 : GoodIn wsX10_whole wsJ6_bitCount_0f7a4 := goodIn_r _ [12, 13, 14, 15] (by decide +kernel) (by decide +kernel)
set_option maxRecDepth 20000 in
theorem gX10_whole_J6_bitCount_0f7a4 : GoodIn wsX10_whole (va_wsS RX10 143 yJ6_bitCount_0f7a4 wsJ6_bitCount_0f7a4) := goodIn_app (goodIn_of _ (by decide +kernel)) ggX10_whole_J6_bitCount_0f7a4
set_option maxRecDepth 20000 in
theorem ggX10_whole_X2_weigh : GoodIn wsX10_whole wsX2_weigh := goodIn_r _ [19, 20, 21, 22, 23, 24, 6, 25, 8, 26, 27, 28, 29, 30, 31, 32, 33, 34, 35, 36, 37, 38, 39, 40, 10, 11, 12, 13, 14, 15, 64, 65, 66] (by decide +kernel) (by decide +kernel)
set_option maxRecDepth 20000 in
theorem gX10_whole_X2_weigh : GoodIn wsX10_whole (wsV RX10 265 RX2 yX2_weigh wsX2_weigh) := goodIn_app (goodIn_of _ (by decide +kernel)) ggX10_whole_X2_weigh
set_option maxRecDepth 20000 in
theorem ggX10_whole_X2_mostSwaps : GoodIn wsX10_whole wsX2_mostSwaps := goodIn_r _ [44, 21, 20, 30, 31, 28, 32, 64, 65, 66] (by decide +kernel) (by decide +kernel)
set_option maxRecDepth 20000 in
theorem gX10_whole_X2_mostSwaps : GoodIn wsX10_whole (wsV RX10 268 RX2 yX2_mostSwaps wsX2_mostSwaps) := goodIn_app (goodIn_of _ (by decide +kernel)) ggX10_whole_X2_mostSwaps
theorem dX10_whole_0 : decode cX10_whole 0 = .ok (.aload_n 0, 1) := by decide +kernel
theorem dX10_whole_1 : decode cX10_whole 1 = .ok (.getfield 48, 3) := by decide +kernel
theorem dX10_whole_4 : decode cX10_whole 4 = .ok (.invokevirtual 262, 3) := by decide +kernel
theorem dX10_whole_7 : decode cX10_whole 7 = .ok (.invokestatic 143, 3) := by decide +kernel
theorem dX10_whole_10 : decode cX10_whole 10 = .ok (.istore_n 1, 1) := by decide +kernel
theorem dX10_whole_11 : decode cX10_whole 11 = .ok (.aload_n 0, 1) := by decide +kernel
theorem dX10_whole_12 : decode cX10_whole 12 = .ok (.getfield 48, 3) := by decide +kernel
theorem dX10_whole_15 : decode cX10_whole 15 = .ok (.invokevirtual 265, 3) := by decide +kernel
theorem dX10_whole_18 : decode cX10_whole 18 = .ok (.bipush (-9), 2) := by decide +kernel
theorem dX10_whole_20 : decode cX10_whole 20 = .ok (.istore_n 2, 1) := by decide +kernel
theorem dX10_whole_21 : decode cX10_whole 21 = .ok (.iconst 0, 1) := by decide +kernel
theorem dX10_whole_22 : decode cX10_whole 22 = .ok (.istore_n 3, 1) := by decide +kernel
theorem dX10_whole_23 : decode cX10_whole 23 = .ok (.iconst 0, 1) := by decide +kernel
theorem dX10_whole_24 : decode cX10_whole 24 = .ok (.istore 4, 2) := by decide +kernel
theorem dX10_whole_26 : decode cX10_whole 26 = .ok (.iload 4, 2) := by decide +kernel
theorem dX10_whole_28 : decode cX10_whole 28 = .ok (.bipush 62, 2) := by decide +kernel
theorem dX10_whole_30 : decode cX10_whole 30 = .ok (.if_icmp .gt 47, 3) := by decide +kernel
theorem dX10_whole_33 : decode cX10_whole 33 = .ok (.iload 4, 2) := by decide +kernel
theorem dX10_whole_35 : decode cX10_whole 35 = .ok (.invokestatic 143, 3) := by decide +kernel
theorem dX10_whole_38 : decode cX10_whole 38 = .ok (.istore 5, 2) := by decide +kernel
theorem dX10_whole_40 : decode cX10_whole 40 = .ok (.iload_n 2, 1) := by decide +kernel
theorem dX10_whole_41 : decode cX10_whole 41 = .ok (.bipush (-9), 2) := by decide +kernel
theorem dX10_whole_43 : decode cX10_whole 43 = .ok (.if_icmp .eq 9, 3) := by decide +kernel
theorem dX10_whole_46 : decode cX10_whole 46 = .ok (.iload 5, 2) := by decide +kernel
theorem dX10_whole_48 : decode cX10_whole 48 = .ok (.iload_n 2, 1) := by decide +kernel
theorem dX10_whole_49 : decode cX10_whole 49 = .ok (.if_icmp .ge 22, 3) := by decide +kernel
theorem dX10_whole_52 : decode cX10_whole 52 = .ok (.aload_n 0, 1) := by decide +kernel
theorem dX10_whole_53 : decode cX10_whole 53 = .ok (.getfield 48, 3) := by decide +kernel
theorem dX10_whole_56 : decode cX10_whole 56 = .ok (.iload 4, 2) := by decide +kernel
theorem dX10_whole_58 : decode cX10_whole 58 = .ok (.invokevirtual 268, 3) := by decide +kernel
theorem dX10_whole_61 : decode cX10_whole 61 = .ok (.iload_n 1, 1) := by decide +kernel
theorem dX10_whole_62 : decode cX10_whole 62 = .ok (.if_icmp .ne 9, 3) := by decide +kernel
theorem dX10_whole_65 : decode cX10_whole 65 = .ok (.iload 5, 2) := by decide +kernel
theorem dX10_whole_67 : decode cX10_whole 67 = .ok (.istore_n 2, 1) := by decide +kernel
theorem dX10_whole_68 : decode cX10_whole 68 = .ok (.iload 4, 2) := by decide +kernel
theorem dX10_whole_70 : decode cX10_whole 70 = .ok (.istore_n 3, 1) := by decide +kernel
theorem dX10_whole_71 : decode cX10_whole 71 = .ok (.iinc 4 2, 3) := by decide +kernel
theorem dX10_whole_74 : decode cX10_whole 74 = .ok (.goto (-48), 3) := by decide +kernel
theorem dX10_whole_77 : decode cX10_whole 77 = .ok (.iload_n 2, 1) := by decide +kernel
theorem dX10_whole_78 : decode cX10_whole 78 = .ok (.bipush (-9), 2) := by decide +kernel
theorem dX10_whole_80 : decode cX10_whole 80 = .ok (.if_icmp .eq 8, 3) := by decide +kernel
theorem dX10_whole_83 : decode cX10_whole 83 = .ok (.aload_n 0, 1) := by decide +kernel
theorem dX10_whole_84 : decode cX10_whole 84 = .ok (.iload_n 3, 1) := by decide +kernel
theorem dX10_whole_85 : decode cX10_whole 85 = .ok (.putfield 176, 3) := by decide +kernel
theorem dX10_whole_88 : decode cX10_whole 88 = .ok (.iload_n 2, 1) := by decide +kernel
theorem dX10_whole_89 : decode cX10_whole 89 = .ok (.ireturn, 1) := by decide +kernel
theorem dX10_asked_0 : decode cX10_asked 0 = .ok (.aload_n 0, 1) := by decide +kernel
theorem dX10_asked_1 : decode cX10_asked 1 = .ok (.getfield 176, 3) := by decide +kernel
theorem dX10_asked_4 : decode cX10_asked 4 = .ok (.ireturn, 1) := by decide +kernel
theorem dX10_count_0 : decode cX10_count 0 = .ok (.iload_n 1, 1) := by decide +kernel
theorem dX10_count_1 : decode cX10_count 1 = .ok (.tableswitch 87 0 7 #[47, 52, 57, 62, 67, 72, 77, 82], 47) := by decide +kernel
theorem dX10_count_48 : decode cX10_count 48 = .ok (.aload_n 0, 1) := by decide +kernel
theorem dX10_count_49 : decode cX10_count 49 = .ok (.getfield 65, 3) := by decide +kernel
theorem dX10_count_52 : decode cX10_count 52 = .ok (.ireturn, 1) := by decide +kernel
theorem dX10_count_53 : decode cX10_count 53 = .ok (.aload_n 0, 1) := by decide +kernel
theorem dX10_count_54 : decode cX10_count 54 = .ok (.getfield 73, 3) := by decide +kernel
theorem dX10_count_57 : decode cX10_count 57 = .ok (.ireturn, 1) := by decide +kernel
theorem dX10_count_58 : decode cX10_count 58 = .ok (.aload_n 0, 1) := by decide +kernel
theorem dX10_count_59 : decode cX10_count 59 = .ok (.getfield 91, 3) := by decide +kernel
theorem dX10_count_62 : decode cX10_count 62 = .ok (.ireturn, 1) := by decide +kernel
theorem dX10_count_63 : decode cX10_count 63 = .ok (.aload_n 0, 1) := by decide +kernel
theorem dX10_count_64 : decode cX10_count 64 = .ok (.getfield 105, 3) := by decide +kernel
theorem dX10_count_67 : decode cX10_count 67 = .ok (.ireturn, 1) := by decide +kernel
theorem dX10_count_68 : decode cX10_count 68 = .ok (.aload_n 0, 1) := by decide +kernel
theorem dX10_count_69 : decode cX10_count 69 = .ok (.getfield 158, 3) := by decide +kernel
theorem dX10_count_72 : decode cX10_count 72 = .ok (.ireturn, 1) := by decide +kernel
theorem dX10_count_73 : decode cX10_count 73 = .ok (.aload_n 0, 1) := by decide +kernel
theorem dX10_count_74 : decode cX10_count 74 = .ok (.getfield 179, 3) := by decide +kernel
theorem dX10_count_77 : decode cX10_count 77 = .ok (.ireturn, 1) := by decide +kernel
theorem dX10_count_78 : decode cX10_count 78 = .ok (.aload_n 0, 1) := by decide +kernel
theorem dX10_count_79 : decode cX10_count 79 = .ok (.getfield 185, 3) := by decide +kernel
theorem dX10_count_82 : decode cX10_count 82 = .ok (.ireturn, 1) := by decide +kernel
theorem dX10_count_83 : decode cX10_count 83 = .ok (.aload_n 0, 1) := by decide +kernel
theorem dX10_count_84 : decode cX10_count 84 = .ok (.getfield 212, 3) := by decide +kernel
theorem dX10_count_87 : decode cX10_count 87 = .ok (.ireturn, 1) := by decide +kernel
theorem dX10_count_88 : decode cX10_count 88 = .ok (.iconst (-1), 1) := by decide +kernel
theorem dX10_count_89 : decode cX10_count 89 = .ok (.ireturn, 1) := by decide +kernel
theorem dX10_finding_0 : decode cX10_finding 0 = .ok (.aload_n 0, 1) := by decide +kernel
theorem dX10_finding_1 : decode cX10_finding 1 = .ok (.getfield 271, 3) := by decide +kernel
theorem dX10_finding_4 : decode cX10_finding 4 = .ok (.ireturn, 1) := by decide +kernel
set_option maxRecDepth 20000 in
theorem ggX10_findings_X10_isWithin : GoodIn wsX10_findings wsX10_isWithin := goodIn_r _ [5] (by decide +kernel) (by decide +kernel)
set_option maxRecDepth 20000 in
theorem gX10_findings_X10_isWithin : GoodIn wsX10_findings (va_wsS RX10 69 yX10_isWithin wsX10_isWithin) := goodIn_app (goodIn_of _ (by decide +kernel)) ggX10_findings_X10_isWithin
theorem dX10_findings_0 : decode cX10_findings 0 = .ok (.iload_n 1, 1) := by decide +kernel
theorem dX10_findings_1 : decode cX10_findings 1 = .ok (.iconst 1, 1) := by decide +kernel
theorem dX10_findings_2 : decode cX10_findings 2 = .ok (.iconst 5, 1) := by decide +kernel
theorem dX10_findings_3 : decode cX10_findings 3 = .ok (.invokestatic 69, 3) := by decide +kernel
theorem dX10_findings_6 : decode cX10_findings 6 = .ok (.ifCond .ne 5, 3) := by decide +kernel
theorem dX10_findings_9 : decode cX10_findings 9 = .ok (.iconst (-1), 1) := by decide +kernel
theorem dX10_findings_10 : decode cX10_findings 10 = .ok (.ireturn, 1) := by decide +kernel
theorem dX10_findings_11 : decode cX10_findings 11 = .ok (.aload_n 0, 1) := by decide +kernel
theorem dX10_findings_12 : decode cX10_findings 12 = .ok (.getfield 58, 3) := by decide +kernel
theorem dX10_findings_15 : decode cX10_findings 15 = .ok (.iload_n 1, 1) := by decide +kernel
theorem dX10_findings_16 : decode cX10_findings 16 = .ok (.iaload, 1) := by decide +kernel
theorem dX10_findings_17 : decode cX10_findings 17 = .ok (.ireturn, 1) := by decide +kernel
set_option maxRecDepth 20000 in
theorem ggX10_digest_X10_count : GoodIn wsX10_digest wsX10_count := goodIn_r _ [11, 12, 13, 14, 15, 16, 17, 2, 18, 71, 72, 73, 74, 75, 76, 77, 78, 79, 80, 81, 82, 83, 84, 85, 86, 87, 88, 89] (by decide +kernel) (by decide +kernel)
set_option maxRecDepth 20000 in
theorem gX10_digest_X10_count : GoodIn wsX10_digest (wsV RX10 276 RX10 yX10_count wsX10_count) := goodIn_app (goodIn_of _ (by decide +kernel)) ggX10_digest_X10_count
set_option maxRecDepth 20000 in
theorem ggX10_digest_X10_mixed : GoodIn wsX10_digest wsX10_mixed := goodIn_r _ [21, 22] (by decide +kernel) (by decide +kernel)
set_option maxRecDepth 20000 in
theorem gX10_digest_X10_mixed : GoodIn wsX10_digest (va_wsS RX10 279 yX10_mixed wsX10_mixed) := goodIn_app (goodIn_of _ (by decide +kernel)) ggX10_digest_X10_mixed
set_option maxRecDepth 20000 in
theorem ggX10_digest_X10_withPapers : GoodIn wsX10_digest wsX10_withPapers := goodIn_r _ [26, 14, 27, 28, 29, 10, 30, 31, 32, 33, 34, 35, 36, 37, 38, 39, 40, 41, 42, 43, 44, 45, 46, 47, 48, 49, 19, 20, 21, 22, 71, 72, 73, 74, 75, 76, 77, 78, 79, 80, 81, 82, 83, 84, 85, 86, 87, 88, 89, 93, 94, 95, 96, 97, 98, 99, 100, 101, 102, 103, 104] (by decide +kernel) (by decide +kernel)
set_option maxRecDepth 20000 in
theorem gX10_digest_X10_withPapers : GoodIn wsX10_digest (wsV RX10 283 RX10 yX10_withPapers wsX10_withPapers) := goodIn_app (goodIn_of _ (by decide +kernel)) ggX10_digest_X10_withPapers
set_option maxRecDepth 20000 in
theorem ggX10_digest_X10_withHoldings : GoodIn wsX10_digest wsX10_withHoldings := goodIn_r _ [53, 54, 55, 56, 10, 57, 58, 59, 60, 61, 62, 40, 41, 42, 19, 20, 21, 22, 71, 72, 73, 74, 75, 76, 77, 78, 79, 80, 81, 82, 83, 84, 85, 86, 87, 88, 89, 105, 106, 107] (by decide +kernel) (by decide +kernel)
set_option maxRecDepth 20000 in
theorem gX10_digest_X10_withHoldings : GoodIn wsX10_digest (wsV RX10 287 RX10 yX10_withHoldings wsX10_withHoldings) := goodIn_app (goodIn_of _ (by decide +kernel)) ggX10_digest_X10_withHoldings
set_option maxRecDepth 20000 in
theorem ggX10_digest_X8_mixedInto : GoodIn wsX10_digest wsX8_mixedInto := goodIn_r _ [67, 68, 69, 70, 20, 10, 21, 22, 108, 109, 110] (by decide +kernel) (by decide +kernel)
set_option maxRecDepth 20000 in
theorem gX10_digest_X8_mixedInto : GoodIn wsX10_digest (wsV RX10 290 RX8 yX8_mixedInto wsX8_mixedInto) := goodIn_app (goodIn_of _ (by decide +kernel)) ggX10_digest_X8_mixedInto
theorem dX10_digest_0 : decode cX10_digest 0 = .ok (.ldc2_w 274, 3) := by decide +kernel
theorem dX10_digest_3 : decode cX10_digest 3 = .ok (.lstore_n 1, 1) := by decide +kernel
theorem dX10_digest_4 : decode cX10_digest 4 = .ok (.iconst 0, 1) := by decide +kernel
theorem dX10_digest_5 : decode cX10_digest 5 = .ok (.istore_n 3, 1) := by decide +kernel
theorem dX10_digest_6 : decode cX10_digest 6 = .ok (.iload_n 3, 1) := by decide +kernel
theorem dX10_digest_7 : decode cX10_digest 7 = .ok (.bipush 8, 2) := by decide +kernel
theorem dX10_digest_9 : decode cX10_digest 9 = .ok (.if_icmp .ge 19, 3) := by decide +kernel
theorem dX10_digest_12 : decode cX10_digest 12 = .ok (.lload_n 1, 1) := by decide +kernel
theorem dX10_digest_13 : decode cX10_digest 13 = .ok (.aload_n 0, 1) := by decide +kernel
theorem dX10_digest_14 : decode cX10_digest 14 = .ok (.iload_n 3, 1) := by decide +kernel
theorem dX10_digest_15 : decode cX10_digest 15 = .ok (.invokevirtual 276, 3) := by decide +kernel
theorem dX10_digest_18 : decode cX10_digest 18 = .ok (.invokestatic 279, 3) := by decide +kernel
theorem dX10_digest_21 : decode cX10_digest 21 = .ok (.lstore_n 1, 1) := by decide +kernel
theorem dX10_digest_22 : decode cX10_digest 22 = .ok (.iinc 3 1, 3) := by decide +kernel
theorem dX10_digest_25 : decode cX10_digest 25 = .ok (.goto (-19), 3) := by decide +kernel
theorem dX10_digest_28 : decode cX10_digest 28 = .ok (.aload_n 0, 1) := by decide +kernel
theorem dX10_digest_29 : decode cX10_digest 29 = .ok (.lload_n 1, 1) := by decide +kernel
theorem dX10_digest_30 : decode cX10_digest 30 = .ok (.invokevirtual 283, 3) := by decide +kernel
theorem dX10_digest_33 : decode cX10_digest 33 = .ok (.lstore_n 1, 1) := by decide +kernel
theorem dX10_digest_34 : decode cX10_digest 34 = .ok (.iconst 0, 1) := by decide +kernel
theorem dX10_digest_35 : decode cX10_digest 35 = .ok (.istore_n 3, 1) := by decide +kernel
theorem dX10_digest_36 : decode cX10_digest 36 = .ok (.iload_n 3, 1) := by decide +kernel
theorem dX10_digest_37 : decode cX10_digest 37 = .ok (.aload_n 0, 1) := by decide +kernel
theorem dX10_digest_38 : decode cX10_digest 38 = .ok (.getfield 185, 3) := by decide +kernel
theorem dX10_digest_41 : decode cX10_digest 41 = .ok (.if_icmp .ge 39, 3) := by decide +kernel
theorem dX10_digest_44 : decode cX10_digest 44 = .ok (.lload_n 1, 1) := by decide +kernel
theorem dX10_digest_45 : decode cX10_digest 45 = .ok (.aload_n 0, 1) := by decide +kernel
theorem dX10_digest_46 : decode cX10_digest 46 = .ok (.getfield 35, 3) := by decide +kernel
theorem dX10_digest_49 : decode cX10_digest 49 = .ok (.iload_n 3, 1) := by decide +kernel
theorem dX10_digest_50 : decode cX10_digest 50 = .ok (.aaload, 1) := by decide +kernel
theorem dX10_digest_51 : decode cX10_digest 51 = .ok (.getfield 195, 3) := by decide +kernel
theorem dX10_digest_54 : decode cX10_digest 54 = .ok (.ifCond .eq 7, 3) := by decide +kernel
theorem dX10_digest_57 : decode cX10_digest 57 = .ok (.iconst (-1), 1) := by decide +kernel
theorem dX10_digest_58 : decode cX10_digest 58 = .ok (.goto 12, 3) := by decide +kernel
theorem dX10_digest_61 : decode cX10_digest 61 = .ok (.aload_n 0, 1) := by decide +kernel
theorem dX10_digest_62 : decode cX10_digest 62 = .ok (.getfield 35, 3) := by decide +kernel
theorem dX10_digest_65 : decode cX10_digest 65 = .ok (.iload_n 3, 1) := by decide +kernel
theorem dX10_digest_66 : decode cX10_digest 66 = .ok (.aaload, 1) := by decide +kernel
theorem dX10_digest_67 : decode cX10_digest 67 = .ok (.getfield 199, 3) := by decide +kernel
theorem dX10_digest_70 : decode cX10_digest 70 = .ok (.invokestatic 279, 3) := by decide +kernel
theorem dX10_digest_73 : decode cX10_digest 73 = .ok (.lstore_n 1, 1) := by decide +kernel
theorem dX10_digest_74 : decode cX10_digest 74 = .ok (.iinc 3 1, 3) := by decide +kernel
theorem dX10_digest_77 : decode cX10_digest 77 = .ok (.goto (-41), 3) := by decide +kernel
theorem dX10_digest_80 : decode cX10_digest 80 = .ok (.aload_n 0, 1) := by decide +kernel
theorem dX10_digest_81 : decode cX10_digest 81 = .ok (.lload_n 1, 1) := by decide +kernel
theorem dX10_digest_82 : decode cX10_digest 82 = .ok (.invokevirtual 287, 3) := by decide +kernel
theorem dX10_digest_85 : decode cX10_digest 85 = .ok (.lstore_n 1, 1) := by decide +kernel
theorem dX10_digest_86 : decode cX10_digest 86 = .ok (.iconst 0, 1) := by decide +kernel
theorem dX10_digest_87 : decode cX10_digest 87 = .ok (.istore_n 3, 1) := by decide +kernel
theorem dX10_digest_88 : decode cX10_digest 88 = .ok (.iload_n 3, 1) := by decide +kernel
theorem dX10_digest_89 : decode cX10_digest 89 = .ok (.iconst 4, 1) := by decide +kernel
theorem dX10_digest_90 : decode cX10_digest 90 = .ok (.if_icmp .ge 20, 3) := by decide +kernel
theorem dX10_digest_93 : decode cX10_digest 93 = .ok (.aload_n 0, 1) := by decide +kernel
theorem dX10_digest_94 : decode cX10_digest 94 = .ok (.getfield 54, 3) := by decide +kernel
theorem dX10_digest_97 : decode cX10_digest 97 = .ok (.iload_n 3, 1) := by decide +kernel
theorem dX10_digest_98 : decode cX10_digest 98 = .ok (.aaload, 1) := by decide +kernel
theorem dX10_digest_99 : decode cX10_digest 99 = .ok (.lload_n 1, 1) := by decide +kernel
theorem dX10_digest_100 : decode cX10_digest 100 = .ok (.invokevirtual 290, 3) := by decide +kernel
theorem dX10_digest_103 : decode cX10_digest 103 = .ok (.lstore_n 1, 1) := by decide +kernel
theorem dX10_digest_104 : decode cX10_digest 104 = .ok (.iinc 3 1, 3) := by decide +kernel
theorem dX10_digest_107 : decode cX10_digest 107 = .ok (.goto (-19), 3) := by decide +kernel
theorem dX10_digest_110 : decode cX10_digest 110 = .ok (.lload_n 1, 1) := by decide +kernel
theorem dX10_digest_111 : decode cX10_digest 111 = .ok (.lreturn, 1) := by decide +kernel
theorem dX10_isWithin_0 : decode cX10_isWithin 0 = .ok (.iload_n 0, 1) := by decide +kernel
theorem dX10_isWithin_1 : decode cX10_isWithin 1 = .ok (.iload_n 1, 1) := by decide +kernel
theorem dX10_isWithin_2 : decode cX10_isWithin 2 = .ok (.if_icmp .lt 12, 3) := by decide +kernel
theorem dX10_isWithin_5 : decode cX10_isWithin 5 = .ok (.iload_n 0, 1) := by decide +kernel
theorem dX10_isWithin_6 : decode cX10_isWithin 6 = .ok (.iload_n 2, 1) := by decide +kernel
theorem dX10_isWithin_7 : decode cX10_isWithin 7 = .ok (.if_icmp .gt 7, 3) := by decide +kernel
theorem dX10_isWithin_10 : decode cX10_isWithin 10 = .ok (.iconst 1, 1) := by decide +kernel
theorem dX10_isWithin_11 : decode cX10_isWithin 11 = .ok (.goto 4, 3) := by decide +kernel
theorem dX10_isWithin_14 : decode cX10_isWithin 14 = .ok (.iconst 0, 1) := by decide +kernel
theorem dX10_isWithin_15 : decode cX10_isWithin 15 = .ok (.ireturn, 1) := by decide +kernel
set_option maxRecDepth 20000 in
theorem ggX10_isDay_X10_isWithin : GoodIn wsX10_isDay wsX10_isWithin := goodIn_r _ [4] (by decide +kernel) (by decide +kernel)
set_option maxRecDepth 20000 in
theorem gX10_isDay_X10_isWithin : GoodIn wsX10_isDay (va_wsS RX10 69 yX10_isWithin wsX10_isWithin) := goodIn_app (goodIn_of _ (by decide +kernel)) ggX10_isDay_X10_isWithin
theorem dX10_isDay_0 : decode cX10_isDay 0 = .ok (.iload_n 0, 1) := by decide +kernel
theorem dX10_isDay_1 : decode cX10_isDay 1 = .ok (.iconst 0, 1) := by decide +kernel
theorem dX10_isDay_2 : decode cX10_isDay 2 = .ok (.sipush 30000, 3) := by decide +kernel
theorem dX10_isDay_5 : decode cX10_isDay 5 = .ok (.invokestatic 69, 3) := by decide +kernel
theorem dX10_isDay_8 : decode cX10_isDay 8 = .ok (.ireturn, 1) := by decide +kernel
set_option maxRecDepth 20000 in
theorem ggX10_isPlace_X10_isWithin : GoodIn wsX10_isPlace wsX10_isWithin := goodIn_r _ [4] (by decide +kernel) (by decide +kernel)
set_option maxRecDepth 20000 in
theorem gX10_isPlace_X10_isWithin : GoodIn wsX10_isPlace (va_wsS RX10 69 yX10_isWithin wsX10_isWithin) := goodIn_app (goodIn_of _ (by decide +kernel)) ggX10_isPlace_X10_isWithin
theorem dX10_isPlace_0 : decode cX10_isPlace 0 = .ok (.iload_n 0, 1) := by decide +kernel
theorem dX10_isPlace_1 : decode cX10_isPlace 1 = .ok (.iconst 0, 1) := by decide +kernel
theorem dX10_isPlace_2 : decode cX10_isPlace 2 = .ok (.iconst 5, 1) := by decide +kernel
theorem dX10_isPlace_3 : decode cX10_isPlace 3 = .ok (.invokestatic 69, 3) := by decide +kernel
theorem dX10_isPlace_6 : decode cX10_isPlace 6 = .ok (.ifCond .eq 17, 3) := by decide +kernel
theorem dX10_isPlace_9 : decode cX10_isPlace 9 = .ok (.iload_n 1, 1) := by decide +kernel
theorem dX10_isPlace_10 : decode cX10_isPlace 10 = .ok (.iconst 0, 1) := by decide +kernel
theorem dX10_isPlace_11 : decode cX10_isPlace 11 = .ok (.bipush 11, 2) := by decide +kernel
theorem dX10_isPlace_13 : decode cX10_isPlace 13 = .ok (.invokestatic 69, 3) := by decide +kernel
theorem dX10_isPlace_16 : decode cX10_isPlace 16 = .ok (.ifCond .eq 7, 3) := by decide +kernel
theorem dX10_isPlace_19 : decode cX10_isPlace 19 = .ok (.iconst 1, 1) := by decide +kernel
theorem dX10_isPlace_20 : decode cX10_isPlace 20 = .ok (.goto 4, 3) := by decide +kernel
theorem dX10_isPlace_23 : decode cX10_isPlace 23 = .ok (.iconst 0, 1) := by decide +kernel
theorem dX10_isPlace_24 : decode cX10_isPlace 24 = .ok (.ireturn, 1) := by decide +kernel
set_option maxRecDepth 20000 in
theorem ggX10_isSheet_X10_isWithin : GoodIn wsX10_isSheet wsX10_isWithin := goodIn_r _ [4] (by decide +kernel) (by decide +kernel)
set_option maxRecDepth 20000 in
theorem gX10_isSheet_X10_isWithin : GoodIn wsX10_isSheet (va_wsS RX10 69 yX10_isWithin wsX10_isWithin) := goodIn_app (goodIn_of _ (by decide +kernel)) ggX10_isSheet_X10_isWithin
theorem dX10_isSheet_0 : decode cX10_isSheet 0 = .ok (.iload_n 0, 1) := by decide +kernel
theorem dX10_isSheet_1 : decode cX10_isSheet 1 = .ok (.iconst 0, 1) := by decide +kernel
theorem dX10_isSheet_2 : decode cX10_isSheet 2 = .ok (.iconst 3, 1) := by decide +kernel
theorem dX10_isSheet_3 : decode cX10_isSheet 3 = .ok (.invokestatic 69, 3) := by decide +kernel
theorem dX10_isSheet_6 : decode cX10_isSheet 6 = .ok (.ireturn, 1) := by decide +kernel
set_option maxRecDepth 20000 in
theorem ggX10_isFellow_X10_isWithin : GoodIn wsX10_isFellow wsX10_isWithin := goodIn_r _ [5] (by decide +kernel) (by decide +kernel)
set_option maxRecDepth 20000 in
theorem gX10_isFellow_X10_isWithin : GoodIn wsX10_isFellow (va_wsS RX10 69 yX10_isWithin wsX10_isWithin) := goodIn_app (goodIn_of _ (by decide +kernel)) ggX10_isFellow_X10_isWithin
theorem dX10_isFellow_0 : decode cX10_isFellow 0 = .ok (.iload_n 1, 1) := by decide +kernel
theorem dX10_isFellow_1 : decode cX10_isFellow 1 = .ok (.iconst 0, 1) := by decide +kernel
theorem dX10_isFellow_2 : decode cX10_isFellow 2 = .ok (.aload_n 0, 1) := by decide +kernel
theorem dX10_isFellow_3 : decode cX10_isFellow 3 = .ok (.getfield 73, 3) := by decide +kernel
theorem dX10_isFellow_6 : decode cX10_isFellow 6 = .ok (.iconst 1, 1) := by decide +kernel
theorem dX10_isFellow_7 : decode cX10_isFellow 7 = .ok (.isub, 1) := by decide +kernel
theorem dX10_isFellow_8 : decode cX10_isFellow 8 = .ok (.invokestatic 69, 3) := by decide +kernel
theorem dX10_isFellow_11 : decode cX10_isFellow 11 = .ok (.ireturn, 1) := by decide +kernel
set_option maxRecDepth 20000 in
theorem ggX10_paperAt_X10_isWithin : GoodIn wsX10_paperAt wsX10_isWithin := goodIn_r _ [6] (by decide +kernel) (by decide +kernel)
set_option maxRecDepth 20000 in
theorem gX10_paperAt_X10_isWithin : GoodIn wsX10_paperAt (va_wsS RX10 69 yX10_isWithin wsX10_isWithin) := goodIn_app (goodIn_of _ (by decide +kernel)) ggX10_paperAt_X10_isWithin
theorem dX10_paperAt_0 : decode cX10_paperAt 0 = .ok (.iload_n 1, 1) := by decide +kernel
theorem dX10_paperAt_1 : decode cX10_paperAt 1 = .ok (.iconst 0, 1) := by decide +kernel
theorem dX10_paperAt_2 : decode cX10_paperAt 2 = .ok (.aload_n 0, 1) := by decide +kernel
theorem dX10_paperAt_3 : decode cX10_paperAt 3 = .ok (.getfield 91, 3) := by decide +kernel
theorem dX10_paperAt_6 : decode cX10_paperAt 6 = .ok (.iconst 1, 1) := by decide +kernel
theorem dX10_paperAt_7 : decode cX10_paperAt 7 = .ok (.isub, 1) := by decide +kernel
theorem dX10_paperAt_8 : decode cX10_paperAt 8 = .ok (.invokestatic 69, 3) := by decide +kernel
theorem dX10_paperAt_11 : decode cX10_paperAt 11 = .ok (.ifCond .eq 12, 3) := by decide +kernel
theorem dX10_paperAt_14 : decode cX10_paperAt 14 = .ok (.aload_n 0, 1) := by decide +kernel
theorem dX10_paperAt_15 : decode cX10_paperAt 15 = .ok (.getfield 17, 3) := by decide +kernel
theorem dX10_paperAt_18 : decode cX10_paperAt 18 = .ok (.iload_n 1, 1) := by decide +kernel
theorem dX10_paperAt_19 : decode cX10_paperAt 19 = .ok (.aaload, 1) := by decide +kernel
theorem dX10_paperAt_20 : decode cX10_paperAt 20 = .ok (.goto 4, 3) := by decide +kernel
theorem dX10_paperAt_23 : decode cX10_paperAt 23 = .ok (.aconst_null, 1) := by decide +kernel
theorem dX10_paperAt_24 : decode cX10_paperAt 24 = .ok (.areturn, 1) := by decide +kernel
set_option maxRecDepth 20000 in
theorem ggX10_candidateAt_X10_isWithin : GoodIn wsX10_candidateAt wsX10_isWithin := goodIn_r _ [6] (by decide +kernel) (by decide +kernel)
set_option maxRecDepth 20000 in
theorem gX10_candidateAt_X10_isWithin : GoodIn wsX10_candidateAt (va_wsS RX10 69 yX10_isWithin wsX10_isWithin) := goodIn_app (goodIn_of _ (by decide +kernel)) ggX10_candidateAt_X10_isWithin
theorem dX10_candidateAt_0 : decode cX10_candidateAt 0 = .ok (.iload_n 1, 1) := by decide +kernel
theorem dX10_candidateAt_1 : decode cX10_candidateAt 1 = .ok (.iconst 0, 1) := by decide +kernel
theorem dX10_candidateAt_2 : decode cX10_candidateAt 2 = .ok (.aload_n 0, 1) := by decide +kernel
theorem dX10_candidateAt_3 : decode cX10_candidateAt 3 = .ok (.getfield 185, 3) := by decide +kernel
theorem dX10_candidateAt_6 : decode cX10_candidateAt 6 = .ok (.iconst 1, 1) := by decide +kernel
theorem dX10_candidateAt_7 : decode cX10_candidateAt 7 = .ok (.isub, 1) := by decide +kernel
theorem dX10_candidateAt_8 : decode cX10_candidateAt 8 = .ok (.invokestatic 69, 3) := by decide +kernel
theorem dX10_candidateAt_11 : decode cX10_candidateAt 11 = .ok (.ifCond .eq 12, 3) := by decide +kernel
theorem dX10_candidateAt_14 : decode cX10_candidateAt 14 = .ok (.aload_n 0, 1) := by decide +kernel
theorem dX10_candidateAt_15 : decode cX10_candidateAt 15 = .ok (.getfield 35, 3) := by decide +kernel
theorem dX10_candidateAt_18 : decode cX10_candidateAt 18 = .ok (.iload_n 1, 1) := by decide +kernel
theorem dX10_candidateAt_19 : decode cX10_candidateAt 19 = .ok (.aaload, 1) := by decide +kernel
theorem dX10_candidateAt_20 : decode cX10_candidateAt 20 = .ok (.goto 4, 3) := by decide +kernel
theorem dX10_candidateAt_23 : decode cX10_candidateAt 23 = .ok (.aconst_null, 1) := by decide +kernel
theorem dX10_candidateAt_24 : decode cX10_candidateAt 24 = .ok (.areturn, 1) := by decide +kernel
theorem dX10_admitFellow_0 : decode cX10_admitFellow 0 = .ok (.aload_n 0, 1) := by decide +kernel
theorem dX10_admitFellow_1 : decode cX10_admitFellow 1 = .ok (.dup, 1) := by decide +kernel
theorem dX10_admitFellow_2 : decode cX10_admitFellow 2 = .ok (.getfield 73, 3) := by decide +kernel
theorem dX10_admitFellow_5 : decode cX10_admitFellow 5 = .ok (.iconst 1, 1) := by decide +kernel
theorem dX10_admitFellow_6 : decode cX10_admitFellow 6 = .ok (.iadd, 1) := by decide +kernel
theorem dX10_admitFellow_7 : decode cX10_admitFellow 7 = .ok (.putfield 73, 3) := by decide +kernel
theorem dX10_admitFellow_10 : decode cX10_admitFellow 10 = .ok (.aload_n 0, 1) := by decide +kernel
theorem dX10_admitFellow_11 : decode cX10_admitFellow 11 = .ok (.getfield 73, 3) := by decide +kernel
theorem dX10_admitFellow_14 : decode cX10_admitFellow 14 = .ok (.iconst 1, 1) := by decide +kernel
theorem dX10_admitFellow_15 : decode cX10_admitFellow 15 = .ok (.isub, 1) := by decide +kernel
theorem dX10_admitFellow_16 : decode cX10_admitFellow 16 = .ok (.ireturn, 1) := by decide +kernel
theorem dX10_found_0 : decode cX10_found 0 = .ok (.aload_n 0, 1) := by decide +kernel
theorem dX10_found_1 : decode cX10_found 1 = .ok (.iload_n 1, 1) := by decide +kernel
theorem dX10_found_2 : decode cX10_found 2 = .ok (.putfield 271, 3) := by decide +kernel
theorem dX10_found_5 : decode cX10_found 5 = .ok (.aload_n 0, 1) := by decide +kernel
theorem dX10_found_6 : decode cX10_found 6 = .ok (.getfield 58, 3) := by decide +kernel
theorem dX10_found_9 : decode cX10_found 9 = .ok (.iload_n 1, 1) := by decide +kernel
theorem dX10_found_10 : decode cX10_found 10 = .ok (.dup2, 1) := by decide +kernel
theorem dX10_found_11 : decode cX10_found 11 = .ok (.iaload, 1) := by decide +kernel
theorem dX10_found_12 : decode cX10_found 12 = .ok (.iconst 1, 1) := by decide +kernel
theorem dX10_found_13 : decode cX10_found 13 = .ok (.iadd, 1) := by decide +kernel
theorem dX10_found_14 : decode cX10_found 14 = .ok (.iastore, 1) := by decide +kernel
theorem dX10_found_15 : decode cX10_found 15 = .ok (.bipush (-3), 2) := by decide +kernel
theorem dX10_found_17 : decode cX10_found 17 = .ok (.ireturn, 1) := by decide +kernel
theorem dX10_inForce_0 : decode cX10_inForce 0 = .ok (.bipush (-9), 2) := by decide +kernel
theorem dX10_inForce_2 : decode cX10_inForce 2 = .ok (.istore_n 3, 1) := by decide +kernel
theorem dX10_inForce_3 : decode cX10_inForce 3 = .ok (.iconst 0, 1) := by decide +kernel
theorem dX10_inForce_4 : decode cX10_inForce 4 = .ok (.istore 4, 2) := by decide +kernel
theorem dX10_inForce_6 : decode cX10_inForce 6 = .ok (.iload 4, 2) := by decide +kernel
theorem dX10_inForce_8 : decode cX10_inForce 8 = .ok (.iload_n 1, 1) := by decide +kernel
theorem dX10_inForce_9 : decode cX10_inForce 9 = .ok (.if_icmp .ge 45, 3) := by decide +kernel
theorem dX10_inForce_12 : decode cX10_inForce 12 = .ok (.aload_n 0, 1) := by decide +kernel
theorem dX10_inForce_13 : decode cX10_inForce 13 = .ok (.iload 4, 2) := by decide +kernel
theorem dX10_inForce_15 : decode cX10_inForce 15 = .ok (.aaload, 1) := by decide +kernel
theorem dX10_inForce_16 : decode cX10_inForce 16 = .ok (.getfield 293, 3) := by decide +kernel
theorem dX10_inForce_19 : decode cX10_inForce 19 = .ok (.iload_n 2, 1) := by decide +kernel
theorem dX10_inForce_20 : decode cX10_inForce 20 = .ok (.if_icmp .gt 28, 3) := by decide +kernel
theorem dX10_inForce_23 : decode cX10_inForce 23 = .ok (.iload_n 3, 1) := by decide +kernel
theorem dX10_inForce_24 : decode cX10_inForce 24 = .ok (.bipush (-9), 2) := by decide +kernel
theorem dX10_inForce_26 : decode cX10_inForce 26 = .ok (.if_icmp .eq 19, 3) := by decide +kernel
theorem dX10_inForce_29 : decode cX10_inForce 29 = .ok (.aload_n 0, 1) := by decide +kernel
theorem dX10_inForce_30 : decode cX10_inForce 30 = .ok (.iload 4, 2) := by decide +kernel
theorem dX10_inForce_32 : decode cX10_inForce 32 = .ok (.aaload, 1) := by decide +kernel
theorem dX10_inForce_33 : decode cX10_inForce 33 = .ok (.getfield 293, 3) := by decide +kernel
theorem dX10_inForce_36 : decode cX10_inForce 36 = .ok (.aload_n 0, 1) := by decide +kernel
theorem dX10_inForce_37 : decode cX10_inForce 37 = .ok (.iload_n 3, 1) := by decide +kernel
theorem dX10_inForce_38 : decode cX10_inForce 38 = .ok (.aaload, 1) := by decide +kernel
theorem dX10_inForce_39 : decode cX10_inForce 39 = .ok (.getfield 293, 3) := by decide +kernel
theorem dX10_inForce_42 : decode cX10_inForce 42 = .ok (.if_icmp .lt 6, 3) := by decide +kernel
theorem dX10_inForce_45 : decode cX10_inForce 45 = .ok (.iload 4, 2) := by decide +kernel
theorem dX10_inForce_47 : decode cX10_inForce 47 = .ok (.istore_n 3, 1) := by decide +kernel
theorem dX10_inForce_48 : decode cX10_inForce 48 = .ok (.iinc 4 1, 3) := by decide +kernel
theorem dX10_inForce_51 : decode cX10_inForce 51 = .ok (.goto (-45), 3) := by decide +kernel
theorem dX10_inForce_54 : decode cX10_inForce 54 = .ok (.iload_n 3, 1) := by decide +kernel
theorem dX10_inForce_55 : decode cX10_inForce 55 = .ok (.ireturn, 1) := by decide +kernel
set_option maxRecDepth 20000 in
theorem ggX10_firstWith_X10_leastLatest : GoodIn wsX10_firstWith wsX10_leastLatest := goodIn_r _ [7, 1, 2, 8, 9, 10, 11, 12, 13, 14, 15, 16, 17, 18, 19, 20, 21, 22, 23, 24, 25, 26, 27, 28, 29, 30, 31, 32, 33, 34, 35, 36, 37, 38, 39, 40, 41, 42, 43, 44, 45, 46, 47, 48, 49, 50, 51, 52, 53, 54, 55, 56, 57, 58, 59, 60, 61, 62, 63, 64, 65, 66, 67, 68, 69, 70] (by decide +kernel) (by decide +kernel)
set_option maxRecDepth 20000 in
theorem gX10_firstWith_X10_leastLatest : GoodIn wsX10_firstWith (wsV RX10 298 RX10 yX10_leastLatest wsX10_leastLatest) := goodIn_app (goodIn_of _ (by decide +kernel)) ggX10_firstWith_X10_leastLatest
set_option maxRecDepth 20000 in
theorem ggX10_firstWith_X5_provedWith : GoodIn wsX10_firstWith wsX5_provedWith := goodIn_r _ [16, 17, 18, 19, 20, 15, 21, 22, 23, 24, 25, 26, 27, 28, 29, 30, 31, 32, 33, 34, 35, 36, 56, 57, 58, 59, 60, 61, 62, 63, 64, 65, 66, 67, 68, 69, 70] (by decide +kernel) (by decide +kernel)
set_option maxRecDepth 20000 in
theorem gX10_firstWith_X5_provedWith : GoodIn wsX10_firstWith (wsV RX10 301 RX5 yX5_provedWith wsX5_provedWith) := goodIn_app (goodIn_of _ (by decide +kernel)) ggX10_firstWith_X5_provedWith
theorem dX10_firstWith_0 : decode cX10_firstWith 0 = .ok (.aload_n 0, 1) := by decide +kernel
theorem dX10_firstWith_1 : decode cX10_firstWith 1 = .ok (.iload_n 1, 1) := by decide +kernel
theorem dX10_firstWith_2 : decode cX10_firstWith 2 = .ok (.aload_n 2, 1) := by decide +kernel
theorem dX10_firstWith_3 : decode cX10_firstWith 3 = .ok (.iload_n 3, 1) := by decide +kernel
theorem dX10_firstWith_4 : decode cX10_firstWith 4 = .ok (.invokevirtual 298, 3) := by decide +kernel
theorem dX10_firstWith_7 : decode cX10_firstWith 7 = .ok (.istore 4, 2) := by decide +kernel
theorem dX10_firstWith_9 : decode cX10_firstWith 9 = .ok (.iconst 0, 1) := by decide +kernel
theorem dX10_firstWith_10 : decode cX10_firstWith 10 = .ok (.istore 5, 2) := by decide +kernel
theorem dX10_firstWith_12 : decode cX10_firstWith 12 = .ok (.iconst 0, 1) := by decide +kernel
theorem dX10_firstWith_13 : decode cX10_firstWith 13 = .ok (.istore 6, 2) := by decide +kernel
theorem dX10_firstWith_15 : decode cX10_firstWith 15 = .ok (.iload 6, 2) := by decide +kernel
theorem dX10_firstWith_17 : decode cX10_firstWith 17 = .ok (.aload_n 0, 1) := by decide +kernel
theorem dX10_firstWith_18 : decode cX10_firstWith 18 = .ok (.getfield 91, 3) := by decide +kernel
theorem dX10_firstWith_21 : decode cX10_firstWith 21 = .ok (.if_icmp .ge 48, 3) := by decide +kernel
theorem dX10_firstWith_24 : decode cX10_firstWith 24 = .ok (.aload_n 0, 1) := by decide +kernel
theorem dX10_firstWith_25 : decode cX10_firstWith 25 = .ok (.getfield 17, 3) := by decide +kernel
theorem dX10_firstWith_28 : decode cX10_firstWith 28 = .ok (.iload 6, 2) := by decide +kernel
theorem dX10_firstWith_30 : decode cX10_firstWith 30 = .ok (.aaload, 1) := by decide +kernel
theorem dX10_firstWith_31 : decode cX10_firstWith 31 = .ok (.iload_n 1, 1) := by decide +kernel
theorem dX10_firstWith_32 : decode cX10_firstWith 32 = .ok (.aload_n 2, 1) := by decide +kernel
theorem dX10_firstWith_33 : decode cX10_firstWith 33 = .ok (.iload_n 3, 1) := by decide +kernel
theorem dX10_firstWith_34 : decode cX10_firstWith 34 = .ok (.iconst 0, 1) := by decide +kernel
theorem dX10_firstWith_35 : decode cX10_firstWith 35 = .ok (.invokevirtual 301, 3) := by decide +kernel
theorem dX10_firstWith_38 : decode cX10_firstWith 38 = .ok (.istore 7, 2) := by decide +kernel
theorem dX10_firstWith_40 : decode cX10_firstWith 40 = .ok (.iload 7, 2) := by decide +kernel
theorem dX10_firstWith_42 : decode cX10_firstWith 42 = .ok (.bipush (-9), 2) := by decide +kernel
theorem dX10_firstWith_44 : decode cX10_firstWith 44 = .ok (.if_icmp .eq 19, 3) := by decide +kernel
theorem dX10_firstWith_47 : decode cX10_firstWith 47 = .ok (.iload 7, 2) := by decide +kernel
theorem dX10_firstWith_49 : decode cX10_firstWith 49 = .ok (.iload 4, 2) := by decide +kernel
theorem dX10_firstWith_51 : decode cX10_firstWith 51 = .ok (.if_icmp .gt 12, 3) := by decide +kernel
theorem dX10_firstWith_54 : decode cX10_firstWith 54 = .ok (.iload 5, 2) := by decide +kernel
theorem dX10_firstWith_56 : decode cX10_firstWith 56 = .ok (.iconst 1, 1) := by decide +kernel
theorem dX10_firstWith_57 : decode cX10_firstWith 57 = .ok (.iload 6, 2) := by decide +kernel
theorem dX10_firstWith_59 : decode cX10_firstWith 59 = .ok (.ishl, 1) := by decide +kernel
theorem dX10_firstWith_60 : decode cX10_firstWith 60 = .ok (.ior, 1) := by decide +kernel
theorem dX10_firstWith_61 : decode cX10_firstWith 61 = .ok (.istore 5, 2) := by decide +kernel
theorem dX10_firstWith_63 : decode cX10_firstWith 63 = .ok (.iinc 6 1, 3) := by decide +kernel
theorem dX10_firstWith_66 : decode cX10_firstWith 66 = .ok (.goto (-51), 3) := by decide +kernel
theorem dX10_firstWith_69 : decode cX10_firstWith 69 = .ok (.iload 5, 2) := by decide +kernel
theorem dX10_firstWith_71 : decode cX10_firstWith 71 = .ok (.ireturn, 1) := by decide +kernel
set_option maxRecDepth 20000 in
theorem ggX10_leastLatest_X5_provedWith : GoodIn wsX10_leastLatest wsX5_provedWith := goodIn_r _ [11, 12, 13, 14, 15, 10, 16, 17, 18, 19, 20, 21, 22, 23, 24, 25, 26, 27, 28, 29, 30, 31, 51, 52, 53, 54, 55, 56, 57, 58, 59, 60, 61, 62, 63, 64, 65] (by decide +kernel) (by decide +kernel)
set_option maxRecDepth 20000 in
theorem gX10_leastLatest_X5_provedWith : GoodIn wsX10_leastLatest (wsV RX10 301 RX5 yX5_provedWith wsX5_provedWith) := goodIn_app (goodIn_of _ (by decide +kernel)) ggX10_leastLatest_X5_provedWith
theorem dX10_leastLatest_0 : decode cX10_leastLatest 0 = .ok (.sipush 30500, 3) := by decide +kernel
theorem dX10_leastLatest_3 : decode cX10_leastLatest 3 = .ok (.istore 4, 2) := by decide +kernel
theorem dX10_leastLatest_5 : decode cX10_leastLatest 5 = .ok (.iconst 0, 1) := by decide +kernel
theorem dX10_leastLatest_6 : decode cX10_leastLatest 6 = .ok (.istore 5, 2) := by decide +kernel
theorem dX10_leastLatest_8 : decode cX10_leastLatest 8 = .ok (.iload 5, 2) := by decide +kernel
theorem dX10_leastLatest_10 : decode cX10_leastLatest 10 = .ok (.aload_n 0, 1) := by decide +kernel
theorem dX10_leastLatest_11 : decode cX10_leastLatest 11 = .ok (.getfield 91, 3) := by decide +kernel
theorem dX10_leastLatest_14 : decode cX10_leastLatest 14 = .ok (.if_icmp .ge 41, 3) := by decide +kernel
theorem dX10_leastLatest_17 : decode cX10_leastLatest 17 = .ok (.aload_n 0, 1) := by decide +kernel
theorem dX10_leastLatest_18 : decode cX10_leastLatest 18 = .ok (.getfield 17, 3) := by decide +kernel
theorem dX10_leastLatest_21 : decode cX10_leastLatest 21 = .ok (.iload 5, 2) := by decide +kernel
theorem dX10_leastLatest_23 : decode cX10_leastLatest 23 = .ok (.aaload, 1) := by decide +kernel
theorem dX10_leastLatest_24 : decode cX10_leastLatest 24 = .ok (.iload_n 1, 1) := by decide +kernel
theorem dX10_leastLatest_25 : decode cX10_leastLatest 25 = .ok (.aload_n 2, 1) := by decide +kernel
theorem dX10_leastLatest_26 : decode cX10_leastLatest 26 = .ok (.iload_n 3, 1) := by decide +kernel
theorem dX10_leastLatest_27 : decode cX10_leastLatest 27 = .ok (.iconst 1, 1) := by decide +kernel
theorem dX10_leastLatest_28 : decode cX10_leastLatest 28 = .ok (.invokevirtual 301, 3) := by decide +kernel
theorem dX10_leastLatest_31 : decode cX10_leastLatest 31 = .ok (.istore 6, 2) := by decide +kernel
theorem dX10_leastLatest_33 : decode cX10_leastLatest 33 = .ok (.iload 6, 2) := by decide +kernel
theorem dX10_leastLatest_35 : decode cX10_leastLatest 35 = .ok (.bipush (-9), 2) := by decide +kernel
theorem dX10_leastLatest_37 : decode cX10_leastLatest 37 = .ok (.if_icmp .eq 12, 3) := by decide +kernel
theorem dX10_leastLatest_40 : decode cX10_leastLatest 40 = .ok (.iload 4, 2) := by decide +kernel
theorem dX10_leastLatest_42 : decode cX10_leastLatest 42 = .ok (.iload 6, 2) := by decide +kernel
theorem dX10_leastLatest_44 : decode cX10_leastLatest 44 = .ok (.invokestatic 305, 3) := by decide +kernel
theorem dX10_leastLatest_47 : decode cX10_leastLatest 47 = .ok (.istore 4, 2) := by decide +kernel
theorem dX10_leastLatest_49 : decode cX10_leastLatest 49 = .ok (.iinc 5 1, 3) := by decide +kernel
theorem dX10_leastLatest_52 : decode cX10_leastLatest 52 = .ok (.goto (-44), 3) := by decide +kernel
theorem dX10_leastLatest_55 : decode cX10_leastLatest 55 = .ok (.iload 4, 2) := by decide +kernel
theorem dX10_leastLatest_57 : decode cX10_leastLatest 57 = .ok (.ireturn, 1) := by decide +kernel
set_option maxRecDepth 20000 in
theorem ggX10_hasPrinted_X5_lastDay : GoodIn wsX10_hasPrinted wsX5_lastDay := goodIn_r _ [9, 10, 11, 31, 32, 33, 34, 35, 36, 37, 38, 39, 40, 41, 42] (by decide +kernel) (by decide +kernel)
set_option maxRecDepth 20000 in
theorem gX10_hasPrinted_X5_lastDay : GoodIn wsX10_hasPrinted (wsV RX10 140 RX5 yX5_lastDay wsX5_lastDay) := goodIn_app (goodIn_of _ (by decide +kernel)) ggX10_hasPrinted_X5_lastDay
theorem dX10_hasPrinted_0 : decode cX10_hasPrinted 0 = .ok (.iconst 0, 1) := by decide +kernel
theorem dX10_hasPrinted_1 : decode cX10_hasPrinted 1 = .ok (.istore_n 3, 1) := by decide +kernel
theorem dX10_hasPrinted_2 : decode cX10_hasPrinted 2 = .ok (.iload_n 3, 1) := by decide +kernel
theorem dX10_hasPrinted_3 : decode cX10_hasPrinted 3 = .ok (.aload_n 0, 1) := by decide +kernel
theorem dX10_hasPrinted_4 : decode cX10_hasPrinted 4 = .ok (.getfield 91, 3) := by decide +kernel
theorem dX10_hasPrinted_7 : decode cX10_hasPrinted 7 = .ok (.if_icmp .ge 54, 3) := by decide +kernel
theorem dX10_hasPrinted_10 : decode cX10_hasPrinted 10 = .ok (.aload_n 0, 1) := by decide +kernel
theorem dX10_hasPrinted_11 : decode cX10_hasPrinted 11 = .ok (.getfield 17, 3) := by decide +kernel
theorem dX10_hasPrinted_14 : decode cX10_hasPrinted 14 = .ok (.iload_n 3, 1) := by decide +kernel
theorem dX10_hasPrinted_15 : decode cX10_hasPrinted 15 = .ok (.aaload, 1) := by decide +kernel
theorem dX10_hasPrinted_16 : decode cX10_hasPrinted 16 = .ok (.iconst 2, 1) := by decide +kernel
theorem dX10_hasPrinted_17 : decode cX10_hasPrinted 17 = .ok (.invokevirtual 140, 3) := by decide +kernel
theorem dX10_hasPrinted_20 : decode cX10_hasPrinted 20 = .ok (.istore 4, 2) := by decide +kernel
theorem dX10_hasPrinted_22 : decode cX10_hasPrinted 22 = .ok (.aload_n 0, 1) := by decide +kernel
theorem dX10_hasPrinted_23 : decode cX10_hasPrinted 23 = .ok (.getfield 17, 3) := by decide +kernel
theorem dX10_hasPrinted_26 : decode cX10_hasPrinted 26 = .ok (.iload_n 3, 1) := by decide +kernel
theorem dX10_hasPrinted_27 : decode cX10_hasPrinted 27 = .ok (.aaload, 1) := by decide +kernel
theorem dX10_hasPrinted_28 : decode cX10_hasPrinted 28 = .ok (.getfield 121, 3) := by decide +kernel
theorem dX10_hasPrinted_31 : decode cX10_hasPrinted 31 = .ok (.iload_n 1, 1) := by decide +kernel
theorem dX10_hasPrinted_32 : decode cX10_hasPrinted 32 = .ok (.if_icmp .ne 23, 3) := by decide +kernel
theorem dX10_hasPrinted_35 : decode cX10_hasPrinted 35 = .ok (.iload 4, 2) := by decide +kernel
theorem dX10_hasPrinted_37 : decode cX10_hasPrinted 37 = .ok (.bipush (-9), 2) := by decide +kernel
theorem dX10_hasPrinted_39 : decode cX10_hasPrinted 39 = .ok (.if_icmp .eq 16, 3) := by decide +kernel
theorem dX10_hasPrinted_42 : decode cX10_hasPrinted 42 = .ok (.aload_n 0, 1) := by decide +kernel
theorem dX10_hasPrinted_43 : decode cX10_hasPrinted 43 = .ok (.getfield 65, 3) := by decide +kernel
theorem dX10_hasPrinted_46 : decode cX10_hasPrinted 46 = .ok (.iload 4, 2) := by decide +kernel
theorem dX10_hasPrinted_48 : decode cX10_hasPrinted 48 = .ok (.isub, 1) := by decide +kernel
theorem dX10_hasPrinted_49 : decode cX10_hasPrinted 49 = .ok (.iload_n 2, 1) := by decide +kernel
theorem dX10_hasPrinted_50 : decode cX10_hasPrinted 50 = .ok (.if_icmp .gt 5, 3) := by decide +kernel
theorem dX10_hasPrinted_53 : decode cX10_hasPrinted 53 = .ok (.iconst 1, 1) := by decide +kernel
theorem dX10_hasPrinted_54 : decode cX10_hasPrinted 54 = .ok (.ireturn, 1) := by decide +kernel
theorem dX10_hasPrinted_55 : decode cX10_hasPrinted 55 = .ok (.iinc 3 1, 3) := by decide +kernel
theorem dX10_hasPrinted_58 : decode cX10_hasPrinted 58 = .ok (.goto (-56), 3) := by decide +kernel
theorem dX10_hasPrinted_61 : decode cX10_hasPrinted 61 = .ok (.iconst 0, 1) := by decide +kernel
theorem dX10_hasPrinted_62 : decode cX10_hasPrinted 62 = .ok (.ireturn, 1) := by decide +kernel
theorem dX10_mixed_0 : decode cX10_mixed 0 = .ok (.ldc2_w 310, 3) := by decide +kernel
theorem dX10_mixed_3 : decode cX10_mixed 3 = .ok (.lload_n 0, 1) := by decide +kernel
theorem dX10_mixed_4 : decode cX10_mixed 4 = .ok (.lmul, 1) := by decide +kernel
theorem dX10_mixed_5 : decode cX10_mixed 5 = .ok (.iload_n 2, 1) := by decide +kernel
theorem dX10_mixed_6 : decode cX10_mixed 6 = .ok (.i2l, 1) := by decide +kernel
theorem dX10_mixed_7 : decode cX10_mixed 7 = .ok (.ladd, 1) := by decide +kernel
theorem dX10_mixed_8 : decode cX10_mixed 8 = .ok (.lreturn, 1) := by decide +kernel
set_option maxRecDepth 20000 in
theorem ggX10_withPapers_X10_told : GoodIn wsX10_withPapers wsX10_told := goodIn_r _ [6, 7, 8, 9, 10, 11, 12, 13, 5, 14, 1, 15, 16, 17, 18, 19, 20, 21, 22, 23, 24, 25, 49, 50, 51, 52, 53, 54, 55, 56, 57, 30, 31, 32, 33, 34, 35, 36, 37, 38, 39, 40, 41, 42, 43, 44, 45, 46, 47, 48, 58, 59, 60] (by decide +kernel) (by decide +kernel)
set_option maxRecDepth 20000 in
theorem gX10_withPapers_X10_told : GoodIn wsX10_withPapers (wsV RX10 312 RX10 yX10_told wsX10_told) := goodIn_app (goodIn_of _ (by decide +kernel)) ggX10_withPapers_X10_told
set_option maxRecDepth 20000 in
theorem ggX10_withPapers_X10_mixed : GoodIn wsX10_withPapers wsX10_mixed := goodIn_r _ [28, 29] (by decide +kernel) (by decide +kernel)
set_option maxRecDepth 20000 in
theorem gX10_withPapers_X10_mixed : GoodIn wsX10_withPapers (va_wsS RX10 279 yX10_mixed wsX10_mixed) := goodIn_app (goodIn_of _ (by decide +kernel)) ggX10_withPapers_X10_mixed
theorem dX10_withPapers_0 : decode cX10_withPapers 0 = .ok (.lload_n 1, 1) := by decide +kernel
theorem dX10_withPapers_1 : decode cX10_withPapers 1 = .ok (.lstore_n 3, 1) := by decide +kernel
theorem dX10_withPapers_2 : decode cX10_withPapers 2 = .ok (.iconst 0, 1) := by decide +kernel
theorem dX10_withPapers_3 : decode cX10_withPapers 3 = .ok (.istore 5, 2) := by decide +kernel
theorem dX10_withPapers_5 : decode cX10_withPapers 5 = .ok (.iload 5, 2) := by decide +kernel
theorem dX10_withPapers_7 : decode cX10_withPapers 7 = .ok (.aload_n 0, 1) := by decide +kernel
theorem dX10_withPapers_8 : decode cX10_withPapers 8 = .ok (.getfield 91, 3) := by decide +kernel
theorem dX10_withPapers_11 : decode cX10_withPapers 11 = .ok (.if_icmp .ge 38, 3) := by decide +kernel
theorem dX10_withPapers_14 : decode cX10_withPapers 14 = .ok (.iconst 0, 1) := by decide +kernel
theorem dX10_withPapers_15 : decode cX10_withPapers 15 = .ok (.istore 6, 2) := by decide +kernel
theorem dX10_withPapers_17 : decode cX10_withPapers 17 = .ok (.iload 6, 2) := by decide +kernel
theorem dX10_withPapers_19 : decode cX10_withPapers 19 = .ok (.bipush 7, 2) := by decide +kernel
theorem dX10_withPapers_21 : decode cX10_withPapers 21 = .ok (.if_icmp .ge 22, 3) := by decide +kernel
theorem dX10_withPapers_24 : decode cX10_withPapers 24 = .ok (.lload_n 3, 1) := by decide +kernel
theorem dX10_withPapers_25 : decode cX10_withPapers 25 = .ok (.aload_n 0, 1) := by decide +kernel
theorem dX10_withPapers_26 : decode cX10_withPapers 26 = .ok (.iload 5, 2) := by decide +kernel
theorem dX10_withPapers_28 : decode cX10_withPapers 28 = .ok (.iload 6, 2) := by decide +kernel
theorem dX10_withPapers_30 : decode cX10_withPapers 30 = .ok (.invokevirtual 312, 3) := by decide +kernel
theorem dX10_withPapers_33 : decode cX10_withPapers 33 = .ok (.invokestatic 279, 3) := by decide +kernel
theorem dX10_withPapers_36 : decode cX10_withPapers 36 = .ok (.lstore_n 3, 1) := by decide +kernel
theorem dX10_withPapers_37 : decode cX10_withPapers 37 = .ok (.iinc 6 1, 3) := by decide +kernel
theorem dX10_withPapers_40 : decode cX10_withPapers 40 = .ok (.goto (-23), 3) := by decide +kernel
theorem dX10_withPapers_43 : decode cX10_withPapers 43 = .ok (.iinc 5 1, 3) := by decide +kernel
theorem dX10_withPapers_46 : decode cX10_withPapers 46 = .ok (.goto (-41), 3) := by decide +kernel
theorem dX10_withPapers_49 : decode cX10_withPapers 49 = .ok (.lload_n 3, 1) := by decide +kernel
theorem dX10_withPapers_50 : decode cX10_withPapers 50 = .ok (.lreturn, 1) := by decide +kernel
set_option maxRecDepth 20000 in
theorem ggX10_withHoldings_X10_copies : GoodIn wsX10_withHoldings wsX10_copies := goodIn_r _ [5, 6, 7, 8, 9, 4, 10, 11, 12, 13, 18, 19, 20, 21, 22, 23, 24, 25, 26, 27, 28, 29, 30, 31, 32, 33, 34, 35, 36, 37, 38, 39] (by decide +kernel) (by decide +kernel)
set_option maxRecDepth 20000 in
theorem gX10_withHoldings_X10_copies : GoodIn wsX10_withHoldings (wsV RX10 315 RX10 yX10_copies wsX10_copies) := goodIn_app (goodIn_of _ (by decide +kernel)) ggX10_withHoldings_X10_copies
set_option maxRecDepth 20000 in
theorem ggX10_withHoldings_X10_mixed : GoodIn wsX10_withHoldings wsX10_mixed := goodIn_r _ [16, 17] (by decide +kernel) (by decide +kernel)
set_option maxRecDepth 20000 in
theorem gX10_withHoldings_X10_mixed : GoodIn wsX10_withHoldings (va_wsS RX10 279 yX10_mixed wsX10_mixed) := goodIn_app (goodIn_of _ (by decide +kernel)) ggX10_withHoldings_X10_mixed
theorem dX10_withHoldings_0 : decode cX10_withHoldings 0 = .ok (.lload_n 1, 1) := by decide +kernel
theorem dX10_withHoldings_1 : decode cX10_withHoldings 1 = .ok (.lstore_n 3, 1) := by decide +kernel
theorem dX10_withHoldings_2 : decode cX10_withHoldings 2 = .ok (.iconst 0, 1) := by decide +kernel
theorem dX10_withHoldings_3 : decode cX10_withHoldings 3 = .ok (.istore 5, 2) := by decide +kernel
theorem dX10_withHoldings_5 : decode cX10_withHoldings 5 = .ok (.iload 5, 2) := by decide +kernel
theorem dX10_withHoldings_7 : decode cX10_withHoldings 7 = .ok (.bipush 6, 2) := by decide +kernel
theorem dX10_withHoldings_9 : decode cX10_withHoldings 9 = .ok (.if_icmp .ge 38, 3) := by decide +kernel
theorem dX10_withHoldings_12 : decode cX10_withHoldings 12 = .ok (.iconst 0, 1) := by decide +kernel
theorem dX10_withHoldings_13 : decode cX10_withHoldings 13 = .ok (.istore 6, 2) := by decide +kernel
theorem dX10_withHoldings_15 : decode cX10_withHoldings 15 = .ok (.iload 6, 2) := by decide +kernel
theorem dX10_withHoldings_17 : decode cX10_withHoldings 17 = .ok (.bipush 12, 2) := by decide +kernel
theorem dX10_withHoldings_19 : decode cX10_withHoldings 19 = .ok (.if_icmp .ge 22, 3) := by decide +kernel
theorem dX10_withHoldings_22 : decode cX10_withHoldings 22 = .ok (.lload_n 3, 1) := by decide +kernel
theorem dX10_withHoldings_23 : decode cX10_withHoldings 23 = .ok (.aload_n 0, 1) := by decide +kernel
theorem dX10_withHoldings_24 : decode cX10_withHoldings 24 = .ok (.iload 5, 2) := by decide +kernel
theorem dX10_withHoldings_26 : decode cX10_withHoldings 26 = .ok (.iload 6, 2) := by decide +kernel
theorem dX10_withHoldings_28 : decode cX10_withHoldings 28 = .ok (.invokevirtual 315, 3) := by decide +kernel
theorem dX10_withHoldings_31 : decode cX10_withHoldings 31 = .ok (.invokestatic 279, 3) := by decide +kernel
theorem dX10_withHoldings_34 : decode cX10_withHoldings 34 = .ok (.lstore_n 3, 1) := by decide +kernel
theorem dX10_withHoldings_35 : decode cX10_withHoldings 35 = .ok (.iinc 6 1, 3) := by decide +kernel
theorem dX10_withHoldings_38 : decode cX10_withHoldings 38 = .ok (.goto (-23), 3) := by decide +kernel
theorem dX10_withHoldings_41 : decode cX10_withHoldings 41 = .ok (.iinc 5 1, 3) := by decide +kernel
theorem dX10_withHoldings_44 : decode cX10_withHoldings 44 = .ok (.goto (-39), 3) := by decide +kernel
theorem dX10_withHoldings_47 : decode cX10_withHoldings 47 = .ok (.lload_n 3, 1) := by decide +kernel
theorem dX10_withHoldings_48 : decode cX10_withHoldings 48 = .ok (.lreturn, 1) := by decide +kernel
