theorem dX10_init_0 : decode cX10_init 0 = .ok (.aload_n 0, 1) := by decide +kernel
theorem dX10_init_1 : decode cX10_init 1 = .ok (.invokespecial 1, 3) := by decide +kernel
theorem dX10_init_4 : decode cX10_init 4 = .ok (.aload_n 0, 1) := by decide +kernel
theorem dX10_init_5 : decode cX10_init 5 = .ok (.bipush 6, 2) := by decide +kernel
theorem dX10_init_7 : decode cX10_init 7 = .ok (.anewarray 9, 3) := by decide +kernel
theorem dX10_init_10 : decode cX10_init 10 = .ok (.putfield 11, 3) := by decide +kernel
theorem dX10_init_13 : decode cX10_init 13 = .ok (.aload_n 0, 1) := by decide +kernel
theorem dX10_init_14 : decode cX10_init 14 = .ok (.bipush 24, 2) := by decide +kernel
theorem dX10_init_16 : decode cX10_init 16 = .ok (.anewarray 15, 3) := by decide +kernel
theorem dX10_init_19 : decode cX10_init 19 = .ok (.putfield 17, 3) := by decide +kernel
theorem dX10_init_22 : decode cX10_init 22 = .ok (.aload_n 0, 1) := by decide +kernel
theorem dX10_init_23 : decode cX10_init 23 = .ok (.bipush 12, 2) := by decide +kernel
theorem dX10_init_25 : decode cX10_init 25 = .ok (.anewarray 21, 3) := by decide +kernel
theorem dX10_init_28 : decode cX10_init 28 = .ok (.putfield 23, 3) := by decide +kernel
theorem dX10_init_31 : decode cX10_init 31 = .ok (.aload_n 0, 1) := by decide +kernel
theorem dX10_init_32 : decode cX10_init 32 = .ok (.bipush 12, 2) := by decide +kernel
theorem dX10_init_34 : decode cX10_init 34 = .ok (.anewarray 27, 3) := by decide +kernel
theorem dX10_init_37 : decode cX10_init 37 = .ok (.putfield 29, 3) := by decide +kernel
theorem dX10_init_40 : decode cX10_init 40 = .ok (.aload_n 0, 1) := by decide +kernel
theorem dX10_init_41 : decode cX10_init 41 = .ok (.bipush 20, 2) := by decide +kernel
theorem dX10_init_43 : decode cX10_init 43 = .ok (.anewarray 33, 3) := by decide +kernel
theorem dX10_init_46 : decode cX10_init 46 = .ok (.putfield 35, 3) := by decide +kernel
theorem dX10_init_49 : decode cX10_init 49 = .ok (.aload_n 0, 1) := by decide +kernel
theorem dX10_init_50 : decode cX10_init 50 = .ok (.iconst 4, 1) := by decide +kernel
theorem dX10_init_51 : decode cX10_init 51 = .ok (.anewarray 39, 3) := by decide +kernel
theorem dX10_init_54 : decode cX10_init 54 = .ok (.putfield 41, 3) := by decide +kernel
theorem dX10_init_57 : decode cX10_init 57 = .ok (.aload_n 0, 1) := by decide +kernel
theorem dX10_init_58 : decode cX10_init 58 = .ok (.new 45, 3) := by decide +kernel
theorem dX10_init_61 : decode cX10_init 61 = .ok (.dup, 1) := by decide +kernel
theorem dX10_init_62 : decode cX10_init 62 = .ok (.invokespecial 47, 3) := by decide +kernel
theorem dX10_init_65 : decode cX10_init 65 = .ok (.putfield 48, 3) := by decide +kernel
theorem dX10_init_68 : decode cX10_init 68 = .ok (.aload_n 0, 1) := by decide +kernel
theorem dX10_init_69 : decode cX10_init 69 = .ok (.iconst 4, 1) := by decide +kernel
theorem dX10_init_70 : decode cX10_init 70 = .ok (.anewarray 52, 3) := by decide +kernel
theorem dX10_init_73 : decode cX10_init 73 = .ok (.putfield 54, 3) := by decide +kernel
theorem dX10_init_76 : decode cX10_init 76 = .ok (.aload_n 0, 1) := by decide +kernel
theorem dX10_init_77 : decode cX10_init 77 = .ok (.bipush 6, 2) := by decide +kernel
theorem dX10_init_79 : decode cX10_init 79 = .ok (.newarray .int, 2) := by decide +kernel
theorem dX10_init_81 : decode cX10_init 81 = .ok (.putfield 58, 3) := by decide +kernel
theorem dX10_init_84 : decode cX10_init 84 = .ok (.iconst 0, 1) := by decide +kernel
theorem dX10_init_85 : decode cX10_init 85 = .ok (.istore_n 1, 1) := by decide +kernel
theorem dX10_init_86 : decode cX10_init 86 = .ok (.iload_n 1, 1) := by decide +kernel
theorem dX10_init_87 : decode cX10_init 87 = .ok (.bipush 6, 2) := by decide +kernel
theorem dX10_init_89 : decode cX10_init 89 = .ok (.if_icmp .ge 22, 3) := by decide +kernel
theorem dX10_init_92 : decode cX10_init 92 = .ok (.aload_n 0, 1) := by decide +kernel
theorem dX10_init_93 : decode cX10_init 93 = .ok (.getfield 11, 3) := by decide +kernel
theorem dX10_init_96 : decode cX10_init 96 = .ok (.iload_n 1, 1) := by decide +kernel
theorem dX10_init_97 : decode cX10_init 97 = .ok (.new 9, 3) := by decide +kernel
theorem dX10_init_100 : decode cX10_init 100 = .ok (.dup, 1) := by decide +kernel
theorem dX10_init_101 : decode cX10_init 101 = .ok (.invokespecial 62, 3) := by decide +kernel
theorem dX10_init_104 : decode cX10_init 104 = .ok (.aastore, 1) := by decide +kernel
theorem dX10_init_105 : decode cX10_init 105 = .ok (.iinc 1 1, 3) := by decide +kernel
theorem dX10_init_108 : decode cX10_init 108 = .ok (.goto (-22), 3) := by decide +kernel
theorem dX10_init_111 : decode cX10_init 111 = .ok (.iconst 0, 1) := by decide +kernel
theorem dX10_init_112 : decode cX10_init 112 = .ok (.istore_n 1, 1) := by decide +kernel
theorem dX10_init_113 : decode cX10_init 113 = .ok (.iload_n 1, 1) := by decide +kernel
theorem dX10_init_114 : decode cX10_init 114 = .ok (.iconst 4, 1) := by decide +kernel
theorem dX10_init_115 : decode cX10_init 115 = .ok (.if_icmp .ge 22, 3) := by decide +kernel
theorem dX10_init_118 : decode cX10_init 118 = .ok (.aload_n 0, 1) := by decide +kernel
theorem dX10_init_119 : decode cX10_init 119 = .ok (.getfield 41, 3) := by decide +kernel
theorem dX10_init_122 : decode cX10_init 122 = .ok (.iload_n 1, 1) := by decide +kernel
theorem dX10_init_123 : decode cX10_init 123 = .ok (.new 39, 3) := by decide +kernel
theorem dX10_init_126 : decode cX10_init 126 = .ok (.dup, 1) := by decide +kernel
theorem dX10_init_127 : decode cX10_init 127 = .ok (.invokespecial 63, 3) := by decide +kernel
theorem dX10_init_130 : decode cX10_init 130 = .ok (.aastore, 1) := by decide +kernel
theorem dX10_init_131 : decode cX10_init 131 = .ok (.iinc 1 1, 3) := by decide +kernel
theorem dX10_init_134 : decode cX10_init 134 = .ok (.goto (-21), 3) := by decide +kernel
theorem dX10_init_137 : decode cX10_init 137 = .ok (.iconst 0, 1) := by decide +kernel
theorem dX10_init_138 : decode cX10_init 138 = .ok (.istore_n 1, 1) := by decide +kernel
theorem dX10_init_139 : decode cX10_init 139 = .ok (.iload_n 1, 1) := by decide +kernel
theorem dX10_init_140 : decode cX10_init 140 = .ok (.iconst 4, 1) := by decide +kernel
theorem dX10_init_141 : decode cX10_init 141 = .ok (.if_icmp .ge 22, 3) := by decide +kernel
theorem dX10_init_144 : decode cX10_init 144 = .ok (.aload_n 0, 1) := by decide +kernel
theorem dX10_init_145 : decode cX10_init 145 = .ok (.getfield 54, 3) := by decide +kernel
theorem dX10_init_148 : decode cX10_init 148 = .ok (.iload_n 1, 1) := by decide +kernel
theorem dX10_init_149 : decode cX10_init 149 = .ok (.new 52, 3) := by decide +kernel
theorem dX10_init_152 : decode cX10_init 152 = .ok (.dup, 1) := by decide +kernel
theorem dX10_init_153 : decode cX10_init 153 = .ok (.invokespecial 64, 3) := by decide +kernel
theorem dX10_init_156 : decode cX10_init 156 = .ok (.aastore, 1) := by decide +kernel
theorem dX10_init_157 : decode cX10_init 157 = .ok (.iinc 1 1, 3) := by decide +kernel
theorem dX10_init_160 : decode cX10_init 160 = .ok (.goto (-21), 3) := by decide +kernel
theorem dX10_init_163 : decode cX10_init 163 = .ok (.return_, 1) := by decide +kernel
set_option maxRecDepth 20000 in
theorem ggX10_later_X10_isWithin : GoodIn wsX10_later wsX10_isWithin := goodIn_r _ [5] (by decide +kernel) (by decide +kernel)
set_option maxRecDepth 20000 in
theorem gX10_later_X10_isWithin : GoodIn wsX10_later (va_wsS RX10 69 yX10_isWithin wsX10_isWithin) := goodIn_app (goodIn_of _ (by decide +kernel)) ggX10_later_X10_isWithin
theorem dX10_later_0 : decode cX10_later 0 = .ok (.iload_n 1, 1) := by decide +kernel
theorem dX10_later_1 : decode cX10_later 1 = .ok (.iconst 0, 1) := by decide +kernel
theorem dX10_later_2 : decode cX10_later 2 = .ok (.sipush 30000, 3) := by decide +kernel
theorem dX10_later_5 : decode cX10_later 5 = .ok (.aload_n 0, 1) := by decide +kernel
theorem dX10_later_6 : decode cX10_later 6 = .ok (.getfield 65, 3) := by decide +kernel
theorem dX10_later_9 : decode cX10_later 9 = .ok (.isub, 1) := by decide +kernel
theorem dX10_later_10 : decode cX10_later 10 = .ok (.invokestatic 69, 3) := by decide +kernel
theorem dX10_later_13 : decode cX10_later 13 = .ok (.ifCond .ne 5, 3) := by decide +kernel
theorem dX10_later_16 : decode cX10_later 16 = .ok (.iconst (-1), 1) := by decide +kernel
theorem dX10_later_17 : decode cX10_later 17 = .ok (.ireturn, 1) := by decide +kernel
theorem dX10_later_18 : decode cX10_later 18 = .ok (.aload_n 0, 1) := by decide +kernel
theorem dX10_later_19 : decode cX10_later 19 = .ok (.dup, 1) := by decide +kernel
theorem dX10_later_20 : decode cX10_later 20 = .ok (.getfield 65, 3) := by decide +kernel
theorem dX10_later_23 : decode cX10_later 23 = .ok (.iload_n 1, 1) := by decide +kernel
theorem dX10_later_24 : decode cX10_later 24 = .ok (.iadd, 1) := by decide +kernel
theorem dX10_later_25 : decode cX10_later 25 = .ok (.putfield 65, 3) := by decide +kernel
theorem dX10_later_28 : decode cX10_later 28 = .ok (.aload_n 0, 1) := by decide +kernel
theorem dX10_later_29 : decode cX10_later 29 = .ok (.getfield 65, 3) := by decide +kernel
theorem dX10_later_32 : decode cX10_later 32 = .ok (.ireturn, 1) := by decide +kernel
set_option maxRecDepth 20000 in
theorem ggX10_fellow_X10_admitFellow : GoodIn wsX10_fellow wsX10_admitFellow := goodIn_r _ [6, 1, 7, 8, 9, 10, 11, 12, 13, 14, 15, 16, 17, 18, 19, 20, 21, 22, 23, 24, 25] (by decide +kernel) (by decide +kernel)
set_option maxRecDepth 20000 in
theorem gX10_fellow_X10_admitFellow : GoodIn wsX10_fellow (wsV RX10 76 RX10 yX10_admitFellow wsX10_admitFellow) := goodIn_app (goodIn_of _ (by decide +kernel)) ggX10_fellow_X10_admitFellow
theorem dX10_fellow_0 : decode cX10_fellow 0 = .ok (.aload_n 0, 1) := by decide +kernel
theorem dX10_fellow_1 : decode cX10_fellow 1 = .ok (.getfield 73, 3) := by decide +kernel
theorem dX10_fellow_4 : decode cX10_fellow 4 = .ok (.bipush 16, 2) := by decide +kernel
theorem dX10_fellow_6 : decode cX10_fellow 6 = .ok (.if_icmp .lt 6, 3) := by decide +kernel
theorem dX10_fellow_9 : decode cX10_fellow 9 = .ok (.bipush (-2), 2) := by decide +kernel
theorem dX10_fellow_11 : decode cX10_fellow 11 = .ok (.ireturn, 1) := by decide +kernel
theorem dX10_fellow_12 : decode cX10_fellow 12 = .ok (.aload_n 0, 1) := by decide +kernel
theorem dX10_fellow_13 : decode cX10_fellow 13 = .ok (.invokevirtual 76, 3) := by decide +kernel
theorem dX10_fellow_16 : decode cX10_fellow 16 = .ok (.ireturn, 1) := by decide +kernel
set_option maxRecDepth 20000 in
theorem ggX10_post_X10_isWithin : GoodIn wsX10_post wsX10_isWithin := goodIn_r _ [7] (by decide +kernel) (by decide +kernel)
set_option maxRecDepth 20000 in
theorem gX10_post_X10_isWithin : GoodIn wsX10_post (va_wsS RX10 69 yX10_isWithin wsX10_isWithin) := goodIn_app (goodIn_of _ (by decide +kernel)) ggX10_post_X10_isWithin
theorem dX10_post_0 : decode cX10_post 0 = .ok (.iload_n 1, 1) := by decide +kernel
theorem dX10_post_1 : decode cX10_post 1 = .ok (.iconst 0, 1) := by decide +kernel
theorem dX10_post_2 : decode cX10_post 2 = .ok (.iconst 5, 1) := by decide +kernel
theorem dX10_post_3 : decode cX10_post 3 = .ok (.invokestatic 69, 3) := by decide +kernel
theorem dX10_post_6 : decode cX10_post 6 = .ok (.ifCond .eq 23, 3) := by decide +kernel
theorem dX10_post_9 : decode cX10_post 9 = .ok (.iload_n 3, 1) := by decide +kernel
theorem dX10_post_10 : decode cX10_post 10 = .ok (.iconst 0, 1) := by decide +kernel
theorem dX10_post_11 : decode cX10_post 11 = .ok (.sipush 500, 3) := by decide +kernel
theorem dX10_post_14 : decode cX10_post 14 = .ok (.invokestatic 69, 3) := by decide +kernel
theorem dX10_post_17 : decode cX10_post 17 = .ok (.ifCond .eq 12, 3) := by decide +kernel
theorem dX10_post_20 : decode cX10_post 20 = .ok (.iload_n 2, 1) := by decide +kernel
theorem dX10_post_21 : decode cX10_post 21 = .ok (.iconst 0, 1) := by decide +kernel
theorem dX10_post_22 : decode cX10_post 22 = .ok (.iload_n 3, 1) := by decide +kernel
theorem dX10_post_23 : decode cX10_post 23 = .ok (.invokestatic 69, 3) := by decide +kernel
theorem dX10_post_26 : decode cX10_post 26 = .ok (.ifCond .ne 5, 3) := by decide +kernel
theorem dX10_post_29 : decode cX10_post 29 = .ok (.iconst (-1), 1) := by decide +kernel
theorem dX10_post_30 : decode cX10_post 30 = .ok (.ireturn, 1) := by decide +kernel
theorem dX10_post_31 : decode cX10_post 31 = .ok (.aload_n 0, 1) := by decide +kernel
theorem dX10_post_32 : decode cX10_post 32 = .ok (.getfield 11, 3) := by decide +kernel
theorem dX10_post_35 : decode cX10_post 35 = .ok (.iload_n 1, 1) := by decide +kernel
theorem dX10_post_36 : decode cX10_post 36 = .ok (.aaload, 1) := by decide +kernel
theorem dX10_post_37 : decode cX10_post 37 = .ok (.iload_n 2, 1) := by decide +kernel
theorem dX10_post_38 : decode cX10_post 38 = .ok (.putfield 80, 3) := by decide +kernel
theorem dX10_post_41 : decode cX10_post 41 = .ok (.aload_n 0, 1) := by decide +kernel
theorem dX10_post_42 : decode cX10_post 42 = .ok (.getfield 11, 3) := by decide +kernel
theorem dX10_post_45 : decode cX10_post 45 = .ok (.iload_n 1, 1) := by decide +kernel
theorem dX10_post_46 : decode cX10_post 46 = .ok (.aaload, 1) := by decide +kernel
theorem dX10_post_47 : decode cX10_post 47 = .ok (.iload_n 3, 1) := by decide +kernel
theorem dX10_post_48 : decode cX10_post 48 = .ok (.putfield 83, 3) := by decide +kernel
theorem dX10_post_51 : decode cX10_post 51 = .ok (.iconst 1, 1) := by decide +kernel
theorem dX10_post_52 : decode cX10_post 52 = .ok (.ireturn, 1) := by decide +kernel
set_option maxRecDepth 20000 in
theorem ggX10_paper_X10_isWithin : GoodIn wsX10_paper wsX10_isWithin := goodIn_r _ [12] (by decide +kernel) (by decide +kernel)
set_option maxRecDepth 20000 in
theorem gX10_paper_X10_isWithin : GoodIn wsX10_paper (va_wsS RX10 69 yX10_isWithin wsX10_isWithin) := goodIn_app (goodIn_of _ (by decide +kernel)) ggX10_paper_X10_isWithin
set_option maxRecDepth 20000 in
theorem ggX10_paper_X10_isFellow : GoodIn wsX10_paper wsX10_isFellow := goodIn_r _ [16, 17, 9, 10, 11, 12, 40, 41, 42, 43, 44, 45, 46, 47, 48, 49, 50, 51, 52, 53, 54, 55, 56, 57, 58] (by decide +kernel) (by decide +kernel)
set_option maxRecDepth 20000 in
theorem gX10_paper_X10_isFellow : GoodIn wsX10_paper (wsV RX10 86 RX10 yX10_isFellow wsX10_isFellow) := goodIn_app (goodIn_of _ (by decide +kernel)) ggX10_paper_X10_isFellow
set_option maxRecDepth 20000 in
theorem ggX10_paper_X5_init : GoodIn wsX10_paper wsX5_init := goodIn_r _ [20, 21, 22, 23, 24, 25, 26, 27, 28, 29, 30, 31, 32, 33, 59, 60, 61, 62, 63, 64, 65, 66, 67] (by decide +kernel) (by decide +kernel)
set_option maxRecDepth 20000 in
theorem gX10_paper_X5_init : GoodIn wsX10_paper (wsX5_init) := ggX10_paper_X5_init
set_option maxRecDepth 20000 in
theorem ggX10_paper_X5_send : GoodIn wsX10_paper wsX5_send := goodIn_r _ [37, 24, 38, 25, 39, 26, 59, 60, 61, 62, 63, 64, 65, 66, 67, 68, 69] (by decide +kernel) (by decide +kernel)
set_option maxRecDepth 20000 in
theorem gX10_paper_X5_send : GoodIn wsX10_paper (wsV RX10 97 RX5 yX5_send wsX5_send) := goodIn_app (goodIn_of _ (by decide +kernel)) ggX10_paper_X5_send
theorem dX10_paper_0 : decode cX10_paper 0 = .ok (.iload_n 1, 1) := by decide +kernel
theorem dX10_paper_1 : decode cX10_paper 1 = .ok (.iconst 0, 1) := by decide +kernel
theorem dX10_paper_2 : decode cX10_paper 2 = .ok (.iconst 2, 1) := by decide +kernel
theorem dX10_paper_3 : decode cX10_paper 3 = .ok (.invokestatic 69, 3) := by decide +kernel
theorem dX10_paper_6 : decode cX10_paper 6 = .ok (.ifCond .eq 21, 3) := by decide +kernel
theorem dX10_paper_9 : decode cX10_paper 9 = .ok (.aload_n 0, 1) := by decide +kernel
theorem dX10_paper_10 : decode cX10_paper 10 = .ok (.iload_n 2, 1) := by decide +kernel
theorem dX10_paper_11 : decode cX10_paper 11 = .ok (.invokevirtual 86, 3) := by decide +kernel
theorem dX10_paper_14 : decode cX10_paper 14 = .ok (.ifCond .eq 13, 3) := by decide +kernel
theorem dX10_paper_17 : decode cX10_paper 17 = .ok (.iload_n 3, 1) := by decide +kernel
theorem dX10_paper_18 : decode cX10_paper 18 = .ok (.iconst 0, 1) := by decide +kernel
theorem dX10_paper_19 : decode cX10_paper 19 = .ok (.ldc 90, 2) := by decide +kernel
theorem dX10_paper_21 : decode cX10_paper 21 = .ok (.invokestatic 69, 3) := by decide +kernel
theorem dX10_paper_24 : decode cX10_paper 24 = .ok (.ifCond .ne 5, 3) := by decide +kernel
theorem dX10_paper_27 : decode cX10_paper 27 = .ok (.iconst (-1), 1) := by decide +kernel
theorem dX10_paper_28 : decode cX10_paper 28 = .ok (.ireturn, 1) := by decide +kernel
theorem dX10_paper_29 : decode cX10_paper 29 = .ok (.iload_n 1, 1) := by decide +kernel
theorem dX10_paper_30 : decode cX10_paper 30 = .ok (.iconst 2, 1) := by decide +kernel
theorem dX10_paper_31 : decode cX10_paper 31 = .ok (.if_icmp .ne 28, 3) := by decide +kernel
theorem dX10_paper_34 : decode cX10_paper 34 = .ok (.iload 4, 2) := by decide +kernel
theorem dX10_paper_36 : decode cX10_paper 36 = .ok (.iconst 0, 1) := by decide +kernel
theorem dX10_paper_37 : decode cX10_paper 37 = .ok (.aload_n 0, 1) := by decide +kernel
theorem dX10_paper_38 : decode cX10_paper 38 = .ok (.getfield 65, 3) := by decide +kernel
theorem dX10_paper_41 : decode cX10_paper 41 = .ok (.invokestatic 69, 3) := by decide +kernel
theorem dX10_paper_44 : decode cX10_paper 44 = .ok (.ifCond .eq 13, 3) := by decide +kernel
theorem dX10_paper_47 : decode cX10_paper 47 = .ok (.iload 5, 2) := by decide +kernel
theorem dX10_paper_49 : decode cX10_paper 49 = .ok (.iconst 0, 1) := by decide +kernel
theorem dX10_paper_50 : decode cX10_paper 50 = .ok (.iconst 5, 1) := by decide +kernel
theorem dX10_paper_51 : decode cX10_paper 51 = .ok (.invokestatic 69, 3) := by decide +kernel
theorem dX10_paper_54 : decode cX10_paper 54 = .ok (.ifCond .ne 5, 3) := by decide +kernel
theorem dX10_paper_57 : decode cX10_paper 57 = .ok (.iconst (-1), 1) := by decide +kernel
theorem dX10_paper_58 : decode cX10_paper 58 = .ok (.ireturn, 1) := by decide +kernel
theorem dX10_paper_59 : decode cX10_paper 59 = .ok (.aload_n 0, 1) := by decide +kernel
theorem dX10_paper_60 : decode cX10_paper 60 = .ok (.getfield 91, 3) := by decide +kernel
theorem dX10_paper_63 : decode cX10_paper 63 = .ok (.bipush 24, 2) := by decide +kernel
theorem dX10_paper_65 : decode cX10_paper 65 = .ok (.if_icmp .lt 6, 3) := by decide +kernel
theorem dX10_paper_68 : decode cX10_paper 68 = .ok (.bipush (-2), 2) := by decide +kernel
theorem dX10_paper_70 : decode cX10_paper 70 = .ok (.ireturn, 1) := by decide +kernel
theorem dX10_paper_71 : decode cX10_paper 71 = .ok (.new 15, 3) := by decide +kernel
theorem dX10_paper_74 : decode cX10_paper 74 = .ok (.dup, 1) := by decide +kernel
theorem dX10_paper_75 : decode cX10_paper 75 = .ok (.iload_n 1, 1) := by decide +kernel
theorem dX10_paper_76 : decode cX10_paper 76 = .ok (.iload_n 2, 1) := by decide +kernel
theorem dX10_paper_77 : decode cX10_paper 77 = .ok (.iload_n 3, 1) := by decide +kernel
theorem dX10_paper_78 : decode cX10_paper 78 = .ok (.aload_n 0, 1) := by decide +kernel
theorem dX10_paper_79 : decode cX10_paper 79 = .ok (.getfield 65, 3) := by decide +kernel
theorem dX10_paper_82 : decode cX10_paper 82 = .ok (.invokespecial 94, 3) := by decide +kernel
theorem dX10_paper_85 : decode cX10_paper 85 = .ok (.astore 6, 2) := by decide +kernel
theorem dX10_paper_87 : decode cX10_paper 87 = .ok (.iload_n 1, 1) := by decide +kernel
theorem dX10_paper_88 : decode cX10_paper 88 = .ok (.iconst 2, 1) := by decide +kernel
theorem dX10_paper_89 : decode cX10_paper 89 = .ok (.if_icmp .ne 17, 3) := by decide +kernel
theorem dX10_paper_92 : decode cX10_paper 92 = .ok (.aload 6, 2) := by decide +kernel
theorem dX10_paper_94 : decode cX10_paper 94 = .ok (.iload 4, 2) := by decide +kernel
theorem dX10_paper_96 : decode cX10_paper 96 = .ok (.aload_n 0, 1) := by decide +kernel
theorem dX10_paper_97 : decode cX10_paper 97 = .ok (.getfield 11, 3) := by decide +kernel
theorem dX10_paper_100 : decode cX10_paper 100 = .ok (.iload 5, 2) := by decide +kernel
theorem dX10_paper_102 : decode cX10_paper 102 = .ok (.aaload, 1) := by decide +kernel
theorem dX10_paper_103 : decode cX10_paper 103 = .ok (.invokevirtual 97, 3) := by decide +kernel
theorem dX10_paper_106 : decode cX10_paper 106 = .ok (.aload_n 0, 1) := by decide +kernel
theorem dX10_paper_107 : decode cX10_paper 107 = .ok (.getfield 17, 3) := by decide +kernel
theorem dX10_paper_110 : decode cX10_paper 110 = .ok (.aload_n 0, 1) := by decide +kernel
theorem dX10_paper_111 : decode cX10_paper 111 = .ok (.getfield 91, 3) := by decide +kernel
theorem dX10_paper_114 : decode cX10_paper 114 = .ok (.aload 6, 2) := by decide +kernel
theorem dX10_paper_116 : decode cX10_paper 116 = .ok (.aastore, 1) := by decide +kernel
theorem dX10_paper_117 : decode cX10_paper 117 = .ok (.aload_n 0, 1) := by decide +kernel
theorem dX10_paper_118 : decode cX10_paper 118 = .ok (.dup, 1) := by decide +kernel
theorem dX10_paper_119 : decode cX10_paper 119 = .ok (.getfield 91, 3) := by decide +kernel
theorem dX10_paper_122 : decode cX10_paper 122 = .ok (.iconst 1, 1) := by decide +kernel
theorem dX10_paper_123 : decode cX10_paper 123 = .ok (.iadd, 1) := by decide +kernel
theorem dX10_paper_124 : decode cX10_paper 124 = .ok (.putfield 91, 3) := by decide +kernel
theorem dX10_paper_127 : decode cX10_paper 127 = .ok (.aload_n 0, 1) := by decide +kernel
theorem dX10_paper_128 : decode cX10_paper 128 = .ok (.getfield 91, 3) := by decide +kernel
theorem dX10_paper_131 : decode cX10_paper 131 = .ok (.iconst 1, 1) := by decide +kernel
theorem dX10_paper_132 : decode cX10_paper 132 = .ok (.isub, 1) := by decide +kernel
theorem dX10_paper_133 : decode cX10_paper 133 = .ok (.ireturn, 1) := by decide +kernel
set_option maxRecDepth 20000 in
theorem ggX10_note_X10_paperAt : GoodIn wsX10_note wsX10_paperAt := goodIn_r _ [11, 12, 13, 14, 15, 10, 16, 40, 41, 42, 43, 44, 45, 46, 47, 48, 49, 50, 51, 52, 53, 54, 55, 56, 57, 58] (by decide +kernel) (by decide +kernel)
set_option maxRecDepth 20000 in
theorem gX10_note_X10_paperAt : GoodIn wsX10_note (wsV RX10 101 RX10 yX10_paperAt wsX10_paperAt) := goodIn_app (goodIn_of _ (by decide +kernel)) ggX10_note_X10_paperAt
set_option maxRecDepth 20000 in
theorem ggX10_note_X10_isWithin : GoodIn wsX10_note wsX10_isWithin := goodIn_r _ [16] (by decide +kernel) (by decide +kernel)
set_option maxRecDepth 20000 in
theorem gX10_note_X10_isWithin : GoodIn wsX10_note (va_wsS RX10 69 yX10_isWithin wsX10_isWithin) := goodIn_app (goodIn_of _ (by decide +kernel)) ggX10_note_X10_isWithin
set_option maxRecDepth 20000 in
theorem ggX10_note_X5_admits : GoodIn wsX10_note wsX5_admits := goodIn_r _ [21, 22, 23, 24, 15, 10, 16, 25, 26, 27, 20, 28, 29, 30, 59, 60, 61, 62, 63, 64, 65, 66, 67, 68, 69, 70] (by decide +kernel) (by decide +kernel)
set_option maxRecDepth 20000 in
theorem gX10_note_X5_admits : GoodIn wsX10_note (wsV RX10 108 RX5 yX5_admits wsX5_admits) := goodIn_app (goodIn_of _ (by decide +kernel)) ggX10_note_X5_admits
set_option maxRecDepth 20000 in
theorem ggX10_note_X4_init : GoodIn wsX10_note wsX4_init := goodIn_r _ [33, 34, 35, 36, 37, 38, 39, 68, 69, 70] (by decide +kernel) (by decide +kernel)
set_option maxRecDepth 20000 in
theorem gX10_note_X4_init : GoodIn wsX10_note (wsX4_init) := ggX10_note_X4_init
theorem dX10_note_0 : decode cX10_note 0 = .ok (.aload_n 0, 1) := by decide +kernel
theorem dX10_note_1 : decode cX10_note 1 = .ok (.iload_n 1, 1) := by decide +kernel
theorem dX10_note_2 : decode cX10_note 2 = .ok (.invokevirtual 101, 3) := by decide +kernel
theorem dX10_note_5 : decode cX10_note 5 = .ok (.astore 4, 2) := by decide +kernel
theorem dX10_note_7 : decode cX10_note 7 = .ok (.aload 4, 2) := by decide +kernel
theorem dX10_note_9 : decode cX10_note 9 = .ok (.ifnull 24, 3) := by decide +kernel
theorem dX10_note_12 : decode cX10_note 12 = .ok (.iload_n 2, 1) := by decide +kernel
theorem dX10_note_13 : decode cX10_note 13 = .ok (.iconst 0, 1) := by decide +kernel
theorem dX10_note_14 : decode cX10_note 14 = .ok (.iconst 2, 1) := by decide +kernel
theorem dX10_note_15 : decode cX10_note 15 = .ok (.invokestatic 69, 3) := by decide +kernel
theorem dX10_note_18 : decode cX10_note 18 = .ok (.ifCond .eq 15, 3) := by decide +kernel
theorem dX10_note_21 : decode cX10_note 21 = .ok (.iload_n 3, 1) := by decide +kernel
theorem dX10_note_22 : decode cX10_note 22 = .ok (.iconst 0, 1) := by decide +kernel
theorem dX10_note_23 : decode cX10_note 23 = .ok (.aload_n 0, 1) := by decide +kernel
theorem dX10_note_24 : decode cX10_note 24 = .ok (.getfield 65, 3) := by decide +kernel
theorem dX10_note_27 : decode cX10_note 27 = .ok (.invokestatic 69, 3) := by decide +kernel
theorem dX10_note_30 : decode cX10_note 30 = .ok (.ifCond .ne 5, 3) := by decide +kernel
theorem dX10_note_33 : decode cX10_note 33 = .ok (.iconst (-1), 1) := by decide +kernel
theorem dX10_note_34 : decode cX10_note 34 = .ok (.ireturn, 1) := by decide +kernel
theorem dX10_note_35 : decode cX10_note 35 = .ok (.aload_n 0, 1) := by decide +kernel
theorem dX10_note_36 : decode cX10_note 36 = .ok (.getfield 105, 3) := by decide +kernel
theorem dX10_note_39 : decode cX10_note 39 = .ok (.bipush 100, 2) := by decide +kernel
theorem dX10_note_41 : decode cX10_note 41 = .ok (.if_icmp .lt 6, 3) := by decide +kernel
theorem dX10_note_44 : decode cX10_note 44 = .ok (.bipush (-2), 2) := by decide +kernel
theorem dX10_note_46 : decode cX10_note 46 = .ok (.ireturn, 1) := by decide +kernel
theorem dX10_note_47 : decode cX10_note 47 = .ok (.aload 4, 2) := by decide +kernel
theorem dX10_note_49 : decode cX10_note 49 = .ok (.iload_n 2, 1) := by decide +kernel
theorem dX10_note_50 : decode cX10_note 50 = .ok (.iload_n 3, 1) := by decide +kernel
theorem dX10_note_51 : decode cX10_note 51 = .ok (.invokevirtual 108, 3) := by decide +kernel
theorem dX10_note_54 : decode cX10_note 54 = .ok (.ifCond .ne 6, 3) := by decide +kernel
theorem dX10_note_57 : decode cX10_note 57 = .ok (.bipush (-4), 2) := by decide +kernel
theorem dX10_note_59 : decode cX10_note 59 = .ok (.ireturn, 1) := by decide +kernel
theorem dX10_note_60 : decode cX10_note 60 = .ok (.aload 4, 2) := by decide +kernel
theorem dX10_note_62 : decode cX10_note 62 = .ok (.getfield 112, 3) := by decide +kernel
theorem dX10_note_65 : decode cX10_note 65 = .ok (.iload_n 2, 1) := by decide +kernel
theorem dX10_note_66 : decode cX10_note 66 = .ok (.new 116, 3) := by decide +kernel
theorem dX10_note_69 : decode cX10_note 69 = .ok (.dup, 1) := by decide +kernel
theorem dX10_note_70 : decode cX10_note 70 = .ok (.iload_n 3, 1) := by decide +kernel
theorem dX10_note_71 : decode cX10_note 71 = .ok (.aload_n 0, 1) := by decide +kernel
theorem dX10_note_72 : decode cX10_note 72 = .ok (.getfield 65, 3) := by decide +kernel
theorem dX10_note_75 : decode cX10_note 75 = .ok (.aload 4, 2) := by decide +kernel
theorem dX10_note_77 : decode cX10_note 77 = .ok (.getfield 112, 3) := by decide +kernel
theorem dX10_note_80 : decode cX10_note 80 = .ok (.iload_n 2, 1) := by decide +kernel
theorem dX10_note_81 : decode cX10_note 81 = .ok (.aaload, 1) := by decide +kernel
theorem dX10_note_82 : decode cX10_note 82 = .ok (.invokespecial 118, 3) := by decide +kernel
theorem dX10_note_85 : decode cX10_note 85 = .ok (.aastore, 1) := by decide +kernel
theorem dX10_note_86 : decode cX10_note 86 = .ok (.aload_n 0, 1) := by decide +kernel
theorem dX10_note_87 : decode cX10_note 87 = .ok (.dup, 1) := by decide +kernel
theorem dX10_note_88 : decode cX10_note 88 = .ok (.getfield 105, 3) := by decide +kernel
theorem dX10_note_91 : decode cX10_note 91 = .ok (.iconst 1, 1) := by decide +kernel
theorem dX10_note_92 : decode cX10_note 92 = .ok (.iadd, 1) := by decide +kernel
theorem dX10_note_93 : decode cX10_note 93 = .ok (.putfield 105, 3) := by decide +kernel
theorem dX10_note_96 : decode cX10_note 96 = .ok (.aload_n 0, 1) := by decide +kernel
theorem dX10_note_97 : decode cX10_note 97 = .ok (.getfield 105, 3) := by decide +kernel
theorem dX10_note_100 : decode cX10_note 100 = .ok (.ireturn, 1) := by decide +kernel
set_option maxRecDepth 20000 in
theorem ggX10_open_X10_paperAt : GoodIn wsX10_open wsX10_paperAt := goodIn_r _ [9, 10, 11, 12, 13, 8, 14, 35, 36, 37, 38, 39, 40, 41, 42, 43, 44, 45, 46, 47, 48, 49, 50, 51, 52, 53] (by decide +kernel) (by decide +kernel)
set_option maxRecDepth 20000 in
theorem gX10_open_X10_paperAt : GoodIn wsX10_open (wsV RX10 101 RX10 yX10_paperAt wsX10_paperAt) := goodIn_app (goodIn_of _ (by decide +kernel)) ggX10_open_X10_paperAt
set_option maxRecDepth 20000 in
theorem ggX10_open_X10_isFellow : GoodIn wsX10_open wsX10_isFellow := goodIn_r _ [18, 19, 12, 13, 8, 14, 35, 36, 37, 38, 39, 40, 41, 42, 43, 44, 45, 46, 47, 48, 49, 50, 51, 52, 53] (by decide +kernel) (by decide +kernel)
set_option maxRecDepth 20000 in
theorem gX10_open_X10_isFellow : GoodIn wsX10_open (wsV RX10 86 RX10 yX10_isFellow wsX10_isFellow) := goodIn_app (goodIn_of _ (by decide +kernel)) ggX10_open_X10_isFellow
set_option maxRecDepth 20000 in
theorem ggX10_open_X10_found : GoodIn wsX10_open wsX10_found := goodIn_r _ [23, 24, 25, 35, 36, 37, 38, 39, 40, 41, 42, 43, 44, 45, 46, 47, 48, 49, 50, 51, 52, 53] (by decide +kernel) (by decide +kernel)
set_option maxRecDepth 20000 in
theorem gX10_open_X10_found : GoodIn wsX10_open (wsV RX10 127 RX10 yX10_found wsX10_found) := goodIn_app (goodIn_of _ (by decide +kernel)) ggX10_open_X10_found
theorem dX10_open_0 : decode cX10_open 0 = .ok (.aload_n 0, 1) := by decide +kernel
theorem dX10_open_1 : decode cX10_open 1 = .ok (.iload_n 1, 1) := by decide +kernel
theorem dX10_open_2 : decode cX10_open 2 = .ok (.invokevirtual 101, 3) := by decide +kernel
theorem dX10_open_5 : decode cX10_open 5 = .ok (.astore 4, 2) := by decide +kernel
theorem dX10_open_7 : decode cX10_open 7 = .ok (.aload 4, 2) := by decide +kernel
theorem dX10_open_9 : decode cX10_open 9 = .ok (.ifnull 42, 3) := by decide +kernel
theorem dX10_open_12 : decode cX10_open 12 = .ok (.aload_n 0, 1) := by decide +kernel
theorem dX10_open_13 : decode cX10_open 13 = .ok (.iload_n 2, 1) := by decide +kernel
theorem dX10_open_14 : decode cX10_open 14 = .ok (.invokevirtual 86, 3) := by decide +kernel
theorem dX10_open_17 : decode cX10_open 17 = .ok (.ifCond .eq 34, 3) := by decide +kernel
theorem dX10_open_20 : decode cX10_open 20 = .ok (.aload_n 0, 1) := by decide +kernel
theorem dX10_open_21 : decode cX10_open 21 = .ok (.iload_n 3, 1) := by decide +kernel
theorem dX10_open_22 : decode cX10_open 22 = .ok (.invokevirtual 86, 3) := by decide +kernel
theorem dX10_open_25 : decode cX10_open 25 = .ok (.ifCond .eq 26, 3) := by decide +kernel
theorem dX10_open_28 : decode cX10_open 28 = .ok (.iload_n 2, 1) := by decide +kernel
theorem dX10_open_29 : decode cX10_open 29 = .ok (.iload_n 3, 1) := by decide +kernel
theorem dX10_open_30 : decode cX10_open 30 = .ok (.if_icmp .eq 21, 3) := by decide +kernel
theorem dX10_open_33 : decode cX10_open 33 = .ok (.iload_n 2, 1) := by decide +kernel
theorem dX10_open_34 : decode cX10_open 34 = .ok (.aload 4, 2) := by decide +kernel
theorem dX10_open_36 : decode cX10_open 36 = .ok (.getfield 121, 3) := by decide +kernel
theorem dX10_open_39 : decode cX10_open 39 = .ok (.if_icmp .eq 12, 3) := by decide +kernel
theorem dX10_open_42 : decode cX10_open 42 = .ok (.iload_n 3, 1) := by decide +kernel
theorem dX10_open_43 : decode cX10_open 43 = .ok (.aload 4, 2) := by decide +kernel
theorem dX10_open_45 : decode cX10_open 45 = .ok (.getfield 121, 3) := by decide +kernel
theorem dX10_open_48 : decode cX10_open 48 = .ok (.if_icmp .ne 5, 3) := by decide +kernel
theorem dX10_open_51 : decode cX10_open 51 = .ok (.iconst (-1), 1) := by decide +kernel
theorem dX10_open_52 : decode cX10_open 52 = .ok (.ireturn, 1) := by decide +kernel
theorem dX10_open_53 : decode cX10_open 53 = .ok (.aload 4, 2) := by decide +kernel
theorem dX10_open_55 : decode cX10_open 55 = .ok (.getfield 124, 3) := by decide +kernel
theorem dX10_open_58 : decode cX10_open 58 = .ok (.iconst 1, 1) := by decide +kernel
theorem dX10_open_59 : decode cX10_open 59 = .ok (.if_icmp .eq 9, 3) := by decide +kernel
theorem dX10_open_62 : decode cX10_open 62 = .ok (.aload_n 0, 1) := by decide +kernel
theorem dX10_open_63 : decode cX10_open 63 = .ok (.iconst 3, 1) := by decide +kernel
theorem dX10_open_64 : decode cX10_open 64 = .ok (.invokevirtual 127, 3) := by decide +kernel
theorem dX10_open_67 : decode cX10_open 67 = .ok (.ireturn, 1) := by decide +kernel
theorem dX10_open_68 : decode cX10_open 68 = .ok (.aload 4, 2) := by decide +kernel
theorem dX10_open_70 : decode cX10_open 70 = .ok (.getfield 131, 3) := by decide +kernel
theorem dX10_open_73 : decode cX10_open 73 = .ok (.bipush (-9), 2) := by decide +kernel
theorem dX10_open_75 : decode cX10_open 75 = .ok (.if_icmp .eq 6, 3) := by decide +kernel
theorem dX10_open_78 : decode cX10_open 78 = .ok (.bipush (-4), 2) := by decide +kernel
theorem dX10_open_80 : decode cX10_open 80 = .ok (.ireturn, 1) := by decide +kernel
theorem dX10_open_81 : decode cX10_open 81 = .ok (.aload 4, 2) := by decide +kernel
theorem dX10_open_83 : decode cX10_open 83 = .ok (.aload_n 0, 1) := by decide +kernel
theorem dX10_open_84 : decode cX10_open 84 = .ok (.getfield 65, 3) := by decide +kernel
theorem dX10_open_87 : decode cX10_open 87 = .ok (.putfield 131, 3) := by decide +kernel
theorem dX10_open_90 : decode cX10_open 90 = .ok (.iconst 1, 1) := by decide +kernel
theorem dX10_open_91 : decode cX10_open 91 = .ok (.ireturn, 1) := by decide +kernel
set_option maxRecDepth 20000 in
theorem ggX10_told_X10_paperAt : GoodIn wsX10_told wsX10_paperAt := goodIn_r _ [9, 10, 11, 12, 13, 8, 14, 31, 32, 33, 34, 35, 36, 37, 38, 39, 40, 41, 42, 43, 44, 45, 46, 47, 48, 49] (by decide +kernel) (by decide +kernel)
set_option maxRecDepth 20000 in
theorem gX10_told_X10_paperAt : GoodIn wsX10_told (wsV RX10 101 RX10 yX10_paperAt wsX10_paperAt) := goodIn_app (goodIn_of _ (by decide +kernel)) ggX10_told_X10_paperAt
set_option maxRecDepth 20000 in
theorem ggX10_told_X5_lastDay : GoodIn wsX10_told wsX5_lastDay := goodIn_r _ [19, 20, 21, 22, 23, 24, 25, 26, 27, 28, 29, 30, 50, 51, 52] (by decide +kernel) (by decide +kernel)
set_option maxRecDepth 20000 in
theorem gX10_told_X5_lastDay : GoodIn wsX10_told (wsV RX10 140 RX5 yX5_lastDay wsX5_lastDay) := goodIn_app (goodIn_of _ (by decide +kernel)) ggX10_told_X5_lastDay
theorem dX10_told_0 : decode cX10_told 0 = .ok (.aload_n 0, 1) := by decide +kernel
theorem dX10_told_1 : decode cX10_told 1 = .ok (.iload_n 1, 1) := by decide +kernel
theorem dX10_told_2 : decode cX10_told 2 = .ok (.invokevirtual 101, 3) := by decide +kernel
theorem dX10_told_5 : decode cX10_told 5 = .ok (.astore_n 3, 1) := by decide +kernel
theorem dX10_told_6 : decode cX10_told 6 = .ok (.aload_n 3, 1) := by decide +kernel
theorem dX10_told_7 : decode cX10_told 7 = .ok (.ifnonnull 5, 3) := by decide +kernel
theorem dX10_told_10 : decode cX10_told 10 = .ok (.iconst (-1), 1) := by decide +kernel
theorem dX10_told_11 : decode cX10_told 11 = .ok (.ireturn, 1) := by decide +kernel
theorem dX10_told_12 : decode cX10_told 12 = .ok (.iload_n 2, 1) := by decide +kernel
theorem dX10_told_13 : decode cX10_told 13 = .ok (.tableswitch 81 0 6 #[43, 48, 53, 58, 63, 69, 75], 43) := by decide +kernel
theorem dX10_told_56 : decode cX10_told 56 = .ok (.aload_n 3, 1) := by decide +kernel
theorem dX10_told_57 : decode cX10_told 57 = .ok (.getfield 124, 3) := by decide +kernel
theorem dX10_told_60 : decode cX10_told 60 = .ok (.ireturn, 1) := by decide +kernel
theorem dX10_told_61 : decode cX10_told 61 = .ok (.aload_n 3, 1) := by decide +kernel
theorem dX10_told_62 : decode cX10_told 62 = .ok (.getfield 121, 3) := by decide +kernel
theorem dX10_told_65 : decode cX10_told 65 = .ok (.ireturn, 1) := by decide +kernel
theorem dX10_told_66 : decode cX10_told 66 = .ok (.aload_n 3, 1) := by decide +kernel
theorem dX10_told_67 : decode cX10_told 67 = .ok (.getfield 134, 3) := by decide +kernel
theorem dX10_told_70 : decode cX10_told 70 = .ok (.ireturn, 1) := by decide +kernel
theorem dX10_told_71 : decode cX10_told 71 = .ok (.aload_n 3, 1) := by decide +kernel
theorem dX10_told_72 : decode cX10_told 72 = .ok (.getfield 137, 3) := by decide +kernel
theorem dX10_told_75 : decode cX10_told 75 = .ok (.ireturn, 1) := by decide +kernel
theorem dX10_told_76 : decode cX10_told 76 = .ok (.aload_n 3, 1) := by decide +kernel
theorem dX10_told_77 : decode cX10_told 77 = .ok (.iconst 0, 1) := by decide +kernel
theorem dX10_told_78 : decode cX10_told 78 = .ok (.invokevirtual 140, 3) := by decide +kernel
theorem dX10_told_81 : decode cX10_told 81 = .ok (.ireturn, 1) := by decide +kernel
theorem dX10_told_82 : decode cX10_told 82 = .ok (.aload_n 3, 1) := by decide +kernel
theorem dX10_told_83 : decode cX10_told 83 = .ok (.iconst 1, 1) := by decide +kernel
theorem dX10_told_84 : decode cX10_told 84 = .ok (.invokevirtual 140, 3) := by decide +kernel
theorem dX10_told_87 : decode cX10_told 87 = .ok (.ireturn, 1) := by decide +kernel
theorem dX10_told_88 : decode cX10_told 88 = .ok (.aload_n 3, 1) := by decide +kernel
theorem dX10_told_89 : decode cX10_told 89 = .ok (.iconst 2, 1) := by decide +kernel
theorem dX10_told_90 : decode cX10_told 90 = .ok (.invokevirtual 140, 3) := by decide +kernel
theorem dX10_told_93 : decode cX10_told 93 = .ok (.ireturn, 1) := by decide +kernel
theorem dX10_told_94 : decode cX10_told 94 = .ok (.iconst (-1), 1) := by decide +kernel
theorem dX10_told_95 : decode cX10_told 95 = .ok (.ireturn, 1) := by decide +kernel
set_option maxRecDepth 20000 in
theorem ggX10_mark_X10_paperAt : GoodIn wsX10_mark wsX10_paperAt := goodIn_r _ [9, 10, 11, 12, 13, 8, 14, 37, 38, 39, 40, 41, 42, 43, 44, 45, 46, 47, 48, 49, 50, 51, 52, 53, 54, 55] (by decide +kernel) (by decide +kernel)
set_option maxRecDepth 20000 in
theorem gX10_mark_X10_paperAt : GoodIn wsX10_mark (wsV RX10 101 RX10 yX10_paperAt wsX10_paperAt) := goodIn_app (goodIn_of _ (by decide +kernel)) ggX10_mark_X10_paperAt
set_option maxRecDepth 20000 in
theorem ggX10_mark_X10_isWithin : GoodIn wsX10_mark wsX10_isWithin := goodIn_r _ [14] (by decide +kernel) (by decide +kernel)
set_option maxRecDepth 20000 in
theorem gX10_mark_X10_isWithin : GoodIn wsX10_mark (va_wsS RX10 69 yX10_isWithin wsX10_isWithin) := goodIn_app (goodIn_of _ (by decide +kernel)) ggX10_mark_X10_isWithin
set_option maxRecDepth 20000 in
theorem ggX10_mark_J6_bitCount_0f7a4 : GoodIn wsX10_mark wsJ6_bitCount_0f7a4 := goodIn_r _ [18, 19, 20, 21] (by decide +kernel) (by decide +kernel)
set_option maxRecDepth 20000 in
theorem gX10_mark_J6_bitCount_0f7a4 : GoodIn wsX10_mark (va_wsS RX10 143 yJ6_bitCount_0f7a4 wsJ6_bitCount_0f7a4) := goodIn_app (goodIn_of _ (by decide +kernel)) ggX10_mark_J6_bitCount_0f7a4
set_option maxRecDepth 20000 in
theorem ggX10_mark_X10_found : GoodIn wsX10_mark wsX10_found := goodIn_r _ [25, 26, 27, 37, 38, 39, 40, 41, 42, 43, 44, 45, 46, 47, 48, 49, 50, 51, 52, 53, 54, 55] (by decide +kernel) (by decide +kernel)
set_option maxRecDepth 20000 in
theorem gX10_mark_X10_found : GoodIn wsX10_mark (wsV RX10 127 RX10 yX10_found wsX10_found) := goodIn_app (goodIn_of _ (by decide +kernel)) ggX10_mark_X10_found
theorem dX10_mark_0 : decode cX10_mark 0 = .ok (.aload_n 0, 1) := by decide +kernel
theorem dX10_mark_1 : decode cX10_mark 1 = .ok (.iload_n 1, 1) := by decide +kernel
theorem dX10_mark_2 : decode cX10_mark 2 = .ok (.invokevirtual 101, 3) := by decide +kernel
theorem dX10_mark_5 : decode cX10_mark 5 = .ok (.astore_n 3, 1) := by decide +kernel
theorem dX10_mark_6 : decode cX10_mark 6 = .ok (.aload_n 3, 1) := by decide +kernel
theorem dX10_mark_7 : decode cX10_mark 7 = .ok (.ifnull 12, 3) := by decide +kernel
theorem dX10_mark_10 : decode cX10_mark 10 = .ok (.iload_n 2, 1) := by decide +kernel
theorem dX10_mark_11 : decode cX10_mark 11 = .ok (.iconst 0, 1) := by decide +kernel
theorem dX10_mark_12 : decode cX10_mark 12 = .ok (.iconst 2, 1) := by decide +kernel
theorem dX10_mark_13 : decode cX10_mark 13 = .ok (.invokestatic 69, 3) := by decide +kernel
theorem dX10_mark_16 : decode cX10_mark 16 = .ok (.ifCond .ne 5, 3) := by decide +kernel
theorem dX10_mark_19 : decode cX10_mark 19 = .ok (.iconst (-1), 1) := by decide +kernel
theorem dX10_mark_20 : decode cX10_mark 20 = .ok (.ireturn, 1) := by decide +kernel
theorem dX10_mark_21 : decode cX10_mark 21 = .ok (.iload_n 2, 1) := by decide +kernel
theorem dX10_mark_22 : decode cX10_mark 22 = .ok (.ifCond .ne 11, 3) := by decide +kernel
theorem dX10_mark_25 : decode cX10_mark 25 = .ok (.aload_n 3, 1) := by decide +kernel
theorem dX10_mark_26 : decode cX10_mark 26 = .ok (.getfield 134, 3) := by decide +kernel
theorem dX10_mark_29 : decode cX10_mark 29 = .ok (.invokestatic 143, 3) := by decide +kernel
theorem dX10_mark_32 : decode cX10_mark 32 = .ok (.ireturn, 1) := by decide +kernel
theorem dX10_mark_33 : decode cX10_mark 33 = .ok (.aload_n 3, 1) := by decide +kernel
theorem dX10_mark_34 : decode cX10_mark 34 = .ok (.getfield 124, 3) := by decide +kernel
theorem dX10_mark_37 : decode cX10_mark 37 = .ok (.iload_n 2, 1) := by decide +kernel
theorem dX10_mark_38 : decode cX10_mark 38 = .ok (.if_icmp .eq 9, 3) := by decide +kernel
theorem dX10_mark_41 : decode cX10_mark 41 = .ok (.aload_n 0, 1) := by decide +kernel
theorem dX10_mark_42 : decode cX10_mark 42 = .ok (.iconst 3, 1) := by decide +kernel
theorem dX10_mark_43 : decode cX10_mark 43 = .ok (.invokevirtual 127, 3) := by decide +kernel
theorem dX10_mark_46 : decode cX10_mark 46 = .ok (.ireturn, 1) := by decide +kernel
theorem dX10_mark_47 : decode cX10_mark 47 = .ok (.iload_n 2, 1) := by decide +kernel
theorem dX10_mark_48 : decode cX10_mark 48 = .ok (.iconst 1, 1) := by decide +kernel
theorem dX10_mark_49 : decode cX10_mark 49 = .ok (.if_icmp .ne 10, 3) := by decide +kernel
theorem dX10_mark_52 : decode cX10_mark 52 = .ok (.aload_n 3, 1) := by decide +kernel
theorem dX10_mark_53 : decode cX10_mark 53 = .ok (.getfield 131, 3) := by decide +kernel
theorem dX10_mark_56 : decode cX10_mark 56 = .ok (.goto 7, 3) := by decide +kernel
theorem dX10_mark_59 : decode cX10_mark 59 = .ok (.aload_n 3, 1) := by decide +kernel
theorem dX10_mark_60 : decode cX10_mark 60 = .ok (.getfield 148, 3) := by decide +kernel
theorem dX10_mark_63 : decode cX10_mark 63 = .ok (.ireturn, 1) := by decide +kernel
set_option maxRecDepth 20000 in
theorem ggX10_known_X10_paperAt : GoodIn wsX10_known wsX10_paperAt := goodIn_r _ [5, 6, 7, 8, 9, 4, 10, 23, 24, 25, 26, 27, 28, 29, 30, 31, 32, 33, 34, 35, 36, 37, 38, 39, 40, 41] (by decide +kernel) (by decide +kernel)
set_option maxRecDepth 20000 in
theorem gX10_known_X10_paperAt : GoodIn wsX10_known (wsV RX10 101 RX10 yX10_paperAt wsX10_paperAt) := goodIn_app (goodIn_of _ (by decide +kernel)) ggX10_known_X10_paperAt
set_option maxRecDepth 20000 in
theorem ggX10_known_X10_isWithin : GoodIn wsX10_known wsX10_isWithin := goodIn_r _ [10] (by decide +kernel) (by decide +kernel)
set_option maxRecDepth 20000 in
theorem gX10_known_X10_isWithin : GoodIn wsX10_known (va_wsS RX10 69 yX10_isWithin wsX10_isWithin) := goodIn_app (goodIn_of _ (by decide +kernel)) ggX10_known_X10_isWithin
set_option maxRecDepth 20000 in
theorem ggX10_known_X10_isDay : GoodIn wsX10_known wsX10_isDay := goodIn_r _ [13, 8, 9, 4, 10] (by decide +kernel) (by decide +kernel)
set_option maxRecDepth 20000 in
theorem gX10_known_X10_isDay : GoodIn wsX10_known (va_wsS RX10 151 yX10_isDay wsX10_isDay) := goodIn_app (goodIn_of _ (by decide +kernel)) ggX10_known_X10_isDay
set_option maxRecDepth 20000 in
theorem ggX10_known_X5_dayKnown : GoodIn wsX10_known wsX5_dayKnown := goodIn_r _ [18, 19, 20, 21, 22, 42, 43, 44, 45, 46, 47, 48, 49, 50, 51, 52, 53] (by decide +kernel) (by decide +kernel)
set_option maxRecDepth 20000 in
theorem gX10_known_X5_dayKnown : GoodIn wsX10_known (wsV RX10 154 RX5 yX5_dayKnown wsX5_dayKnown) := goodIn_app (goodIn_of _ (by decide +kernel)) ggX10_known_X5_dayKnown
theorem dX10_known_0 : decode cX10_known 0 = .ok (.aload_n 0, 1) := by decide +kernel
theorem dX10_known_1 : decode cX10_known 1 = .ok (.iload_n 1, 1) := by decide +kernel
theorem dX10_known_2 : decode cX10_known 2 = .ok (.invokevirtual 101, 3) := by decide +kernel
theorem dX10_known_5 : decode cX10_known 5 = .ok (.astore 4, 2) := by decide +kernel
theorem dX10_known_7 : decode cX10_known 7 = .ok (.aload 4, 2) := by decide +kernel
theorem dX10_known_9 : decode cX10_known 9 = .ok (.ifnull 19, 3) := by decide +kernel
theorem dX10_known_12 : decode cX10_known 12 = .ok (.iload_n 2, 1) := by decide +kernel
theorem dX10_known_13 : decode cX10_known 13 = .ok (.iconst 0, 1) := by decide +kernel
theorem dX10_known_14 : decode cX10_known 14 = .ok (.iconst 2, 1) := by decide +kernel
theorem dX10_known_15 : decode cX10_known 15 = .ok (.invokestatic 69, 3) := by decide +kernel
theorem dX10_known_18 : decode cX10_known 18 = .ok (.ifCond .eq 10, 3) := by decide +kernel
theorem dX10_known_21 : decode cX10_known 21 = .ok (.iload_n 3, 1) := by decide +kernel
theorem dX10_known_22 : decode cX10_known 22 = .ok (.invokestatic 151, 3) := by decide +kernel
theorem dX10_known_25 : decode cX10_known 25 = .ok (.ifCond .ne 5, 3) := by decide +kernel
theorem dX10_known_28 : decode cX10_known 28 = .ok (.iconst (-1), 1) := by decide +kernel
theorem dX10_known_29 : decode cX10_known 29 = .ok (.ireturn, 1) := by decide +kernel
theorem dX10_known_30 : decode cX10_known 30 = .ok (.aload 4, 2) := by decide +kernel
theorem dX10_known_32 : decode cX10_known 32 = .ok (.iload_n 2, 1) := by decide +kernel
theorem dX10_known_33 : decode cX10_known 33 = .ok (.iload_n 3, 1) := by decide +kernel
theorem dX10_known_34 : decode cX10_known 34 = .ok (.invokevirtual 154, 3) := by decide +kernel
theorem dX10_known_37 : decode cX10_known 37 = .ok (.ireturn, 1) := by decide +kernel
set_option maxRecDepth 20000 in
theorem ggX10_statute_X10_isDay : GoodIn wsX10_statute wsX10_isDay := goodIn_r _ [9, 10, 11, 8, 12] (by decide +kernel) (by decide +kernel)
set_option maxRecDepth 20000 in
theorem gX10_statute_X10_isDay : GoodIn wsX10_statute (va_wsS RX10 151 yX10_isDay wsX10_isDay) := goodIn_app (goodIn_of _ (by decide +kernel)) ggX10_statute_X10_isDay
set_option maxRecDepth 20000 in
theorem ggX10_statute_X10_isWithin : GoodIn wsX10_statute wsX10_isWithin := goodIn_r _ [12] (by decide +kernel) (by decide +kernel)
set_option maxRecDepth 20000 in
theorem gX10_statute_X10_isWithin : GoodIn wsX10_statute (va_wsS RX10 69 yX10_isWithin wsX10_isWithin) := goodIn_app (goodIn_of _ (by decide +kernel)) ggX10_statute_X10_isWithin
set_option maxRecDepth 20000 in
theorem ggX10_statute_X9_init : GoodIn wsX10_statute wsX9_init := goodIn_r _ [15, 16, 17, 18, 19, 20, 21, 22, 23, 24, 25, 45, 46, 47, 48, 49, 50, 51, 52, 53] (by decide +kernel) (by decide +kernel)
set_option maxRecDepth 20000 in
theorem gX10_statute_X9_init : GoodIn wsX10_statute (wsX9_init) := ggX10_statute_X9_init
theorem dX10_statute_0 : decode cX10_statute 0 = .ok (.iload_n 1, 1) := by decide +kernel
theorem dX10_statute_1 : decode cX10_statute 1 = .ok (.invokestatic 151, 3) := by decide +kernel
theorem dX10_statute_4 : decode cX10_statute 4 = .ok (.ifCond .eq 12, 3) := by decide +kernel
theorem dX10_statute_7 : decode cX10_statute 7 = .ok (.iload_n 2, 1) := by decide +kernel
theorem dX10_statute_8 : decode cX10_statute 8 = .ok (.iconst 0, 1) := by decide +kernel
theorem dX10_statute_9 : decode cX10_statute 9 = .ok (.iconst 2, 1) := by decide +kernel
theorem dX10_statute_10 : decode cX10_statute 10 = .ok (.invokestatic 69, 3) := by decide +kernel
theorem dX10_statute_13 : decode cX10_statute 13 = .ok (.ifCond .ne 5, 3) := by decide +kernel
theorem dX10_statute_16 : decode cX10_statute 16 = .ok (.iconst (-1), 1) := by decide +kernel
theorem dX10_statute_17 : decode cX10_statute 17 = .ok (.ireturn, 1) := by decide +kernel
theorem dX10_statute_18 : decode cX10_statute 18 = .ok (.aload_n 0, 1) := by decide +kernel
theorem dX10_statute_19 : decode cX10_statute 19 = .ok (.getfield 158, 3) := by decide +kernel
theorem dX10_statute_22 : decode cX10_statute 22 = .ok (.bipush 12, 2) := by decide +kernel
theorem dX10_statute_24 : decode cX10_statute 24 = .ok (.if_icmp .lt 6, 3) := by decide +kernel
theorem dX10_statute_27 : decode cX10_statute 27 = .ok (.bipush (-2), 2) := by decide +kernel
theorem dX10_statute_29 : decode cX10_statute 29 = .ok (.ireturn, 1) := by decide +kernel
theorem dX10_statute_30 : decode cX10_statute 30 = .ok (.aload_n 0, 1) := by decide +kernel
theorem dX10_statute_31 : decode cX10_statute 31 = .ok (.getfield 23, 3) := by decide +kernel
theorem dX10_statute_34 : decode cX10_statute 34 = .ok (.aload_n 0, 1) := by decide +kernel
theorem dX10_statute_35 : decode cX10_statute 35 = .ok (.getfield 158, 3) := by decide +kernel
theorem dX10_statute_38 : decode cX10_statute 38 = .ok (.new 21, 3) := by decide +kernel
theorem dX10_statute_41 : decode cX10_statute 41 = .ok (.dup, 1) := by decide +kernel
theorem dX10_statute_42 : decode cX10_statute 42 = .ok (.iload_n 1, 1) := by decide +kernel
theorem dX10_statute_43 : decode cX10_statute 43 = .ok (.iload_n 2, 1) := by decide +kernel
theorem dX10_statute_44 : decode cX10_statute 44 = .ok (.iload_n 3, 1) := by decide +kernel
theorem dX10_statute_45 : decode cX10_statute 45 = .ok (.invokespecial 161, 3) := by decide +kernel
theorem dX10_statute_48 : decode cX10_statute 48 = .ok (.aastore, 1) := by decide +kernel
theorem dX10_statute_49 : decode cX10_statute 49 = .ok (.aload_n 0, 1) := by decide +kernel
theorem dX10_statute_50 : decode cX10_statute 50 = .ok (.dup, 1) := by decide +kernel
theorem dX10_statute_51 : decode cX10_statute 51 = .ok (.getfield 158, 3) := by decide +kernel
theorem dX10_statute_54 : decode cX10_statute 54 = .ok (.iconst 1, 1) := by decide +kernel
theorem dX10_statute_55 : decode cX10_statute 55 = .ok (.iadd, 1) := by decide +kernel
theorem dX10_statute_56 : decode cX10_statute 56 = .ok (.putfield 158, 3) := by decide +kernel
theorem dX10_statute_59 : decode cX10_statute 59 = .ok (.aload_n 0, 1) := by decide +kernel
theorem dX10_statute_60 : decode cX10_statute 60 = .ok (.getfield 158, 3) := by decide +kernel
theorem dX10_statute_63 : decode cX10_statute 63 = .ok (.iconst 1, 1) := by decide +kernel
theorem dX10_statute_64 : decode cX10_statute 64 = .ok (.isub, 1) := by decide +kernel
theorem dX10_statute_65 : decode cX10_statute 65 = .ok (.ireturn, 1) := by decide +kernel
set_option maxRecDepth 20000 in
theorem ggX10_force_X10_isDay : GoodIn wsX10_force wsX10_isDay := goodIn_r _ [6, 7, 8, 5, 9] (by decide +kernel) (by decide +kernel)
set_option maxRecDepth 20000 in
theorem gX10_force_X10_isDay : GoodIn wsX10_force (va_wsS RX10 151 yX10_isDay wsX10_isDay) := goodIn_app (goodIn_of _ (by decide +kernel)) ggX10_force_X10_isDay
set_option maxRecDepth 20000 in
theorem ggX10_force_X10_inForce : GoodIn wsX10_force wsX10_inForce := goodIn_r _ [12, 13, 33, 34, 35, 36, 37, 38, 39, 40, 41] (by decide +kernel) (by decide +kernel)
set_option maxRecDepth 20000 in
theorem gX10_force_X10_inForce : GoodIn wsX10_force (va_wsS RX10 164 yX10_inForce wsX10_inForce) := goodIn_app (goodIn_of _ (by decide +kernel)) ggX10_force_X10_inForce
theorem dX10_force_0 : decode cX10_force 0 = .ok (.iload_n 1, 1) := by decide +kernel
theorem dX10_force_1 : decode cX10_force 1 = .ok (.invokestatic 151, 3) := by decide +kernel
theorem dX10_force_4 : decode cX10_force 4 = .ok (.ifCond .ne 5, 3) := by decide +kernel
theorem dX10_force_7 : decode cX10_force 7 = .ok (.iconst (-1), 1) := by decide +kernel
theorem dX10_force_8 : decode cX10_force 8 = .ok (.ireturn, 1) := by decide +kernel
theorem dX10_force_9 : decode cX10_force 9 = .ok (.aload_n 0, 1) := by decide +kernel
theorem dX10_force_10 : decode cX10_force 10 = .ok (.getfield 23, 3) := by decide +kernel
theorem dX10_force_13 : decode cX10_force 13 = .ok (.aload_n 0, 1) := by decide +kernel
theorem dX10_force_14 : decode cX10_force 14 = .ok (.getfield 158, 3) := by decide +kernel
theorem dX10_force_17 : decode cX10_force 17 = .ok (.iload_n 1, 1) := by decide +kernel
theorem dX10_force_18 : decode cX10_force 18 = .ok (.invokestatic 164, 3) := by decide +kernel
theorem dX10_force_21 : decode cX10_force 21 = .ok (.ireturn, 1) := by decide +kernel
set_option maxRecDepth 20000 in
theorem ggX10_when_X10_paperAt : GoodIn wsX10_when wsX10_paperAt := goodIn_r _ [7, 8, 9, 10, 11, 6, 12, 36, 37, 38, 39, 40, 41, 42, 43, 44, 45, 46, 47, 48, 49, 50, 51, 52, 53, 54] (by decide +kernel) (by decide +kernel)
set_option maxRecDepth 20000 in
theorem gX10_when_X10_paperAt : GoodIn wsX10_when (wsV RX10 101 RX10 yX10_paperAt wsX10_paperAt) := goodIn_app (goodIn_of _ (by decide +kernel)) ggX10_when_X10_paperAt
set_option maxRecDepth 20000 in
theorem ggX10_when_X10_isWithin : GoodIn wsX10_when wsX10_isWithin := goodIn_r _ [12] (by decide +kernel) (by decide +kernel)
set_option maxRecDepth 20000 in
theorem gX10_when_X10_isWithin : GoodIn wsX10_when (va_wsS RX10 69 yX10_isWithin wsX10_isWithin) := goodIn_app (goodIn_of _ (by decide +kernel)) ggX10_when_X10_isWithin
set_option maxRecDepth 20000 in
theorem ggX10_when_X10_isDay : GoodIn wsX10_when wsX10_isDay := goodIn_r _ [15, 10, 11, 6, 12] (by decide +kernel) (by decide +kernel)
set_option maxRecDepth 20000 in
theorem gX10_when_X10_isDay : GoodIn wsX10_when (va_wsS RX10 151 yX10_isDay wsX10_isDay) := goodIn_app (goodIn_of _ (by decide +kernel)) ggX10_when_X10_isDay
set_option maxRecDepth 20000 in
theorem ggX10_when_X5_proved : GoodIn wsX10_when wsX5_proved := goodIn_r _ [20, 21, 22, 23, 24, 25, 26, 27, 28, 29, 30, 19, 31, 32, 33, 34, 35, 55, 56, 57, 58, 59, 60, 61, 62, 63, 64, 65, 66, 67, 68, 69] (by decide +kernel) (by decide +kernel)
set_option maxRecDepth 20000 in
theorem gX10_when_X5_proved : GoodIn wsX10_when (wsV RX10 168 RX5 yX5_proved wsX5_proved) := goodIn_app (goodIn_of _ (by decide +kernel)) ggX10_when_X5_proved
theorem dX10_when_0 : decode cX10_when 0 = .ok (.aload_n 0, 1) := by decide +kernel
theorem dX10_when_1 : decode cX10_when 1 = .ok (.iload_n 1, 1) := by decide +kernel
theorem dX10_when_2 : decode cX10_when 2 = .ok (.invokevirtual 101, 3) := by decide +kernel
theorem dX10_when_5 : decode cX10_when 5 = .ok (.astore 5, 2) := by decide +kernel
theorem dX10_when_7 : decode cX10_when 7 = .ok (.aload 5, 2) := by decide +kernel
theorem dX10_when_9 : decode cX10_when 9 = .ok (.ifnull 24, 3) := by decide +kernel
theorem dX10_when_12 : decode cX10_when 12 = .ok (.iload_n 2, 1) := by decide +kernel
theorem dX10_when_13 : decode cX10_when 13 = .ok (.iconst 0, 1) := by decide +kernel
theorem dX10_when_14 : decode cX10_when 14 = .ok (.aload_n 0, 1) := by decide +kernel
theorem dX10_when_15 : decode cX10_when 15 = .ok (.getfield 158, 3) := by decide +kernel
theorem dX10_when_18 : decode cX10_when 18 = .ok (.iconst 1, 1) := by decide +kernel
theorem dX10_when_19 : decode cX10_when 19 = .ok (.isub, 1) := by decide +kernel
theorem dX10_when_20 : decode cX10_when 20 = .ok (.invokestatic 69, 3) := by decide +kernel
theorem dX10_when_23 : decode cX10_when 23 = .ok (.ifCond .eq 10, 3) := by decide +kernel
theorem dX10_when_26 : decode cX10_when 26 = .ok (.iload_n 3, 1) := by decide +kernel
theorem dX10_when_27 : decode cX10_when 27 = .ok (.invokestatic 151, 3) := by decide +kernel
theorem dX10_when_30 : decode cX10_when 30 = .ok (.ifCond .ne 5, 3) := by decide +kernel
theorem dX10_when_33 : decode cX10_when 33 = .ok (.iconst (-1), 1) := by decide +kernel
theorem dX10_when_34 : decode cX10_when 34 = .ok (.ireturn, 1) := by decide +kernel
theorem dX10_when_35 : decode cX10_when 35 = .ok (.aload 5, 2) := by decide +kernel
theorem dX10_when_37 : decode cX10_when 37 = .ok (.aload_n 0, 1) := by decide +kernel
theorem dX10_when_38 : decode cX10_when 38 = .ok (.getfield 23, 3) := by decide +kernel
theorem dX10_when_41 : decode cX10_when 41 = .ok (.iload_n 2, 1) := by decide +kernel
theorem dX10_when_42 : decode cX10_when 42 = .ok (.aaload, 1) := by decide +kernel
theorem dX10_when_43 : decode cX10_when 43 = .ok (.iload_n 3, 1) := by decide +kernel
theorem dX10_when_44 : decode cX10_when 44 = .ok (.iload 4, 2) := by decide +kernel
theorem dX10_when_46 : decode cX10_when 46 = .ok (.invokevirtual 168, 3) := by decide +kernel
theorem dX10_when_49 : decode cX10_when 49 = .ok (.ireturn, 1) := by decide +kernel
set_option maxRecDepth 20000 in
theorem ggX10_first_X10_isWithin : GoodIn wsX10_first wsX10_isWithin := goodIn_r _ [7] (by decide +kernel) (by decide +kernel)
set_option maxRecDepth 20000 in
theorem gX10_first_X10_isWithin : GoodIn wsX10_first (va_wsS RX10 69 yX10_isWithin wsX10_isWithin) := goodIn_app (goodIn_of _ (by decide +kernel)) ggX10_first_X10_isWithin
set_option maxRecDepth 20000 in
theorem ggX10_first_X10_isDay : GoodIn wsX10_first wsX10_isDay := goodIn_r _ [10, 4, 5, 6, 7] (by decide +kernel) (by decide +kernel)
set_option maxRecDepth 20000 in
theorem gX10_first_X10_isDay : GoodIn wsX10_first (va_wsS RX10 151 yX10_isDay wsX10_isDay) := goodIn_app (goodIn_of _ (by decide +kernel)) ggX10_first_X10_isDay
set_option maxRecDepth 20000 in
theorem ggX10_first_X10_inForce : GoodIn wsX10_first wsX10_inForce := goodIn_r _ [13, 14, 80, 81, 82, 83, 84, 85, 86, 87, 88] (by decide +kernel) (by decide +kernel)
set_option maxRecDepth 20000 in
theorem gX10_first_X10_inForce : GoodIn wsX10_first (va_wsS RX10 164 yX10_inForce wsX10_inForce) := goodIn_app (goodIn_of _ (by decide +kernel)) ggX10_first_X10_inForce
set_option maxRecDepth 20000 in
theorem ggX10_first_X10_firstWith : GoodIn wsX10_first wsX10_firstWith := goodIn_r _ [18, 19, 20, 21, 22, 23, 6, 24, 25, 26, 27, 28, 29, 30, 31, 32, 33, 34, 35, 36, 37, 38, 39, 40, 41, 42, 43, 44, 45, 46, 47, 48, 49, 50, 51, 52, 53, 61, 62, 63, 64, 65, 66, 67, 68, 69, 70, 71, 72, 73, 74, 75, 76, 77, 78, 79, 89, 90, 91, 92, 93, 94, 95, 96, 97, 86, 87, 88, 98, 99, 100] (by decide +kernel) (by decide +kernel)
set_option maxRecDepth 20000 in
theorem gX10_first_X10_firstWith : GoodIn wsX10_first (wsV RX10 172 RX10 yX10_firstWith wsX10_firstWith) := goodIn_app (goodIn_of _ (by decide +kernel)) ggX10_first_X10_firstWith
set_option maxRecDepth 20000 in
theorem ggX10_first_J6_bitCount_0f7a4 : GoodIn wsX10_first wsJ6_bitCount_0f7a4 := goodIn_r _ [57, 58, 59, 60] (by decide +kernel) (by decide +kernel)
set_option maxRecDepth 20000 in
theorem gX10_first_J6_bitCount_0f7a4 : GoodIn wsX10_first (va_wsS RX10 143 yJ6_bitCount_0f7a4 wsJ6_bitCount_0f7a4) := goodIn_app (goodIn_of _ (by decide +kernel)) ggX10_first_J6_bitCount_0f7a4
theorem dX10_first_0 : decode cX10_first 0 = .ok (.iload_n 1, 1) := by decide +kernel
theorem dX10_first_1 : decode cX10_first 1 = .ok (.iconst 0, 1) := by decide +kernel
theorem dX10_first_2 : decode cX10_first 2 = .ok (.bipush 15, 2) := by decide +kernel
theorem dX10_first_4 : decode cX10_first 4 = .ok (.invokestatic 69, 3) := by decide +kernel
theorem dX10_first_7 : decode cX10_first 7 = .ok (.ifCond .eq 17, 3) := by decide +kernel
theorem dX10_first_10 : decode cX10_first 10 = .ok (.iload_n 2, 1) := by decide +kernel
theorem dX10_first_11 : decode cX10_first 11 = .ok (.invokestatic 151, 3) := by decide +kernel
theorem dX10_first_14 : decode cX10_first 14 = .ok (.ifCond .eq 10, 3) := by decide +kernel
theorem dX10_first_17 : decode cX10_first 17 = .ok (.iload_n 3, 1) := by decide +kernel
theorem dX10_first_18 : decode cX10_first 18 = .ok (.invokestatic 151, 3) := by decide +kernel
theorem dX10_first_21 : decode cX10_first 21 = .ok (.ifCond .ne 5, 3) := by decide +kernel
theorem dX10_first_24 : decode cX10_first 24 = .ok (.iconst (-1), 1) := by decide +kernel
theorem dX10_first_25 : decode cX10_first 25 = .ok (.ireturn, 1) := by decide +kernel
theorem dX10_first_26 : decode cX10_first 26 = .ok (.aload_n 0, 1) := by decide +kernel
theorem dX10_first_27 : decode cX10_first 27 = .ok (.getfield 23, 3) := by decide +kernel
theorem dX10_first_30 : decode cX10_first 30 = .ok (.aload_n 0, 1) := by decide +kernel
theorem dX10_first_31 : decode cX10_first 31 = .ok (.getfield 158, 3) := by decide +kernel
theorem dX10_first_34 : decode cX10_first 34 = .ok (.iload_n 2, 1) := by decide +kernel
theorem dX10_first_35 : decode cX10_first 35 = .ok (.invokestatic 164, 3) := by decide +kernel
theorem dX10_first_38 : decode cX10_first 38 = .ok (.istore 4, 2) := by decide +kernel
theorem dX10_first_40 : decode cX10_first 40 = .ok (.iload 4, 2) := by decide +kernel
theorem dX10_first_42 : decode cX10_first 42 = .ok (.bipush (-9), 2) := by decide +kernel
theorem dX10_first_44 : decode cX10_first 44 = .ok (.if_icmp .ne 6, 3) := by decide +kernel
theorem dX10_first_47 : decode cX10_first 47 = .ok (.bipush (-4), 2) := by decide +kernel
theorem dX10_first_49 : decode cX10_first 49 = .ok (.ireturn, 1) := by decide +kernel
theorem dX10_first_50 : decode cX10_first 50 = .ok (.aload_n 0, 1) := by decide +kernel
theorem dX10_first_51 : decode cX10_first 51 = .ok (.aload_n 0, 1) := by decide +kernel
theorem dX10_first_52 : decode cX10_first 52 = .ok (.iload_n 1, 1) := by decide +kernel
theorem dX10_first_53 : decode cX10_first 53 = .ok (.aload_n 0, 1) := by decide +kernel
theorem dX10_first_54 : decode cX10_first 54 = .ok (.getfield 23, 3) := by decide +kernel
theorem dX10_first_57 : decode cX10_first 57 = .ok (.iload 4, 2) := by decide +kernel
theorem dX10_first_59 : decode cX10_first 59 = .ok (.aaload, 1) := by decide +kernel
theorem dX10_first_60 : decode cX10_first 60 = .ok (.iload_n 3, 1) := by decide +kernel
theorem dX10_first_61 : decode cX10_first 61 = .ok (.invokevirtual 172, 3) := by decide +kernel
theorem dX10_first_64 : decode cX10_first 64 = .ok (.putfield 176, 3) := by decide +kernel
theorem dX10_first_67 : decode cX10_first 67 = .ok (.aload_n 0, 1) := by decide +kernel
theorem dX10_first_68 : decode cX10_first 68 = .ok (.getfield 176, 3) := by decide +kernel
theorem dX10_first_71 : decode cX10_first 71 = .ok (.invokestatic 143, 3) := by decide +kernel
theorem dX10_first_74 : decode cX10_first 74 = .ok (.ireturn, 1) := by decide +kernel
set_option maxRecDepth 20000 in
theorem ggX10_mean_X5_lastDay : GoodIn wsX10_mean wsX5_lastDay := goodIn_r _ [7, 8, 9, 36, 37, 38, 39, 40, 41, 42, 43, 44, 45, 46, 47] (by decide +kernel) (by decide +kernel)
set_option maxRecDepth 20000 in
theorem gX10_mean_X5_lastDay : GoodIn wsX10_mean (wsV RX10 140 RX5 yX5_lastDay wsX5_lastDay) := goodIn_app (goodIn_of _ (by decide +kernel)) ggX10_mean_X5_lastDay
set_option maxRecDepth 20000 in
theorem ggX10_mean_X10_found : GoodIn wsX10_mean wsX10_found := goodIn_r _ [14, 15, 16, 17, 18, 19, 20, 21, 22, 23, 24, 25, 26, 27, 28, 29, 30, 31, 32, 33, 34, 35] (by decide +kernel) (by decide +kernel)
set_option maxRecDepth 20000 in
theorem gX10_mean_X10_found : GoodIn wsX10_mean (wsV RX10 127 RX10 yX10_found wsX10_found) := goodIn_app (goodIn_of _ (by decide +kernel)) ggX10_mean_X10_found
theorem dX10_mean_0 : decode cX10_mean 0 = .ok (.iconst 0, 1) := by decide +kernel
theorem dX10_mean_1 : decode cX10_mean 1 = .ok (.istore_n 1, 1) := by decide +kernel
theorem dX10_mean_2 : decode cX10_mean 2 = .ok (.iconst 0, 1) := by decide +kernel
theorem dX10_mean_3 : decode cX10_mean 3 = .ok (.istore_n 2, 1) := by decide +kernel
theorem dX10_mean_4 : decode cX10_mean 4 = .ok (.iconst 0, 1) := by decide +kernel
theorem dX10_mean_5 : decode cX10_mean 5 = .ok (.istore_n 3, 1) := by decide +kernel
theorem dX10_mean_6 : decode cX10_mean 6 = .ok (.iload_n 3, 1) := by decide +kernel
theorem dX10_mean_7 : decode cX10_mean 7 = .ok (.aload_n 0, 1) := by decide +kernel
theorem dX10_mean_8 : decode cX10_mean 8 = .ok (.getfield 91, 3) := by decide +kernel
theorem dX10_mean_11 : decode cX10_mean 11 = .ok (.if_icmp .ge 51, 3) := by decide +kernel
theorem dX10_mean_14 : decode cX10_mean 14 = .ok (.aload_n 0, 1) := by decide +kernel
theorem dX10_mean_15 : decode cX10_mean 15 = .ok (.getfield 17, 3) := by decide +kernel
theorem dX10_mean_18 : decode cX10_mean 18 = .ok (.iload_n 3, 1) := by decide +kernel
theorem dX10_mean_19 : decode cX10_mean 19 = .ok (.aaload, 1) := by decide +kernel
theorem dX10_mean_20 : decode cX10_mean 20 = .ok (.iconst 1, 1) := by decide +kernel
theorem dX10_mean_21 : decode cX10_mean 21 = .ok (.invokevirtual 140, 3) := by decide +kernel
theorem dX10_mean_24 : decode cX10_mean 24 = .ok (.bipush (-9), 2) := by decide +kernel
theorem dX10_mean_26 : decode cX10_mean 26 = .ok (.if_icmp .eq 30, 3) := by decide +kernel
theorem dX10_mean_29 : decode cX10_mean 29 = .ok (.iload_n 1, 1) := by decide +kernel
theorem dX10_mean_30 : decode cX10_mean 30 = .ok (.aload_n 0, 1) := by decide +kernel
theorem dX10_mean_31 : decode cX10_mean 31 = .ok (.getfield 17, 3) := by decide +kernel
theorem dX10_mean_34 : decode cX10_mean 34 = .ok (.iload_n 3, 1) := by decide +kernel
theorem dX10_mean_35 : decode cX10_mean 35 = .ok (.aaload, 1) := by decide +kernel
theorem dX10_mean_36 : decode cX10_mean 36 = .ok (.iconst 1, 1) := by decide +kernel
theorem dX10_mean_37 : decode cX10_mean 37 = .ok (.invokevirtual 140, 3) := by decide +kernel
theorem dX10_mean_40 : decode cX10_mean 40 = .ok (.aload_n 0, 1) := by decide +kernel
theorem dX10_mean_41 : decode cX10_mean 41 = .ok (.getfield 17, 3) := by decide +kernel
theorem dX10_mean_44 : decode cX10_mean 44 = .ok (.iload_n 3, 1) := by decide +kernel
theorem dX10_mean_45 : decode cX10_mean 45 = .ok (.aaload, 1) := by decide +kernel
theorem dX10_mean_46 : decode cX10_mean 46 = .ok (.iconst 0, 1) := by decide +kernel
theorem dX10_mean_47 : decode cX10_mean 47 = .ok (.invokevirtual 140, 3) := by decide +kernel
theorem dX10_mean_50 : decode cX10_mean 50 = .ok (.isub, 1) := by decide +kernel
theorem dX10_mean_51 : decode cX10_mean 51 = .ok (.iadd, 1) := by decide +kernel
theorem dX10_mean_52 : decode cX10_mean 52 = .ok (.istore_n 1, 1) := by decide +kernel
theorem dX10_mean_53 : decode cX10_mean 53 = .ok (.iinc 2 1, 3) := by decide +kernel
theorem dX10_mean_56 : decode cX10_mean 56 = .ok (.iinc 3 1, 3) := by decide +kernel
theorem dX10_mean_59 : decode cX10_mean 59 = .ok (.goto (-53), 3) := by decide +kernel
theorem dX10_mean_62 : decode cX10_mean 62 = .ok (.iload_n 2, 1) := by decide +kernel
theorem dX10_mean_63 : decode cX10_mean 63 = .ok (.ifCond .ne 9, 3) := by decide +kernel
theorem dX10_mean_66 : decode cX10_mean 66 = .ok (.aload_n 0, 1) := by decide +kernel
theorem dX10_mean_67 : decode cX10_mean 67 = .ok (.iconst 4, 1) := by decide +kernel
theorem dX10_mean_68 : decode cX10_mean 68 = .ok (.invokevirtual 127, 3) := by decide +kernel
theorem dX10_mean_71 : decode cX10_mean 71 = .ok (.ireturn, 1) := by decide +kernel
theorem dX10_mean_72 : decode cX10_mean 72 = .ok (.iload_n 1, 1) := by decide +kernel
theorem dX10_mean_73 : decode cX10_mean 73 = .ok (.iload_n 2, 1) := by decide +kernel
theorem dX10_mean_74 : decode cX10_mean 74 = .ok (.idiv, 1) := by decide +kernel
theorem dX10_mean_75 : decode cX10_mean 75 = .ok (.ireturn, 1) := by decide +kernel
set_option maxRecDepth 20000 in
theorem ggX10_byelaw_X10_isDay : GoodIn wsX10_byelaw wsX10_isDay := goodIn_r _ [9, 10, 11, 8, 12] (by decide +kernel) (by decide +kernel)
set_option maxRecDepth 20000 in
theorem gX10_byelaw_X10_isDay : GoodIn wsX10_byelaw (va_wsS RX10 151 yX10_isDay wsX10_isDay) := goodIn_app (goodIn_of _ (by decide +kernel)) ggX10_byelaw_X10_isDay
set_option maxRecDepth 20000 in
theorem ggX10_byelaw_X10_isWithin : GoodIn wsX10_byelaw wsX10_isWithin := goodIn_r _ [12] (by decide +kernel) (by decide +kernel)
set_option maxRecDepth 20000 in
theorem gX10_byelaw_X10_isWithin : GoodIn wsX10_byelaw (va_wsS RX10 69 yX10_isWithin wsX10_isWithin) := goodIn_app (goodIn_of _ (by decide +kernel)) ggX10_byelaw_X10_isWithin
set_option maxRecDepth 20000 in
theorem ggX10_byelaw_X0_init : GoodIn wsX10_byelaw wsX0_init := goodIn_r _ [15, 16, 17, 18, 19, 20, 21, 22, 23, 24, 25, 26, 27, 28, 48, 49, 50, 51, 52, 53, 54, 55, 56] (by decide +kernel) (by decide +kernel)
set_option maxRecDepth 20000 in
theorem gX10_byelaw_X0_init : GoodIn wsX10_byelaw (wsX0_init) := ggX10_byelaw_X0_init
theorem dX10_byelaw_0 : decode cX10_byelaw 0 = .ok (.iload_n 1, 1) := by decide +kernel
theorem dX10_byelaw_1 : decode cX10_byelaw 1 = .ok (.invokestatic 151, 3) := by decide +kernel
theorem dX10_byelaw_4 : decode cX10_byelaw 4 = .ok (.ifCond .eq 24, 3) := by decide +kernel
theorem dX10_byelaw_7 : decode cX10_byelaw 7 = .ok (.iload_n 2, 1) := by decide +kernel
theorem dX10_byelaw_8 : decode cX10_byelaw 8 = .ok (.iconst 0, 1) := by decide +kernel
theorem dX10_byelaw_9 : decode cX10_byelaw 9 = .ok (.sipush 500, 3) := by decide +kernel
theorem dX10_byelaw_12 : decode cX10_byelaw 12 = .ok (.invokestatic 69, 3) := by decide +kernel
theorem dX10_byelaw_15 : decode cX10_byelaw 15 = .ok (.ifCond .eq 13, 3) := by decide +kernel
theorem dX10_byelaw_18 : decode cX10_byelaw 18 = .ok (.iload_n 3, 1) := by decide +kernel
theorem dX10_byelaw_19 : decode cX10_byelaw 19 = .ok (.iconst 0, 1) := by decide +kernel
theorem dX10_byelaw_20 : decode cX10_byelaw 20 = .ok (.bipush 16, 2) := by decide +kernel
theorem dX10_byelaw_22 : decode cX10_byelaw 22 = .ok (.invokestatic 69, 3) := by decide +kernel
theorem dX10_byelaw_25 : decode cX10_byelaw 25 = .ok (.ifCond .ne 5, 3) := by decide +kernel
theorem dX10_byelaw_28 : decode cX10_byelaw 28 = .ok (.iconst (-1), 1) := by decide +kernel
theorem dX10_byelaw_29 : decode cX10_byelaw 29 = .ok (.ireturn, 1) := by decide +kernel
theorem dX10_byelaw_30 : decode cX10_byelaw 30 = .ok (.iload 4, 2) := by decide +kernel
theorem dX10_byelaw_32 : decode cX10_byelaw 32 = .ok (.iconst 0, 1) := by decide +kernel
theorem dX10_byelaw_33 : decode cX10_byelaw 33 = .ok (.bipush 100, 2) := by decide +kernel
theorem dX10_byelaw_35 : decode cX10_byelaw 35 = .ok (.invokestatic 69, 3) := by decide +kernel
theorem dX10_byelaw_38 : decode cX10_byelaw 38 = .ok (.ifCond .eq 25, 3) := by decide +kernel
theorem dX10_byelaw_41 : decode cX10_byelaw 41 = .ok (.iload 6, 2) := by decide +kernel
theorem dX10_byelaw_43 : decode cX10_byelaw 43 = .ok (.iconst 1, 1) := by decide +kernel
theorem dX10_byelaw_44 : decode cX10_byelaw 44 = .ok (.bipush 100, 2) := by decide +kernel
theorem dX10_byelaw_46 : decode cX10_byelaw 46 = .ok (.invokestatic 69, 3) := by decide +kernel
theorem dX10_byelaw_49 : decode cX10_byelaw 49 = .ok (.ifCond .eq 14, 3) := by decide +kernel
theorem dX10_byelaw_52 : decode cX10_byelaw 52 = .ok (.iload 5, 2) := by decide +kernel
theorem dX10_byelaw_54 : decode cX10_byelaw 54 = .ok (.iconst 0, 1) := by decide +kernel
theorem dX10_byelaw_55 : decode cX10_byelaw 55 = .ok (.iload 6, 2) := by decide +kernel
theorem dX10_byelaw_57 : decode cX10_byelaw 57 = .ok (.invokestatic 69, 3) := by decide +kernel
theorem dX10_byelaw_60 : decode cX10_byelaw 60 = .ok (.ifCond .ne 5, 3) := by decide +kernel
theorem dX10_byelaw_63 : decode cX10_byelaw 63 = .ok (.iconst (-1), 1) := by decide +kernel
theorem dX10_byelaw_64 : decode cX10_byelaw 64 = .ok (.ireturn, 1) := by decide +kernel
theorem dX10_byelaw_65 : decode cX10_byelaw 65 = .ok (.aload_n 0, 1) := by decide +kernel
theorem dX10_byelaw_66 : decode cX10_byelaw 66 = .ok (.getfield 179, 3) := by decide +kernel
theorem dX10_byelaw_69 : decode cX10_byelaw 69 = .ok (.bipush 12, 2) := by decide +kernel
theorem dX10_byelaw_71 : decode cX10_byelaw 71 = .ok (.if_icmp .lt 6, 3) := by decide +kernel
theorem dX10_byelaw_74 : decode cX10_byelaw 74 = .ok (.bipush (-2), 2) := by decide +kernel
theorem dX10_byelaw_76 : decode cX10_byelaw 76 = .ok (.ireturn, 1) := by decide +kernel
theorem dX10_byelaw_77 : decode cX10_byelaw 77 = .ok (.aload_n 0, 1) := by decide +kernel
theorem dX10_byelaw_78 : decode cX10_byelaw 78 = .ok (.getfield 29, 3) := by decide +kernel
theorem dX10_byelaw_81 : decode cX10_byelaw 81 = .ok (.aload_n 0, 1) := by decide +kernel
theorem dX10_byelaw_82 : decode cX10_byelaw 82 = .ok (.getfield 179, 3) := by decide +kernel
theorem dX10_byelaw_85 : decode cX10_byelaw 85 = .ok (.new 27, 3) := by decide +kernel
theorem dX10_byelaw_88 : decode cX10_byelaw 88 = .ok (.dup, 1) := by decide +kernel
theorem dX10_byelaw_89 : decode cX10_byelaw 89 = .ok (.iload_n 1, 1) := by decide +kernel
theorem dX10_byelaw_90 : decode cX10_byelaw 90 = .ok (.iload_n 2, 1) := by decide +kernel
theorem dX10_byelaw_91 : decode cX10_byelaw 91 = .ok (.iload_n 3, 1) := by decide +kernel
theorem dX10_byelaw_92 : decode cX10_byelaw 92 = .ok (.iload 4, 2) := by decide +kernel
theorem dX10_byelaw_94 : decode cX10_byelaw 94 = .ok (.iload 5, 2) := by decide +kernel
theorem dX10_byelaw_96 : decode cX10_byelaw 96 = .ok (.iload 6, 2) := by decide +kernel
theorem dX10_byelaw_98 : decode cX10_byelaw 98 = .ok (.invokespecial 182, 3) := by decide +kernel
theorem dX10_byelaw_101 : decode cX10_byelaw 101 = .ok (.aastore, 1) := by decide +kernel
theorem dX10_byelaw_102 : decode cX10_byelaw 102 = .ok (.aload_n 0, 1) := by decide +kernel
theorem dX10_byelaw_103 : decode cX10_byelaw 103 = .ok (.dup, 1) := by decide +kernel
theorem dX10_byelaw_104 : decode cX10_byelaw 104 = .ok (.getfield 179, 3) := by decide +kernel
theorem dX10_byelaw_107 : decode cX10_byelaw 107 = .ok (.iconst 1, 1) := by decide +kernel
theorem dX10_byelaw_108 : decode cX10_byelaw 108 = .ok (.iadd, 1) := by decide +kernel
theorem dX10_byelaw_109 : decode cX10_byelaw 109 = .ok (.putfield 179, 3) := by decide +kernel
theorem dX10_byelaw_112 : decode cX10_byelaw 112 = .ok (.aload_n 0, 1) := by decide +kernel
theorem dX10_byelaw_113 : decode cX10_byelaw 113 = .ok (.getfield 179, 3) := by decide +kernel
theorem dX10_byelaw_116 : decode cX10_byelaw 116 = .ok (.iconst 1, 1) := by decide +kernel
theorem dX10_byelaw_117 : decode cX10_byelaw 117 = .ok (.isub, 1) := by decide +kernel
theorem dX10_byelaw_118 : decode cX10_byelaw 118 = .ok (.ireturn, 1) := by decide +kernel
set_option maxRecDepth 20000 in
theorem ggX10_candidate_X10_isWithin : GoodIn wsX10_candidate wsX10_isWithin := goodIn_r _ [11] (by decide +kernel) (by decide +kernel)
set_option maxRecDepth 20000 in
theorem gX10_candidate_X10_isWithin : GoodIn wsX10_candidate (va_wsS RX10 69 yX10_isWithin wsX10_isWithin) := goodIn_app (goodIn_of _ (by decide +kernel)) ggX10_candidate_X10_isWithin
set_option maxRecDepth 20000 in
theorem ggX10_candidate_X1_init : GoodIn wsX10_candidate wsX1_init := goodIn_r _ [14, 15, 16, 17, 18, 19, 39, 40, 41] (by decide +kernel) (by decide +kernel)
set_option maxRecDepth 20000 in
theorem gX10_candidate_X1_init : GoodIn wsX10_candidate (wsX1_init) := ggX10_candidate_X1_init
theorem dX10_candidate_0 : decode cX10_candidate 0 = .ok (.iload_n 1, 1) := by decide +kernel
theorem dX10_candidate_1 : decode cX10_candidate 1 = .ok (.iconst 0, 1) := by decide +kernel
theorem dX10_candidate_2 : decode cX10_candidate 2 = .ok (.iconst 1, 1) := by decide +kernel
theorem dX10_candidate_3 : decode cX10_candidate 3 = .ok (.aload_n 0, 1) := by decide +kernel
theorem dX10_candidate_4 : decode cX10_candidate 4 = .ok (.getfield 73, 3) := by decide +kernel
theorem dX10_candidate_7 : decode cX10_candidate 7 = .ok (.ishl, 1) := by decide +kernel
theorem dX10_candidate_8 : decode cX10_candidate 8 = .ok (.iconst 1, 1) := by decide +kernel
theorem dX10_candidate_9 : decode cX10_candidate 9 = .ok (.isub, 1) := by decide +kernel
theorem dX10_candidate_10 : decode cX10_candidate 10 = .ok (.invokestatic 69, 3) := by decide +kernel
theorem dX10_candidate_13 : decode cX10_candidate 13 = .ok (.ifCond .ne 5, 3) := by decide +kernel
theorem dX10_candidate_16 : decode cX10_candidate 16 = .ok (.iconst (-1), 1) := by decide +kernel
theorem dX10_candidate_17 : decode cX10_candidate 17 = .ok (.ireturn, 1) := by decide +kernel
theorem dX10_candidate_18 : decode cX10_candidate 18 = .ok (.aload_n 0, 1) := by decide +kernel
theorem dX10_candidate_19 : decode cX10_candidate 19 = .ok (.getfield 185, 3) := by decide +kernel
theorem dX10_candidate_22 : decode cX10_candidate 22 = .ok (.bipush 20, 2) := by decide +kernel
theorem dX10_candidate_24 : decode cX10_candidate 24 = .ok (.if_icmp .lt 6, 3) := by decide +kernel
theorem dX10_candidate_27 : decode cX10_candidate 27 = .ok (.bipush (-2), 2) := by decide +kernel
theorem dX10_candidate_29 : decode cX10_candidate 29 = .ok (.ireturn, 1) := by decide +kernel
theorem dX10_candidate_30 : decode cX10_candidate 30 = .ok (.aload_n 0, 1) := by decide +kernel
theorem dX10_candidate_31 : decode cX10_candidate 31 = .ok (.getfield 35, 3) := by decide +kernel
theorem dX10_candidate_34 : decode cX10_candidate 34 = .ok (.aload_n 0, 1) := by decide +kernel
theorem dX10_candidate_35 : decode cX10_candidate 35 = .ok (.getfield 185, 3) := by decide +kernel
theorem dX10_candidate_38 : decode cX10_candidate 38 = .ok (.new 33, 3) := by decide +kernel
theorem dX10_candidate_41 : decode cX10_candidate 41 = .ok (.dup, 1) := by decide +kernel
theorem dX10_candidate_42 : decode cX10_candidate 42 = .ok (.iload_n 1, 1) := by decide +kernel
theorem dX10_candidate_43 : decode cX10_candidate 43 = .ok (.aload_n 0, 1) := by decide +kernel
theorem dX10_candidate_44 : decode cX10_candidate 44 = .ok (.getfield 65, 3) := by decide +kernel
theorem dX10_candidate_47 : decode cX10_candidate 47 = .ok (.invokespecial 188, 3) := by decide +kernel
theorem dX10_candidate_50 : decode cX10_candidate 50 = .ok (.aastore, 1) := by decide +kernel
theorem dX10_candidate_51 : decode cX10_candidate 51 = .ok (.aload_n 0, 1) := by decide +kernel
theorem dX10_candidate_52 : decode cX10_candidate 52 = .ok (.dup, 1) := by decide +kernel
theorem dX10_candidate_53 : decode cX10_candidate 53 = .ok (.getfield 185, 3) := by decide +kernel
theorem dX10_candidate_56 : decode cX10_candidate 56 = .ok (.iconst 1, 1) := by decide +kernel
theorem dX10_candidate_57 : decode cX10_candidate 57 = .ok (.iadd, 1) := by decide +kernel
theorem dX10_candidate_58 : decode cX10_candidate 58 = .ok (.putfield 185, 3) := by decide +kernel
theorem dX10_candidate_61 : decode cX10_candidate 61 = .ok (.aload_n 0, 1) := by decide +kernel
theorem dX10_candidate_62 : decode cX10_candidate 62 = .ok (.getfield 185, 3) := by decide +kernel
theorem dX10_candidate_65 : decode cX10_candidate 65 = .ok (.iconst 1, 1) := by decide +kernel
theorem dX10_candidate_66 : decode cX10_candidate 66 = .ok (.isub, 1) := by decide +kernel
theorem dX10_candidate_67 : decode cX10_candidate 67 = .ok (.ireturn, 1) := by decide +kernel
set_option maxRecDepth 20000 in
theorem ggX10_propose_X10_candidateAt : GoodIn wsX10_propose wsX10_candidateAt := goodIn_r _ [7, 8, 9, 10, 11, 6, 12, 34, 35, 36, 37, 38, 39, 40, 41, 42, 43, 44, 45, 46, 47, 48, 49, 50, 51, 52] (by decide +kernel) (by decide +kernel)
set_option maxRecDepth 20000 in
theorem gX10_propose_X10_candidateAt : GoodIn wsX10_propose (wsV RX10 191 RX10 yX10_candidateAt wsX10_candidateAt) := goodIn_app (goodIn_of _ (by decide +kernel)) ggX10_propose_X10_candidateAt
set_option maxRecDepth 20000 in
theorem ggX10_propose_X10_isFellow : GoodIn wsX10_propose wsX10_isFellow := goodIn_r _ [16, 17, 10, 11, 6, 12, 34, 35, 36, 37, 38, 39, 40, 41, 42, 43, 44, 45, 46, 47, 48, 49, 50, 51, 52] (by decide +kernel) (by decide +kernel)
set_option maxRecDepth 20000 in
theorem gX10_propose_X10_isFellow : GoodIn wsX10_propose (wsV RX10 86 RX10 yX10_isFellow wsX10_isFellow) := goodIn_app (goodIn_of _ (by decide +kernel)) ggX10_propose_X10_isFellow
set_option maxRecDepth 20000 in
theorem ggX10_propose_X10_found : GoodIn wsX10_propose wsX10_found := goodIn_r _ [21, 22, 23, 34, 35, 36, 37, 38, 39, 40, 41, 42, 43, 44, 45, 46, 47, 48, 49, 50, 51, 52] (by decide +kernel) (by decide +kernel)
set_option maxRecDepth 20000 in
theorem gX10_propose_X10_found : GoodIn wsX10_propose (wsV RX10 127 RX10 yX10_found wsX10_found) := goodIn_app (goodIn_of _ (by decide +kernel)) ggX10_propose_X10_found
set_option maxRecDepth 20000 in
theorem ggX10_propose_J6_bitCount_0f7a4 : GoodIn wsX10_propose wsJ6_bitCount_0f7a4 := goodIn_r _ [27, 28, 29, 30] (by decide +kernel) (by decide +kernel)
set_option maxRecDepth 20000 in
theorem gX10_propose_J6_bitCount_0f7a4 : GoodIn wsX10_propose (va_wsS RX10 143 yJ6_bitCount_0f7a4 wsJ6_bitCount_0f7a4) := goodIn_app (goodIn_of _ (by decide +kernel)) ggX10_propose_J6_bitCount_0f7a4
