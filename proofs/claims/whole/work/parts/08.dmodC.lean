theorem dX11_tear_0 : decode cX11_tear 0 = .ok (.iload_n 1, 1) := by decide +kernel
theorem dX11_tear_1 : decode cX11_tear 1 = .ok (.invokestatic 222, 3) := by decide +kernel
theorem dX11_tear_4 : decode cX11_tear 4 = .ok (.ifCond .ne 5, 3) := by decide +kernel
theorem dX11_tear_7 : decode cX11_tear 7 = .ok (.iconst (-1), 1) := by decide +kernel
theorem dX11_tear_8 : decode cX11_tear 8 = .ok (.ireturn, 1) := by decide +kernel
theorem dX11_tear_9 : decode cX11_tear 9 = .ok (.aload_n 0, 1) := by decide +kernel
theorem dX11_tear_10 : decode cX11_tear 10 = .ok (.getfield 110, 3) := by decide +kernel
theorem dX11_tear_13 : decode cX11_tear 13 = .ok (.iload_n 1, 1) := by decide +kernel
theorem dX11_tear_14 : decode cX11_tear 14 = .ok (.iaload, 1) := by decide +kernel
theorem dX11_tear_15 : decode cX11_tear 15 = .ok (.ifCond .ge 9, 3) := by decide +kernel
theorem dX11_tear_18 : decode cX11_tear 18 = .ok (.aload_n 0, 1) := by decide +kernel
theorem dX11_tear_19 : decode cX11_tear 19 = .ok (.iconst 1, 1) := by decide +kernel
theorem dX11_tear_20 : decode cX11_tear 20 = .ok (.invokevirtual 167, 3) := by decide +kernel
theorem dX11_tear_23 : decode cX11_tear 23 = .ok (.ireturn, 1) := by decide +kernel
theorem dX11_tear_24 : decode cX11_tear 24 = .ok (.aload_n 0, 1) := by decide +kernel
theorem dX11_tear_25 : decode cX11_tear 25 = .ok (.getfield 110, 3) := by decide +kernel
theorem dX11_tear_28 : decode cX11_tear 28 = .ok (.iload_n 1, 1) := by decide +kernel
theorem dX11_tear_29 : decode cX11_tear 29 = .ok (.iconst (-1), 1) := by decide +kernel
theorem dX11_tear_30 : decode cX11_tear 30 = .ok (.iastore, 1) := by decide +kernel
theorem dX11_tear_31 : decode cX11_tear 31 = .ok (.iconst 1, 1) := by decide +kernel
theorem dX11_tear_32 : decode cX11_tear 32 = .ok (.ireturn, 1) := by decide +kernel
set_option maxRecDepth 20000 in
theorem ggX11_copy_X11_isSheet : GoodIn wsX11_copy wsX11_isSheet := goodIn_r _ [7, 8, 9, 6, 10] (by decide +kernel) (by decide +kernel)
set_option maxRecDepth 20000 in
theorem gX11_copy_X11_isSheet : GoodIn wsX11_copy (va_wsS RX11 222 yX11_isSheet wsX11_isSheet) := goodIn_app (goodIn_of _ (by decide +kernel)) ggX11_copy_X11_isSheet
set_option maxRecDepth 20000 in
theorem ggX11_copy_X11_meets : GoodIn wsX11_copy wsX11_meets := goodIn_r _ [14, 15, 16, 17, 18, 19, 20, 21, 22, 23, 24, 25, 26, 27, 28, 29, 30, 31, 32, 33, 34, 35, 36, 37, 38, 39, 40, 41, 42, 43, 44, 45, 46, 47, 48, 49, 50, 51, 52, 53, 54, 55, 56, 57, 58, 59, 60, 61, 62, 63, 64, 65] (by decide +kernel) (by decide +kernel)
set_option maxRecDepth 20000 in
theorem gX11_copy_X11_meets : GoodIn wsX11_copy (wsV RX11 167 RX11 yX11_meets wsX11_meets) := goodIn_app (goodIn_of _ (by decide +kernel)) ggX11_copy_X11_meets
theorem dX11_copy_0 : decode cX11_copy 0 = .ok (.iload_n 1, 1) := by decide +kernel
theorem dX11_copy_1 : decode cX11_copy 1 = .ok (.invokestatic 222, 3) := by decide +kernel
theorem dX11_copy_4 : decode cX11_copy 4 = .ok (.ifCond .eq 10, 3) := by decide +kernel
theorem dX11_copy_7 : decode cX11_copy 7 = .ok (.iload_n 3, 1) := by decide +kernel
theorem dX11_copy_8 : decode cX11_copy 8 = .ok (.invokestatic 222, 3) := by decide +kernel
theorem dX11_copy_11 : decode cX11_copy 11 = .ok (.ifCond .ne 5, 3) := by decide +kernel
theorem dX11_copy_14 : decode cX11_copy 14 = .ok (.iconst (-1), 1) := by decide +kernel
theorem dX11_copy_15 : decode cX11_copy 15 = .ok (.ireturn, 1) := by decide +kernel
theorem dX11_copy_16 : decode cX11_copy 16 = .ok (.aload_n 0, 1) := by decide +kernel
theorem dX11_copy_17 : decode cX11_copy 17 = .ok (.getfield 110, 3) := by decide +kernel
theorem dX11_copy_20 : decode cX11_copy 20 = .ok (.iload_n 1, 1) := by decide +kernel
theorem dX11_copy_21 : decode cX11_copy 21 = .ok (.iaload, 1) := by decide +kernel
theorem dX11_copy_22 : decode cX11_copy 22 = .ok (.ifCond .lt 12, 3) := by decide +kernel
theorem dX11_copy_25 : decode cX11_copy 25 = .ok (.aload_n 0, 1) := by decide +kernel
theorem dX11_copy_26 : decode cX11_copy 26 = .ok (.getfield 110, 3) := by decide +kernel
theorem dX11_copy_29 : decode cX11_copy 29 = .ok (.iload_n 3, 1) := by decide +kernel
theorem dX11_copy_30 : decode cX11_copy 30 = .ok (.iaload, 1) := by decide +kernel
theorem dX11_copy_31 : decode cX11_copy 31 = .ok (.ifCond .ge 9, 3) := by decide +kernel
theorem dX11_copy_34 : decode cX11_copy 34 = .ok (.aload_n 0, 1) := by decide +kernel
theorem dX11_copy_35 : decode cX11_copy 35 = .ok (.iconst 1, 1) := by decide +kernel
theorem dX11_copy_36 : decode cX11_copy 36 = .ok (.invokevirtual 167, 3) := by decide +kernel
theorem dX11_copy_39 : decode cX11_copy 39 = .ok (.ireturn, 1) := by decide +kernel
theorem dX11_copy_40 : decode cX11_copy 40 = .ok (.iload_n 2, 1) := by decide +kernel
theorem dX11_copy_41 : decode cX11_copy 41 = .ok (.ifCond .lt 48, 3) := by decide +kernel
theorem dX11_copy_44 : decode cX11_copy 44 = .ok (.iload 4, 2) := by decide +kernel
theorem dX11_copy_46 : decode cX11_copy 46 = .ok (.ifCond .lt 43, 3) := by decide +kernel
theorem dX11_copy_49 : decode cX11_copy 49 = .ok (.iload 5, 2) := by decide +kernel
theorem dX11_copy_51 : decode cX11_copy 51 = .ok (.ifCond .lt 38, 3) := by decide +kernel
theorem dX11_copy_54 : decode cX11_copy 54 = .ok (.iload_n 2, 1) := by decide +kernel
theorem dX11_copy_55 : decode cX11_copy 55 = .ok (.i2l, 1) := by decide +kernel
theorem dX11_copy_56 : decode cX11_copy 56 = .ok (.iload 5, 2) := by decide +kernel
theorem dX11_copy_58 : decode cX11_copy 58 = .ok (.i2l, 1) := by decide +kernel
theorem dX11_copy_59 : decode cX11_copy 59 = .ok (.ladd, 1) := by decide +kernel
theorem dX11_copy_60 : decode cX11_copy 60 = .ok (.aload_n 0, 1) := by decide +kernel
theorem dX11_copy_61 : decode cX11_copy 61 = .ok (.getfield 110, 3) := by decide +kernel
theorem dX11_copy_64 : decode cX11_copy 64 = .ok (.iload_n 1, 1) := by decide +kernel
theorem dX11_copy_65 : decode cX11_copy 65 = .ok (.iaload, 1) := by decide +kernel
theorem dX11_copy_66 : decode cX11_copy 66 = .ok (.i2l, 1) := by decide +kernel
theorem dX11_copy_67 : decode cX11_copy 67 = .ok (.lcmp, 1) := by decide +kernel
theorem dX11_copy_68 : decode cX11_copy 68 = .ok (.ifCond .gt 21, 3) := by decide +kernel
theorem dX11_copy_71 : decode cX11_copy 71 = .ok (.iload 4, 2) := by decide +kernel
theorem dX11_copy_73 : decode cX11_copy 73 = .ok (.i2l, 1) := by decide +kernel
theorem dX11_copy_74 : decode cX11_copy 74 = .ok (.iload 5, 2) := by decide +kernel
theorem dX11_copy_76 : decode cX11_copy 76 = .ok (.i2l, 1) := by decide +kernel
theorem dX11_copy_77 : decode cX11_copy 77 = .ok (.ladd, 1) := by decide +kernel
theorem dX11_copy_78 : decode cX11_copy 78 = .ok (.aload_n 0, 1) := by decide +kernel
theorem dX11_copy_79 : decode cX11_copy 79 = .ok (.getfield 110, 3) := by decide +kernel
theorem dX11_copy_82 : decode cX11_copy 82 = .ok (.iload_n 3, 1) := by decide +kernel
theorem dX11_copy_83 : decode cX11_copy 83 = .ok (.iaload, 1) := by decide +kernel
theorem dX11_copy_84 : decode cX11_copy 84 = .ok (.i2l, 1) := by decide +kernel
theorem dX11_copy_85 : decode cX11_copy 85 = .ok (.lcmp, 1) := by decide +kernel
theorem dX11_copy_86 : decode cX11_copy 86 = .ok (.ifCond .le 9, 3) := by decide +kernel
theorem dX11_copy_89 : decode cX11_copy 89 = .ok (.aload_n 0, 1) := by decide +kernel
theorem dX11_copy_90 : decode cX11_copy 90 = .ok (.iconst 2, 1) := by decide +kernel
theorem dX11_copy_91 : decode cX11_copy 91 = .ok (.invokevirtual 167, 3) := by decide +kernel
theorem dX11_copy_94 : decode cX11_copy 94 = .ok (.ireturn, 1) := by decide +kernel
theorem dX11_copy_95 : decode cX11_copy 95 = .ok (.iconst 0, 1) := by decide +kernel
theorem dX11_copy_96 : decode cX11_copy 96 = .ok (.istore 6, 2) := by decide +kernel
theorem dX11_copy_98 : decode cX11_copy 98 = .ok (.iload 6, 2) := by decide +kernel
theorem dX11_copy_100 : decode cX11_copy 100 = .ok (.iload 5, 2) := by decide +kernel
theorem dX11_copy_102 : decode cX11_copy 102 = .ok (.if_icmp .ge 30, 3) := by decide +kernel
theorem dX11_copy_105 : decode cX11_copy 105 = .ok (.aload_n 0, 1) := by decide +kernel
theorem dX11_copy_106 : decode cX11_copy 106 = .ok (.getfield 117, 3) := by decide +kernel
theorem dX11_copy_109 : decode cX11_copy 109 = .ok (.iload 6, 2) := by decide +kernel
theorem dX11_copy_111 : decode cX11_copy 111 = .ok (.aload_n 0, 1) := by decide +kernel
theorem dX11_copy_112 : decode cX11_copy 112 = .ok (.getfield 113, 3) := by decide +kernel
theorem dX11_copy_115 : decode cX11_copy 115 = .ok (.bipush 12, 2) := by decide +kernel
theorem dX11_copy_117 : decode cX11_copy 117 = .ok (.iload_n 1, 1) := by decide +kernel
theorem dX11_copy_118 : decode cX11_copy 118 = .ok (.imul, 1) := by decide +kernel
theorem dX11_copy_119 : decode cX11_copy 119 = .ok (.iload_n 2, 1) := by decide +kernel
theorem dX11_copy_120 : decode cX11_copy 120 = .ok (.iadd, 1) := by decide +kernel
theorem dX11_copy_121 : decode cX11_copy 121 = .ok (.iload 6, 2) := by decide +kernel
theorem dX11_copy_123 : decode cX11_copy 123 = .ok (.iadd, 1) := by decide +kernel
theorem dX11_copy_124 : decode cX11_copy 124 = .ok (.baload, 1) := by decide +kernel
theorem dX11_copy_125 : decode cX11_copy 125 = .ok (.bastore, 1) := by decide +kernel
theorem dX11_copy_126 : decode cX11_copy 126 = .ok (.iinc 6 1, 3) := by decide +kernel
theorem dX11_copy_129 : decode cX11_copy 129 = .ok (.goto (-31), 3) := by decide +kernel
theorem dX11_copy_132 : decode cX11_copy 132 = .ok (.iconst 0, 1) := by decide +kernel
theorem dX11_copy_133 : decode cX11_copy 133 = .ok (.istore 6, 2) := by decide +kernel
theorem dX11_copy_135 : decode cX11_copy 135 = .ok (.iload 6, 2) := by decide +kernel
theorem dX11_copy_137 : decode cX11_copy 137 = .ok (.iload 5, 2) := by decide +kernel
theorem dX11_copy_139 : decode cX11_copy 139 = .ok (.if_icmp .ge 31, 3) := by decide +kernel
theorem dX11_copy_142 : decode cX11_copy 142 = .ok (.aload_n 0, 1) := by decide +kernel
theorem dX11_copy_143 : decode cX11_copy 143 = .ok (.getfield 113, 3) := by decide +kernel
theorem dX11_copy_146 : decode cX11_copy 146 = .ok (.bipush 12, 2) := by decide +kernel
theorem dX11_copy_148 : decode cX11_copy 148 = .ok (.iload_n 3, 1) := by decide +kernel
theorem dX11_copy_149 : decode cX11_copy 149 = .ok (.imul, 1) := by decide +kernel
theorem dX11_copy_150 : decode cX11_copy 150 = .ok (.iload 4, 2) := by decide +kernel
theorem dX11_copy_152 : decode cX11_copy 152 = .ok (.iadd, 1) := by decide +kernel
theorem dX11_copy_153 : decode cX11_copy 153 = .ok (.iload 6, 2) := by decide +kernel
theorem dX11_copy_155 : decode cX11_copy 155 = .ok (.iadd, 1) := by decide +kernel
theorem dX11_copy_156 : decode cX11_copy 156 = .ok (.aload_n 0, 1) := by decide +kernel
theorem dX11_copy_157 : decode cX11_copy 157 = .ok (.getfield 117, 3) := by decide +kernel
theorem dX11_copy_160 : decode cX11_copy 160 = .ok (.iload 6, 2) := by decide +kernel
theorem dX11_copy_162 : decode cX11_copy 162 = .ok (.baload, 1) := by decide +kernel
theorem dX11_copy_163 : decode cX11_copy 163 = .ok (.bastore, 1) := by decide +kernel
theorem dX11_copy_164 : decode cX11_copy 164 = .ok (.iinc 6 1, 3) := by decide +kernel
theorem dX11_copy_167 : decode cX11_copy 167 = .ok (.goto (-32), 3) := by decide +kernel
theorem dX11_copy_170 : decode cX11_copy 170 = .ok (.iconst 1, 1) := by decide +kernel
theorem dX11_copy_171 : decode cX11_copy 171 = .ok (.ireturn, 1) := by decide +kernel
set_option maxRecDepth 20000 in
theorem ggX11_fill_X11_in : GoodIn wsX11_fill wsX11_in := goodIn_r _ [7] (by decide +kernel) (by decide +kernel)
set_option maxRecDepth 20000 in
theorem gX11_fill_X11_in : GoodIn wsX11_fill (va_wsS RX11 133 yX11_in wsX11_in) := goodIn_app (goodIn_of _ (by decide +kernel)) ggX11_fill_X11_in
set_option maxRecDepth 20000 in
theorem ggX11_fill_X11_isSheet : GoodIn wsX11_fill wsX11_isSheet := goodIn_r _ [10, 4, 5, 6, 7] (by decide +kernel) (by decide +kernel)
set_option maxRecDepth 20000 in
theorem gX11_fill_X11_isSheet : GoodIn wsX11_fill (va_wsS RX11 222 yX11_isSheet wsX11_isSheet) := goodIn_app (goodIn_of _ (by decide +kernel)) ggX11_fill_X11_isSheet
set_option maxRecDepth 20000 in
theorem ggX11_fill_X11_meets : GoodIn wsX11_fill wsX11_meets := goodIn_r _ [14, 15, 16, 17, 18, 19, 20, 21, 22, 23, 24, 25, 26, 27, 28, 29, 30, 31, 32, 33, 34, 35, 36, 37, 38, 39, 40, 41, 42, 43, 44, 45, 46, 47, 48, 49, 50, 51, 52, 53, 54, 55, 56, 57, 58, 59, 60, 61, 62, 63, 64, 65] (by decide +kernel) (by decide +kernel)
set_option maxRecDepth 20000 in
theorem gX11_fill_X11_meets : GoodIn wsX11_fill (wsV RX11 167 RX11 yX11_meets wsX11_meets) := goodIn_app (goodIn_of _ (by decide +kernel)) ggX11_fill_X11_meets
theorem dX11_fill_0 : decode cX11_fill 0 = .ok (.iload_n 1, 1) := by decide +kernel
theorem dX11_fill_1 : decode cX11_fill 1 = .ok (.iconst 0, 1) := by decide +kernel
theorem dX11_fill_2 : decode cX11_fill 2 = .ok (.iconst 5, 1) := by decide +kernel
theorem dX11_fill_3 : decode cX11_fill 3 = .ok (.invokestatic 133, 3) := by decide +kernel
theorem dX11_fill_6 : decode cX11_fill 6 = .ok (.ifCond .eq 10, 3) := by decide +kernel
theorem dX11_fill_9 : decode cX11_fill 9 = .ok (.iload_n 2, 1) := by decide +kernel
theorem dX11_fill_10 : decode cX11_fill 10 = .ok (.invokestatic 222, 3) := by decide +kernel
theorem dX11_fill_13 : decode cX11_fill 13 = .ok (.ifCond .ne 5, 3) := by decide +kernel
theorem dX11_fill_16 : decode cX11_fill 16 = .ok (.iconst (-1), 1) := by decide +kernel
theorem dX11_fill_17 : decode cX11_fill 17 = .ok (.ireturn, 1) := by decide +kernel
theorem dX11_fill_18 : decode cX11_fill 18 = .ok (.aload_n 0, 1) := by decide +kernel
theorem dX11_fill_19 : decode cX11_fill 19 = .ok (.getfield 110, 3) := by decide +kernel
theorem dX11_fill_22 : decode cX11_fill 22 = .ok (.iload_n 2, 1) := by decide +kernel
theorem dX11_fill_23 : decode cX11_fill 23 = .ok (.iaload, 1) := by decide +kernel
theorem dX11_fill_24 : decode cX11_fill 24 = .ok (.ifCond .ge 9, 3) := by decide +kernel
theorem dX11_fill_27 : decode cX11_fill 27 = .ok (.aload_n 0, 1) := by decide +kernel
theorem dX11_fill_28 : decode cX11_fill 28 = .ok (.iconst 1, 1) := by decide +kernel
theorem dX11_fill_29 : decode cX11_fill 29 = .ok (.invokevirtual 167, 3) := by decide +kernel
theorem dX11_fill_32 : decode cX11_fill 32 = .ok (.ireturn, 1) := by decide +kernel
theorem dX11_fill_33 : decode cX11_fill 33 = .ok (.iconst 0, 1) := by decide +kernel
theorem dX11_fill_34 : decode cX11_fill 34 = .ok (.istore_n 3, 1) := by decide +kernel
theorem dX11_fill_35 : decode cX11_fill 35 = .ok (.iconst 0, 1) := by decide +kernel
theorem dX11_fill_36 : decode cX11_fill 36 = .ok (.istore 4, 2) := by decide +kernel
theorem dX11_fill_38 : decode cX11_fill 38 = .ok (.iload 4, 2) := by decide +kernel
theorem dX11_fill_40 : decode cX11_fill 40 = .ok (.bipush 12, 2) := by decide +kernel
theorem dX11_fill_42 : decode cX11_fill 42 = .ok (.if_icmp .ge 84, 3) := by decide +kernel
theorem dX11_fill_45 : decode cX11_fill 45 = .ok (.iload 4, 2) := by decide +kernel
theorem dX11_fill_47 : decode cX11_fill 47 = .ok (.aload_n 0, 1) := by decide +kernel
theorem dX11_fill_48 : decode cX11_fill 48 = .ok (.getfield 110, 3) := by decide +kernel
theorem dX11_fill_51 : decode cX11_fill 51 = .ok (.iload_n 2, 1) := by decide +kernel
theorem dX11_fill_52 : decode cX11_fill 52 = .ok (.iaload, 1) := by decide +kernel
theorem dX11_fill_53 : decode cX11_fill 53 = .ok (.if_icmp .ge 52, 3) := by decide +kernel
theorem dX11_fill_56 : decode cX11_fill 56 = .ok (.aload_n 0, 1) := by decide +kernel
theorem dX11_fill_57 : decode cX11_fill 57 = .ok (.getfield 113, 3) := by decide +kernel
theorem dX11_fill_60 : decode cX11_fill 60 = .ok (.bipush 12, 2) := by decide +kernel
theorem dX11_fill_62 : decode cX11_fill 62 = .ok (.iload_n 2, 1) := by decide +kernel
theorem dX11_fill_63 : decode cX11_fill 63 = .ok (.imul, 1) := by decide +kernel
theorem dX11_fill_64 : decode cX11_fill 64 = .ok (.iload 4, 2) := by decide +kernel
theorem dX11_fill_66 : decode cX11_fill 66 = .ok (.iadd, 1) := by decide +kernel
theorem dX11_fill_67 : decode cX11_fill 67 = .ok (.baload, 1) := by decide +kernel
theorem dX11_fill_68 : decode cX11_fill 68 = .ok (.istore 5, 2) := by decide +kernel
theorem dX11_fill_70 : decode cX11_fill 70 = .ok (.aload_n 0, 1) := by decide +kernel
theorem dX11_fill_71 : decode cX11_fill 71 = .ok (.getfield 107, 3) := by decide +kernel
theorem dX11_fill_74 : decode cX11_fill 74 = .ok (.bipush 12, 2) := by decide +kernel
theorem dX11_fill_76 : decode cX11_fill 76 = .ok (.iload_n 1, 1) := by decide +kernel
theorem dX11_fill_77 : decode cX11_fill 77 = .ok (.imul, 1) := by decide +kernel
theorem dX11_fill_78 : decode cX11_fill 78 = .ok (.iload 4, 2) := by decide +kernel
theorem dX11_fill_80 : decode cX11_fill 80 = .ok (.iadd, 1) := by decide +kernel
theorem dX11_fill_81 : decode cX11_fill 81 = .ok (.iload 5, 2) := by decide +kernel
theorem dX11_fill_83 : decode cX11_fill 83 = .ok (.ifCond .ge 7, 3) := by decide +kernel
theorem dX11_fill_86 : decode cX11_fill 86 = .ok (.iconst 0, 1) := by decide +kernel
theorem dX11_fill_87 : decode cX11_fill 87 = .ok (.goto 17, 3) := by decide +kernel
theorem dX11_fill_90 : decode cX11_fill 90 = .ok (.iload 5, 2) := by decide +kernel
theorem dX11_fill_92 : decode cX11_fill 92 = .ok (.bipush 9, 2) := by decide +kernel
theorem dX11_fill_94 : decode cX11_fill 94 = .ok (.if_icmp .le 8, 3) := by decide +kernel
theorem dX11_fill_97 : decode cX11_fill 97 = .ok (.bipush 9, 2) := by decide +kernel
theorem dX11_fill_99 : decode cX11_fill 99 = .ok (.goto 5, 3) := by decide +kernel
theorem dX11_fill_102 : decode cX11_fill 102 = .ok (.iload 5, 2) := by decide +kernel
theorem dX11_fill_104 : decode cX11_fill 104 = .ok (.iastore, 1) := by decide +kernel
theorem dX11_fill_105 : decode cX11_fill 105 = .ok (.iload_n 3, 1) := by decide +kernel
theorem dX11_fill_106 : decode cX11_fill 106 = .ok (.aload_n 0, 1) := by decide +kernel
theorem dX11_fill_107 : decode cX11_fill 107 = .ok (.getfield 107, 3) := by decide +kernel
theorem dX11_fill_110 : decode cX11_fill 110 = .ok (.bipush 12, 2) := by decide +kernel
theorem dX11_fill_112 : decode cX11_fill 112 = .ok (.iload_n 1, 1) := by decide +kernel
theorem dX11_fill_113 : decode cX11_fill 113 = .ok (.imul, 1) := by decide +kernel
theorem dX11_fill_114 : decode cX11_fill 114 = .ok (.iload 4, 2) := by decide +kernel
theorem dX11_fill_116 : decode cX11_fill 116 = .ok (.iadd, 1) := by decide +kernel
theorem dX11_fill_117 : decode cX11_fill 117 = .ok (.iaload, 1) := by decide +kernel
theorem dX11_fill_118 : decode cX11_fill 118 = .ok (.iadd, 1) := by decide +kernel
theorem dX11_fill_119 : decode cX11_fill 119 = .ok (.istore_n 3, 1) := by decide +kernel
theorem dX11_fill_120 : decode cX11_fill 120 = .ok (.iinc 4 1, 3) := by decide +kernel
theorem dX11_fill_123 : decode cX11_fill 123 = .ok (.goto (-85), 3) := by decide +kernel
theorem dX11_fill_126 : decode cX11_fill 126 = .ok (.iload_n 3, 1) := by decide +kernel
theorem dX11_fill_127 : decode cX11_fill 127 = .ok (.ireturn, 1) := by decide +kernel
theorem dX11_lacking_0 : decode cX11_lacking 0 = .ok (.iconst 0, 1) := by decide +kernel
theorem dX11_lacking_1 : decode cX11_lacking 1 = .ok (.istore_n 1, 1) := by decide +kernel
theorem dX11_lacking_2 : decode cX11_lacking 2 = .ok (.iconst 0, 1) := by decide +kernel
theorem dX11_lacking_3 : decode cX11_lacking 3 = .ok (.istore_n 2, 1) := by decide +kernel
theorem dX11_lacking_4 : decode cX11_lacking 4 = .ok (.iload_n 2, 1) := by decide +kernel
theorem dX11_lacking_5 : decode cX11_lacking 5 = .ok (.bipush 12, 2) := by decide +kernel
theorem dX11_lacking_7 : decode cX11_lacking 7 = .ok (.if_icmp .ge 28, 3) := by decide +kernel
theorem dX11_lacking_10 : decode cX11_lacking 10 = .ok (.iload_n 1, 1) := by decide +kernel
theorem dX11_lacking_11 : decode cX11_lacking 11 = .ok (.aload_n 0, 1) := by decide +kernel
theorem dX11_lacking_12 : decode cX11_lacking 12 = .ok (.getfield 107, 3) := by decide +kernel
theorem dX11_lacking_15 : decode cX11_lacking 15 = .ok (.iload_n 2, 1) := by decide +kernel
theorem dX11_lacking_16 : decode cX11_lacking 16 = .ok (.iaload, 1) := by decide +kernel
theorem dX11_lacking_17 : decode cX11_lacking 17 = .ok (.ifCond .ne 9, 3) := by decide +kernel
theorem dX11_lacking_20 : decode cX11_lacking 20 = .ok (.iconst 1, 1) := by decide +kernel
theorem dX11_lacking_21 : decode cX11_lacking 21 = .ok (.iload_n 2, 1) := by decide +kernel
theorem dX11_lacking_22 : decode cX11_lacking 22 = .ok (.ishl, 1) := by decide +kernel
theorem dX11_lacking_23 : decode cX11_lacking 23 = .ok (.goto 4, 3) := by decide +kernel
theorem dX11_lacking_26 : decode cX11_lacking 26 = .ok (.iconst 0, 1) := by decide +kernel
theorem dX11_lacking_27 : decode cX11_lacking 27 = .ok (.ior, 1) := by decide +kernel
theorem dX11_lacking_28 : decode cX11_lacking 28 = .ok (.istore_n 1, 1) := by decide +kernel
theorem dX11_lacking_29 : decode cX11_lacking 29 = .ok (.iinc 2 1, 3) := by decide +kernel
theorem dX11_lacking_32 : decode cX11_lacking 32 = .ok (.goto (-28), 3) := by decide +kernel
theorem dX11_lacking_35 : decode cX11_lacking 35 = .ok (.iload_n 1, 1) := by decide +kernel
theorem dX11_lacking_36 : decode cX11_lacking 36 = .ok (.ireturn, 1) := by decide +kernel
set_option maxRecDepth 20000 in
theorem ggX11_lacks_X11_lacking : GoodIn wsX11_lacks wsX11_lacking := goodIn_r _ [5, 6, 7, 8, 9, 10, 11, 12, 13, 14, 15, 16, 17, 18, 19, 20, 21, 22, 23, 24, 25, 26, 27, 28, 29, 30, 31, 32, 33, 34, 35, 36, 37, 38, 39, 40, 41, 42, 43, 44, 45, 46, 47, 48, 49, 50, 51, 52, 53, 54, 55] (by decide +kernel) (by decide +kernel)
set_option maxRecDepth 20000 in
theorem gX11_lacks_X11_lacking : GoodIn wsX11_lacks (wsV RX11 225 RX11 yX11_lacking wsX11_lacking) := goodIn_app (goodIn_of _ (by decide +kernel)) ggX11_lacks_X11_lacking
theorem dX11_lacks_0 : decode cX11_lacks 0 = .ok (.aload_n 0, 1) := by decide +kernel
theorem dX11_lacks_1 : decode cX11_lacks 1 = .ok (.invokevirtual 225, 3) := by decide +kernel
theorem dX11_lacks_4 : decode cX11_lacks 4 = .ok (.ireturn, 1) := by decide +kernel
set_option maxRecDepth 20000 in
theorem ggX11_layRoom_X11_has : GoodIn wsX11_layRoom wsX11_has := goodIn_r _ [6] (by decide +kernel) (by decide +kernel)
set_option maxRecDepth 20000 in
theorem gX11_layRoom_X11_has : GoodIn wsX11_layRoom (va_wsS RX11 192 yX11_has wsX11_has) := goodIn_app (goodIn_of _ (by decide +kernel)) ggX11_layRoom_X11_has
theorem dX11_layRoom_0 : decode cX11_layRoom 0 = .ok (.iconst 0, 1) := by decide +kernel
theorem dX11_layRoom_1 : decode cX11_layRoom 1 = .ok (.istore_n 2, 1) := by decide +kernel
theorem dX11_layRoom_2 : decode cX11_layRoom 2 = .ok (.iload_n 2, 1) := by decide +kernel
theorem dX11_layRoom_3 : decode cX11_layRoom 3 = .ok (.sipush 961, 3) := by decide +kernel
theorem dX11_layRoom_6 : decode cX11_layRoom 6 = .ok (.if_icmp .ge 16, 3) := by decide +kernel
theorem dX11_layRoom_9 : decode cX11_layRoom 9 = .ok (.aload_n 0, 1) := by decide +kernel
theorem dX11_layRoom_10 : decode cX11_layRoom 10 = .ok (.getfield 120, 3) := by decide +kernel
theorem dX11_layRoom_13 : decode cX11_layRoom 13 = .ok (.iload_n 2, 1) := by decide +kernel
theorem dX11_layRoom_14 : decode cX11_layRoom 14 = .ok (.iconst 0, 1) := by decide +kernel
theorem dX11_layRoom_15 : decode cX11_layRoom 15 = .ok (.iastore, 1) := by decide +kernel
theorem dX11_layRoom_16 : decode cX11_layRoom 16 = .ok (.iinc 2 1, 3) := by decide +kernel
theorem dX11_layRoom_19 : decode cX11_layRoom 19 = .ok (.goto (-17), 3) := by decide +kernel
theorem dX11_layRoom_22 : decode cX11_layRoom 22 = .ok (.iconst 0, 1) := by decide +kernel
theorem dX11_layRoom_23 : decode cX11_layRoom 23 = .ok (.istore_n 2, 1) := by decide +kernel
theorem dX11_layRoom_24 : decode cX11_layRoom 24 = .ok (.iload_n 2, 1) := by decide +kernel
theorem dX11_layRoom_25 : decode cX11_layRoom 25 = .ok (.bipush 12, 2) := by decide +kernel
theorem dX11_layRoom_27 : decode cX11_layRoom 27 = .ok (.if_icmp .ge 171, 3) := by decide +kernel
theorem dX11_layRoom_30 : decode cX11_layRoom 30 = .ok (.aload_n 0, 1) := by decide +kernel
theorem dX11_layRoom_31 : decode cX11_layRoom 31 = .ok (.getfield 120, 3) := by decide +kernel
theorem dX11_layRoom_34 : decode cX11_layRoom 34 = .ok (.iconst 1, 1) := by decide +kernel
theorem dX11_layRoom_35 : decode cX11_layRoom 35 = .ok (.iload_n 2, 1) := by decide +kernel
theorem dX11_layRoom_36 : decode cX11_layRoom 36 = .ok (.iadd, 1) := by decide +kernel
theorem dX11_layRoom_37 : decode cX11_layRoom 37 = .ok (.aload_n 0, 1) := by decide +kernel
theorem dX11_layRoom_38 : decode cX11_layRoom 38 = .ok (.getfield 107, 3) := by decide +kernel
theorem dX11_layRoom_41 : decode cX11_layRoom 41 = .ok (.iload_n 2, 1) := by decide +kernel
theorem dX11_layRoom_42 : decode cX11_layRoom 42 = .ok (.iaload, 1) := by decide +kernel
theorem dX11_layRoom_43 : decode cX11_layRoom 43 = .ok (.ifCond .ne 7, 3) := by decide +kernel
theorem dX11_layRoom_46 : decode cX11_layRoom 46 = .ok (.iconst 1, 1) := by decide +kernel
theorem dX11_layRoom_47 : decode cX11_layRoom 47 = .ok (.goto 4, 3) := by decide +kernel
theorem dX11_layRoom_50 : decode cX11_layRoom 50 = .ok (.iconst 0, 1) := by decide +kernel
theorem dX11_layRoom_51 : decode cX11_layRoom 51 = .ok (.iastore, 1) := by decide +kernel
theorem dX11_layRoom_52 : decode cX11_layRoom 52 = .ok (.aload_n 0, 1) := by decide +kernel
theorem dX11_layRoom_53 : decode cX11_layRoom 53 = .ok (.getfield 120, 3) := by decide +kernel
theorem dX11_layRoom_56 : decode cX11_layRoom 56 = .ok (.bipush 31, 2) := by decide +kernel
theorem dX11_layRoom_58 : decode cX11_layRoom 58 = .ok (.bipush 18, 2) := by decide +kernel
theorem dX11_layRoom_60 : decode cX11_layRoom 60 = .ok (.iload_n 2, 1) := by decide +kernel
theorem dX11_layRoom_61 : decode cX11_layRoom 61 = .ok (.iadd, 1) := by decide +kernel
theorem dX11_layRoom_62 : decode cX11_layRoom 62 = .ok (.imul, 1) := by decide +kernel
theorem dX11_layRoom_63 : decode cX11_layRoom 63 = .ok (.bipush 30, 2) := by decide +kernel
theorem dX11_layRoom_65 : decode cX11_layRoom 65 = .ok (.iadd, 1) := by decide +kernel
theorem dX11_layRoom_66 : decode cX11_layRoom 66 = .ok (.aload_n 0, 1) := by decide +kernel
theorem dX11_layRoom_67 : decode cX11_layRoom 67 = .ok (.getfield 107, 3) := by decide +kernel
theorem dX11_layRoom_70 : decode cX11_layRoom 70 = .ok (.iload_n 2, 1) := by decide +kernel
theorem dX11_layRoom_71 : decode cX11_layRoom 71 = .ok (.iaload, 1) := by decide +kernel
theorem dX11_layRoom_72 : decode cX11_layRoom 72 = .ok (.iconst 1, 1) := by decide +kernel
theorem dX11_layRoom_73 : decode cX11_layRoom 73 = .ok (.if_icmp .le 14, 3) := by decide +kernel
theorem dX11_layRoom_76 : decode cX11_layRoom 76 = .ok (.aload_n 0, 1) := by decide +kernel
theorem dX11_layRoom_77 : decode cX11_layRoom 77 = .ok (.getfield 107, 3) := by decide +kernel
theorem dX11_layRoom_80 : decode cX11_layRoom 80 = .ok (.iload_n 2, 1) := by decide +kernel
theorem dX11_layRoom_81 : decode cX11_layRoom 81 = .ok (.iaload, 1) := by decide +kernel
theorem dX11_layRoom_82 : decode cX11_layRoom 82 = .ok (.iconst 1, 1) := by decide +kernel
theorem dX11_layRoom_83 : decode cX11_layRoom 83 = .ok (.isub, 1) := by decide +kernel
theorem dX11_layRoom_84 : decode cX11_layRoom 84 = .ok (.goto 4, 3) := by decide +kernel
theorem dX11_layRoom_87 : decode cX11_layRoom 87 = .ok (.iconst 0, 1) := by decide +kernel
theorem dX11_layRoom_88 : decode cX11_layRoom 88 = .ok (.iastore, 1) := by decide +kernel
theorem dX11_layRoom_89 : decode cX11_layRoom 89 = .ok (.iconst 1, 1) := by decide +kernel
theorem dX11_layRoom_90 : decode cX11_layRoom 90 = .ok (.istore_n 3, 1) := by decide +kernel
theorem dX11_layRoom_91 : decode cX11_layRoom 91 = .ok (.iload_n 3, 1) := by decide +kernel
theorem dX11_layRoom_92 : decode cX11_layRoom 92 = .ok (.bipush 6, 2) := by decide +kernel
theorem dX11_layRoom_94 : decode cX11_layRoom 94 = .ok (.if_icmp .ge 98, 3) := by decide +kernel
theorem dX11_layRoom_97 : decode cX11_layRoom 97 = .ok (.iload_n 1, 1) := by decide +kernel
theorem dX11_layRoom_98 : decode cX11_layRoom 98 = .ok (.iload_n 3, 1) := by decide +kernel
theorem dX11_layRoom_99 : decode cX11_layRoom 99 = .ok (.invokestatic 192, 3) := by decide +kernel
theorem dX11_layRoom_102 : decode cX11_layRoom 102 = .ok (.istore 4, 2) := by decide +kernel
theorem dX11_layRoom_104 : decode cX11_layRoom 104 = .ok (.aload_n 0, 1) := by decide +kernel
theorem dX11_layRoom_105 : decode cX11_layRoom 105 = .ok (.getfield 120, 3) := by decide +kernel
theorem dX11_layRoom_108 : decode cX11_layRoom 108 = .ok (.bipush 31, 2) := by decide +kernel
theorem dX11_layRoom_110 : decode cX11_layRoom 110 = .ok (.iconst 1, 1) := by decide +kernel
theorem dX11_layRoom_111 : decode cX11_layRoom 111 = .ok (.iload_n 2, 1) := by decide +kernel
theorem dX11_layRoom_112 : decode cX11_layRoom 112 = .ok (.iadd, 1) := by decide +kernel
theorem dX11_layRoom_113 : decode cX11_layRoom 113 = .ok (.imul, 1) := by decide +kernel
theorem dX11_layRoom_114 : decode cX11_layRoom 114 = .ok (.bipush 12, 2) := by decide +kernel
theorem dX11_layRoom_116 : decode cX11_layRoom 116 = .ok (.iadd, 1) := by decide +kernel
theorem dX11_layRoom_117 : decode cX11_layRoom 117 = .ok (.iload_n 3, 1) := by decide +kernel
theorem dX11_layRoom_118 : decode cX11_layRoom 118 = .ok (.iadd, 1) := by decide +kernel
theorem dX11_layRoom_119 : decode cX11_layRoom 119 = .ok (.iload 4, 2) := by decide +kernel
theorem dX11_layRoom_121 : decode cX11_layRoom 121 = .ok (.ifCond .eq 22, 3) := by decide +kernel
theorem dX11_layRoom_124 : decode cX11_layRoom 124 = .ok (.aload_n 0, 1) := by decide +kernel
theorem dX11_layRoom_125 : decode cX11_layRoom 125 = .ok (.getfield 107, 3) := by decide +kernel
theorem dX11_layRoom_128 : decode cX11_layRoom 128 = .ok (.bipush 12, 2) := by decide +kernel
theorem dX11_layRoom_130 : decode cX11_layRoom 130 = .ok (.iload_n 3, 1) := by decide +kernel
theorem dX11_layRoom_131 : decode cX11_layRoom 131 = .ok (.imul, 1) := by decide +kernel
theorem dX11_layRoom_132 : decode cX11_layRoom 132 = .ok (.iload_n 2, 1) := by decide +kernel
theorem dX11_layRoom_133 : decode cX11_layRoom 133 = .ok (.iadd, 1) := by decide +kernel
theorem dX11_layRoom_134 : decode cX11_layRoom 134 = .ok (.iaload, 1) := by decide +kernel
theorem dX11_layRoom_135 : decode cX11_layRoom 135 = .ok (.iconst 1, 1) := by decide +kernel
theorem dX11_layRoom_136 : decode cX11_layRoom 136 = .ok (.if_icmp .le 7, 3) := by decide +kernel
theorem dX11_layRoom_139 : decode cX11_layRoom 139 = .ok (.iconst 1, 1) := by decide +kernel
theorem dX11_layRoom_140 : decode cX11_layRoom 140 = .ok (.goto 4, 3) := by decide +kernel
theorem dX11_layRoom_143 : decode cX11_layRoom 143 = .ok (.iconst 0, 1) := by decide +kernel
theorem dX11_layRoom_144 : decode cX11_layRoom 144 = .ok (.iastore, 1) := by decide +kernel
theorem dX11_layRoom_145 : decode cX11_layRoom 145 = .ok (.aload_n 0, 1) := by decide +kernel
theorem dX11_layRoom_146 : decode cX11_layRoom 146 = .ok (.getfield 120, 3) := by decide +kernel
theorem dX11_layRoom_149 : decode cX11_layRoom 149 = .ok (.bipush 31, 2) := by decide +kernel
theorem dX11_layRoom_151 : decode cX11_layRoom 151 = .ok (.bipush 12, 2) := by decide +kernel
theorem dX11_layRoom_153 : decode cX11_layRoom 153 = .ok (.iload_n 3, 1) := by decide +kernel
theorem dX11_layRoom_154 : decode cX11_layRoom 154 = .ok (.iadd, 1) := by decide +kernel
theorem dX11_layRoom_155 : decode cX11_layRoom 155 = .ok (.imul, 1) := by decide +kernel
theorem dX11_layRoom_156 : decode cX11_layRoom 156 = .ok (.bipush 18, 2) := by decide +kernel
theorem dX11_layRoom_158 : decode cX11_layRoom 158 = .ok (.iadd, 1) := by decide +kernel
theorem dX11_layRoom_159 : decode cX11_layRoom 159 = .ok (.iload_n 2, 1) := by decide +kernel
theorem dX11_layRoom_160 : decode cX11_layRoom 160 = .ok (.iadd, 1) := by decide +kernel
theorem dX11_layRoom_161 : decode cX11_layRoom 161 = .ok (.iload 4, 2) := by decide +kernel
theorem dX11_layRoom_163 : decode cX11_layRoom 163 = .ok (.ifCond .eq 21, 3) := by decide +kernel
theorem dX11_layRoom_166 : decode cX11_layRoom 166 = .ok (.aload_n 0, 1) := by decide +kernel
theorem dX11_layRoom_167 : decode cX11_layRoom 167 = .ok (.getfield 107, 3) := by decide +kernel
theorem dX11_layRoom_170 : decode cX11_layRoom 170 = .ok (.bipush 12, 2) := by decide +kernel
theorem dX11_layRoom_172 : decode cX11_layRoom 172 = .ok (.iload_n 3, 1) := by decide +kernel
theorem dX11_layRoom_173 : decode cX11_layRoom 173 = .ok (.imul, 1) := by decide +kernel
theorem dX11_layRoom_174 : decode cX11_layRoom 174 = .ok (.iload_n 2, 1) := by decide +kernel
theorem dX11_layRoom_175 : decode cX11_layRoom 175 = .ok (.iadd, 1) := by decide +kernel
theorem dX11_layRoom_176 : decode cX11_layRoom 176 = .ok (.iaload, 1) := by decide +kernel
theorem dX11_layRoom_177 : decode cX11_layRoom 177 = .ok (.ifCond .ne 7, 3) := by decide +kernel
theorem dX11_layRoom_180 : decode cX11_layRoom 180 = .ok (.iconst 1, 1) := by decide +kernel
theorem dX11_layRoom_181 : decode cX11_layRoom 181 = .ok (.goto 4, 3) := by decide +kernel
theorem dX11_layRoom_184 : decode cX11_layRoom 184 = .ok (.iconst 0, 1) := by decide +kernel
theorem dX11_layRoom_185 : decode cX11_layRoom 185 = .ok (.iastore, 1) := by decide +kernel
theorem dX11_layRoom_186 : decode cX11_layRoom 186 = .ok (.iinc 3 1, 3) := by decide +kernel
theorem dX11_layRoom_189 : decode cX11_layRoom 189 = .ok (.goto (-98), 3) := by decide +kernel
theorem dX11_layRoom_192 : decode cX11_layRoom 192 = .ok (.iinc 2 1, 3) := by decide +kernel
theorem dX11_layRoom_195 : decode cX11_layRoom 195 = .ok (.goto (-171), 3) := by decide +kernel
theorem dX11_layRoom_198 : decode cX11_layRoom 198 = .ok (.return_, 1) := by decide +kernel
theorem dX11_goes_0 : decode cX11_goes 0 = .ok (.iconst 0, 1) := by decide +kernel
theorem dX11_goes_1 : decode cX11_goes 1 = .ok (.istore_n 1, 1) := by decide +kernel
theorem dX11_goes_2 : decode cX11_goes 2 = .ok (.iload_n 1, 1) := by decide +kernel
theorem dX11_goes_3 : decode cX11_goes 3 = .ok (.bipush 31, 2) := by decide +kernel
theorem dX11_goes_5 : decode cX11_goes 5 = .ok (.if_icmp .ge 17, 3) := by decide +kernel
theorem dX11_goes_8 : decode cX11_goes 8 = .ok (.aload_n 0, 1) := by decide +kernel
theorem dX11_goes_9 : decode cX11_goes 9 = .ok (.getfield 123, 3) := by decide +kernel
theorem dX11_goes_12 : decode cX11_goes 12 = .ok (.iload_n 1, 1) := by decide +kernel
theorem dX11_goes_13 : decode cX11_goes 13 = .ok (.bipush (-9), 2) := by decide +kernel
theorem dX11_goes_15 : decode cX11_goes 15 = .ok (.iastore, 1) := by decide +kernel
theorem dX11_goes_16 : decode cX11_goes 16 = .ok (.iinc 1 1, 3) := by decide +kernel
theorem dX11_goes_19 : decode cX11_goes 19 = .ok (.goto (-17), 3) := by decide +kernel
theorem dX11_goes_22 : decode cX11_goes 22 = .ok (.iconst 1, 1) := by decide +kernel
theorem dX11_goes_23 : decode cX11_goes 23 = .ok (.istore_n 1, 1) := by decide +kernel
theorem dX11_goes_24 : decode cX11_goes 24 = .ok (.aload_n 0, 1) := by decide +kernel
theorem dX11_goes_25 : decode cX11_goes 25 = .ok (.getfield 126, 3) := by decide +kernel
theorem dX11_goes_28 : decode cX11_goes 28 = .ok (.iconst 0, 1) := by decide +kernel
theorem dX11_goes_29 : decode cX11_goes 29 = .ok (.iconst 0, 1) := by decide +kernel
theorem dX11_goes_30 : decode cX11_goes 30 = .ok (.iastore, 1) := by decide +kernel
theorem dX11_goes_31 : decode cX11_goes 31 = .ok (.aload_n 0, 1) := by decide +kernel
theorem dX11_goes_32 : decode cX11_goes 32 = .ok (.getfield 123, 3) := by decide +kernel
theorem dX11_goes_35 : decode cX11_goes 35 = .ok (.iconst 0, 1) := by decide +kernel
theorem dX11_goes_36 : decode cX11_goes 36 = .ok (.iconst 0, 1) := by decide +kernel
theorem dX11_goes_37 : decode cX11_goes 37 = .ok (.iastore, 1) := by decide +kernel
theorem dX11_goes_38 : decode cX11_goes 38 = .ok (.iconst 0, 1) := by decide +kernel
theorem dX11_goes_39 : decode cX11_goes 39 = .ok (.istore_n 2, 1) := by decide +kernel
theorem dX11_goes_40 : decode cX11_goes 40 = .ok (.iload_n 2, 1) := by decide +kernel
theorem dX11_goes_41 : decode cX11_goes 41 = .ok (.iload_n 1, 1) := by decide +kernel
theorem dX11_goes_42 : decode cX11_goes 42 = .ok (.if_icmp .ge 75, 3) := by decide +kernel
theorem dX11_goes_45 : decode cX11_goes 45 = .ok (.iconst 0, 1) := by decide +kernel
theorem dX11_goes_46 : decode cX11_goes 46 = .ok (.istore_n 3, 1) := by decide +kernel
theorem dX11_goes_47 : decode cX11_goes 47 = .ok (.iload_n 3, 1) := by decide +kernel
theorem dX11_goes_48 : decode cX11_goes 48 = .ok (.bipush 31, 2) := by decide +kernel
theorem dX11_goes_50 : decode cX11_goes 50 = .ok (.if_icmp .ge 61, 3) := by decide +kernel
theorem dX11_goes_53 : decode cX11_goes 53 = .ok (.aload_n 0, 1) := by decide +kernel
theorem dX11_goes_54 : decode cX11_goes 54 = .ok (.getfield 123, 3) := by decide +kernel
theorem dX11_goes_57 : decode cX11_goes 57 = .ok (.iload_n 3, 1) := by decide +kernel
theorem dX11_goes_58 : decode cX11_goes 58 = .ok (.iaload, 1) := by decide +kernel
theorem dX11_goes_59 : decode cX11_goes 59 = .ok (.bipush (-9), 2) := by decide +kernel
theorem dX11_goes_61 : decode cX11_goes 61 = .ok (.if_icmp .ne 44, 3) := by decide +kernel
theorem dX11_goes_64 : decode cX11_goes 64 = .ok (.aload_n 0, 1) := by decide +kernel
theorem dX11_goes_65 : decode cX11_goes 65 = .ok (.getfield 120, 3) := by decide +kernel
theorem dX11_goes_68 : decode cX11_goes 68 = .ok (.bipush 31, 2) := by decide +kernel
theorem dX11_goes_70 : decode cX11_goes 70 = .ok (.aload_n 0, 1) := by decide +kernel
theorem dX11_goes_71 : decode cX11_goes 71 = .ok (.getfield 126, 3) := by decide +kernel
theorem dX11_goes_74 : decode cX11_goes 74 = .ok (.iload_n 2, 1) := by decide +kernel
theorem dX11_goes_75 : decode cX11_goes 75 = .ok (.iaload, 1) := by decide +kernel
theorem dX11_goes_76 : decode cX11_goes 76 = .ok (.imul, 1) := by decide +kernel
theorem dX11_goes_77 : decode cX11_goes 77 = .ok (.iload_n 3, 1) := by decide +kernel
theorem dX11_goes_78 : decode cX11_goes 78 = .ok (.iadd, 1) := by decide +kernel
theorem dX11_goes_79 : decode cX11_goes 79 = .ok (.iaload, 1) := by decide +kernel
theorem dX11_goes_80 : decode cX11_goes 80 = .ok (.ifCond .le 25, 3) := by decide +kernel
theorem dX11_goes_83 : decode cX11_goes 83 = .ok (.aload_n 0, 1) := by decide +kernel
theorem dX11_goes_84 : decode cX11_goes 84 = .ok (.getfield 123, 3) := by decide +kernel
theorem dX11_goes_87 : decode cX11_goes 87 = .ok (.iload_n 3, 1) := by decide +kernel
theorem dX11_goes_88 : decode cX11_goes 88 = .ok (.aload_n 0, 1) := by decide +kernel
theorem dX11_goes_89 : decode cX11_goes 89 = .ok (.getfield 126, 3) := by decide +kernel
theorem dX11_goes_92 : decode cX11_goes 92 = .ok (.iload_n 2, 1) := by decide +kernel
theorem dX11_goes_93 : decode cX11_goes 93 = .ok (.iaload, 1) := by decide +kernel
theorem dX11_goes_94 : decode cX11_goes 94 = .ok (.iastore, 1) := by decide +kernel
theorem dX11_goes_95 : decode cX11_goes 95 = .ok (.aload_n 0, 1) := by decide +kernel
theorem dX11_goes_96 : decode cX11_goes 96 = .ok (.getfield 126, 3) := by decide +kernel
theorem dX11_goes_99 : decode cX11_goes 99 = .ok (.iload_n 1, 1) := by decide +kernel
theorem dX11_goes_100 : decode cX11_goes 100 = .ok (.iload_n 3, 1) := by decide +kernel
theorem dX11_goes_101 : decode cX11_goes 101 = .ok (.iastore, 1) := by decide +kernel
theorem dX11_goes_102 : decode cX11_goes 102 = .ok (.iinc 1 1, 3) := by decide +kernel
theorem dX11_goes_105 : decode cX11_goes 105 = .ok (.iinc 3 1, 3) := by decide +kernel
theorem dX11_goes_108 : decode cX11_goes 108 = .ok (.goto (-61), 3) := by decide +kernel
theorem dX11_goes_111 : decode cX11_goes 111 = .ok (.iinc 2 1, 3) := by decide +kernel
theorem dX11_goes_114 : decode cX11_goes 114 = .ok (.goto (-74), 3) := by decide +kernel
theorem dX11_goes_117 : decode cX11_goes 117 = .ok (.aload_n 0, 1) := by decide +kernel
theorem dX11_goes_118 : decode cX11_goes 118 = .ok (.getfield 123, 3) := by decide +kernel
theorem dX11_goes_121 : decode cX11_goes 121 = .ok (.bipush 30, 2) := by decide +kernel
theorem dX11_goes_123 : decode cX11_goes 123 = .ok (.iaload, 1) := by decide +kernel
theorem dX11_goes_124 : decode cX11_goes 124 = .ok (.bipush (-9), 2) := by decide +kernel
theorem dX11_goes_126 : decode cX11_goes 126 = .ok (.if_icmp .ne 5, 3) := by decide +kernel
theorem dX11_goes_129 : decode cX11_goes 129 = .ok (.iconst 0, 1) := by decide +kernel
theorem dX11_goes_130 : decode cX11_goes 130 = .ok (.ireturn, 1) := by decide +kernel
theorem dX11_goes_131 : decode cX11_goes 131 = .ok (.bipush 30, 2) := by decide +kernel
theorem dX11_goes_133 : decode cX11_goes 133 = .ok (.istore_n 2, 1) := by decide +kernel
theorem dX11_goes_134 : decode cX11_goes 134 = .ok (.iload_n 2, 1) := by decide +kernel
theorem dX11_goes_135 : decode cX11_goes 135 = .ok (.ifCond .eq 53, 3) := by decide +kernel
theorem dX11_goes_138 : decode cX11_goes 138 = .ok (.aload_n 0, 1) := by decide +kernel
theorem dX11_goes_139 : decode cX11_goes 139 = .ok (.getfield 120, 3) := by decide +kernel
theorem dX11_goes_142 : decode cX11_goes 142 = .ok (.bipush 31, 2) := by decide +kernel
theorem dX11_goes_144 : decode cX11_goes 144 = .ok (.aload_n 0, 1) := by decide +kernel
theorem dX11_goes_145 : decode cX11_goes 145 = .ok (.getfield 123, 3) := by decide +kernel
theorem dX11_goes_148 : decode cX11_goes 148 = .ok (.iload_n 2, 1) := by decide +kernel
theorem dX11_goes_149 : decode cX11_goes 149 = .ok (.iaload, 1) := by decide +kernel
theorem dX11_goes_150 : decode cX11_goes 150 = .ok (.imul, 1) := by decide +kernel
theorem dX11_goes_151 : decode cX11_goes 151 = .ok (.iload_n 2, 1) := by decide +kernel
theorem dX11_goes_152 : decode cX11_goes 152 = .ok (.iadd, 1) := by decide +kernel
theorem dX11_goes_153 : decode cX11_goes 153 = .ok (.dup2, 1) := by decide +kernel
theorem dX11_goes_154 : decode cX11_goes 154 = .ok (.iaload, 1) := by decide +kernel
theorem dX11_goes_155 : decode cX11_goes 155 = .ok (.iconst 1, 1) := by decide +kernel
theorem dX11_goes_156 : decode cX11_goes 156 = .ok (.isub, 1) := by decide +kernel
theorem dX11_goes_157 : decode cX11_goes 157 = .ok (.iastore, 1) := by decide +kernel
theorem dX11_goes_158 : decode cX11_goes 158 = .ok (.aload_n 0, 1) := by decide +kernel
theorem dX11_goes_159 : decode cX11_goes 159 = .ok (.getfield 120, 3) := by decide +kernel
theorem dX11_goes_162 : decode cX11_goes 162 = .ok (.bipush 31, 2) := by decide +kernel
theorem dX11_goes_164 : decode cX11_goes 164 = .ok (.iload_n 2, 1) := by decide +kernel
theorem dX11_goes_165 : decode cX11_goes 165 = .ok (.imul, 1) := by decide +kernel
theorem dX11_goes_166 : decode cX11_goes 166 = .ok (.aload_n 0, 1) := by decide +kernel
theorem dX11_goes_167 : decode cX11_goes 167 = .ok (.getfield 123, 3) := by decide +kernel
theorem dX11_goes_170 : decode cX11_goes 170 = .ok (.iload_n 2, 1) := by decide +kernel
theorem dX11_goes_171 : decode cX11_goes 171 = .ok (.iaload, 1) := by decide +kernel
theorem dX11_goes_172 : decode cX11_goes 172 = .ok (.iadd, 1) := by decide +kernel
theorem dX11_goes_173 : decode cX11_goes 173 = .ok (.dup2, 1) := by decide +kernel
theorem dX11_goes_174 : decode cX11_goes 174 = .ok (.iaload, 1) := by decide +kernel
theorem dX11_goes_175 : decode cX11_goes 175 = .ok (.iconst 1, 1) := by decide +kernel
theorem dX11_goes_176 : decode cX11_goes 176 = .ok (.iadd, 1) := by decide +kernel
theorem dX11_goes_177 : decode cX11_goes 177 = .ok (.iastore, 1) := by decide +kernel
theorem dX11_goes_178 : decode cX11_goes 178 = .ok (.aload_n 0, 1) := by decide +kernel
theorem dX11_goes_179 : decode cX11_goes 179 = .ok (.getfield 123, 3) := by decide +kernel
theorem dX11_goes_182 : decode cX11_goes 182 = .ok (.iload_n 2, 1) := by decide +kernel
theorem dX11_goes_183 : decode cX11_goes 183 = .ok (.iaload, 1) := by decide +kernel
theorem dX11_goes_184 : decode cX11_goes 184 = .ok (.istore_n 2, 1) := by decide +kernel
theorem dX11_goes_185 : decode cX11_goes 185 = .ok (.goto (-51), 3) := by decide +kernel
theorem dX11_goes_188 : decode cX11_goes 188 = .ok (.iconst 1, 1) := by decide +kernel
theorem dX11_goes_189 : decode cX11_goes 189 = .ok (.ireturn, 1) := by decide +kernel
set_option maxRecDepth 20000 in
theorem ggX11_mostSwaps_X11_layRoom : GoodIn wsX11_mostSwaps wsX11_layRoom := goodIn_r _ [5, 6, 7, 8, 9, 4, 10, 17, 18, 19, 20, 21, 22, 23, 24, 25, 26, 27, 28, 29, 30, 31, 32, 33, 34, 35, 36, 37, 38, 39, 40, 41, 42, 43, 44, 45, 46, 47, 48, 49, 50, 51, 52, 53, 54, 55, 56, 57, 58, 59, 60, 61, 62, 63, 64, 65] (by decide +kernel) (by decide +kernel)
set_option maxRecDepth 20000 in
theorem gX11_mostSwaps_X11_layRoom : GoodIn wsX11_mostSwaps (wsV RX11 229 RX11 yX11_layRoom wsX11_layRoom) := goodIn_app (goodIn_of _ (by decide +kernel)) ggX11_mostSwaps_X11_layRoom
set_option maxRecDepth 20000 in
theorem ggX11_mostSwaps_X11_goes : GoodIn wsX11_mostSwaps wsX11_goes := goodIn_r _ [14, 15, 16, 6, 17, 18, 19, 20, 21, 22, 23, 24, 25, 26, 27, 28, 29, 30, 31, 32, 33, 34, 35, 36, 37, 38, 39, 40, 41, 42, 43, 44, 45, 46, 47, 48, 49, 50, 51, 52, 53, 54, 55, 56, 57, 58, 59, 60, 61, 62, 63, 64, 65] (by decide +kernel) (by decide +kernel)
set_option maxRecDepth 20000 in
theorem gX11_mostSwaps_X11_goes : GoodIn wsX11_mostSwaps (wsV RX11 233 RX11 yX11_goes wsX11_goes) := goodIn_app (goodIn_of _ (by decide +kernel)) ggX11_mostSwaps_X11_goes
theorem dX11_mostSwaps_0 : decode cX11_mostSwaps 0 = .ok (.aload_n 0, 1) := by decide +kernel
theorem dX11_mostSwaps_1 : decode cX11_mostSwaps 1 = .ok (.iload_n 1, 1) := by decide +kernel
theorem dX11_mostSwaps_2 : decode cX11_mostSwaps 2 = .ok (.invokevirtual 229, 3) := by decide +kernel
theorem dX11_mostSwaps_5 : decode cX11_mostSwaps 5 = .ok (.iconst 0, 1) := by decide +kernel
theorem dX11_mostSwaps_6 : decode cX11_mostSwaps 6 = .ok (.istore_n 2, 1) := by decide +kernel
theorem dX11_mostSwaps_7 : decode cX11_mostSwaps 7 = .ok (.aload_n 0, 1) := by decide +kernel
theorem dX11_mostSwaps_8 : decode cX11_mostSwaps 8 = .ok (.invokevirtual 233, 3) := by decide +kernel
theorem dX11_mostSwaps_11 : decode cX11_mostSwaps 11 = .ok (.ifCond .eq 9, 3) := by decide +kernel
theorem dX11_mostSwaps_14 : decode cX11_mostSwaps 14 = .ok (.iinc 2 1, 3) := by decide +kernel
theorem dX11_mostSwaps_17 : decode cX11_mostSwaps 17 = .ok (.goto (-10), 3) := by decide +kernel
theorem dX11_mostSwaps_20 : decode cX11_mostSwaps 20 = .ok (.iload_n 2, 1) := by decide +kernel
theorem dX11_mostSwaps_21 : decode cX11_mostSwaps 21 = .ok (.ireturn, 1) := by decide +kernel
set_option maxRecDepth 20000 in
theorem ggX11_swaps_X11_mostSwaps : GoodIn wsX11_swaps wsX11_mostSwaps := goodIn_r _ [5, 6, 7, 8, 4, 9, 10, 11, 12, 13, 14, 15, 16, 17, 18, 19, 20, 21, 22, 23, 24, 25, 26, 27, 28, 29, 30, 31, 32, 33, 34, 35, 36, 37, 38, 39, 40, 41, 42, 43, 44, 45, 46, 47, 48, 49, 50, 51, 52, 53, 54, 55, 56, 57, 58, 59, 60, 61, 62, 63, 64, 65, 66, 67, 68, 69] (by decide +kernel) (by decide +kernel)
set_option maxRecDepth 20000 in
theorem gX11_swaps_X11_mostSwaps : GoodIn wsX11_swaps (wsV RX11 237 RX11 yX11_mostSwaps wsX11_mostSwaps) := goodIn_app (goodIn_of _ (by decide +kernel)) ggX11_swaps_X11_mostSwaps
theorem dX11_swaps_0 : decode cX11_swaps 0 = .ok (.iload_n 1, 1) := by decide +kernel
theorem dX11_swaps_1 : decode cX11_swaps 1 = .ok (.ifCond .lt 23, 3) := by decide +kernel
theorem dX11_swaps_4 : decode cX11_swaps 4 = .ok (.iload_n 1, 1) := by decide +kernel
theorem dX11_swaps_5 : decode cX11_swaps 5 = .ok (.bipush 62, 2) := by decide +kernel
theorem dX11_swaps_7 : decode cX11_swaps 7 = .ok (.if_icmp .gt 17, 3) := by decide +kernel
theorem dX11_swaps_10 : decode cX11_swaps 10 = .ok (.iload_n 1, 1) := by decide +kernel
theorem dX11_swaps_11 : decode cX11_swaps 11 = .ok (.iconst 2, 1) := by decide +kernel
theorem dX11_swaps_12 : decode cX11_swaps 12 = .ok (.irem, 1) := by decide +kernel
theorem dX11_swaps_13 : decode cX11_swaps 13 = .ok (.ifCond .ne 11, 3) := by decide +kernel
theorem dX11_swaps_16 : decode cX11_swaps 16 = .ok (.aload_n 0, 1) := by decide +kernel
theorem dX11_swaps_17 : decode cX11_swaps 17 = .ok (.iload_n 1, 1) := by decide +kernel
theorem dX11_swaps_18 : decode cX11_swaps 18 = .ok (.invokevirtual 237, 3) := by decide +kernel
theorem dX11_swaps_21 : decode cX11_swaps 21 = .ok (.goto 4, 3) := by decide +kernel
theorem dX11_swaps_24 : decode cX11_swaps 24 = .ok (.iconst (-1), 1) := by decide +kernel
theorem dX11_swaps_25 : decode cX11_swaps 25 = .ok (.ireturn, 1) := by decide +kernel
set_option maxRecDepth 20000 in
theorem ggX11_whole_X11_lacking : GoodIn wsX11_whole wsX11_lacking := goodIn_r _ [6, 7, 29, 30, 31, 32, 33, 34, 35, 36, 37, 38, 39, 40, 41, 42, 43, 44, 45, 46, 47, 48, 49, 50, 51, 52, 53, 54, 55, 56, 57, 58, 59, 60, 61, 62, 63, 64, 65, 66, 67, 68, 69, 70, 71, 72, 73, 74, 75, 76, 77] (by decide +kernel) (by decide +kernel)
set_option maxRecDepth 20000 in
theorem gX11_whole_X11_lacking : GoodIn wsX11_whole (wsV RX11 225 RX11 yX11_lacking wsX11_lacking) := goodIn_app (goodIn_of _ (by decide +kernel)) ggX11_whole_X11_lacking
set_option maxRecDepth 20000 in
theorem ggX11_whole_X11_bitsOf : GoodIn wsX11_whole wsX11_bitsOf := goodIn_r _ [10] (by decide +kernel) (by decide +kernel)
set_option maxRecDepth 20000 in
theorem gX11_whole_X11_bitsOf : GoodIn wsX11_whole (va_wsS RX11 175 yX11_bitsOf wsX11_bitsOf) := goodIn_app (goodIn_of _ (by decide +kernel)) ggX11_whole_X11_bitsOf
set_option maxRecDepth 20000 in
theorem ggX11_whole_X11_mostSwaps : GoodIn wsX11_whole wsX11_mostSwaps := goodIn_r _ [14, 15, 16, 17, 5, 18, 19, 7, 20, 21, 22, 23, 24, 25, 26, 27, 28, 29, 30, 31, 32, 33, 34, 35, 36, 37, 38, 39, 40, 41, 42, 43, 44, 45, 46, 47, 48, 49, 50, 51, 52, 53, 54, 55, 56, 57, 58, 59, 60, 61, 62, 63, 64, 65, 66, 67, 68, 69, 70, 71, 72, 73, 74, 75, 76, 77] (by decide +kernel) (by decide +kernel)
set_option maxRecDepth 20000 in
theorem gX11_whole_X11_mostSwaps : GoodIn wsX11_whole (wsV RX11 237 RX11 yX11_mostSwaps wsX11_mostSwaps) := goodIn_app (goodIn_of _ (by decide +kernel)) ggX11_whole_X11_mostSwaps
theorem dX11_whole_0 : decode cX11_whole 0 = .ok (.aload_n 0, 1) := by decide +kernel
theorem dX11_whole_1 : decode cX11_whole 1 = .ok (.invokevirtual 225, 3) := by decide +kernel
theorem dX11_whole_4 : decode cX11_whole 4 = .ok (.invokestatic 175, 3) := by decide +kernel
theorem dX11_whole_7 : decode cX11_whole 7 = .ok (.istore_n 1, 1) := by decide +kernel
theorem dX11_whole_8 : decode cX11_whole 8 = .ok (.bipush (-9), 2) := by decide +kernel
theorem dX11_whole_10 : decode cX11_whole 10 = .ok (.istore_n 2, 1) := by decide +kernel
theorem dX11_whole_11 : decode cX11_whole 11 = .ok (.iconst 0, 1) := by decide +kernel
theorem dX11_whole_12 : decode cX11_whole 12 = .ok (.istore_n 3, 1) := by decide +kernel
theorem dX11_whole_13 : decode cX11_whole 13 = .ok (.iload_n 3, 1) := by decide +kernel
theorem dX11_whole_14 : decode cX11_whole 14 = .ok (.bipush 62, 2) := by decide +kernel
theorem dX11_whole_16 : decode cX11_whole 16 = .ok (.if_icmp .gt 37, 3) := by decide +kernel
theorem dX11_whole_19 : decode cX11_whole 19 = .ok (.iload_n 2, 1) := by decide +kernel
theorem dX11_whole_20 : decode cX11_whole 20 = .ok (.bipush (-9), 2) := by decide +kernel
theorem dX11_whole_22 : decode cX11_whole 22 = .ok (.if_icmp .eq 14, 3) := by decide +kernel
theorem dX11_whole_25 : decode cX11_whole 25 = .ok (.iload_n 3, 1) := by decide +kernel
theorem dX11_whole_26 : decode cX11_whole 26 = .ok (.invokestatic 175, 3) := by decide +kernel
theorem dX11_whole_29 : decode cX11_whole 29 = .ok (.iload_n 2, 1) := by decide +kernel
theorem dX11_whole_30 : decode cX11_whole 30 = .ok (.invokestatic 175, 3) := by decide +kernel
theorem dX11_whole_33 : decode cX11_whole 33 = .ok (.if_icmp .ge 14, 3) := by decide +kernel
theorem dX11_whole_36 : decode cX11_whole 36 = .ok (.aload_n 0, 1) := by decide +kernel
theorem dX11_whole_37 : decode cX11_whole 37 = .ok (.iload_n 3, 1) := by decide +kernel
theorem dX11_whole_38 : decode cX11_whole 38 = .ok (.invokevirtual 237, 3) := by decide +kernel
theorem dX11_whole_41 : decode cX11_whole 41 = .ok (.iload_n 1, 1) := by decide +kernel
theorem dX11_whole_42 : decode cX11_whole 42 = .ok (.if_icmp .ne 5, 3) := by decide +kernel
theorem dX11_whole_45 : decode cX11_whole 45 = .ok (.iload_n 3, 1) := by decide +kernel
theorem dX11_whole_46 : decode cX11_whole 46 = .ok (.istore_n 2, 1) := by decide +kernel
theorem dX11_whole_47 : decode cX11_whole 47 = .ok (.iinc 3 2, 3) := by decide +kernel
theorem dX11_whole_50 : decode cX11_whole 50 = .ok (.goto (-37), 3) := by decide +kernel
theorem dX11_whole_53 : decode cX11_whole 53 = .ok (.iload_n 2, 1) := by decide +kernel
theorem dX11_whole_54 : decode cX11_whole 54 = .ok (.bipush (-9), 2) := by decide +kernel
theorem dX11_whole_56 : decode cX11_whole 56 = .ok (.if_icmp .ne 6, 3) := by decide +kernel
theorem dX11_whole_59 : decode cX11_whole 59 = .ok (.bipush (-9), 2) := by decide +kernel
theorem dX11_whole_61 : decode cX11_whole 61 = .ok (.ireturn, 1) := by decide +kernel
theorem dX11_whole_62 : decode cX11_whole 62 = .ok (.aload_n 0, 1) := by decide +kernel
theorem dX11_whole_63 : decode cX11_whole 63 = .ok (.iload_n 2, 1) := by decide +kernel
theorem dX11_whole_64 : decode cX11_whole 64 = .ok (.putfield 137, 3) := by decide +kernel
theorem dX11_whole_67 : decode cX11_whole 67 = .ok (.iload_n 2, 1) := by decide +kernel
theorem dX11_whole_68 : decode cX11_whole 68 = .ok (.invokestatic 175, 3) := by decide +kernel
theorem dX11_whole_71 : decode cX11_whole 71 = .ok (.ireturn, 1) := by decide +kernel
theorem dX11_count_0 : decode cX11_count 0 = .ok (.iload_n 1, 1) := by decide +kernel
theorem dX11_count_1 : decode cX11_count 1 = .ok (.tableswitch 87 0 7 #[47, 52, 57, 62, 67, 72, 77, 82], 47) := by decide +kernel
theorem dX11_count_48 : decode cX11_count 48 = .ok (.aload_n 0, 1) := by decide +kernel
theorem dX11_count_49 : decode cX11_count 49 = .ok (.getfield 140, 3) := by decide +kernel
theorem dX11_count_52 : decode cX11_count 52 = .ok (.ireturn, 1) := by decide +kernel
theorem dX11_count_53 : decode cX11_count 53 = .ok (.aload_n 0, 1) := by decide +kernel
theorem dX11_count_54 : decode cX11_count 54 = .ok (.getfield 143, 3) := by decide +kernel
theorem dX11_count_57 : decode cX11_count 57 = .ok (.ireturn, 1) := by decide +kernel
theorem dX11_count_58 : decode cX11_count 58 = .ok (.aload_n 0, 1) := by decide +kernel
theorem dX11_count_59 : decode cX11_count 59 = .ok (.getfield 146, 3) := by decide +kernel
theorem dX11_count_62 : decode cX11_count 62 = .ok (.ireturn, 1) := by decide +kernel
theorem dX11_count_63 : decode cX11_count 63 = .ok (.aload_n 0, 1) := by decide +kernel
theorem dX11_count_64 : decode cX11_count 64 = .ok (.getfield 154, 3) := by decide +kernel
theorem dX11_count_67 : decode cX11_count 67 = .ok (.ireturn, 1) := by decide +kernel
theorem dX11_count_68 : decode cX11_count 68 = .ok (.aload_n 0, 1) := by decide +kernel
theorem dX11_count_69 : decode cX11_count 69 = .ok (.getfield 181, 3) := by decide +kernel
theorem dX11_count_72 : decode cX11_count 72 = .ok (.ireturn, 1) := by decide +kernel
theorem dX11_count_73 : decode cX11_count 73 = .ok (.aload_n 0, 1) := by decide +kernel
theorem dX11_count_74 : decode cX11_count 74 = .ok (.getfield 196, 3) := by decide +kernel
theorem dX11_count_77 : decode cX11_count 77 = .ok (.ireturn, 1) := by decide +kernel
theorem dX11_count_78 : decode cX11_count 78 = .ok (.aload_n 0, 1) := by decide +kernel
theorem dX11_count_79 : decode cX11_count 79 = .ok (.getfield 199, 3) := by decide +kernel
theorem dX11_count_82 : decode cX11_count 82 = .ok (.ireturn, 1) := by decide +kernel
theorem dX11_count_83 : decode cX11_count 83 = .ok (.aload_n 0, 1) := by decide +kernel
theorem dX11_count_84 : decode cX11_count 84 = .ok (.getfield 210, 3) := by decide +kernel
theorem dX11_count_87 : decode cX11_count 87 = .ok (.ireturn, 1) := by decide +kernel
theorem dX11_count_88 : decode cX11_count 88 = .ok (.iconst (-1), 1) := by decide +kernel
theorem dX11_count_89 : decode cX11_count 89 = .ok (.ireturn, 1) := by decide +kernel
set_option maxRecDepth 20000 in
theorem ggX11_digest_X11_count : GoodIn wsX11_digest wsX11_count := goodIn_r _ [14, 15, 16, 3, 17, 18, 19, 4, 20, 37, 38, 39, 40, 41, 42, 43, 44, 45, 46, 47, 48, 49, 50, 51, 52, 53, 54, 55, 56, 57, 58, 59, 60, 61, 62, 63, 64, 65, 66, 67, 68, 69, 70, 71, 72, 73, 74, 75, 76, 77, 78, 79, 80, 81, 82, 83, 84, 85] (by decide +kernel) (by decide +kernel)
set_option maxRecDepth 20000 in
theorem gX11_digest_X11_count : GoodIn wsX11_digest (wsV RX11 244 RX11 yX11_count wsX11_count) := goodIn_app (goodIn_of _ (by decide +kernel)) ggX11_digest_X11_count
set_option maxRecDepth 20000 in
theorem ggX11_digest_X11_toldOf : GoodIn wsX11_digest wsX11_toldOf := goodIn_r _ [24, 25, 26, 27, 28, 29, 30, 31, 13, 32, 17, 33, 34, 35, 36, 37, 38, 39, 40, 41, 42, 43, 44, 45, 46, 47, 48, 49, 50, 51, 52, 53, 54, 55, 56, 57, 58, 59, 60, 61, 62, 63, 64, 65, 66, 67, 68, 69, 70, 71, 72, 73, 74, 75, 76, 77, 78, 79, 80, 81, 82, 83, 84, 85] (by decide +kernel) (by decide +kernel)
set_option maxRecDepth 20000 in
theorem gX11_digest_X11_toldOf : GoodIn wsX11_digest (wsV RX11 171 RX11 yX11_toldOf wsX11_toldOf) := goodIn_app (goodIn_of _ (by decide +kernel)) ggX11_digest_X11_toldOf
theorem dX11_digest_0 : decode cX11_digest 0 = .ok (.ldc2_w 240, 3) := by decide +kernel
theorem dX11_digest_3 : decode cX11_digest 3 = .ok (.lstore_n 1, 1) := by decide +kernel
theorem dX11_digest_4 : decode cX11_digest 4 = .ok (.iconst 0, 1) := by decide +kernel
theorem dX11_digest_5 : decode cX11_digest 5 = .ok (.istore_n 3, 1) := by decide +kernel
theorem dX11_digest_6 : decode cX11_digest 6 = .ok (.iload_n 3, 1) := by decide +kernel
theorem dX11_digest_7 : decode cX11_digest 7 = .ok (.bipush 8, 2) := by decide +kernel
theorem dX11_digest_9 : decode cX11_digest 9 = .ok (.if_icmp .ge 22, 3) := by decide +kernel
theorem dX11_digest_12 : decode cX11_digest 12 = .ok (.ldc2_w 242, 3) := by decide +kernel
theorem dX11_digest_15 : decode cX11_digest 15 = .ok (.lload_n 1, 1) := by decide +kernel
theorem dX11_digest_16 : decode cX11_digest 16 = .ok (.lmul, 1) := by decide +kernel
theorem dX11_digest_17 : decode cX11_digest 17 = .ok (.aload_n 0, 1) := by decide +kernel
theorem dX11_digest_18 : decode cX11_digest 18 = .ok (.iload_n 3, 1) := by decide +kernel
theorem dX11_digest_19 : decode cX11_digest 19 = .ok (.invokevirtual 244, 3) := by decide +kernel
theorem dX11_digest_22 : decode cX11_digest 22 = .ok (.i2l, 1) := by decide +kernel
theorem dX11_digest_23 : decode cX11_digest 23 = .ok (.ladd, 1) := by decide +kernel
theorem dX11_digest_24 : decode cX11_digest 24 = .ok (.lstore_n 1, 1) := by decide +kernel
theorem dX11_digest_25 : decode cX11_digest 25 = .ok (.iinc 3 1, 3) := by decide +kernel
theorem dX11_digest_28 : decode cX11_digest 28 = .ok (.goto (-22), 3) := by decide +kernel
theorem dX11_digest_31 : decode cX11_digest 31 = .ok (.iconst 0, 1) := by decide +kernel
theorem dX11_digest_32 : decode cX11_digest 32 = .ok (.istore_n 3, 1) := by decide +kernel
theorem dX11_digest_33 : decode cX11_digest 33 = .ok (.iload_n 3, 1) := by decide +kernel
theorem dX11_digest_34 : decode cX11_digest 34 = .ok (.aload_n 0, 1) := by decide +kernel
theorem dX11_digest_35 : decode cX11_digest 35 = .ok (.getfield 146, 3) := by decide +kernel
theorem dX11_digest_38 : decode cX11_digest 38 = .ok (.if_icmp .ge 40, 3) := by decide +kernel
theorem dX11_digest_41 : decode cX11_digest 41 = .ok (.iconst 0, 1) := by decide +kernel
theorem dX11_digest_42 : decode cX11_digest 42 = .ok (.istore 4, 2) := by decide +kernel
theorem dX11_digest_44 : decode cX11_digest 44 = .ok (.iload 4, 2) := by decide +kernel
theorem dX11_digest_46 : decode cX11_digest 46 = .ok (.bipush 7, 2) := by decide +kernel
theorem dX11_digest_48 : decode cX11_digest 48 = .ok (.if_icmp .ge 24, 3) := by decide +kernel
theorem dX11_digest_51 : decode cX11_digest 51 = .ok (.ldc2_w 242, 3) := by decide +kernel
theorem dX11_digest_54 : decode cX11_digest 54 = .ok (.lload_n 1, 1) := by decide +kernel
theorem dX11_digest_55 : decode cX11_digest 55 = .ok (.lmul, 1) := by decide +kernel
theorem dX11_digest_56 : decode cX11_digest 56 = .ok (.aload_n 0, 1) := by decide +kernel
theorem dX11_digest_57 : decode cX11_digest 57 = .ok (.iload_n 3, 1) := by decide +kernel
theorem dX11_digest_58 : decode cX11_digest 58 = .ok (.iload 4, 2) := by decide +kernel
theorem dX11_digest_60 : decode cX11_digest 60 = .ok (.invokevirtual 171, 3) := by decide +kernel
theorem dX11_digest_63 : decode cX11_digest 63 = .ok (.i2l, 1) := by decide +kernel
theorem dX11_digest_64 : decode cX11_digest 64 = .ok (.ladd, 1) := by decide +kernel
theorem dX11_digest_65 : decode cX11_digest 65 = .ok (.lstore_n 1, 1) := by decide +kernel
theorem dX11_digest_66 : decode cX11_digest 66 = .ok (.iinc 4 1, 3) := by decide +kernel
theorem dX11_digest_69 : decode cX11_digest 69 = .ok (.goto (-25), 3) := by decide +kernel
theorem dX11_digest_72 : decode cX11_digest 72 = .ok (.iinc 3 1, 3) := by decide +kernel
theorem dX11_digest_75 : decode cX11_digest 75 = .ok (.goto (-42), 3) := by decide +kernel
theorem dX11_digest_78 : decode cX11_digest 78 = .ok (.iconst 0, 1) := by decide +kernel
theorem dX11_digest_79 : decode cX11_digest 79 = .ok (.istore_n 3, 1) := by decide +kernel
theorem dX11_digest_80 : decode cX11_digest 80 = .ok (.iload_n 3, 1) := by decide +kernel
theorem dX11_digest_81 : decode cX11_digest 81 = .ok (.aload_n 0, 1) := by decide +kernel
theorem dX11_digest_82 : decode cX11_digest 82 = .ok (.getfield 199, 3) := by decide +kernel
theorem dX11_digest_85 : decode cX11_digest 85 = .ok (.if_icmp .ge 36, 3) := by decide +kernel
theorem dX11_digest_88 : decode cX11_digest 88 = .ok (.ldc2_w 242, 3) := by decide +kernel
theorem dX11_digest_91 : decode cX11_digest 91 = .ok (.lload_n 1, 1) := by decide +kernel
theorem dX11_digest_92 : decode cX11_digest 92 = .ok (.lmul, 1) := by decide +kernel
theorem dX11_digest_93 : decode cX11_digest 93 = .ok (.aload_n 0, 1) := by decide +kernel
theorem dX11_digest_94 : decode cX11_digest 94 = .ok (.getfield 89, 3) := by decide +kernel
theorem dX11_digest_97 : decode cX11_digest 97 = .ok (.iload_n 3, 1) := by decide +kernel
theorem dX11_digest_98 : decode cX11_digest 98 = .ok (.baload, 1) := by decide +kernel
theorem dX11_digest_99 : decode cX11_digest 99 = .ok (.ifCond .eq 7, 3) := by decide +kernel
theorem dX11_digest_102 : decode cX11_digest 102 = .ok (.iconst (-1), 1) := by decide +kernel
theorem dX11_digest_103 : decode cX11_digest 103 = .ok (.goto 9, 3) := by decide +kernel
theorem dX11_digest_106 : decode cX11_digest 106 = .ok (.aload_n 0, 1) := by decide +kernel
theorem dX11_digest_107 : decode cX11_digest 107 = .ok (.getfield 86, 3) := by decide +kernel
theorem dX11_digest_110 : decode cX11_digest 110 = .ok (.iload_n 3, 1) := by decide +kernel
theorem dX11_digest_111 : decode cX11_digest 111 = .ok (.iaload, 1) := by decide +kernel
theorem dX11_digest_112 : decode cX11_digest 112 = .ok (.i2l, 1) := by decide +kernel
theorem dX11_digest_113 : decode cX11_digest 113 = .ok (.ladd, 1) := by decide +kernel
theorem dX11_digest_114 : decode cX11_digest 114 = .ok (.lstore_n 1, 1) := by decide +kernel
theorem dX11_digest_115 : decode cX11_digest 115 = .ok (.iinc 3 1, 3) := by decide +kernel
theorem dX11_digest_118 : decode cX11_digest 118 = .ok (.goto (-38), 3) := by decide +kernel
theorem dX11_digest_121 : decode cX11_digest 121 = .ok (.iconst 0, 1) := by decide +kernel
theorem dX11_digest_122 : decode cX11_digest 122 = .ok (.istore_n 3, 1) := by decide +kernel
theorem dX11_digest_123 : decode cX11_digest 123 = .ok (.iload_n 3, 1) := by decide +kernel
theorem dX11_digest_124 : decode cX11_digest 124 = .ok (.bipush 72, 2) := by decide +kernel
theorem dX11_digest_126 : decode cX11_digest 126 = .ok (.if_icmp .ge 23, 3) := by decide +kernel
theorem dX11_digest_129 : decode cX11_digest 129 = .ok (.ldc2_w 242, 3) := by decide +kernel
theorem dX11_digest_132 : decode cX11_digest 132 = .ok (.lload_n 1, 1) := by decide +kernel
theorem dX11_digest_133 : decode cX11_digest 133 = .ok (.lmul, 1) := by decide +kernel
theorem dX11_digest_134 : decode cX11_digest 134 = .ok (.aload_n 0, 1) := by decide +kernel
theorem dX11_digest_135 : decode cX11_digest 135 = .ok (.getfield 107, 3) := by decide +kernel
theorem dX11_digest_138 : decode cX11_digest 138 = .ok (.iload_n 3, 1) := by decide +kernel
theorem dX11_digest_139 : decode cX11_digest 139 = .ok (.iaload, 1) := by decide +kernel
theorem dX11_digest_140 : decode cX11_digest 140 = .ok (.i2l, 1) := by decide +kernel
theorem dX11_digest_141 : decode cX11_digest 141 = .ok (.ladd, 1) := by decide +kernel
theorem dX11_digest_142 : decode cX11_digest 142 = .ok (.lstore_n 1, 1) := by decide +kernel
theorem dX11_digest_143 : decode cX11_digest 143 = .ok (.iinc 3 1, 3) := by decide +kernel
theorem dX11_digest_146 : decode cX11_digest 146 = .ok (.goto (-23), 3) := by decide +kernel
theorem dX11_digest_149 : decode cX11_digest 149 = .ok (.iconst 0, 1) := by decide +kernel
theorem dX11_digest_150 : decode cX11_digest 150 = .ok (.istore_n 3, 1) := by decide +kernel
theorem dX11_digest_151 : decode cX11_digest 151 = .ok (.iload_n 3, 1) := by decide +kernel
theorem dX11_digest_152 : decode cX11_digest 152 = .ok (.iconst 4, 1) := by decide +kernel
theorem dX11_digest_153 : decode cX11_digest 153 = .ok (.if_icmp .ge 63, 3) := by decide +kernel
theorem dX11_digest_156 : decode cX11_digest 156 = .ok (.ldc2_w 242, 3) := by decide +kernel
theorem dX11_digest_159 : decode cX11_digest 159 = .ok (.lload_n 1, 1) := by decide +kernel
theorem dX11_digest_160 : decode cX11_digest 160 = .ok (.lmul, 1) := by decide +kernel
theorem dX11_digest_161 : decode cX11_digest 161 = .ok (.aload_n 0, 1) := by decide +kernel
theorem dX11_digest_162 : decode cX11_digest 162 = .ok (.getfield 110, 3) := by decide +kernel
theorem dX11_digest_165 : decode cX11_digest 165 = .ok (.iload_n 3, 1) := by decide +kernel
theorem dX11_digest_166 : decode cX11_digest 166 = .ok (.iaload, 1) := by decide +kernel
theorem dX11_digest_167 : decode cX11_digest 167 = .ok (.i2l, 1) := by decide +kernel
theorem dX11_digest_168 : decode cX11_digest 168 = .ok (.ladd, 1) := by decide +kernel
theorem dX11_digest_169 : decode cX11_digest 169 = .ok (.lstore_n 1, 1) := by decide +kernel
theorem dX11_digest_170 : decode cX11_digest 170 = .ok (.iconst 0, 1) := by decide +kernel
theorem dX11_digest_171 : decode cX11_digest 171 = .ok (.istore 4, 2) := by decide +kernel
theorem dX11_digest_173 : decode cX11_digest 173 = .ok (.iload 4, 2) := by decide +kernel
theorem dX11_digest_175 : decode cX11_digest 175 = .ok (.aload_n 0, 1) := by decide +kernel
theorem dX11_digest_176 : decode cX11_digest 176 = .ok (.getfield 110, 3) := by decide +kernel
theorem dX11_digest_179 : decode cX11_digest 179 = .ok (.iload_n 3, 1) := by decide +kernel
theorem dX11_digest_180 : decode cX11_digest 180 = .ok (.iaload, 1) := by decide +kernel
theorem dX11_digest_181 : decode cX11_digest 181 = .ok (.if_icmp .ge 29, 3) := by decide +kernel
theorem dX11_digest_184 : decode cX11_digest 184 = .ok (.ldc2_w 242, 3) := by decide +kernel
theorem dX11_digest_187 : decode cX11_digest 187 = .ok (.lload_n 1, 1) := by decide +kernel
theorem dX11_digest_188 : decode cX11_digest 188 = .ok (.lmul, 1) := by decide +kernel
theorem dX11_digest_189 : decode cX11_digest 189 = .ok (.aload_n 0, 1) := by decide +kernel
theorem dX11_digest_190 : decode cX11_digest 190 = .ok (.getfield 113, 3) := by decide +kernel
theorem dX11_digest_193 : decode cX11_digest 193 = .ok (.bipush 12, 2) := by decide +kernel
theorem dX11_digest_195 : decode cX11_digest 195 = .ok (.iload_n 3, 1) := by decide +kernel
theorem dX11_digest_196 : decode cX11_digest 196 = .ok (.imul, 1) := by decide +kernel
theorem dX11_digest_197 : decode cX11_digest 197 = .ok (.iload 4, 2) := by decide +kernel
theorem dX11_digest_199 : decode cX11_digest 199 = .ok (.iadd, 1) := by decide +kernel
theorem dX11_digest_200 : decode cX11_digest 200 = .ok (.baload, 1) := by decide +kernel
theorem dX11_digest_201 : decode cX11_digest 201 = .ok (.i2l, 1) := by decide +kernel
theorem dX11_digest_202 : decode cX11_digest 202 = .ok (.ladd, 1) := by decide +kernel
theorem dX11_digest_203 : decode cX11_digest 203 = .ok (.lstore_n 1, 1) := by decide +kernel
theorem dX11_digest_204 : decode cX11_digest 204 = .ok (.iinc 4 1, 3) := by decide +kernel
theorem dX11_digest_207 : decode cX11_digest 207 = .ok (.goto (-34), 3) := by decide +kernel
theorem dX11_digest_210 : decode cX11_digest 210 = .ok (.iinc 3 1, 3) := by decide +kernel
theorem dX11_digest_213 : decode cX11_digest 213 = .ok (.goto (-62), 3) := by decide +kernel
theorem dX11_digest_216 : decode cX11_digest 216 = .ok (.lload_n 1, 1) := by decide +kernel
theorem dX11_digest_217 : decode cX11_digest 217 = .ok (.lreturn, 1) := by decide +kernel
theorem dJ6_bitCount_0f7a4_0 : decode cJ6_bitCount_0f7a4 0 = .ok (.iload_n 0, 1) := by decide +kernel
theorem dJ6_bitCount_0f7a4_1 : decode cJ6_bitCount_0f7a4 1 = .ok (.iload_n 0, 1) := by decide +kernel
theorem dJ6_bitCount_0f7a4_2 : decode cJ6_bitCount_0f7a4 2 = .ok (.iconst 1, 1) := by decide +kernel
theorem dJ6_bitCount_0f7a4_3 : decode cJ6_bitCount_0f7a4 3 = .ok (.iushr, 1) := by decide +kernel
theorem dJ6_bitCount_0f7a4_4 : decode cJ6_bitCount_0f7a4 4 = .ok (.ldc_w 265, 3) := by decide +kernel
theorem dJ6_bitCount_0f7a4_7 : decode cJ6_bitCount_0f7a4 7 = .ok (.iand, 1) := by decide +kernel
theorem dJ6_bitCount_0f7a4_8 : decode cJ6_bitCount_0f7a4 8 = .ok (.isub, 1) := by decide +kernel
theorem dJ6_bitCount_0f7a4_9 : decode cJ6_bitCount_0f7a4 9 = .ok (.istore_n 0, 1) := by decide +kernel
theorem dJ6_bitCount_0f7a4_10 : decode cJ6_bitCount_0f7a4 10 = .ok (.iload_n 0, 1) := by decide +kernel
theorem dJ6_bitCount_0f7a4_11 : decode cJ6_bitCount_0f7a4 11 = .ok (.ldc_w 266, 3) := by decide +kernel
theorem dJ6_bitCount_0f7a4_14 : decode cJ6_bitCount_0f7a4 14 = .ok (.iand, 1) := by decide +kernel
theorem dJ6_bitCount_0f7a4_15 : decode cJ6_bitCount_0f7a4 15 = .ok (.iload_n 0, 1) := by decide +kernel
theorem dJ6_bitCount_0f7a4_16 : decode cJ6_bitCount_0f7a4 16 = .ok (.iconst 2, 1) := by decide +kernel
theorem dJ6_bitCount_0f7a4_17 : decode cJ6_bitCount_0f7a4 17 = .ok (.iushr, 1) := by decide +kernel
theorem dJ6_bitCount_0f7a4_18 : decode cJ6_bitCount_0f7a4 18 = .ok (.ldc_w 266, 3) := by decide +kernel
theorem dJ6_bitCount_0f7a4_21 : decode cJ6_bitCount_0f7a4 21 = .ok (.iand, 1) := by decide +kernel
theorem dJ6_bitCount_0f7a4_22 : decode cJ6_bitCount_0f7a4 22 = .ok (.iadd, 1) := by decide +kernel
theorem dJ6_bitCount_0f7a4_23 : decode cJ6_bitCount_0f7a4 23 = .ok (.istore_n 0, 1) := by decide +kernel
theorem dJ6_bitCount_0f7a4_24 : decode cJ6_bitCount_0f7a4 24 = .ok (.iload_n 0, 1) := by decide +kernel
theorem dJ6_bitCount_0f7a4_25 : decode cJ6_bitCount_0f7a4 25 = .ok (.iload_n 0, 1) := by decide +kernel
theorem dJ6_bitCount_0f7a4_26 : decode cJ6_bitCount_0f7a4 26 = .ok (.iconst 4, 1) := by decide +kernel
theorem dJ6_bitCount_0f7a4_27 : decode cJ6_bitCount_0f7a4 27 = .ok (.iushr, 1) := by decide +kernel
theorem dJ6_bitCount_0f7a4_28 : decode cJ6_bitCount_0f7a4 28 = .ok (.iadd, 1) := by decide +kernel
theorem dJ6_bitCount_0f7a4_29 : decode cJ6_bitCount_0f7a4 29 = .ok (.ldc_w 267, 3) := by decide +kernel
theorem dJ6_bitCount_0f7a4_32 : decode cJ6_bitCount_0f7a4 32 = .ok (.iand, 1) := by decide +kernel
theorem dJ6_bitCount_0f7a4_33 : decode cJ6_bitCount_0f7a4 33 = .ok (.istore_n 0, 1) := by decide +kernel
theorem dJ6_bitCount_0f7a4_34 : decode cJ6_bitCount_0f7a4 34 = .ok (.iload_n 0, 1) := by decide +kernel
theorem dJ6_bitCount_0f7a4_35 : decode cJ6_bitCount_0f7a4 35 = .ok (.iload_n 0, 1) := by decide +kernel
theorem dJ6_bitCount_0f7a4_36 : decode cJ6_bitCount_0f7a4 36 = .ok (.bipush 8, 2) := by decide +kernel
theorem dJ6_bitCount_0f7a4_38 : decode cJ6_bitCount_0f7a4 38 = .ok (.iushr, 1) := by decide +kernel
theorem dJ6_bitCount_0f7a4_39 : decode cJ6_bitCount_0f7a4 39 = .ok (.iadd, 1) := by decide +kernel
theorem dJ6_bitCount_0f7a4_40 : decode cJ6_bitCount_0f7a4 40 = .ok (.istore_n 0, 1) := by decide +kernel
theorem dJ6_bitCount_0f7a4_41 : decode cJ6_bitCount_0f7a4 41 = .ok (.iload_n 0, 1) := by decide +kernel
theorem dJ6_bitCount_0f7a4_42 : decode cJ6_bitCount_0f7a4 42 = .ok (.iload_n 0, 1) := by decide +kernel
theorem dJ6_bitCount_0f7a4_43 : decode cJ6_bitCount_0f7a4 43 = .ok (.bipush 16, 2) := by decide +kernel
theorem dJ6_bitCount_0f7a4_45 : decode cJ6_bitCount_0f7a4 45 = .ok (.iushr, 1) := by decide +kernel
theorem dJ6_bitCount_0f7a4_46 : decode cJ6_bitCount_0f7a4 46 = .ok (.iadd, 1) := by decide +kernel
theorem dJ6_bitCount_0f7a4_47 : decode cJ6_bitCount_0f7a4 47 = .ok (.istore_n 0, 1) := by decide +kernel
theorem dJ6_bitCount_0f7a4_48 : decode cJ6_bitCount_0f7a4 48 = .ok (.iload_n 0, 1) := by decide +kernel
theorem dJ6_bitCount_0f7a4_49 : decode cJ6_bitCount_0f7a4 49 = .ok (.bipush 63, 2) := by decide +kernel
theorem dJ6_bitCount_0f7a4_51 : decode cJ6_bitCount_0f7a4 51 = .ok (.iand, 1) := by decide +kernel
theorem dJ6_bitCount_0f7a4_52 : decode cJ6_bitCount_0f7a4 52 = .ok (.ireturn, 1) := by decide +kernel
theorem dJ9_max_7cf53_0 : decode cJ9_max_7cf53 0 = .ok (.iload_n 0, 1) := by decide +kernel
theorem dJ9_max_7cf53_1 : decode cJ9_max_7cf53 1 = .ok (.iload_n 1, 1) := by decide +kernel
theorem dJ9_max_7cf53_2 : decode cJ9_max_7cf53 2 = .ok (.if_icmp .lt 7, 3) := by decide +kernel
theorem dJ9_max_7cf53_5 : decode cJ9_max_7cf53 5 = .ok (.iload_n 0, 1) := by decide +kernel
theorem dJ9_max_7cf53_6 : decode cJ9_max_7cf53 6 = .ok (.goto 4, 3) := by decide +kernel
theorem dJ9_max_7cf53_9 : decode cJ9_max_7cf53 9 = .ok (.iload_n 1, 1) := by decide +kernel
theorem dJ9_max_7cf53_10 : decode cJ9_max_7cf53 10 = .ok (.ireturn, 1) := by decide +kernel
theorem dJ9_min_7cf53_0 : decode cJ9_min_7cf53 0 = .ok (.iload_n 0, 1) := by decide +kernel
theorem dJ9_min_7cf53_1 : decode cJ9_min_7cf53 1 = .ok (.iload_n 1, 1) := by decide +kernel
theorem dJ9_min_7cf53_2 : decode cJ9_min_7cf53 2 = .ok (.if_icmp .gt 7, 3) := by decide +kernel
theorem dJ9_min_7cf53_5 : decode cJ9_min_7cf53 5 = .ok (.iload_n 0, 1) := by decide +kernel
theorem dJ9_min_7cf53_6 : decode cJ9_min_7cf53 6 = .ok (.goto 4, 3) := by decide +kernel
theorem dJ9_min_7cf53_9 : decode cJ9_min_7cf53 9 = .ok (.iload_n 1, 1) := by decide +kernel
theorem dJ9_min_7cf53_10 : decode cJ9_min_7cf53 10 = .ok (.ireturn, 1) := by decide +kernel
