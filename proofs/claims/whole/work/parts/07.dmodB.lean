theorem dX11_when_0 : decode cX11_when 0 = .ok (.aload_n 0, 1) := by decide +kernel
theorem dX11_when_1 : decode cX11_when 1 = .ok (.iload_n 1, 1) := by decide +kernel
theorem dX11_when_2 : decode cX11_when 2 = .ok (.invokevirtual 161, 3) := by decide +kernel
theorem dX11_when_5 : decode cX11_when 5 = .ok (.ifCond .eq 36, 3) := by decide +kernel
theorem dX11_when_8 : decode cX11_when 8 = .ok (.iload_n 2, 1) := by decide +kernel
theorem dX11_when_9 : decode cX11_when 9 = .ok (.iconst 0, 1) := by decide +kernel
theorem dX11_when_10 : decode cX11_when 10 = .ok (.aload_n 0, 1) := by decide +kernel
theorem dX11_when_11 : decode cX11_when 11 = .ok (.getfield 181, 3) := by decide +kernel
theorem dX11_when_14 : decode cX11_when 14 = .ok (.iconst 1, 1) := by decide +kernel
theorem dX11_when_15 : decode cX11_when 15 = .ok (.isub, 1) := by decide +kernel
theorem dX11_when_16 : decode cX11_when 16 = .ok (.invokestatic 133, 3) := by decide +kernel
theorem dX11_when_19 : decode cX11_when 19 = .ok (.ifCond .eq 22, 3) := by decide +kernel
theorem dX11_when_22 : decode cX11_when 22 = .ok (.iload_n 3, 1) := by decide +kernel
theorem dX11_when_23 : decode cX11_when 23 = .ok (.invokestatic 178, 3) := by decide +kernel
theorem dX11_when_26 : decode cX11_when 26 = .ok (.ifCond .eq 15, 3) := by decide +kernel
theorem dX11_when_29 : decode cX11_when 29 = .ok (.aload_n 0, 1) := by decide +kernel
theorem dX11_when_30 : decode cX11_when 30 = .ok (.iload_n 1, 1) := by decide +kernel
theorem dX11_when_31 : decode cX11_when 31 = .ok (.iload_n 2, 1) := by decide +kernel
theorem dX11_when_32 : decode cX11_when 32 = .ok (.iload_n 3, 1) := by decide +kernel
theorem dX11_when_33 : decode cX11_when 33 = .ok (.iload 4, 2) := by decide +kernel
theorem dX11_when_35 : decode cX11_when 35 = .ok (.invokevirtual 188, 3) := by decide +kernel
theorem dX11_when_38 : decode cX11_when 38 = .ok (.goto 4, 3) := by decide +kernel
theorem dX11_when_41 : decode cX11_when 41 = .ok (.iconst (-1), 1) := by decide +kernel
theorem dX11_when_42 : decode cX11_when 42 = .ok (.ireturn, 1) := by decide +kernel
set_option maxRecDepth 20000 in
theorem ggX11_first_X11_in : GoodIn wsX11_first wsX11_in := goodIn_r _ [9] (by decide +kernel) (by decide +kernel)
set_option maxRecDepth 20000 in
theorem gX11_first_X11_in : GoodIn wsX11_first (va_wsS RX11 133 yX11_in wsX11_in) := goodIn_app (goodIn_of _ (by decide +kernel)) ggX11_first_X11_in
set_option maxRecDepth 20000 in
theorem ggX11_first_X11_isDay : GoodIn wsX11_first wsX11_isDay := goodIn_r _ [12, 6, 7, 8, 9] (by decide +kernel) (by decide +kernel)
set_option maxRecDepth 20000 in
theorem gX11_first_X11_isDay : GoodIn wsX11_first (va_wsS RX11 178 yX11_isDay wsX11_isDay) := goodIn_app (goodIn_of _ (by decide +kernel)) ggX11_first_X11_isDay
set_option maxRecDepth 20000 in
theorem ggX11_first_X11_inForce : GoodIn wsX11_first wsX11_inForce := goodIn_r _ [15] (by decide +kernel) (by decide +kernel)
set_option maxRecDepth 20000 in
theorem gX11_first_X11_inForce : GoodIn wsX11_first (va_wsS RX11 184 yX11_inForce wsX11_inForce) := goodIn_app (goodIn_of _ (by decide +kernel)) ggX11_first_X11_inForce
set_option maxRecDepth 20000 in
theorem ggX11_first_X11_has : GoodIn wsX11_first wsX11_has := goodIn_r _ [18] (by decide +kernel) (by decide +kernel)
set_option maxRecDepth 20000 in
theorem gX11_first_X11_has : GoodIn wsX11_first (va_wsS RX11 192 yX11_has wsX11_has) := goodIn_app (goodIn_of _ (by decide +kernel)) ggX11_first_X11_has
set_option maxRecDepth 20000 in
theorem ggX11_first_X11_whenOf : GoodIn wsX11_first wsX11_whenOf := goodIn_r _ [22, 23, 24, 25, 26, 27, 28, 29, 30, 31, 32, 8, 33, 34, 35, 36, 37, 38, 42, 43, 44, 45, 46, 47, 48, 49, 50, 51, 52, 53, 54, 55, 56, 57, 58, 59, 60, 61, 62, 63, 64, 65, 66, 67, 68, 69, 70, 71, 72, 73, 74, 75, 76, 77, 78, 79, 80, 81, 82, 83, 84, 85, 86, 87, 88, 89, 90] (by decide +kernel) (by decide +kernel)
set_option maxRecDepth 20000 in
theorem gX11_first_X11_whenOf : GoodIn wsX11_first (wsV RX11 188 RX11 yX11_whenOf wsX11_whenOf) := goodIn_app (goodIn_of _ (by decide +kernel)) ggX11_first_X11_whenOf
set_option maxRecDepth 20000 in
theorem ggX11_first_X11_bitsOf : GoodIn wsX11_first wsX11_bitsOf := goodIn_r _ [41] (by decide +kernel) (by decide +kernel)
set_option maxRecDepth 20000 in
theorem gX11_first_X11_bitsOf : GoodIn wsX11_first (va_wsS RX11 175 yX11_bitsOf wsX11_bitsOf) := goodIn_app (goodIn_of _ (by decide +kernel)) ggX11_first_X11_bitsOf
theorem dX11_first_0 : decode cX11_first 0 = .ok (.iload_n 1, 1) := by decide +kernel
theorem dX11_first_1 : decode cX11_first 1 = .ok (.iconst 0, 1) := by decide +kernel
theorem dX11_first_2 : decode cX11_first 2 = .ok (.bipush 15, 2) := by decide +kernel
theorem dX11_first_4 : decode cX11_first 4 = .ok (.invokestatic 133, 3) := by decide +kernel
theorem dX11_first_7 : decode cX11_first 7 = .ok (.ifCond .eq 17, 3) := by decide +kernel
theorem dX11_first_10 : decode cX11_first 10 = .ok (.iload_n 2, 1) := by decide +kernel
theorem dX11_first_11 : decode cX11_first 11 = .ok (.invokestatic 178, 3) := by decide +kernel
theorem dX11_first_14 : decode cX11_first 14 = .ok (.ifCond .eq 10, 3) := by decide +kernel
theorem dX11_first_17 : decode cX11_first 17 = .ok (.iload_n 3, 1) := by decide +kernel
theorem dX11_first_18 : decode cX11_first 18 = .ok (.invokestatic 178, 3) := by decide +kernel
theorem dX11_first_21 : decode cX11_first 21 = .ok (.ifCond .ne 5, 3) := by decide +kernel
theorem dX11_first_24 : decode cX11_first 24 = .ok (.iconst (-1), 1) := by decide +kernel
theorem dX11_first_25 : decode cX11_first 25 = .ok (.ireturn, 1) := by decide +kernel
theorem dX11_first_26 : decode cX11_first 26 = .ok (.aload_n 0, 1) := by decide +kernel
theorem dX11_first_27 : decode cX11_first 27 = .ok (.getfield 55, 3) := by decide +kernel
theorem dX11_first_30 : decode cX11_first 30 = .ok (.aload_n 0, 1) := by decide +kernel
theorem dX11_first_31 : decode cX11_first 31 = .ok (.getfield 181, 3) := by decide +kernel
theorem dX11_first_34 : decode cX11_first 34 = .ok (.iload_n 2, 1) := by decide +kernel
theorem dX11_first_35 : decode cX11_first 35 = .ok (.invokestatic 184, 3) := by decide +kernel
theorem dX11_first_38 : decode cX11_first 38 = .ok (.istore 4, 2) := by decide +kernel
theorem dX11_first_40 : decode cX11_first 40 = .ok (.iload 4, 2) := by decide +kernel
theorem dX11_first_42 : decode cX11_first 42 = .ok (.bipush (-9), 2) := by decide +kernel
theorem dX11_first_44 : decode cX11_first 44 = .ok (.if_icmp .ne 6, 3) := by decide +kernel
theorem dX11_first_47 : decode cX11_first 47 = .ok (.bipush (-4), 2) := by decide +kernel
theorem dX11_first_49 : decode cX11_first 49 = .ok (.ireturn, 1) := by decide +kernel
theorem dX11_first_50 : decode cX11_first 50 = .ok (.bipush (-9), 2) := by decide +kernel
theorem dX11_first_52 : decode cX11_first 52 = .ok (.istore 5, 2) := by decide +kernel
theorem dX11_first_54 : decode cX11_first 54 = .ok (.iconst 0, 1) := by decide +kernel
theorem dX11_first_55 : decode cX11_first 55 = .ok (.istore 6, 2) := by decide +kernel
theorem dX11_first_57 : decode cX11_first 57 = .ok (.iload 6, 2) := by decide +kernel
theorem dX11_first_59 : decode cX11_first 59 = .ok (.aload_n 0, 1) := by decide +kernel
theorem dX11_first_60 : decode cX11_first 60 = .ok (.getfield 146, 3) := by decide +kernel
theorem dX11_first_63 : decode cX11_first 63 = .ok (.if_icmp .ge 70, 3) := by decide +kernel
theorem dX11_first_66 : decode cX11_first 66 = .ok (.aload_n 0, 1) := by decide +kernel
theorem dX11_first_67 : decode cX11_first 67 = .ok (.getfield 25, 3) := by decide +kernel
theorem dX11_first_70 : decode cX11_first 70 = .ok (.iload 6, 2) := by decide +kernel
theorem dX11_first_72 : decode cX11_first 72 = .ok (.iaload, 1) := by decide +kernel
theorem dX11_first_73 : decode cX11_first 73 = .ok (.iload_n 1, 1) := by decide +kernel
theorem dX11_first_74 : decode cX11_first 74 = .ok (.invokestatic 192, 3) := by decide +kernel
theorem dX11_first_77 : decode cX11_first 77 = .ok (.ifCond .eq 16, 3) := by decide +kernel
theorem dX11_first_80 : decode cX11_first 80 = .ok (.aload_n 0, 1) := by decide +kernel
theorem dX11_first_81 : decode cX11_first 81 = .ok (.iload 6, 2) := by decide +kernel
theorem dX11_first_83 : decode cX11_first 83 = .ok (.iload 4, 2) := by decide +kernel
theorem dX11_first_85 : decode cX11_first 85 = .ok (.iload_n 3, 1) := by decide +kernel
theorem dX11_first_86 : decode cX11_first 86 = .ok (.iconst 1, 1) := by decide +kernel
theorem dX11_first_87 : decode cX11_first 87 = .ok (.invokevirtual 188, 3) := by decide +kernel
theorem dX11_first_90 : decode cX11_first 90 = .ok (.goto 5, 3) := by decide +kernel
theorem dX11_first_93 : decode cX11_first 93 = .ok (.bipush (-9), 2) := by decide +kernel
theorem dX11_first_95 : decode cX11_first 95 = .ok (.istore 7, 2) := by decide +kernel
theorem dX11_first_97 : decode cX11_first 97 = .ok (.iload 7, 2) := by decide +kernel
theorem dX11_first_99 : decode cX11_first 99 = .ok (.bipush (-9), 2) := by decide +kernel
theorem dX11_first_101 : decode cX11_first 101 = .ok (.if_icmp .eq 22, 3) := by decide +kernel
theorem dX11_first_104 : decode cX11_first 104 = .ok (.iload 5, 2) := by decide +kernel
theorem dX11_first_106 : decode cX11_first 106 = .ok (.bipush (-9), 2) := by decide +kernel
theorem dX11_first_108 : decode cX11_first 108 = .ok (.if_icmp .eq 10, 3) := by decide +kernel
theorem dX11_first_111 : decode cX11_first 111 = .ok (.iload 7, 2) := by decide +kernel
theorem dX11_first_113 : decode cX11_first 113 = .ok (.iload 5, 2) := by decide +kernel
theorem dX11_first_115 : decode cX11_first 115 = .ok (.if_icmp .ge 8, 3) := by decide +kernel
theorem dX11_first_118 : decode cX11_first 118 = .ok (.iload 7, 2) := by decide +kernel
theorem dX11_first_120 : decode cX11_first 120 = .ok (.goto 5, 3) := by decide +kernel
theorem dX11_first_123 : decode cX11_first 123 = .ok (.iload 5, 2) := by decide +kernel
theorem dX11_first_125 : decode cX11_first 125 = .ok (.istore 5, 2) := by decide +kernel
theorem dX11_first_127 : decode cX11_first 127 = .ok (.iinc 6 1, 3) := by decide +kernel
theorem dX11_first_130 : decode cX11_first 130 = .ok (.goto (-73), 3) := by decide +kernel
theorem dX11_first_133 : decode cX11_first 133 = .ok (.iconst 0, 1) := by decide +kernel
theorem dX11_first_134 : decode cX11_first 134 = .ok (.istore 6, 2) := by decide +kernel
theorem dX11_first_136 : decode cX11_first 136 = .ok (.iconst 0, 1) := by decide +kernel
theorem dX11_first_137 : decode cX11_first 137 = .ok (.istore 7, 2) := by decide +kernel
theorem dX11_first_139 : decode cX11_first 139 = .ok (.iload 7, 2) := by decide +kernel
theorem dX11_first_141 : decode cX11_first 141 = .ok (.aload_n 0, 1) := by decide +kernel
theorem dX11_first_142 : decode cX11_first 142 = .ok (.getfield 146, 3) := by decide +kernel
theorem dX11_first_145 : decode cX11_first 145 = .ok (.if_icmp .ge 67, 3) := by decide +kernel
theorem dX11_first_148 : decode cX11_first 148 = .ok (.aload_n 0, 1) := by decide +kernel
theorem dX11_first_149 : decode cX11_first 149 = .ok (.getfield 25, 3) := by decide +kernel
theorem dX11_first_152 : decode cX11_first 152 = .ok (.iload 7, 2) := by decide +kernel
theorem dX11_first_154 : decode cX11_first 154 = .ok (.iaload, 1) := by decide +kernel
theorem dX11_first_155 : decode cX11_first 155 = .ok (.iload_n 1, 1) := by decide +kernel
theorem dX11_first_156 : decode cX11_first 156 = .ok (.invokestatic 192, 3) := by decide +kernel
theorem dX11_first_159 : decode cX11_first 159 = .ok (.ifCond .eq 16, 3) := by decide +kernel
theorem dX11_first_162 : decode cX11_first 162 = .ok (.aload_n 0, 1) := by decide +kernel
theorem dX11_first_163 : decode cX11_first 163 = .ok (.iload 7, 2) := by decide +kernel
theorem dX11_first_165 : decode cX11_first 165 = .ok (.iload 4, 2) := by decide +kernel
theorem dX11_first_167 : decode cX11_first 167 = .ok (.iload_n 3, 1) := by decide +kernel
theorem dX11_first_168 : decode cX11_first 168 = .ok (.iconst 0, 1) := by decide +kernel
theorem dX11_first_169 : decode cX11_first 169 = .ok (.invokevirtual 188, 3) := by decide +kernel
theorem dX11_first_172 : decode cX11_first 172 = .ok (.goto 5, 3) := by decide +kernel
theorem dX11_first_175 : decode cX11_first 175 = .ok (.bipush (-9), 2) := by decide +kernel
theorem dX11_first_177 : decode cX11_first 177 = .ok (.istore 8, 2) := by decide +kernel
theorem dX11_first_179 : decode cX11_first 179 = .ok (.iload 6, 2) := by decide +kernel
theorem dX11_first_181 : decode cX11_first 181 = .ok (.iload 8, 2) := by decide +kernel
theorem dX11_first_183 : decode cX11_first 183 = .ok (.bipush (-9), 2) := by decide +kernel
theorem dX11_first_185 : decode cX11_first 185 = .ok (.if_icmp .eq 17, 3) := by decide +kernel
theorem dX11_first_188 : decode cX11_first 188 = .ok (.iload 8, 2) := by decide +kernel
theorem dX11_first_190 : decode cX11_first 190 = .ok (.iload 5, 2) := by decide +kernel
theorem dX11_first_192 : decode cX11_first 192 = .ok (.if_icmp .gt 10, 3) := by decide +kernel
theorem dX11_first_195 : decode cX11_first 195 = .ok (.iconst 1, 1) := by decide +kernel
theorem dX11_first_196 : decode cX11_first 196 = .ok (.iload 7, 2) := by decide +kernel
theorem dX11_first_198 : decode cX11_first 198 = .ok (.ishl, 1) := by decide +kernel
theorem dX11_first_199 : decode cX11_first 199 = .ok (.goto 4, 3) := by decide +kernel
theorem dX11_first_202 : decode cX11_first 202 = .ok (.iconst 0, 1) := by decide +kernel
theorem dX11_first_203 : decode cX11_first 203 = .ok (.ior, 1) := by decide +kernel
theorem dX11_first_204 : decode cX11_first 204 = .ok (.istore 6, 2) := by decide +kernel
theorem dX11_first_206 : decode cX11_first 206 = .ok (.iinc 7 1, 3) := by decide +kernel
theorem dX11_first_209 : decode cX11_first 209 = .ok (.goto (-70), 3) := by decide +kernel
theorem dX11_first_212 : decode cX11_first 212 = .ok (.aload_n 0, 1) := by decide +kernel
theorem dX11_first_213 : decode cX11_first 213 = .ok (.iload 6, 2) := by decide +kernel
theorem dX11_first_215 : decode cX11_first 215 = .ok (.putfield 137, 3) := by decide +kernel
theorem dX11_first_218 : decode cX11_first 218 = .ok (.iload 6, 2) := by decide +kernel
theorem dX11_first_220 : decode cX11_first 220 = .ok (.invokestatic 175, 3) := by decide +kernel
theorem dX11_first_223 : decode cX11_first 223 = .ok (.ireturn, 1) := by decide +kernel
set_option maxRecDepth 20000 in
theorem ggX11_mean_X11_lastOf : GoodIn wsX11_mean wsX11_lastOf := goodIn_r _ [6, 7, 8, 9, 10, 11, 18, 19, 20, 21, 22, 23, 24, 25, 26, 27, 28, 29, 30, 31, 32, 33, 34, 35, 36, 37, 38, 39, 40, 41, 42, 43, 44, 45, 46, 47, 48, 49, 50, 51, 52, 53, 54, 55, 56, 57, 58, 59, 60, 61, 62, 63, 64, 65, 66] (by decide +kernel) (by decide +kernel)
set_option maxRecDepth 20000 in
theorem gX11_mean_X11_lastOf : GoodIn wsX11_mean (wsV RX11 157 RX11 yX11_lastOf wsX11_lastOf) := goodIn_app (goodIn_of _ (by decide +kernel)) ggX11_mean_X11_lastOf
set_option maxRecDepth 20000 in
theorem ggX11_mean_X11_meets : GoodIn wsX11_mean wsX11_meets := goodIn_r _ [15, 16, 17, 18, 19, 20, 21, 22, 23, 24, 25, 26, 27, 28, 29, 30, 31, 32, 33, 34, 35, 36, 37, 38, 39, 40, 41, 42, 43, 44, 45, 46, 47, 48, 49, 50, 51, 52, 53, 54, 55, 56, 57, 58, 59, 60, 61, 62, 63, 64, 65, 66] (by decide +kernel) (by decide +kernel)
set_option maxRecDepth 20000 in
theorem gX11_mean_X11_meets : GoodIn wsX11_mean (wsV RX11 167 RX11 yX11_meets wsX11_meets) := goodIn_app (goodIn_of _ (by decide +kernel)) ggX11_mean_X11_meets
theorem dX11_mean_0 : decode cX11_mean 0 = .ok (.iconst 0, 1) := by decide +kernel
theorem dX11_mean_1 : decode cX11_mean 1 = .ok (.istore_n 1, 1) := by decide +kernel
theorem dX11_mean_2 : decode cX11_mean 2 = .ok (.iconst 0, 1) := by decide +kernel
theorem dX11_mean_3 : decode cX11_mean 3 = .ok (.istore_n 2, 1) := by decide +kernel
theorem dX11_mean_4 : decode cX11_mean 4 = .ok (.iconst 0, 1) := by decide +kernel
theorem dX11_mean_5 : decode cX11_mean 5 = .ok (.istore_n 3, 1) := by decide +kernel
theorem dX11_mean_6 : decode cX11_mean 6 = .ok (.iload_n 3, 1) := by decide +kernel
theorem dX11_mean_7 : decode cX11_mean 7 = .ok (.aload_n 0, 1) := by decide +kernel
theorem dX11_mean_8 : decode cX11_mean 8 = .ok (.getfield 146, 3) := by decide +kernel
theorem dX11_mean_11 : decode cX11_mean 11 = .ok (.if_icmp .ge 79, 3) := by decide +kernel
theorem dX11_mean_14 : decode cX11_mean 14 = .ok (.aload_n 0, 1) := by decide +kernel
theorem dX11_mean_15 : decode cX11_mean 15 = .ok (.iload_n 3, 1) := by decide +kernel
theorem dX11_mean_16 : decode cX11_mean 16 = .ok (.iconst 0, 1) := by decide +kernel
theorem dX11_mean_17 : decode cX11_mean 17 = .ok (.sipush 30000, 3) := by decide +kernel
theorem dX11_mean_20 : decode cX11_mean 20 = .ok (.invokevirtual 157, 3) := by decide +kernel
theorem dX11_mean_23 : decode cX11_mean 23 = .ok (.istore 4, 2) := by decide +kernel
theorem dX11_mean_25 : decode cX11_mean 25 = .ok (.aload_n 0, 1) := by decide +kernel
theorem dX11_mean_26 : decode cX11_mean 26 = .ok (.iload_n 3, 1) := by decide +kernel
theorem dX11_mean_27 : decode cX11_mean 27 = .ok (.iconst 1, 1) := by decide +kernel
theorem dX11_mean_28 : decode cX11_mean 28 = .ok (.sipush 30000, 3) := by decide +kernel
theorem dX11_mean_31 : decode cX11_mean 31 = .ok (.invokevirtual 157, 3) := by decide +kernel
theorem dX11_mean_34 : decode cX11_mean 34 = .ok (.istore 5, 2) := by decide +kernel
theorem dX11_mean_36 : decode cX11_mean 36 = .ok (.iload_n 1, 1) := by decide +kernel
theorem dX11_mean_37 : decode cX11_mean 37 = .ok (.iload 4, 2) := by decide +kernel
theorem dX11_mean_39 : decode cX11_mean 39 = .ok (.bipush (-9), 2) := by decide +kernel
theorem dX11_mean_41 : decode cX11_mean 41 = .ok (.if_icmp .eq 18, 3) := by decide +kernel
theorem dX11_mean_44 : decode cX11_mean 44 = .ok (.iload 5, 2) := by decide +kernel
theorem dX11_mean_46 : decode cX11_mean 46 = .ok (.bipush (-9), 2) := by decide +kernel
theorem dX11_mean_48 : decode cX11_mean 48 = .ok (.if_icmp .eq 11, 3) := by decide +kernel
theorem dX11_mean_51 : decode cX11_mean 51 = .ok (.iload 5, 2) := by decide +kernel
theorem dX11_mean_53 : decode cX11_mean 53 = .ok (.iload 4, 2) := by decide +kernel
theorem dX11_mean_55 : decode cX11_mean 55 = .ok (.isub, 1) := by decide +kernel
theorem dX11_mean_56 : decode cX11_mean 56 = .ok (.goto 4, 3) := by decide +kernel
theorem dX11_mean_59 : decode cX11_mean 59 = .ok (.iconst 0, 1) := by decide +kernel
theorem dX11_mean_60 : decode cX11_mean 60 = .ok (.iadd, 1) := by decide +kernel
theorem dX11_mean_61 : decode cX11_mean 61 = .ok (.istore_n 1, 1) := by decide +kernel
theorem dX11_mean_62 : decode cX11_mean 62 = .ok (.iload_n 2, 1) := by decide +kernel
theorem dX11_mean_63 : decode cX11_mean 63 = .ok (.iload 4, 2) := by decide +kernel
theorem dX11_mean_65 : decode cX11_mean 65 = .ok (.bipush (-9), 2) := by decide +kernel
theorem dX11_mean_67 : decode cX11_mean 67 = .ok (.if_icmp .eq 14, 3) := by decide +kernel
theorem dX11_mean_70 : decode cX11_mean 70 = .ok (.iload 5, 2) := by decide +kernel
theorem dX11_mean_72 : decode cX11_mean 72 = .ok (.bipush (-9), 2) := by decide +kernel
theorem dX11_mean_74 : decode cX11_mean 74 = .ok (.if_icmp .eq 7, 3) := by decide +kernel
theorem dX11_mean_77 : decode cX11_mean 77 = .ok (.iconst 1, 1) := by decide +kernel
theorem dX11_mean_78 : decode cX11_mean 78 = .ok (.goto 4, 3) := by decide +kernel
theorem dX11_mean_81 : decode cX11_mean 81 = .ok (.iconst 0, 1) := by decide +kernel
theorem dX11_mean_82 : decode cX11_mean 82 = .ok (.iadd, 1) := by decide +kernel
theorem dX11_mean_83 : decode cX11_mean 83 = .ok (.istore_n 2, 1) := by decide +kernel
theorem dX11_mean_84 : decode cX11_mean 84 = .ok (.iinc 3 1, 3) := by decide +kernel
theorem dX11_mean_87 : decode cX11_mean 87 = .ok (.goto (-81), 3) := by decide +kernel
theorem dX11_mean_90 : decode cX11_mean 90 = .ok (.iload_n 2, 1) := by decide +kernel
theorem dX11_mean_91 : decode cX11_mean 91 = .ok (.ifCond .ne 11, 3) := by decide +kernel
theorem dX11_mean_94 : decode cX11_mean 94 = .ok (.aload_n 0, 1) := by decide +kernel
theorem dX11_mean_95 : decode cX11_mean 95 = .ok (.iconst 4, 1) := by decide +kernel
theorem dX11_mean_96 : decode cX11_mean 96 = .ok (.invokevirtual 167, 3) := by decide +kernel
theorem dX11_mean_99 : decode cX11_mean 99 = .ok (.goto 6, 3) := by decide +kernel
theorem dX11_mean_102 : decode cX11_mean 102 = .ok (.iload_n 1, 1) := by decide +kernel
theorem dX11_mean_103 : decode cX11_mean 103 = .ok (.iload_n 2, 1) := by decide +kernel
theorem dX11_mean_104 : decode cX11_mean 104 = .ok (.idiv, 1) := by decide +kernel
theorem dX11_mean_105 : decode cX11_mean 105 = .ok (.ireturn, 1) := by decide +kernel
set_option maxRecDepth 20000 in
theorem ggX11_byelaw_X11_isDay : GoodIn wsX11_byelaw wsX11_isDay := goodIn_r _ [11, 12, 13, 10, 14] (by decide +kernel) (by decide +kernel)
set_option maxRecDepth 20000 in
theorem gX11_byelaw_X11_isDay : GoodIn wsX11_byelaw (va_wsS RX11 178 yX11_isDay wsX11_isDay) := goodIn_app (goodIn_of _ (by decide +kernel)) ggX11_byelaw_X11_isDay
set_option maxRecDepth 20000 in
theorem ggX11_byelaw_X11_in : GoodIn wsX11_byelaw wsX11_in := goodIn_r _ [14] (by decide +kernel) (by decide +kernel)
set_option maxRecDepth 20000 in
theorem gX11_byelaw_X11_in : GoodIn wsX11_byelaw (va_wsS RX11 133 yX11_in wsX11_in) := goodIn_app (goodIn_of _ (by decide +kernel)) ggX11_byelaw_X11_in
theorem dX11_byelaw_0 : decode cX11_byelaw 0 = .ok (.iload_n 1, 1) := by decide +kernel
theorem dX11_byelaw_1 : decode cX11_byelaw 1 = .ok (.invokestatic 178, 3) := by decide +kernel
theorem dX11_byelaw_4 : decode cX11_byelaw 4 = .ok (.ifCond .eq 57, 3) := by decide +kernel
theorem dX11_byelaw_7 : decode cX11_byelaw 7 = .ok (.iload_n 2, 1) := by decide +kernel
theorem dX11_byelaw_8 : decode cX11_byelaw 8 = .ok (.iconst 0, 1) := by decide +kernel
theorem dX11_byelaw_9 : decode cX11_byelaw 9 = .ok (.sipush 500, 3) := by decide +kernel
theorem dX11_byelaw_12 : decode cX11_byelaw 12 = .ok (.invokestatic 133, 3) := by decide +kernel
theorem dX11_byelaw_15 : decode cX11_byelaw 15 = .ok (.ifCond .eq 46, 3) := by decide +kernel
theorem dX11_byelaw_18 : decode cX11_byelaw 18 = .ok (.iload_n 3, 1) := by decide +kernel
theorem dX11_byelaw_19 : decode cX11_byelaw 19 = .ok (.iconst 0, 1) := by decide +kernel
theorem dX11_byelaw_20 : decode cX11_byelaw 20 = .ok (.bipush 16, 2) := by decide +kernel
theorem dX11_byelaw_22 : decode cX11_byelaw 22 = .ok (.invokestatic 133, 3) := by decide +kernel
theorem dX11_byelaw_25 : decode cX11_byelaw 25 = .ok (.ifCond .eq 36, 3) := by decide +kernel
theorem dX11_byelaw_28 : decode cX11_byelaw 28 = .ok (.iload 4, 2) := by decide +kernel
theorem dX11_byelaw_30 : decode cX11_byelaw 30 = .ok (.iconst 0, 1) := by decide +kernel
theorem dX11_byelaw_31 : decode cX11_byelaw 31 = .ok (.bipush 100, 2) := by decide +kernel
theorem dX11_byelaw_33 : decode cX11_byelaw 33 = .ok (.invokestatic 133, 3) := by decide +kernel
theorem dX11_byelaw_36 : decode cX11_byelaw 36 = .ok (.ifCond .eq 25, 3) := by decide +kernel
theorem dX11_byelaw_39 : decode cX11_byelaw 39 = .ok (.iload 6, 2) := by decide +kernel
theorem dX11_byelaw_41 : decode cX11_byelaw 41 = .ok (.iconst 1, 1) := by decide +kernel
theorem dX11_byelaw_42 : decode cX11_byelaw 42 = .ok (.bipush 100, 2) := by decide +kernel
theorem dX11_byelaw_44 : decode cX11_byelaw 44 = .ok (.invokestatic 133, 3) := by decide +kernel
theorem dX11_byelaw_47 : decode cX11_byelaw 47 = .ok (.ifCond .eq 14, 3) := by decide +kernel
theorem dX11_byelaw_50 : decode cX11_byelaw 50 = .ok (.iload 5, 2) := by decide +kernel
theorem dX11_byelaw_52 : decode cX11_byelaw 52 = .ok (.iconst 0, 1) := by decide +kernel
theorem dX11_byelaw_53 : decode cX11_byelaw 53 = .ok (.iload 6, 2) := by decide +kernel
theorem dX11_byelaw_55 : decode cX11_byelaw 55 = .ok (.invokestatic 133, 3) := by decide +kernel
theorem dX11_byelaw_58 : decode cX11_byelaw 58 = .ok (.ifCond .ne 5, 3) := by decide +kernel
theorem dX11_byelaw_61 : decode cX11_byelaw 61 = .ok (.iconst (-1), 1) := by decide +kernel
theorem dX11_byelaw_62 : decode cX11_byelaw 62 = .ok (.ireturn, 1) := by decide +kernel
theorem dX11_byelaw_63 : decode cX11_byelaw 63 = .ok (.aload_n 0, 1) := by decide +kernel
theorem dX11_byelaw_64 : decode cX11_byelaw 64 = .ok (.getfield 196, 3) := by decide +kernel
theorem dX11_byelaw_67 : decode cX11_byelaw 67 = .ok (.bipush 12, 2) := by decide +kernel
theorem dX11_byelaw_69 : decode cX11_byelaw 69 = .ok (.if_icmp .ne 6, 3) := by decide +kernel
theorem dX11_byelaw_72 : decode cX11_byelaw 72 = .ok (.bipush (-2), 2) := by decide +kernel
theorem dX11_byelaw_74 : decode cX11_byelaw 74 = .ok (.ireturn, 1) := by decide +kernel
theorem dX11_byelaw_75 : decode cX11_byelaw 75 = .ok (.aload_n 0, 1) := by decide +kernel
theorem dX11_byelaw_76 : decode cX11_byelaw 76 = .ok (.getfield 65, 3) := by decide +kernel
theorem dX11_byelaw_79 : decode cX11_byelaw 79 = .ok (.aload_n 0, 1) := by decide +kernel
theorem dX11_byelaw_80 : decode cX11_byelaw 80 = .ok (.getfield 196, 3) := by decide +kernel
theorem dX11_byelaw_83 : decode cX11_byelaw 83 = .ok (.iload_n 1, 1) := by decide +kernel
theorem dX11_byelaw_84 : decode cX11_byelaw 84 = .ok (.iastore, 1) := by decide +kernel
theorem dX11_byelaw_85 : decode cX11_byelaw 85 = .ok (.aload_n 0, 1) := by decide +kernel
theorem dX11_byelaw_86 : decode cX11_byelaw 86 = .ok (.getfield 68, 3) := by decide +kernel
theorem dX11_byelaw_89 : decode cX11_byelaw 89 = .ok (.aload_n 0, 1) := by decide +kernel
theorem dX11_byelaw_90 : decode cX11_byelaw 90 = .ok (.getfield 196, 3) := by decide +kernel
theorem dX11_byelaw_93 : decode cX11_byelaw 93 = .ok (.iload_n 2, 1) := by decide +kernel
theorem dX11_byelaw_94 : decode cX11_byelaw 94 = .ok (.iastore, 1) := by decide +kernel
theorem dX11_byelaw_95 : decode cX11_byelaw 95 = .ok (.aload_n 0, 1) := by decide +kernel
theorem dX11_byelaw_96 : decode cX11_byelaw 96 = .ok (.getfield 71, 3) := by decide +kernel
theorem dX11_byelaw_99 : decode cX11_byelaw 99 = .ok (.aload_n 0, 1) := by decide +kernel
theorem dX11_byelaw_100 : decode cX11_byelaw 100 = .ok (.getfield 196, 3) := by decide +kernel
theorem dX11_byelaw_103 : decode cX11_byelaw 103 = .ok (.iload_n 3, 1) := by decide +kernel
theorem dX11_byelaw_104 : decode cX11_byelaw 104 = .ok (.iastore, 1) := by decide +kernel
theorem dX11_byelaw_105 : decode cX11_byelaw 105 = .ok (.aload_n 0, 1) := by decide +kernel
theorem dX11_byelaw_106 : decode cX11_byelaw 106 = .ok (.getfield 74, 3) := by decide +kernel
theorem dX11_byelaw_109 : decode cX11_byelaw 109 = .ok (.aload_n 0, 1) := by decide +kernel
theorem dX11_byelaw_110 : decode cX11_byelaw 110 = .ok (.getfield 196, 3) := by decide +kernel
theorem dX11_byelaw_113 : decode cX11_byelaw 113 = .ok (.iload 4, 2) := by decide +kernel
theorem dX11_byelaw_115 : decode cX11_byelaw 115 = .ok (.iastore, 1) := by decide +kernel
theorem dX11_byelaw_116 : decode cX11_byelaw 116 = .ok (.aload_n 0, 1) := by decide +kernel
theorem dX11_byelaw_117 : decode cX11_byelaw 117 = .ok (.getfield 77, 3) := by decide +kernel
theorem dX11_byelaw_120 : decode cX11_byelaw 120 = .ok (.aload_n 0, 1) := by decide +kernel
theorem dX11_byelaw_121 : decode cX11_byelaw 121 = .ok (.getfield 196, 3) := by decide +kernel
theorem dX11_byelaw_124 : decode cX11_byelaw 124 = .ok (.iload 5, 2) := by decide +kernel
theorem dX11_byelaw_126 : decode cX11_byelaw 126 = .ok (.iastore, 1) := by decide +kernel
theorem dX11_byelaw_127 : decode cX11_byelaw 127 = .ok (.aload_n 0, 1) := by decide +kernel
theorem dX11_byelaw_128 : decode cX11_byelaw 128 = .ok (.getfield 80, 3) := by decide +kernel
theorem dX11_byelaw_131 : decode cX11_byelaw 131 = .ok (.aload_n 0, 1) := by decide +kernel
theorem dX11_byelaw_132 : decode cX11_byelaw 132 = .ok (.getfield 196, 3) := by decide +kernel
theorem dX11_byelaw_135 : decode cX11_byelaw 135 = .ok (.iload 6, 2) := by decide +kernel
theorem dX11_byelaw_137 : decode cX11_byelaw 137 = .ok (.iastore, 1) := by decide +kernel
theorem dX11_byelaw_138 : decode cX11_byelaw 138 = .ok (.aload_n 0, 1) := by decide +kernel
theorem dX11_byelaw_139 : decode cX11_byelaw 139 = .ok (.dup, 1) := by decide +kernel
theorem dX11_byelaw_140 : decode cX11_byelaw 140 = .ok (.getfield 196, 3) := by decide +kernel
theorem dX11_byelaw_143 : decode cX11_byelaw 143 = .ok (.iconst 1, 1) := by decide +kernel
theorem dX11_byelaw_144 : decode cX11_byelaw 144 = .ok (.iadd, 1) := by decide +kernel
theorem dX11_byelaw_145 : decode cX11_byelaw 145 = .ok (.putfield 196, 3) := by decide +kernel
theorem dX11_byelaw_148 : decode cX11_byelaw 148 = .ok (.aload_n 0, 1) := by decide +kernel
theorem dX11_byelaw_149 : decode cX11_byelaw 149 = .ok (.getfield 196, 3) := by decide +kernel
theorem dX11_byelaw_152 : decode cX11_byelaw 152 = .ok (.iconst 1, 1) := by decide +kernel
theorem dX11_byelaw_153 : decode cX11_byelaw 153 = .ok (.isub, 1) := by decide +kernel
theorem dX11_byelaw_154 : decode cX11_byelaw 154 = .ok (.ireturn, 1) := by decide +kernel
set_option maxRecDepth 20000 in
theorem ggX11_candidate_X11_in : GoodIn wsX11_candidate wsX11_in := goodIn_r _ [10] (by decide +kernel) (by decide +kernel)
set_option maxRecDepth 20000 in
theorem gX11_candidate_X11_in : GoodIn wsX11_candidate (va_wsS RX11 133 yX11_in wsX11_in) := goodIn_app (goodIn_of _ (by decide +kernel)) ggX11_candidate_X11_in
theorem dX11_candidate_0 : decode cX11_candidate 0 = .ok (.iload_n 1, 1) := by decide +kernel
theorem dX11_candidate_1 : decode cX11_candidate 1 = .ok (.iconst 0, 1) := by decide +kernel
theorem dX11_candidate_2 : decode cX11_candidate 2 = .ok (.iconst 1, 1) := by decide +kernel
theorem dX11_candidate_3 : decode cX11_candidate 3 = .ok (.aload_n 0, 1) := by decide +kernel
theorem dX11_candidate_4 : decode cX11_candidate 4 = .ok (.getfield 143, 3) := by decide +kernel
theorem dX11_candidate_7 : decode cX11_candidate 7 = .ok (.ishl, 1) := by decide +kernel
theorem dX11_candidate_8 : decode cX11_candidate 8 = .ok (.iconst 1, 1) := by decide +kernel
theorem dX11_candidate_9 : decode cX11_candidate 9 = .ok (.isub, 1) := by decide +kernel
theorem dX11_candidate_10 : decode cX11_candidate 10 = .ok (.invokestatic 133, 3) := by decide +kernel
theorem dX11_candidate_13 : decode cX11_candidate 13 = .ok (.ifCond .ne 5, 3) := by decide +kernel
theorem dX11_candidate_16 : decode cX11_candidate 16 = .ok (.iconst (-1), 1) := by decide +kernel
theorem dX11_candidate_17 : decode cX11_candidate 17 = .ok (.ireturn, 1) := by decide +kernel
theorem dX11_candidate_18 : decode cX11_candidate 18 = .ok (.aload_n 0, 1) := by decide +kernel
theorem dX11_candidate_19 : decode cX11_candidate 19 = .ok (.getfield 199, 3) := by decide +kernel
theorem dX11_candidate_22 : decode cX11_candidate 22 = .ok (.bipush 20, 2) := by decide +kernel
theorem dX11_candidate_24 : decode cX11_candidate 24 = .ok (.if_icmp .ne 6, 3) := by decide +kernel
theorem dX11_candidate_27 : decode cX11_candidate 27 = .ok (.bipush (-2), 2) := by decide +kernel
theorem dX11_candidate_29 : decode cX11_candidate 29 = .ok (.ireturn, 1) := by decide +kernel
theorem dX11_candidate_30 : decode cX11_candidate 30 = .ok (.aload_n 0, 1) := by decide +kernel
theorem dX11_candidate_31 : decode cX11_candidate 31 = .ok (.getfield 83, 3) := by decide +kernel
theorem dX11_candidate_34 : decode cX11_candidate 34 = .ok (.aload_n 0, 1) := by decide +kernel
theorem dX11_candidate_35 : decode cX11_candidate 35 = .ok (.getfield 199, 3) := by decide +kernel
theorem dX11_candidate_38 : decode cX11_candidate 38 = .ok (.aload_n 0, 1) := by decide +kernel
theorem dX11_candidate_39 : decode cX11_candidate 39 = .ok (.getfield 140, 3) := by decide +kernel
theorem dX11_candidate_42 : decode cX11_candidate 42 = .ok (.iastore, 1) := by decide +kernel
theorem dX11_candidate_43 : decode cX11_candidate 43 = .ok (.aload_n 0, 1) := by decide +kernel
theorem dX11_candidate_44 : decode cX11_candidate 44 = .ok (.getfield 86, 3) := by decide +kernel
theorem dX11_candidate_47 : decode cX11_candidate 47 = .ok (.aload_n 0, 1) := by decide +kernel
theorem dX11_candidate_48 : decode cX11_candidate 48 = .ok (.getfield 199, 3) := by decide +kernel
theorem dX11_candidate_51 : decode cX11_candidate 51 = .ok (.iload_n 1, 1) := by decide +kernel
theorem dX11_candidate_52 : decode cX11_candidate 52 = .ok (.iastore, 1) := by decide +kernel
theorem dX11_candidate_53 : decode cX11_candidate 53 = .ok (.aload_n 0, 1) := by decide +kernel
theorem dX11_candidate_54 : decode cX11_candidate 54 = .ok (.getfield 89, 3) := by decide +kernel
theorem dX11_candidate_57 : decode cX11_candidate 57 = .ok (.aload_n 0, 1) := by decide +kernel
theorem dX11_candidate_58 : decode cX11_candidate 58 = .ok (.getfield 199, 3) := by decide +kernel
theorem dX11_candidate_61 : decode cX11_candidate 61 = .ok (.iconst 0, 1) := by decide +kernel
theorem dX11_candidate_62 : decode cX11_candidate 62 = .ok (.bastore, 1) := by decide +kernel
theorem dX11_candidate_63 : decode cX11_candidate 63 = .ok (.aload_n 0, 1) := by decide +kernel
theorem dX11_candidate_64 : decode cX11_candidate 64 = .ok (.dup, 1) := by decide +kernel
theorem dX11_candidate_65 : decode cX11_candidate 65 = .ok (.getfield 199, 3) := by decide +kernel
theorem dX11_candidate_68 : decode cX11_candidate 68 = .ok (.iconst 1, 1) := by decide +kernel
theorem dX11_candidate_69 : decode cX11_candidate 69 = .ok (.iadd, 1) := by decide +kernel
theorem dX11_candidate_70 : decode cX11_candidate 70 = .ok (.putfield 199, 3) := by decide +kernel
theorem dX11_candidate_73 : decode cX11_candidate 73 = .ok (.aload_n 0, 1) := by decide +kernel
theorem dX11_candidate_74 : decode cX11_candidate 74 = .ok (.getfield 199, 3) := by decide +kernel
theorem dX11_candidate_77 : decode cX11_candidate 77 = .ok (.iconst 1, 1) := by decide +kernel
theorem dX11_candidate_78 : decode cX11_candidate 78 = .ok (.isub, 1) := by decide +kernel
theorem dX11_candidate_79 : decode cX11_candidate 79 = .ok (.ireturn, 1) := by decide +kernel
set_option maxRecDepth 20000 in
theorem ggX11_need_X11_in : GoodIn wsX11_need wsX11_in := goodIn_r _ [6] (by decide +kernel) (by decide +kernel)
set_option maxRecDepth 20000 in
theorem gX11_need_X11_in : GoodIn wsX11_need (va_wsS RX11 133 yX11_in wsX11_in) := goodIn_app (goodIn_of _ (by decide +kernel)) ggX11_need_X11_in
set_option maxRecDepth 20000 in
theorem ggX11_need_X11_meets : GoodIn wsX11_need wsX11_meets := goodIn_r _ [10, 11, 12, 13, 14, 15, 16, 17, 18, 19, 20, 21, 22, 23, 24, 25, 26, 27, 28, 29, 30, 31, 32, 33, 34, 35, 36, 37, 38, 39, 40, 41, 42, 43, 44, 45, 46, 47, 48, 49, 50, 51, 52, 53, 54, 55, 56, 57, 58, 59, 60, 61] (by decide +kernel) (by decide +kernel)
set_option maxRecDepth 20000 in
theorem gX11_need_X11_meets : GoodIn wsX11_need (wsV RX11 167 RX11 yX11_meets wsX11_meets) := goodIn_app (goodIn_of _ (by decide +kernel)) ggX11_need_X11_meets
theorem dX11_need_0 : decode cX11_need 0 = .ok (.iload_n 2, 1) := by decide +kernel
theorem dX11_need_1 : decode cX11_need 1 = .ok (.iconst 0, 1) := by decide +kernel
theorem dX11_need_2 : decode cX11_need 2 = .ok (.aload_n 0, 1) := by decide +kernel
theorem dX11_need_3 : decode cX11_need 3 = .ok (.getfield 199, 3) := by decide +kernel
theorem dX11_need_6 : decode cX11_need 6 = .ok (.iconst 1, 1) := by decide +kernel
theorem dX11_need_7 : decode cX11_need 7 = .ok (.isub, 1) := by decide +kernel
theorem dX11_need_8 : decode cX11_need 8 = .ok (.invokestatic 133, 3) := by decide +kernel
theorem dX11_need_11 : decode cX11_need 11 = .ok (.ifCond .eq 7, 3) := by decide +kernel
theorem dX11_need_14 : decode cX11_need 14 = .ok (.iload_n 1, 1) := by decide +kernel
theorem dX11_need_15 : decode cX11_need 15 = .ok (.ifCond .ne 7, 3) := by decide +kernel
theorem dX11_need_18 : decode cX11_need 18 = .ok (.iconst (-1), 1) := by decide +kernel
theorem dX11_need_19 : decode cX11_need 19 = .ok (.goto 21, 3) := by decide +kernel
theorem dX11_need_22 : decode cX11_need 22 = .ok (.aload_n 0, 1) := by decide +kernel
theorem dX11_need_23 : decode cX11_need 23 = .ok (.getfield 89, 3) := by decide +kernel
theorem dX11_need_26 : decode cX11_need 26 = .ok (.iload_n 2, 1) := by decide +kernel
theorem dX11_need_27 : decode cX11_need 27 = .ok (.baload, 1) := by decide +kernel
theorem dX11_need_28 : decode cX11_need 28 = .ok (.ifCond .eq 11, 3) := by decide +kernel
theorem dX11_need_31 : decode cX11_need 31 = .ok (.aload_n 0, 1) := by decide +kernel
theorem dX11_need_32 : decode cX11_need 32 = .ok (.iconst 1, 1) := by decide +kernel
theorem dX11_need_33 : decode cX11_need 33 = .ok (.invokevirtual 167, 3) := by decide +kernel
theorem dX11_need_36 : decode cX11_need 36 = .ok (.goto 4, 3) := by decide +kernel
theorem dX11_need_39 : decode cX11_need 39 = .ok (.iconst 0, 1) := by decide +kernel
theorem dX11_need_40 : decode cX11_need 40 = .ok (.ireturn, 1) := by decide +kernel
set_option maxRecDepth 20000 in
theorem ggX11_propose_X11_isFellow : GoodIn wsX11_propose wsX11_isFellow := goodIn_r _ [6, 7, 8, 9, 5, 10, 26, 27, 28, 29, 30, 31, 32, 33, 34, 35, 36, 37, 38, 39, 40, 41, 42, 43, 44, 45, 46, 47, 48, 49, 50, 51, 52, 53, 54, 55, 56, 57, 58, 59, 60, 61, 62, 63, 64, 65, 66, 67, 68, 69, 70, 71, 72, 73, 74] (by decide +kernel) (by decide +kernel)
set_option maxRecDepth 20000 in
theorem gX11_propose_X11_isFellow : GoodIn wsX11_propose (wsV RX11 149 RX11 yX11_isFellow wsX11_isFellow) := goodIn_app (goodIn_of _ (by decide +kernel)) ggX11_propose_X11_isFellow
set_option maxRecDepth 20000 in
theorem ggX11_propose_X11_need : GoodIn wsX11_propose wsX11_need := goodIn_r _ [14, 15, 16, 8, 9, 5, 10, 17, 18, 19, 20, 21, 22, 26, 27, 28, 29, 30, 31, 32, 33, 34, 35, 36, 37, 38, 39, 40, 41, 42, 43, 44, 45, 46, 47, 48, 49, 50, 51, 52, 53, 54, 55, 56, 57, 58, 59, 60, 61, 62, 63, 64, 65, 66, 67, 68, 69, 70, 71, 72, 73, 74] (by decide +kernel) (by decide +kernel)
set_option maxRecDepth 20000 in
theorem gX11_propose_X11_need : GoodIn wsX11_propose (wsV RX11 202 RX11 yX11_need wsX11_need) := goodIn_app (goodIn_of _ (by decide +kernel)) ggX11_propose_X11_need
set_option maxRecDepth 20000 in
theorem ggX11_propose_X11_bitsOf : GoodIn wsX11_propose wsX11_bitsOf := goodIn_r _ [25] (by decide +kernel) (by decide +kernel)
set_option maxRecDepth 20000 in
theorem gX11_propose_X11_bitsOf : GoodIn wsX11_propose (va_wsS RX11 175 yX11_bitsOf wsX11_bitsOf) := goodIn_app (goodIn_of _ (by decide +kernel)) ggX11_propose_X11_bitsOf
theorem dX11_propose_0 : decode cX11_propose 0 = .ok (.aload_n 0, 1) := by decide +kernel
theorem dX11_propose_1 : decode cX11_propose 1 = .ok (.aload_n 0, 1) := by decide +kernel
theorem dX11_propose_2 : decode cX11_propose 2 = .ok (.iload_n 2, 1) := by decide +kernel
theorem dX11_propose_3 : decode cX11_propose 3 = .ok (.invokevirtual 149, 3) := by decide +kernel
theorem dX11_propose_6 : decode cX11_propose 6 = .ok (.iload_n 1, 1) := by decide +kernel
theorem dX11_propose_7 : decode cX11_propose 7 = .ok (.invokevirtual 202, 3) := by decide +kernel
theorem dX11_propose_10 : decode cX11_propose 10 = .ok (.istore_n 3, 1) := by decide +kernel
theorem dX11_propose_11 : decode cX11_propose 11 = .ok (.iload_n 3, 1) := by decide +kernel
theorem dX11_propose_12 : decode cX11_propose 12 = .ok (.ifCond .ge 5, 3) := by decide +kernel
theorem dX11_propose_15 : decode cX11_propose 15 = .ok (.iload_n 3, 1) := by decide +kernel
theorem dX11_propose_16 : decode cX11_propose 16 = .ok (.ireturn, 1) := by decide +kernel
theorem dX11_propose_17 : decode cX11_propose 17 = .ok (.aload_n 0, 1) := by decide +kernel
theorem dX11_propose_18 : decode cX11_propose 18 = .ok (.getfield 86, 3) := by decide +kernel
theorem dX11_propose_21 : decode cX11_propose 21 = .ok (.iload_n 1, 1) := by decide +kernel
theorem dX11_propose_22 : decode cX11_propose 22 = .ok (.dup2, 1) := by decide +kernel
theorem dX11_propose_23 : decode cX11_propose 23 = .ok (.iaload, 1) := by decide +kernel
theorem dX11_propose_24 : decode cX11_propose 24 = .ok (.iconst 1, 1) := by decide +kernel
theorem dX11_propose_25 : decode cX11_propose 25 = .ok (.iload_n 2, 1) := by decide +kernel
theorem dX11_propose_26 : decode cX11_propose 26 = .ok (.ishl, 1) := by decide +kernel
theorem dX11_propose_27 : decode cX11_propose 27 = .ok (.ior, 1) := by decide +kernel
theorem dX11_propose_28 : decode cX11_propose 28 = .ok (.iastore, 1) := by decide +kernel
theorem dX11_propose_29 : decode cX11_propose 29 = .ok (.aload_n 0, 1) := by decide +kernel
theorem dX11_propose_30 : decode cX11_propose 30 = .ok (.getfield 86, 3) := by decide +kernel
theorem dX11_propose_33 : decode cX11_propose 33 = .ok (.iload_n 1, 1) := by decide +kernel
theorem dX11_propose_34 : decode cX11_propose 34 = .ok (.iaload, 1) := by decide +kernel
theorem dX11_propose_35 : decode cX11_propose 35 = .ok (.invokestatic 175, 3) := by decide +kernel
theorem dX11_propose_38 : decode cX11_propose 38 = .ok (.ireturn, 1) := by decide +kernel
set_option maxRecDepth 20000 in
theorem ggX11_withdraw_X11_need : GoodIn wsX11_withdraw wsX11_need := goodIn_r _ [6, 7, 1, 8, 9, 5, 10, 11, 12, 13, 14, 15, 16, 17, 18, 19, 20, 21, 22, 23, 24, 25, 26, 27, 28, 29, 30, 31, 32, 33, 34, 35, 36, 37, 38, 39, 40, 41, 42, 43, 44, 45, 46, 47, 48, 49, 50, 51, 52, 53, 54, 55, 56, 57, 58, 59, 60, 61, 62, 63, 64, 65] (by decide +kernel) (by decide +kernel)
set_option maxRecDepth 20000 in
theorem gX11_withdraw_X11_need : GoodIn wsX11_withdraw (wsV RX11 202 RX11 yX11_need wsX11_need) := goodIn_app (goodIn_of _ (by decide +kernel)) ggX11_withdraw_X11_need
theorem dX11_withdraw_0 : decode cX11_withdraw 0 = .ok (.aload_n 0, 1) := by decide +kernel
theorem dX11_withdraw_1 : decode cX11_withdraw 1 = .ok (.iconst 1, 1) := by decide +kernel
theorem dX11_withdraw_2 : decode cX11_withdraw 2 = .ok (.iload_n 1, 1) := by decide +kernel
theorem dX11_withdraw_3 : decode cX11_withdraw 3 = .ok (.invokevirtual 202, 3) := by decide +kernel
theorem dX11_withdraw_6 : decode cX11_withdraw 6 = .ok (.istore_n 2, 1) := by decide +kernel
theorem dX11_withdraw_7 : decode cX11_withdraw 7 = .ok (.iload_n 2, 1) := by decide +kernel
theorem dX11_withdraw_8 : decode cX11_withdraw 8 = .ok (.ifCond .ge 5, 3) := by decide +kernel
theorem dX11_withdraw_11 : decode cX11_withdraw 11 = .ok (.iload_n 2, 1) := by decide +kernel
theorem dX11_withdraw_12 : decode cX11_withdraw 12 = .ok (.ireturn, 1) := by decide +kernel
theorem dX11_withdraw_13 : decode cX11_withdraw 13 = .ok (.aload_n 0, 1) := by decide +kernel
theorem dX11_withdraw_14 : decode cX11_withdraw 14 = .ok (.getfield 89, 3) := by decide +kernel
theorem dX11_withdraw_17 : decode cX11_withdraw 17 = .ok (.iload_n 1, 1) := by decide +kernel
theorem dX11_withdraw_18 : decode cX11_withdraw 18 = .ok (.iconst 1, 1) := by decide +kernel
theorem dX11_withdraw_19 : decode cX11_withdraw 19 = .ok (.bastore, 1) := by decide +kernel
theorem dX11_withdraw_20 : decode cX11_withdraw 20 = .ok (.iconst 1, 1) := by decide +kernel
theorem dX11_withdraw_21 : decode cX11_withdraw 21 = .ok (.ireturn, 1) := by decide +kernel
set_option maxRecDepth 20000 in
theorem ggX11_bars_X11_bitsOf : GoodIn wsX11_bars wsX11_bitsOf := goodIn_r _ [12] (by decide +kernel) (by decide +kernel)
set_option maxRecDepth 20000 in
theorem gX11_bars_X11_bitsOf : GoodIn wsX11_bars (va_wsS RX11 175 yX11_bitsOf wsX11_bitsOf) := goodIn_app (goodIn_of _ (by decide +kernel)) ggX11_bars_X11_bitsOf
theorem dX11_bars_0 : decode cX11_bars 0 = .ok (.aload_n 0, 1) := by decide +kernel
theorem dX11_bars_1 : decode cX11_bars 1 = .ok (.getfield 140, 3) := by decide +kernel
theorem dX11_bars_4 : decode cX11_bars 4 = .ok (.aload_n 0, 1) := by decide +kernel
theorem dX11_bars_5 : decode cX11_bars 5 = .ok (.getfield 83, 3) := by decide +kernel
theorem dX11_bars_8 : decode cX11_bars 8 = .ok (.iload_n 1, 1) := by decide +kernel
theorem dX11_bars_9 : decode cX11_bars 9 = .ok (.iaload, 1) := by decide +kernel
theorem dX11_bars_10 : decode cX11_bars 10 = .ok (.isub, 1) := by decide +kernel
theorem dX11_bars_11 : decode cX11_bars 11 = .ok (.aload_n 0, 1) := by decide +kernel
theorem dX11_bars_12 : decode cX11_bars 12 = .ok (.getfield 68, 3) := by decide +kernel
theorem dX11_bars_15 : decode cX11_bars 15 = .ok (.iload_n 2, 1) := by decide +kernel
theorem dX11_bars_16 : decode cX11_bars 16 = .ok (.iaload, 1) := by decide +kernel
theorem dX11_bars_17 : decode cX11_bars 17 = .ok (.if_icmp .ge 5, 3) := by decide +kernel
theorem dX11_bars_20 : decode cX11_bars 20 = .ok (.iconst 2, 1) := by decide +kernel
theorem dX11_bars_21 : decode cX11_bars 21 = .ok (.ireturn, 1) := by decide +kernel
theorem dX11_bars_22 : decode cX11_bars 22 = .ok (.aload_n 0, 1) := by decide +kernel
theorem dX11_bars_23 : decode cX11_bars 23 = .ok (.getfield 86, 3) := by decide +kernel
theorem dX11_bars_26 : decode cX11_bars 26 = .ok (.iload_n 1, 1) := by decide +kernel
theorem dX11_bars_27 : decode cX11_bars 27 = .ok (.iaload, 1) := by decide +kernel
theorem dX11_bars_28 : decode cX11_bars 28 = .ok (.invokestatic 175, 3) := by decide +kernel
theorem dX11_bars_31 : decode cX11_bars 31 = .ok (.aload_n 0, 1) := by decide +kernel
theorem dX11_bars_32 : decode cX11_bars 32 = .ok (.getfield 71, 3) := by decide +kernel
theorem dX11_bars_35 : decode cX11_bars 35 = .ok (.iload_n 2, 1) := by decide +kernel
theorem dX11_bars_36 : decode cX11_bars 36 = .ok (.iaload, 1) := by decide +kernel
theorem dX11_bars_37 : decode cX11_bars 37 = .ok (.if_icmp .ge 5, 3) := by decide +kernel
theorem dX11_bars_40 : decode cX11_bars 40 = .ok (.iconst 3, 1) := by decide +kernel
theorem dX11_bars_41 : decode cX11_bars 41 = .ok (.ireturn, 1) := by decide +kernel
theorem dX11_bars_42 : decode cX11_bars 42 = .ok (.iload 4, 2) := by decide +kernel
theorem dX11_bars_44 : decode cX11_bars 44 = .ok (.aload_n 0, 1) := by decide +kernel
theorem dX11_bars_45 : decode cX11_bars 45 = .ok (.getfield 74, 3) := by decide +kernel
theorem dX11_bars_48 : decode cX11_bars 48 = .ok (.iload_n 2, 1) := by decide +kernel
theorem dX11_bars_49 : decode cX11_bars 49 = .ok (.iaload, 1) := by decide +kernel
theorem dX11_bars_50 : decode cX11_bars 50 = .ok (.if_icmp .le 5, 3) := by decide +kernel
theorem dX11_bars_53 : decode cX11_bars 53 = .ok (.iconst 4, 1) := by decide +kernel
theorem dX11_bars_54 : decode cX11_bars 54 = .ok (.ireturn, 1) := by decide +kernel
theorem dX11_bars_55 : decode cX11_bars 55 = .ok (.iload_n 3, 1) := by decide +kernel
theorem dX11_bars_56 : decode cX11_bars 56 = .ok (.iload 4, 2) := by decide +kernel
theorem dX11_bars_58 : decode cX11_bars 58 = .ok (.iadd, 1) := by decide +kernel
theorem dX11_bars_59 : decode cX11_bars 59 = .ok (.istore 5, 2) := by decide +kernel
theorem dX11_bars_61 : decode cX11_bars 61 = .ok (.iload 5, 2) := by decide +kernel
theorem dX11_bars_63 : decode cX11_bars 63 = .ok (.ifCond .eq 23, 3) := by decide +kernel
theorem dX11_bars_66 : decode cX11_bars 66 = .ok (.iload_n 3, 1) := by decide +kernel
theorem dX11_bars_67 : decode cX11_bars 67 = .ok (.aload_n 0, 1) := by decide +kernel
theorem dX11_bars_68 : decode cX11_bars 68 = .ok (.getfield 80, 3) := by decide +kernel
theorem dX11_bars_71 : decode cX11_bars 71 = .ok (.iload_n 2, 1) := by decide +kernel
theorem dX11_bars_72 : decode cX11_bars 72 = .ok (.iaload, 1) := by decide +kernel
theorem dX11_bars_73 : decode cX11_bars 73 = .ok (.imul, 1) := by decide +kernel
theorem dX11_bars_74 : decode cX11_bars 74 = .ok (.aload_n 0, 1) := by decide +kernel
theorem dX11_bars_75 : decode cX11_bars 75 = .ok (.getfield 77, 3) := by decide +kernel
theorem dX11_bars_78 : decode cX11_bars 78 = .ok (.iload_n 2, 1) := by decide +kernel
theorem dX11_bars_79 : decode cX11_bars 79 = .ok (.iaload, 1) := by decide +kernel
theorem dX11_bars_80 : decode cX11_bars 80 = .ok (.iload 5, 2) := by decide +kernel
theorem dX11_bars_82 : decode cX11_bars 82 = .ok (.imul, 1) := by decide +kernel
theorem dX11_bars_83 : decode cX11_bars 83 = .ok (.if_icmp .ge 7, 3) := by decide +kernel
theorem dX11_bars_86 : decode cX11_bars 86 = .ok (.iconst 5, 1) := by decide +kernel
theorem dX11_bars_87 : decode cX11_bars 87 = .ok (.goto 4, 3) := by decide +kernel
theorem dX11_bars_90 : decode cX11_bars 90 = .ok (.iconst 1, 1) := by decide +kernel
theorem dX11_bars_91 : decode cX11_bars 91 = .ok (.ireturn, 1) := by decide +kernel
set_option maxRecDepth 20000 in
theorem ggX11_ballot_X11_in : GoodIn wsX11_ballot wsX11_in := goodIn_r _ [11] (by decide +kernel) (by decide +kernel)
set_option maxRecDepth 20000 in
theorem gX11_ballot_X11_in : GoodIn wsX11_ballot (va_wsS RX11 133 yX11_in wsX11_in) := goodIn_app (goodIn_of _ (by decide +kernel)) ggX11_ballot_X11_in
set_option maxRecDepth 20000 in
theorem ggX11_ballot_X11_inForce : GoodIn wsX11_ballot wsX11_inForce := goodIn_r _ [14] (by decide +kernel) (by decide +kernel)
set_option maxRecDepth 20000 in
theorem gX11_ballot_X11_inForce : GoodIn wsX11_ballot (va_wsS RX11 184 yX11_inForce wsX11_inForce) := goodIn_app (goodIn_of _ (by decide +kernel)) ggX11_ballot_X11_inForce
set_option maxRecDepth 20000 in
theorem ggX11_ballot_X11_meets : GoodIn wsX11_ballot wsX11_meets := goodIn_r _ [18, 19, 20, 35, 36, 37, 38, 39, 40, 41, 42, 43, 44, 45, 46, 47, 48, 49, 50, 51, 52, 53, 54, 55, 56, 57, 58, 59, 60, 61, 62, 63, 64, 65, 66, 67, 68, 69, 70, 71, 72, 73, 74, 75, 76, 77, 78, 79, 80, 81, 82, 83] (by decide +kernel) (by decide +kernel)
set_option maxRecDepth 20000 in
theorem gX11_ballot_X11_meets : GoodIn wsX11_ballot (wsV RX11 167 RX11 yX11_meets wsX11_meets) := goodIn_app (goodIn_of _ (by decide +kernel)) ggX11_ballot_X11_meets
set_option maxRecDepth 20000 in
theorem ggX11_ballot_X11_bars : GoodIn wsX11_ballot wsX11_bars := goodIn_r _ [24, 4, 25, 26, 27, 28, 29, 30, 31, 32, 33, 10, 34, 35, 36, 37, 38, 39, 40, 41, 42, 43, 44, 45, 46, 47, 48, 49, 50, 51, 52, 53, 54, 55, 56, 57, 58, 59, 60, 61, 62, 63, 64, 65, 66, 67, 68, 69, 70, 71, 72, 73, 74, 75, 76, 77, 78, 79, 80, 81, 82, 83] (by decide +kernel) (by decide +kernel)
set_option maxRecDepth 20000 in
theorem gX11_ballot_X11_bars : GoodIn wsX11_ballot (wsV RX11 206 RX11 yX11_bars wsX11_bars) := goodIn_app (goodIn_of _ (by decide +kernel)) ggX11_ballot_X11_bars
theorem dX11_ballot_0 : decode cX11_ballot 0 = .ok (.iload_n 1, 1) := by decide +kernel
theorem dX11_ballot_1 : decode cX11_ballot 1 = .ok (.iconst 0, 1) := by decide +kernel
theorem dX11_ballot_2 : decode cX11_ballot 2 = .ok (.aload_n 0, 1) := by decide +kernel
theorem dX11_ballot_3 : decode cX11_ballot 3 = .ok (.getfield 199, 3) := by decide +kernel
theorem dX11_ballot_6 : decode cX11_ballot 6 = .ok (.iconst 1, 1) := by decide +kernel
theorem dX11_ballot_7 : decode cX11_ballot 7 = .ok (.isub, 1) := by decide +kernel
theorem dX11_ballot_8 : decode cX11_ballot 8 = .ok (.invokestatic 133, 3) := by decide +kernel
theorem dX11_ballot_11 : decode cX11_ballot 11 = .ok (.ifCond .eq 25, 3) := by decide +kernel
theorem dX11_ballot_14 : decode cX11_ballot 14 = .ok (.iload_n 2, 1) := by decide +kernel
theorem dX11_ballot_15 : decode cX11_ballot 15 = .ok (.iconst 0, 1) := by decide +kernel
theorem dX11_ballot_16 : decode cX11_ballot 16 = .ok (.sipush 1000, 3) := by decide +kernel
theorem dX11_ballot_19 : decode cX11_ballot 19 = .ok (.invokestatic 133, 3) := by decide +kernel
theorem dX11_ballot_22 : decode cX11_ballot 22 = .ok (.ifCond .eq 14, 3) := by decide +kernel
theorem dX11_ballot_25 : decode cX11_ballot 25 = .ok (.iload_n 3, 1) := by decide +kernel
theorem dX11_ballot_26 : decode cX11_ballot 26 = .ok (.iconst 0, 1) := by decide +kernel
theorem dX11_ballot_27 : decode cX11_ballot 27 = .ok (.sipush 1000, 3) := by decide +kernel
theorem dX11_ballot_30 : decode cX11_ballot 30 = .ok (.invokestatic 133, 3) := by decide +kernel
theorem dX11_ballot_33 : decode cX11_ballot 33 = .ok (.ifCond .ne 5, 3) := by decide +kernel
theorem dX11_ballot_36 : decode cX11_ballot 36 = .ok (.iconst (-1), 1) := by decide +kernel
theorem dX11_ballot_37 : decode cX11_ballot 37 = .ok (.ireturn, 1) := by decide +kernel
theorem dX11_ballot_38 : decode cX11_ballot 38 = .ok (.aload_n 0, 1) := by decide +kernel
theorem dX11_ballot_39 : decode cX11_ballot 39 = .ok (.getfield 65, 3) := by decide +kernel
theorem dX11_ballot_42 : decode cX11_ballot 42 = .ok (.aload_n 0, 1) := by decide +kernel
theorem dX11_ballot_43 : decode cX11_ballot 43 = .ok (.getfield 196, 3) := by decide +kernel
theorem dX11_ballot_46 : decode cX11_ballot 46 = .ok (.aload_n 0, 1) := by decide +kernel
theorem dX11_ballot_47 : decode cX11_ballot 47 = .ok (.getfield 140, 3) := by decide +kernel
theorem dX11_ballot_50 : decode cX11_ballot 50 = .ok (.invokestatic 184, 3) := by decide +kernel
theorem dX11_ballot_53 : decode cX11_ballot 53 = .ok (.istore 4, 2) := by decide +kernel
theorem dX11_ballot_55 : decode cX11_ballot 55 = .ok (.iload 4, 2) := by decide +kernel
theorem dX11_ballot_57 : decode cX11_ballot 57 = .ok (.bipush (-9), 2) := by decide +kernel
theorem dX11_ballot_59 : decode cX11_ballot 59 = .ok (.if_icmp .ne 6, 3) := by decide +kernel
theorem dX11_ballot_62 : decode cX11_ballot 62 = .ok (.bipush (-4), 2) := by decide +kernel
theorem dX11_ballot_64 : decode cX11_ballot 64 = .ok (.ireturn, 1) := by decide +kernel
theorem dX11_ballot_65 : decode cX11_ballot 65 = .ok (.aload_n 0, 1) := by decide +kernel
theorem dX11_ballot_66 : decode cX11_ballot 66 = .ok (.getfield 143, 3) := by decide +kernel
theorem dX11_ballot_69 : decode cX11_ballot 69 = .ok (.bipush 16, 2) := by decide +kernel
theorem dX11_ballot_71 : decode cX11_ballot 71 = .ok (.if_icmp .ne 6, 3) := by decide +kernel
theorem dX11_ballot_74 : decode cX11_ballot 74 = .ok (.bipush (-2), 2) := by decide +kernel
theorem dX11_ballot_76 : decode cX11_ballot 76 = .ok (.ireturn, 1) := by decide +kernel
theorem dX11_ballot_77 : decode cX11_ballot 77 = .ok (.aload_n 0, 1) := by decide +kernel
theorem dX11_ballot_78 : decode cX11_ballot 78 = .ok (.getfield 89, 3) := by decide +kernel
theorem dX11_ballot_81 : decode cX11_ballot 81 = .ok (.iload_n 1, 1) := by decide +kernel
theorem dX11_ballot_82 : decode cX11_ballot 82 = .ok (.baload, 1) := by decide +kernel
theorem dX11_ballot_83 : decode cX11_ballot 83 = .ok (.ifCond .eq 9, 3) := by decide +kernel
theorem dX11_ballot_86 : decode cX11_ballot 86 = .ok (.aload_n 0, 1) := by decide +kernel
theorem dX11_ballot_87 : decode cX11_ballot 87 = .ok (.iconst 1, 1) := by decide +kernel
theorem dX11_ballot_88 : decode cX11_ballot 88 = .ok (.invokevirtual 167, 3) := by decide +kernel
theorem dX11_ballot_91 : decode cX11_ballot 91 = .ok (.ireturn, 1) := by decide +kernel
theorem dX11_ballot_92 : decode cX11_ballot 92 = .ok (.aload_n 0, 1) := by decide +kernel
theorem dX11_ballot_93 : decode cX11_ballot 93 = .ok (.iload_n 1, 1) := by decide +kernel
theorem dX11_ballot_94 : decode cX11_ballot 94 = .ok (.iload 4, 2) := by decide +kernel
theorem dX11_ballot_96 : decode cX11_ballot 96 = .ok (.iload_n 2, 1) := by decide +kernel
theorem dX11_ballot_97 : decode cX11_ballot 97 = .ok (.iload_n 3, 1) := by decide +kernel
theorem dX11_ballot_98 : decode cX11_ballot 98 = .ok (.invokevirtual 206, 3) := by decide +kernel
theorem dX11_ballot_101 : decode cX11_ballot 101 = .ok (.istore 5, 2) := by decide +kernel
theorem dX11_ballot_103 : decode cX11_ballot 103 = .ok (.iload 5, 2) := by decide +kernel
theorem dX11_ballot_105 : decode cX11_ballot 105 = .ok (.iconst 1, 1) := by decide +kernel
theorem dX11_ballot_106 : decode cX11_ballot 106 = .ok (.if_icmp .ne 28, 3) := by decide +kernel
theorem dX11_ballot_109 : decode cX11_ballot 109 = .ok (.aload_n 0, 1) := by decide +kernel
theorem dX11_ballot_110 : decode cX11_ballot 110 = .ok (.getfield 89, 3) := by decide +kernel
theorem dX11_ballot_113 : decode cX11_ballot 113 = .ok (.iload_n 1, 1) := by decide +kernel
theorem dX11_ballot_114 : decode cX11_ballot 114 = .ok (.iconst 1, 1) := by decide +kernel
theorem dX11_ballot_115 : decode cX11_ballot 115 = .ok (.bastore, 1) := by decide +kernel
theorem dX11_ballot_116 : decode cX11_ballot 116 = .ok (.aload_n 0, 1) := by decide +kernel
theorem dX11_ballot_117 : decode cX11_ballot 117 = .ok (.aload_n 0, 1) := by decide +kernel
theorem dX11_ballot_118 : decode cX11_ballot 118 = .ok (.getfield 143, 3) := by decide +kernel
theorem dX11_ballot_121 : decode cX11_ballot 121 = .ok (.putfield 137, 3) := by decide +kernel
theorem dX11_ballot_124 : decode cX11_ballot 124 = .ok (.aload_n 0, 1) := by decide +kernel
theorem dX11_ballot_125 : decode cX11_ballot 125 = .ok (.dup, 1) := by decide +kernel
theorem dX11_ballot_126 : decode cX11_ballot 126 = .ok (.getfield 143, 3) := by decide +kernel
theorem dX11_ballot_129 : decode cX11_ballot 129 = .ok (.iconst 1, 1) := by decide +kernel
theorem dX11_ballot_130 : decode cX11_ballot 130 = .ok (.iadd, 1) := by decide +kernel
theorem dX11_ballot_131 : decode cX11_ballot 131 = .ok (.putfield 143, 3) := by decide +kernel
theorem dX11_ballot_134 : decode cX11_ballot 134 = .ok (.iload 5, 2) := by decide +kernel
theorem dX11_ballot_136 : decode cX11_ballot 136 = .ok (.ireturn, 1) := by decide +kernel
set_option maxRecDepth 20000 in
theorem ggX11_medal_X11_in : GoodIn wsX11_medal wsX11_in := goodIn_r _ [6] (by decide +kernel) (by decide +kernel)
set_option maxRecDepth 20000 in
theorem gX11_medal_X11_in : GoodIn wsX11_medal (va_wsS RX11 133 yX11_in wsX11_in) := goodIn_app (goodIn_of _ (by decide +kernel)) ggX11_medal_X11_in
set_option maxRecDepth 20000 in
theorem ggX11_medal_X11_isDay : GoodIn wsX11_medal wsX11_isDay := goodIn_r _ [9, 3, 4, 5, 6] (by decide +kernel) (by decide +kernel)
set_option maxRecDepth 20000 in
theorem gX11_medal_X11_isDay : GoodIn wsX11_medal (va_wsS RX11 178 yX11_isDay wsX11_isDay) := goodIn_app (goodIn_of _ (by decide +kernel)) ggX11_medal_X11_isDay
theorem dX11_medal_0 : decode cX11_medal 0 = .ok (.iload_n 1, 1) := by decide +kernel
theorem dX11_medal_1 : decode cX11_medal 1 = .ok (.iconst 0, 1) := by decide +kernel
theorem dX11_medal_2 : decode cX11_medal 2 = .ok (.iconst 3, 1) := by decide +kernel
theorem dX11_medal_3 : decode cX11_medal 3 = .ok (.invokestatic 133, 3) := by decide +kernel
theorem dX11_medal_6 : decode cX11_medal 6 = .ok (.ifCond .eq 17, 3) := by decide +kernel
theorem dX11_medal_9 : decode cX11_medal 9 = .ok (.iload_n 2, 1) := by decide +kernel
theorem dX11_medal_10 : decode cX11_medal 10 = .ok (.invokestatic 178, 3) := by decide +kernel
theorem dX11_medal_13 : decode cX11_medal 13 = .ok (.ifCond .eq 10, 3) := by decide +kernel
theorem dX11_medal_16 : decode cX11_medal 16 = .ok (.iload_n 3, 1) := by decide +kernel
theorem dX11_medal_17 : decode cX11_medal 17 = .ok (.invokestatic 178, 3) := by decide +kernel
theorem dX11_medal_20 : decode cX11_medal 20 = .ok (.ifCond .ne 5, 3) := by decide +kernel
theorem dX11_medal_23 : decode cX11_medal 23 = .ok (.iconst (-1), 1) := by decide +kernel
theorem dX11_medal_24 : decode cX11_medal 24 = .ok (.ireturn, 1) := by decide +kernel
theorem dX11_medal_25 : decode cX11_medal 25 = .ok (.aload_n 0, 1) := by decide +kernel
theorem dX11_medal_26 : decode cX11_medal 26 = .ok (.getfield 92, 3) := by decide +kernel
theorem dX11_medal_29 : decode cX11_medal 29 = .ok (.iload_n 1, 1) := by decide +kernel
theorem dX11_medal_30 : decode cX11_medal 30 = .ok (.iload_n 2, 1) := by decide +kernel
theorem dX11_medal_31 : decode cX11_medal 31 = .ok (.iastore, 1) := by decide +kernel
theorem dX11_medal_32 : decode cX11_medal 32 = .ok (.aload_n 0, 1) := by decide +kernel
theorem dX11_medal_33 : decode cX11_medal 33 = .ok (.getfield 95, 3) := by decide +kernel
theorem dX11_medal_36 : decode cX11_medal 36 = .ok (.iload_n 1, 1) := by decide +kernel
theorem dX11_medal_37 : decode cX11_medal 37 = .ok (.iload_n 3, 1) := by decide +kernel
theorem dX11_medal_38 : decode cX11_medal 38 = .ok (.iastore, 1) := by decide +kernel
theorem dX11_medal_39 : decode cX11_medal 39 = .ok (.iconst 1, 1) := by decide +kernel
theorem dX11_medal_40 : decode cX11_medal 40 = .ok (.ireturn, 1) := by decide +kernel
theorem dX11_hadSoon_0 : decode cX11_hadSoon 0 = .ok (.iconst 0, 1) := by decide +kernel
theorem dX11_hadSoon_1 : decode cX11_hadSoon 1 = .ok (.istore_n 3, 1) := by decide +kernel
theorem dX11_hadSoon_2 : decode cX11_hadSoon 2 = .ok (.iconst 0, 1) := by decide +kernel
theorem dX11_hadSoon_3 : decode cX11_hadSoon 3 = .ok (.istore 4, 2) := by decide +kernel
theorem dX11_hadSoon_5 : decode cX11_hadSoon 5 = .ok (.iload 4, 2) := by decide +kernel
theorem dX11_hadSoon_7 : decode cX11_hadSoon 7 = .ok (.aload_n 0, 1) := by decide +kernel
theorem dX11_hadSoon_8 : decode cX11_hadSoon 8 = .ok (.getfield 210, 3) := by decide +kernel
theorem dX11_hadSoon_11 : decode cX11_hadSoon 11 = .ok (.if_icmp .ge 62, 3) := by decide +kernel
theorem dX11_hadSoon_14 : decode cX11_hadSoon 14 = .ok (.iload_n 3, 1) := by decide +kernel
theorem dX11_hadSoon_15 : decode cX11_hadSoon 15 = .ok (.ifCond .ne 46, 3) := by decide +kernel
theorem dX11_hadSoon_18 : decode cX11_hadSoon 18 = .ok (.aload_n 0, 1) := by decide +kernel
theorem dX11_hadSoon_19 : decode cX11_hadSoon 19 = .ok (.getfield 98, 3) := by decide +kernel
theorem dX11_hadSoon_22 : decode cX11_hadSoon 22 = .ok (.iload 4, 2) := by decide +kernel
theorem dX11_hadSoon_24 : decode cX11_hadSoon 24 = .ok (.iaload, 1) := by decide +kernel
theorem dX11_hadSoon_25 : decode cX11_hadSoon 25 = .ok (.iload_n 1, 1) := by decide +kernel
theorem dX11_hadSoon_26 : decode cX11_hadSoon 26 = .ok (.if_icmp .ne 39, 3) := by decide +kernel
theorem dX11_hadSoon_29 : decode cX11_hadSoon 29 = .ok (.aload_n 0, 1) := by decide +kernel
theorem dX11_hadSoon_30 : decode cX11_hadSoon 30 = .ok (.getfield 101, 3) := by decide +kernel
theorem dX11_hadSoon_33 : decode cX11_hadSoon 33 = .ok (.iload 4, 2) := by decide +kernel
theorem dX11_hadSoon_35 : decode cX11_hadSoon 35 = .ok (.iaload, 1) := by decide +kernel
theorem dX11_hadSoon_36 : decode cX11_hadSoon 36 = .ok (.iload_n 2, 1) := by decide +kernel
theorem dX11_hadSoon_37 : decode cX11_hadSoon 37 = .ok (.if_icmp .ne 28, 3) := by decide +kernel
theorem dX11_hadSoon_40 : decode cX11_hadSoon 40 = .ok (.aload_n 0, 1) := by decide +kernel
theorem dX11_hadSoon_41 : decode cX11_hadSoon 41 = .ok (.getfield 140, 3) := by decide +kernel
theorem dX11_hadSoon_44 : decode cX11_hadSoon 44 = .ok (.aload_n 0, 1) := by decide +kernel
theorem dX11_hadSoon_45 : decode cX11_hadSoon 45 = .ok (.getfield 104, 3) := by decide +kernel
theorem dX11_hadSoon_48 : decode cX11_hadSoon 48 = .ok (.iload 4, 2) := by decide +kernel
theorem dX11_hadSoon_50 : decode cX11_hadSoon 50 = .ok (.iaload, 1) := by decide +kernel
theorem dX11_hadSoon_51 : decode cX11_hadSoon 51 = .ok (.isub, 1) := by decide +kernel
theorem dX11_hadSoon_52 : decode cX11_hadSoon 52 = .ok (.aload_n 0, 1) := by decide +kernel
theorem dX11_hadSoon_53 : decode cX11_hadSoon 53 = .ok (.getfield 92, 3) := by decide +kernel
theorem dX11_hadSoon_56 : decode cX11_hadSoon 56 = .ok (.iload_n 1, 1) := by decide +kernel
theorem dX11_hadSoon_57 : decode cX11_hadSoon 57 = .ok (.iaload, 1) := by decide +kernel
theorem dX11_hadSoon_58 : decode cX11_hadSoon 58 = .ok (.if_icmp .ge 7, 3) := by decide +kernel
theorem dX11_hadSoon_61 : decode cX11_hadSoon 61 = .ok (.iconst 1, 1) := by decide +kernel
theorem dX11_hadSoon_62 : decode cX11_hadSoon 62 = .ok (.goto 4, 3) := by decide +kernel
theorem dX11_hadSoon_65 : decode cX11_hadSoon 65 = .ok (.iconst 0, 1) := by decide +kernel
theorem dX11_hadSoon_66 : decode cX11_hadSoon 66 = .ok (.istore_n 3, 1) := by decide +kernel
theorem dX11_hadSoon_67 : decode cX11_hadSoon 67 = .ok (.iinc 4 1, 3) := by decide +kernel
theorem dX11_hadSoon_70 : decode cX11_hadSoon 70 = .ok (.goto (-65), 3) := by decide +kernel
theorem dX11_hadSoon_73 : decode cX11_hadSoon 73 = .ok (.iload_n 3, 1) := by decide +kernel
theorem dX11_hadSoon_74 : decode cX11_hadSoon 74 = .ok (.ireturn, 1) := by decide +kernel
set_option maxRecDepth 20000 in
theorem ggX11_hasPrinted_X11_lastOf : GoodIn wsX11_hasPrinted wsX11_lastOf := goodIn_r _ [9, 10, 11, 12, 13, 14, 15, 16, 17, 18, 19, 20, 21, 22, 23, 24, 25, 26, 27, 28, 29, 30, 31, 32, 33, 34, 35, 36, 37, 38, 39, 40, 41, 42, 43, 44, 45, 46, 47, 48, 49, 50, 51, 52, 53, 54, 55, 56, 57, 58, 59, 60, 61, 62, 63] (by decide +kernel) (by decide +kernel)
set_option maxRecDepth 20000 in
theorem gX11_hasPrinted_X11_lastOf : GoodIn wsX11_hasPrinted (wsV RX11 157 RX11 yX11_lastOf wsX11_lastOf) := goodIn_app (goodIn_of _ (by decide +kernel)) ggX11_hasPrinted_X11_lastOf
theorem dX11_hasPrinted_0 : decode cX11_hasPrinted 0 = .ok (.iconst 0, 1) := by decide +kernel
theorem dX11_hasPrinted_1 : decode cX11_hasPrinted 1 = .ok (.istore_n 3, 1) := by decide +kernel
theorem dX11_hasPrinted_2 : decode cX11_hasPrinted 2 = .ok (.iconst 0, 1) := by decide +kernel
theorem dX11_hasPrinted_3 : decode cX11_hasPrinted 3 = .ok (.istore 4, 2) := by decide +kernel
theorem dX11_hasPrinted_5 : decode cX11_hasPrinted 5 = .ok (.iload 4, 2) := by decide +kernel
theorem dX11_hasPrinted_7 : decode cX11_hasPrinted 7 = .ok (.aload_n 0, 1) := by decide +kernel
theorem dX11_hasPrinted_8 : decode cX11_hasPrinted 8 = .ok (.getfield 146, 3) := by decide +kernel
theorem dX11_hasPrinted_11 : decode cX11_hasPrinted 11 = .ok (.if_icmp .ge 70, 3) := by decide +kernel
theorem dX11_hasPrinted_14 : decode cX11_hasPrinted 14 = .ok (.aload_n 0, 1) := by decide +kernel
theorem dX11_hasPrinted_15 : decode cX11_hasPrinted 15 = .ok (.getfield 22, 3) := by decide +kernel
theorem dX11_hasPrinted_18 : decode cX11_hasPrinted 18 = .ok (.iload 4, 2) := by decide +kernel
theorem dX11_hasPrinted_20 : decode cX11_hasPrinted 20 = .ok (.iaload, 1) := by decide +kernel
theorem dX11_hasPrinted_21 : decode cX11_hasPrinted 21 = .ok (.iload_n 2, 1) := by decide +kernel
theorem dX11_hasPrinted_22 : decode cX11_hasPrinted 22 = .ok (.if_icmp .ne 16, 3) := by decide +kernel
theorem dX11_hasPrinted_25 : decode cX11_hasPrinted 25 = .ok (.aload_n 0, 1) := by decide +kernel
theorem dX11_hasPrinted_26 : decode cX11_hasPrinted 26 = .ok (.iload 4, 2) := by decide +kernel
theorem dX11_hasPrinted_28 : decode cX11_hasPrinted 28 = .ok (.iconst 2, 1) := by decide +kernel
theorem dX11_hasPrinted_29 : decode cX11_hasPrinted 29 = .ok (.sipush 30000, 3) := by decide +kernel
theorem dX11_hasPrinted_32 : decode cX11_hasPrinted 32 = .ok (.invokevirtual 157, 3) := by decide +kernel
theorem dX11_hasPrinted_35 : decode cX11_hasPrinted 35 = .ok (.goto 5, 3) := by decide +kernel
theorem dX11_hasPrinted_38 : decode cX11_hasPrinted 38 = .ok (.bipush (-9), 2) := by decide +kernel
theorem dX11_hasPrinted_40 : decode cX11_hasPrinted 40 = .ok (.istore 5, 2) := by decide +kernel
theorem dX11_hasPrinted_42 : decode cX11_hasPrinted 42 = .ok (.iload_n 3, 1) := by decide +kernel
theorem dX11_hasPrinted_43 : decode cX11_hasPrinted 43 = .ok (.ifCond .ne 26, 3) := by decide +kernel
theorem dX11_hasPrinted_46 : decode cX11_hasPrinted 46 = .ok (.iload 5, 2) := by decide +kernel
theorem dX11_hasPrinted_48 : decode cX11_hasPrinted 48 = .ok (.bipush (-9), 2) := by decide +kernel
theorem dX11_hasPrinted_50 : decode cX11_hasPrinted 50 = .ok (.if_icmp .eq 23, 3) := by decide +kernel
theorem dX11_hasPrinted_53 : decode cX11_hasPrinted 53 = .ok (.aload_n 0, 1) := by decide +kernel
theorem dX11_hasPrinted_54 : decode cX11_hasPrinted 54 = .ok (.getfield 140, 3) := by decide +kernel
theorem dX11_hasPrinted_57 : decode cX11_hasPrinted 57 = .ok (.iload 5, 2) := by decide +kernel
theorem dX11_hasPrinted_59 : decode cX11_hasPrinted 59 = .ok (.isub, 1) := by decide +kernel
theorem dX11_hasPrinted_60 : decode cX11_hasPrinted 60 = .ok (.aload_n 0, 1) := by decide +kernel
theorem dX11_hasPrinted_61 : decode cX11_hasPrinted 61 = .ok (.getfield 95, 3) := by decide +kernel
theorem dX11_hasPrinted_64 : decode cX11_hasPrinted 64 = .ok (.iload_n 1, 1) := by decide +kernel
theorem dX11_hasPrinted_65 : decode cX11_hasPrinted 65 = .ok (.iaload, 1) := by decide +kernel
theorem dX11_hasPrinted_66 : decode cX11_hasPrinted 66 = .ok (.if_icmp .gt 7, 3) := by decide +kernel
theorem dX11_hasPrinted_69 : decode cX11_hasPrinted 69 = .ok (.iconst 1, 1) := by decide +kernel
theorem dX11_hasPrinted_70 : decode cX11_hasPrinted 70 = .ok (.goto 4, 3) := by decide +kernel
theorem dX11_hasPrinted_73 : decode cX11_hasPrinted 73 = .ok (.iconst 0, 1) := by decide +kernel
theorem dX11_hasPrinted_74 : decode cX11_hasPrinted 74 = .ok (.istore_n 3, 1) := by decide +kernel
theorem dX11_hasPrinted_75 : decode cX11_hasPrinted 75 = .ok (.iinc 4 1, 3) := by decide +kernel
theorem dX11_hasPrinted_78 : decode cX11_hasPrinted 78 = .ok (.goto (-73), 3) := by decide +kernel
theorem dX11_hasPrinted_81 : decode cX11_hasPrinted 81 = .ok (.iload_n 3, 1) := by decide +kernel
theorem dX11_hasPrinted_82 : decode cX11_hasPrinted 82 = .ok (.ireturn, 1) := by decide +kernel
set_option maxRecDepth 20000 in
theorem ggX11_award_X11_in : GoodIn wsX11_award wsX11_in := goodIn_r _ [9] (by decide +kernel) (by decide +kernel)
set_option maxRecDepth 20000 in
theorem gX11_award_X11_in : GoodIn wsX11_award (va_wsS RX11 133 yX11_in wsX11_in) := goodIn_app (goodIn_of _ (by decide +kernel)) ggX11_award_X11_in
set_option maxRecDepth 20000 in
theorem ggX11_award_X11_isFellow : GoodIn wsX11_award wsX11_isFellow := goodIn_r _ [13, 14, 6, 7, 8, 9, 36, 37, 38, 39, 40, 41, 42, 43, 44, 45, 46, 47, 48, 49, 50, 51, 52, 53, 54, 55, 56, 57, 58, 59, 60, 61, 62, 63, 64, 65, 66, 67, 68, 69, 70, 71, 72, 73, 74, 75, 76, 77, 78, 79, 80, 81, 82, 83, 84] (by decide +kernel) (by decide +kernel)
set_option maxRecDepth 20000 in
theorem gX11_award_X11_isFellow : GoodIn wsX11_award (wsV RX11 149 RX11 yX11_isFellow wsX11_isFellow) := goodIn_app (goodIn_of _ (by decide +kernel)) ggX11_award_X11_isFellow
set_option maxRecDepth 20000 in
theorem ggX11_award_X11_hadSoon : GoodIn wsX11_award wsX11_hadSoon := goodIn_r _ [18, 1, 2, 3, 5, 4, 19, 36, 37, 38, 39, 40, 41, 42, 43, 44, 45, 46, 47, 48, 49, 50, 51, 52, 53, 54, 55, 56, 57, 58, 59, 60, 61, 62, 63, 64, 65, 66, 67, 68, 69, 70, 71, 72, 73, 74, 75, 76, 77, 78, 79, 80, 81, 82, 83, 84] (by decide +kernel) (by decide +kernel)
set_option maxRecDepth 20000 in
theorem gX11_award_X11_hadSoon : GoodIn wsX11_award (wsV RX11 213 RX11 yX11_hadSoon wsX11_hadSoon) := goodIn_app (goodIn_of _ (by decide +kernel)) ggX11_award_X11_hadSoon
set_option maxRecDepth 20000 in
theorem ggX11_award_X11_hasPrinted : GoodIn wsX11_award wsX11_hasPrinted := goodIn_r _ [23, 24, 25, 5, 26, 27, 28, 29, 8, 30, 31, 32, 33, 34, 35, 36, 37, 38, 39, 40, 41, 42, 43, 44, 45, 46, 47, 48, 49, 50, 51, 52, 53, 54, 55, 56, 57, 58, 59, 60, 61, 62, 63, 64, 65, 66, 67, 68, 69, 70, 71, 72, 73, 74, 75, 76, 77, 78, 79, 80, 81, 82, 83, 84] (by decide +kernel) (by decide +kernel)
set_option maxRecDepth 20000 in
theorem gX11_award_X11_hasPrinted : GoodIn wsX11_award (wsV RX11 216 RX11 yX11_hasPrinted wsX11_hasPrinted) := goodIn_app (goodIn_of _ (by decide +kernel)) ggX11_award_X11_hasPrinted
theorem dX11_award_0 : decode cX11_award 0 = .ok (.iload_n 1, 1) := by decide +kernel
theorem dX11_award_1 : decode cX11_award 1 = .ok (.iconst 0, 1) := by decide +kernel
theorem dX11_award_2 : decode cX11_award 2 = .ok (.iconst 3, 1) := by decide +kernel
theorem dX11_award_3 : decode cX11_award 3 = .ok (.invokestatic 133, 3) := by decide +kernel
theorem dX11_award_6 : decode cX11_award 6 = .ok (.ifCond .eq 11, 3) := by decide +kernel
theorem dX11_award_9 : decode cX11_award 9 = .ok (.aload_n 0, 1) := by decide +kernel
theorem dX11_award_10 : decode cX11_award 10 = .ok (.iload_n 2, 1) := by decide +kernel
theorem dX11_award_11 : decode cX11_award 11 = .ok (.invokevirtual 149, 3) := by decide +kernel
theorem dX11_award_14 : decode cX11_award 14 = .ok (.ifCond .ne 5, 3) := by decide +kernel
theorem dX11_award_17 : decode cX11_award 17 = .ok (.iconst (-1), 1) := by decide +kernel
theorem dX11_award_18 : decode cX11_award 18 = .ok (.ireturn, 1) := by decide +kernel
theorem dX11_award_19 : decode cX11_award 19 = .ok (.aload_n 0, 1) := by decide +kernel
theorem dX11_award_20 : decode cX11_award 20 = .ok (.getfield 210, 3) := by decide +kernel
theorem dX11_award_23 : decode cX11_award 23 = .ok (.bipush 60, 2) := by decide +kernel
theorem dX11_award_25 : decode cX11_award 25 = .ok (.if_icmp .ne 6, 3) := by decide +kernel
theorem dX11_award_28 : decode cX11_award 28 = .ok (.bipush (-2), 2) := by decide +kernel
theorem dX11_award_30 : decode cX11_award 30 = .ok (.ireturn, 1) := by decide +kernel
theorem dX11_award_31 : decode cX11_award 31 = .ok (.aload_n 0, 1) := by decide +kernel
theorem dX11_award_32 : decode cX11_award 32 = .ok (.iload_n 1, 1) := by decide +kernel
theorem dX11_award_33 : decode cX11_award 33 = .ok (.iload_n 2, 1) := by decide +kernel
theorem dX11_award_34 : decode cX11_award 34 = .ok (.invokevirtual 213, 3) := by decide +kernel
theorem dX11_award_37 : decode cX11_award 37 = .ok (.ifCond .eq 5, 3) := by decide +kernel
theorem dX11_award_40 : decode cX11_award 40 = .ok (.iconst 2, 1) := by decide +kernel
theorem dX11_award_41 : decode cX11_award 41 = .ok (.ireturn, 1) := by decide +kernel
theorem dX11_award_42 : decode cX11_award 42 = .ok (.aload_n 0, 1) := by decide +kernel
theorem dX11_award_43 : decode cX11_award 43 = .ok (.iload_n 1, 1) := by decide +kernel
theorem dX11_award_44 : decode cX11_award 44 = .ok (.iload_n 2, 1) := by decide +kernel
theorem dX11_award_45 : decode cX11_award 45 = .ok (.invokevirtual 216, 3) := by decide +kernel
theorem dX11_award_48 : decode cX11_award 48 = .ok (.ifCond .ne 5, 3) := by decide +kernel
theorem dX11_award_51 : decode cX11_award 51 = .ok (.iconst 3, 1) := by decide +kernel
theorem dX11_award_52 : decode cX11_award 52 = .ok (.ireturn, 1) := by decide +kernel
theorem dX11_award_53 : decode cX11_award 53 = .ok (.aload_n 0, 1) := by decide +kernel
theorem dX11_award_54 : decode cX11_award 54 = .ok (.getfield 98, 3) := by decide +kernel
theorem dX11_award_57 : decode cX11_award 57 = .ok (.aload_n 0, 1) := by decide +kernel
theorem dX11_award_58 : decode cX11_award 58 = .ok (.getfield 210, 3) := by decide +kernel
theorem dX11_award_61 : decode cX11_award 61 = .ok (.iload_n 1, 1) := by decide +kernel
theorem dX11_award_62 : decode cX11_award 62 = .ok (.iastore, 1) := by decide +kernel
theorem dX11_award_63 : decode cX11_award 63 = .ok (.aload_n 0, 1) := by decide +kernel
theorem dX11_award_64 : decode cX11_award 64 = .ok (.getfield 101, 3) := by decide +kernel
theorem dX11_award_67 : decode cX11_award 67 = .ok (.aload_n 0, 1) := by decide +kernel
theorem dX11_award_68 : decode cX11_award 68 = .ok (.getfield 210, 3) := by decide +kernel
theorem dX11_award_71 : decode cX11_award 71 = .ok (.iload_n 2, 1) := by decide +kernel
theorem dX11_award_72 : decode cX11_award 72 = .ok (.iastore, 1) := by decide +kernel
theorem dX11_award_73 : decode cX11_award 73 = .ok (.aload_n 0, 1) := by decide +kernel
theorem dX11_award_74 : decode cX11_award 74 = .ok (.getfield 104, 3) := by decide +kernel
theorem dX11_award_77 : decode cX11_award 77 = .ok (.aload_n 0, 1) := by decide +kernel
theorem dX11_award_78 : decode cX11_award 78 = .ok (.getfield 210, 3) := by decide +kernel
theorem dX11_award_81 : decode cX11_award 81 = .ok (.aload_n 0, 1) := by decide +kernel
theorem dX11_award_82 : decode cX11_award 82 = .ok (.getfield 140, 3) := by decide +kernel
theorem dX11_award_85 : decode cX11_award 85 = .ok (.iastore, 1) := by decide +kernel
theorem dX11_award_86 : decode cX11_award 86 = .ok (.aload_n 0, 1) := by decide +kernel
theorem dX11_award_87 : decode cX11_award 87 = .ok (.dup, 1) := by decide +kernel
theorem dX11_award_88 : decode cX11_award 88 = .ok (.getfield 210, 3) := by decide +kernel
theorem dX11_award_91 : decode cX11_award 91 = .ok (.iconst 1, 1) := by decide +kernel
theorem dX11_award_92 : decode cX11_award 92 = .ok (.iadd, 1) := by decide +kernel
theorem dX11_award_93 : decode cX11_award 93 = .ok (.putfield 210, 3) := by decide +kernel
theorem dX11_award_96 : decode cX11_award 96 = .ok (.iconst 1, 1) := by decide +kernel
theorem dX11_award_97 : decode cX11_award 97 = .ok (.ireturn, 1) := by decide +kernel
set_option maxRecDepth 20000 in
theorem ggX11_medals_X11_in : GoodIn wsX11_medals wsX11_in := goodIn_r _ [7] (by decide +kernel) (by decide +kernel)
set_option maxRecDepth 20000 in
theorem gX11_medals_X11_in : GoodIn wsX11_medals (va_wsS RX11 133 yX11_in wsX11_in) := goodIn_app (goodIn_of _ (by decide +kernel)) ggX11_medals_X11_in
set_option maxRecDepth 20000 in
theorem ggX11_medals_X11_isFellow : GoodIn wsX11_medals wsX11_isFellow := goodIn_r _ [11, 12, 4, 5, 6, 7, 13, 14, 15, 16, 17, 18, 19, 20, 21, 22, 23, 24, 25, 26, 27, 28, 29, 30, 31, 32, 33, 34, 35, 36, 37, 38, 39, 40, 41, 42, 43, 44, 45, 46, 47, 48, 49, 50, 51, 52, 53, 54, 55, 56, 57, 58, 59, 60, 61] (by decide +kernel) (by decide +kernel)
set_option maxRecDepth 20000 in
theorem gX11_medals_X11_isFellow : GoodIn wsX11_medals (wsV RX11 149 RX11 yX11_isFellow wsX11_isFellow) := goodIn_app (goodIn_of _ (by decide +kernel)) ggX11_medals_X11_isFellow
theorem dX11_medals_0 : decode cX11_medals 0 = .ok (.iload_n 1, 1) := by decide +kernel
theorem dX11_medals_1 : decode cX11_medals 1 = .ok (.iconst 0, 1) := by decide +kernel
theorem dX11_medals_2 : decode cX11_medals 2 = .ok (.iconst 3, 1) := by decide +kernel
theorem dX11_medals_3 : decode cX11_medals 3 = .ok (.invokestatic 133, 3) := by decide +kernel
theorem dX11_medals_6 : decode cX11_medals 6 = .ok (.ifCond .eq 11, 3) := by decide +kernel
theorem dX11_medals_9 : decode cX11_medals 9 = .ok (.aload_n 0, 1) := by decide +kernel
theorem dX11_medals_10 : decode cX11_medals 10 = .ok (.iload_n 2, 1) := by decide +kernel
theorem dX11_medals_11 : decode cX11_medals 11 = .ok (.invokevirtual 149, 3) := by decide +kernel
theorem dX11_medals_14 : decode cX11_medals 14 = .ok (.ifCond .ne 5, 3) := by decide +kernel
theorem dX11_medals_17 : decode cX11_medals 17 = .ok (.iconst (-1), 1) := by decide +kernel
theorem dX11_medals_18 : decode cX11_medals 18 = .ok (.ireturn, 1) := by decide +kernel
theorem dX11_medals_19 : decode cX11_medals 19 = .ok (.iconst 0, 1) := by decide +kernel
theorem dX11_medals_20 : decode cX11_medals 20 = .ok (.istore_n 3, 1) := by decide +kernel
theorem dX11_medals_21 : decode cX11_medals 21 = .ok (.iconst 0, 1) := by decide +kernel
theorem dX11_medals_22 : decode cX11_medals 22 = .ok (.istore 4, 2) := by decide +kernel
theorem dX11_medals_24 : decode cX11_medals 24 = .ok (.iload 4, 2) := by decide +kernel
theorem dX11_medals_26 : decode cX11_medals 26 = .ok (.aload_n 0, 1) := by decide +kernel
theorem dX11_medals_27 : decode cX11_medals 27 = .ok (.getfield 210, 3) := by decide +kernel
theorem dX11_medals_30 : decode cX11_medals 30 = .ok (.if_icmp .ge 39, 3) := by decide +kernel
theorem dX11_medals_33 : decode cX11_medals 33 = .ok (.iload_n 3, 1) := by decide +kernel
theorem dX11_medals_34 : decode cX11_medals 34 = .ok (.aload_n 0, 1) := by decide +kernel
theorem dX11_medals_35 : decode cX11_medals 35 = .ok (.getfield 98, 3) := by decide +kernel
theorem dX11_medals_38 : decode cX11_medals 38 = .ok (.iload 4, 2) := by decide +kernel
theorem dX11_medals_40 : decode cX11_medals 40 = .ok (.iaload, 1) := by decide +kernel
theorem dX11_medals_41 : decode cX11_medals 41 = .ok (.iload_n 1, 1) := by decide +kernel
theorem dX11_medals_42 : decode cX11_medals 42 = .ok (.if_icmp .ne 18, 3) := by decide +kernel
theorem dX11_medals_45 : decode cX11_medals 45 = .ok (.aload_n 0, 1) := by decide +kernel
theorem dX11_medals_46 : decode cX11_medals 46 = .ok (.getfield 101, 3) := by decide +kernel
theorem dX11_medals_49 : decode cX11_medals 49 = .ok (.iload 4, 2) := by decide +kernel
theorem dX11_medals_51 : decode cX11_medals 51 = .ok (.iaload, 1) := by decide +kernel
theorem dX11_medals_52 : decode cX11_medals 52 = .ok (.iload_n 2, 1) := by decide +kernel
theorem dX11_medals_53 : decode cX11_medals 53 = .ok (.if_icmp .ne 7, 3) := by decide +kernel
theorem dX11_medals_56 : decode cX11_medals 56 = .ok (.iconst 1, 1) := by decide +kernel
theorem dX11_medals_57 : decode cX11_medals 57 = .ok (.goto 4, 3) := by decide +kernel
theorem dX11_medals_60 : decode cX11_medals 60 = .ok (.iconst 0, 1) := by decide +kernel
theorem dX11_medals_61 : decode cX11_medals 61 = .ok (.iadd, 1) := by decide +kernel
theorem dX11_medals_62 : decode cX11_medals 62 = .ok (.istore_n 3, 1) := by decide +kernel
theorem dX11_medals_63 : decode cX11_medals 63 = .ok (.iinc 4 1, 3) := by decide +kernel
theorem dX11_medals_66 : decode cX11_medals 66 = .ok (.goto (-42), 3) := by decide +kernel
theorem dX11_medals_69 : decode cX11_medals 69 = .ok (.iload_n 3, 1) := by decide +kernel
theorem dX11_medals_70 : decode cX11_medals 70 = .ok (.ireturn, 1) := by decide +kernel
set_option maxRecDepth 20000 in
theorem ggX11_isCopy_X11_in : GoodIn wsX11_isCopy wsX11_in := goodIn_r _ [4] (by decide +kernel) (by decide +kernel)
set_option maxRecDepth 20000 in
theorem gX11_isCopy_X11_in : GoodIn wsX11_isCopy (va_wsS RX11 133 yX11_in wsX11_in) := goodIn_app (goodIn_of _ (by decide +kernel)) ggX11_isCopy_X11_in
theorem dX11_isCopy_0 : decode cX11_isCopy 0 = .ok (.iload_n 0, 1) := by decide +kernel
theorem dX11_isCopy_1 : decode cX11_isCopy 1 = .ok (.iconst 0, 1) := by decide +kernel
theorem dX11_isCopy_2 : decode cX11_isCopy 2 = .ok (.iconst 5, 1) := by decide +kernel
theorem dX11_isCopy_3 : decode cX11_isCopy 3 = .ok (.invokestatic 133, 3) := by decide +kernel
theorem dX11_isCopy_6 : decode cX11_isCopy 6 = .ok (.ifCond .eq 17, 3) := by decide +kernel
theorem dX11_isCopy_9 : decode cX11_isCopy 9 = .ok (.iload_n 1, 1) := by decide +kernel
theorem dX11_isCopy_10 : decode cX11_isCopy 10 = .ok (.iconst 0, 1) := by decide +kernel
theorem dX11_isCopy_11 : decode cX11_isCopy 11 = .ok (.bipush 11, 2) := by decide +kernel
theorem dX11_isCopy_13 : decode cX11_isCopy 13 = .ok (.invokestatic 133, 3) := by decide +kernel
theorem dX11_isCopy_16 : decode cX11_isCopy 16 = .ok (.ifCond .eq 7, 3) := by decide +kernel
theorem dX11_isCopy_19 : decode cX11_isCopy 19 = .ok (.iconst 1, 1) := by decide +kernel
theorem dX11_isCopy_20 : decode cX11_isCopy 20 = .ok (.goto 4, 3) := by decide +kernel
theorem dX11_isCopy_23 : decode cX11_isCopy 23 = .ok (.iconst 0, 1) := by decide +kernel
theorem dX11_isCopy_24 : decode cX11_isCopy 24 = .ok (.ireturn, 1) := by decide +kernel
set_option maxRecDepth 20000 in
theorem ggX11_stock_X11_isCopy : GoodIn wsX11_stock wsX11_isCopy := goodIn_r _ [5, 6, 7, 4, 8] (by decide +kernel) (by decide +kernel)
set_option maxRecDepth 20000 in
theorem gX11_stock_X11_isCopy : GoodIn wsX11_stock (va_wsS RX11 219 yX11_isCopy wsX11_isCopy) := goodIn_app (goodIn_of _ (by decide +kernel)) ggX11_stock_X11_isCopy
set_option maxRecDepth 20000 in
theorem ggX11_stock_X11_in : GoodIn wsX11_stock wsX11_in := goodIn_r _ [8] (by decide +kernel) (by decide +kernel)
set_option maxRecDepth 20000 in
theorem gX11_stock_X11_in : GoodIn wsX11_stock (va_wsS RX11 133 yX11_in wsX11_in) := goodIn_app (goodIn_of _ (by decide +kernel)) ggX11_stock_X11_in
theorem dX11_stock_0 : decode cX11_stock 0 = .ok (.iload_n 1, 1) := by decide +kernel
theorem dX11_stock_1 : decode cX11_stock 1 = .ok (.iload_n 2, 1) := by decide +kernel
theorem dX11_stock_2 : decode cX11_stock 2 = .ok (.invokestatic 219, 3) := by decide +kernel
theorem dX11_stock_5 : decode cX11_stock 5 = .ok (.ifCond .eq 13, 3) := by decide +kernel
theorem dX11_stock_8 : decode cX11_stock 8 = .ok (.iload_n 3, 1) := by decide +kernel
theorem dX11_stock_9 : decode cX11_stock 9 = .ok (.iconst 0, 1) := by decide +kernel
theorem dX11_stock_10 : decode cX11_stock 10 = .ok (.bipush 9, 2) := by decide +kernel
theorem dX11_stock_12 : decode cX11_stock 12 = .ok (.invokestatic 133, 3) := by decide +kernel
theorem dX11_stock_15 : decode cX11_stock 15 = .ok (.ifCond .ne 5, 3) := by decide +kernel
theorem dX11_stock_18 : decode cX11_stock 18 = .ok (.iconst (-1), 1) := by decide +kernel
theorem dX11_stock_19 : decode cX11_stock 19 = .ok (.ireturn, 1) := by decide +kernel
theorem dX11_stock_20 : decode cX11_stock 20 = .ok (.aload_n 0, 1) := by decide +kernel
theorem dX11_stock_21 : decode cX11_stock 21 = .ok (.getfield 107, 3) := by decide +kernel
theorem dX11_stock_24 : decode cX11_stock 24 = .ok (.bipush 12, 2) := by decide +kernel
theorem dX11_stock_26 : decode cX11_stock 26 = .ok (.iload_n 1, 1) := by decide +kernel
theorem dX11_stock_27 : decode cX11_stock 27 = .ok (.imul, 1) := by decide +kernel
theorem dX11_stock_28 : decode cX11_stock 28 = .ok (.iload_n 2, 1) := by decide +kernel
theorem dX11_stock_29 : decode cX11_stock 29 = .ok (.iadd, 1) := by decide +kernel
theorem dX11_stock_30 : decode cX11_stock 30 = .ok (.iaload, 1) := by decide +kernel
theorem dX11_stock_31 : decode cX11_stock 31 = .ok (.istore 4, 2) := by decide +kernel
theorem dX11_stock_33 : decode cX11_stock 33 = .ok (.aload_n 0, 1) := by decide +kernel
theorem dX11_stock_34 : decode cX11_stock 34 = .ok (.getfield 107, 3) := by decide +kernel
theorem dX11_stock_37 : decode cX11_stock 37 = .ok (.bipush 12, 2) := by decide +kernel
theorem dX11_stock_39 : decode cX11_stock 39 = .ok (.iload_n 1, 1) := by decide +kernel
theorem dX11_stock_40 : decode cX11_stock 40 = .ok (.imul, 1) := by decide +kernel
theorem dX11_stock_41 : decode cX11_stock 41 = .ok (.iload_n 2, 1) := by decide +kernel
theorem dX11_stock_42 : decode cX11_stock 42 = .ok (.iadd, 1) := by decide +kernel
theorem dX11_stock_43 : decode cX11_stock 43 = .ok (.iload_n 3, 1) := by decide +kernel
theorem dX11_stock_44 : decode cX11_stock 44 = .ok (.iastore, 1) := by decide +kernel
theorem dX11_stock_45 : decode cX11_stock 45 = .ok (.iload 4, 2) := by decide +kernel
theorem dX11_stock_47 : decode cX11_stock 47 = .ok (.ireturn, 1) := by decide +kernel
set_option maxRecDepth 20000 in
theorem ggX11_copies_X11_isCopy : GoodIn wsX11_copies wsX11_isCopy := goodIn_r _ [5, 6, 7, 4, 8] (by decide +kernel) (by decide +kernel)
set_option maxRecDepth 20000 in
theorem gX11_copies_X11_isCopy : GoodIn wsX11_copies (va_wsS RX11 219 yX11_isCopy wsX11_isCopy) := goodIn_app (goodIn_of _ (by decide +kernel)) ggX11_copies_X11_isCopy
theorem dX11_copies_0 : decode cX11_copies 0 = .ok (.iload_n 1, 1) := by decide +kernel
theorem dX11_copies_1 : decode cX11_copies 1 = .ok (.iload_n 2, 1) := by decide +kernel
theorem dX11_copies_2 : decode cX11_copies 2 = .ok (.invokestatic 219, 3) := by decide +kernel
theorem dX11_copies_5 : decode cX11_copies 5 = .ok (.ifCond .eq 17, 3) := by decide +kernel
theorem dX11_copies_8 : decode cX11_copies 8 = .ok (.aload_n 0, 1) := by decide +kernel
theorem dX11_copies_9 : decode cX11_copies 9 = .ok (.getfield 107, 3) := by decide +kernel
theorem dX11_copies_12 : decode cX11_copies 12 = .ok (.bipush 12, 2) := by decide +kernel
theorem dX11_copies_14 : decode cX11_copies 14 = .ok (.iload_n 1, 1) := by decide +kernel
theorem dX11_copies_15 : decode cX11_copies 15 = .ok (.imul, 1) := by decide +kernel
theorem dX11_copies_16 : decode cX11_copies 16 = .ok (.iload_n 2, 1) := by decide +kernel
theorem dX11_copies_17 : decode cX11_copies 17 = .ok (.iadd, 1) := by decide +kernel
theorem dX11_copies_18 : decode cX11_copies 18 = .ok (.iaload, 1) := by decide +kernel
theorem dX11_copies_19 : decode cX11_copies 19 = .ok (.goto 4, 3) := by decide +kernel
theorem dX11_copies_22 : decode cX11_copies 22 = .ok (.iconst (-1), 1) := by decide +kernel
theorem dX11_copies_23 : decode cX11_copies 23 = .ok (.ireturn, 1) := by decide +kernel
set_option maxRecDepth 20000 in
theorem ggX11_isSheet_X11_in : GoodIn wsX11_isSheet wsX11_in := goodIn_r _ [4] (by decide +kernel) (by decide +kernel)
set_option maxRecDepth 20000 in
theorem gX11_isSheet_X11_in : GoodIn wsX11_isSheet (va_wsS RX11 133 yX11_in wsX11_in) := goodIn_app (goodIn_of _ (by decide +kernel)) ggX11_isSheet_X11_in
theorem dX11_isSheet_0 : decode cX11_isSheet 0 = .ok (.iload_n 0, 1) := by decide +kernel
theorem dX11_isSheet_1 : decode cX11_isSheet 1 = .ok (.iconst 0, 1) := by decide +kernel
theorem dX11_isSheet_2 : decode cX11_isSheet 2 = .ok (.iconst 3, 1) := by decide +kernel
theorem dX11_isSheet_3 : decode cX11_isSheet 3 = .ok (.invokestatic 133, 3) := by decide +kernel
theorem dX11_isSheet_6 : decode cX11_isSheet 6 = .ok (.ireturn, 1) := by decide +kernel
set_option maxRecDepth 20000 in
theorem ggX11_sheet_X11_isSheet : GoodIn wsX11_sheet wsX11_isSheet := goodIn_r _ [6, 7, 8, 5, 9] (by decide +kernel) (by decide +kernel)
set_option maxRecDepth 20000 in
theorem gX11_sheet_X11_isSheet : GoodIn wsX11_sheet (va_wsS RX11 222 yX11_isSheet wsX11_isSheet) := goodIn_app (goodIn_of _ (by decide +kernel)) ggX11_sheet_X11_isSheet
set_option maxRecDepth 20000 in
theorem ggX11_sheet_X11_meets : GoodIn wsX11_sheet wsX11_meets := goodIn_r _ [13, 14, 15, 16, 17, 18, 19, 20, 21, 22, 23, 24, 25, 26, 27, 28, 29, 30, 31, 32, 33, 34, 35, 36, 37, 38, 39, 40, 41, 42, 43, 44, 45, 46, 47, 48, 49, 50, 51, 52, 53, 54, 55, 56, 57, 58, 59, 60, 61, 62, 63, 64] (by decide +kernel) (by decide +kernel)
set_option maxRecDepth 20000 in
theorem gX11_sheet_X11_meets : GoodIn wsX11_sheet (wsV RX11 167 RX11 yX11_meets wsX11_meets) := goodIn_app (goodIn_of _ (by decide +kernel)) ggX11_sheet_X11_meets
theorem dX11_sheet_0 : decode cX11_sheet 0 = .ok (.iload_n 1, 1) := by decide +kernel
theorem dX11_sheet_1 : decode cX11_sheet 1 = .ok (.invokestatic 222, 3) := by decide +kernel
theorem dX11_sheet_4 : decode cX11_sheet 4 = .ok (.ifCond .eq 9, 3) := by decide +kernel
theorem dX11_sheet_7 : decode cX11_sheet 7 = .ok (.iload_n 2, 1) := by decide +kernel
theorem dX11_sheet_8 : decode cX11_sheet 8 = .ok (.bipush 12, 2) := by decide +kernel
theorem dX11_sheet_10 : decode cX11_sheet 10 = .ok (.if_icmp .le 5, 3) := by decide +kernel
theorem dX11_sheet_13 : decode cX11_sheet 13 = .ok (.iconst (-1), 1) := by decide +kernel
theorem dX11_sheet_14 : decode cX11_sheet 14 = .ok (.ireturn, 1) := by decide +kernel
theorem dX11_sheet_15 : decode cX11_sheet 15 = .ok (.iload_n 2, 1) := by decide +kernel
theorem dX11_sheet_16 : decode cX11_sheet 16 = .ok (.ifCond .ge 9, 3) := by decide +kernel
theorem dX11_sheet_19 : decode cX11_sheet 19 = .ok (.aload_n 0, 1) := by decide +kernel
theorem dX11_sheet_20 : decode cX11_sheet 20 = .ok (.iconst 5, 1) := by decide +kernel
theorem dX11_sheet_21 : decode cX11_sheet 21 = .ok (.invokevirtual 167, 3) := by decide +kernel
theorem dX11_sheet_24 : decode cX11_sheet 24 = .ok (.ireturn, 1) := by decide +kernel
theorem dX11_sheet_25 : decode cX11_sheet 25 = .ok (.aload_n 0, 1) := by decide +kernel
theorem dX11_sheet_26 : decode cX11_sheet 26 = .ok (.getfield 110, 3) := by decide +kernel
theorem dX11_sheet_29 : decode cX11_sheet 29 = .ok (.iload_n 1, 1) := by decide +kernel
theorem dX11_sheet_30 : decode cX11_sheet 30 = .ok (.iload_n 2, 1) := by decide +kernel
theorem dX11_sheet_31 : decode cX11_sheet 31 = .ok (.iastore, 1) := by decide +kernel
theorem dX11_sheet_32 : decode cX11_sheet 32 = .ok (.iconst 0, 1) := by decide +kernel
theorem dX11_sheet_33 : decode cX11_sheet 33 = .ok (.istore_n 3, 1) := by decide +kernel
theorem dX11_sheet_34 : decode cX11_sheet 34 = .ok (.iload_n 3, 1) := by decide +kernel
theorem dX11_sheet_35 : decode cX11_sheet 35 = .ok (.bipush 12, 2) := by decide +kernel
theorem dX11_sheet_37 : decode cX11_sheet 37 = .ok (.if_icmp .ge 21, 3) := by decide +kernel
theorem dX11_sheet_40 : decode cX11_sheet 40 = .ok (.aload_n 0, 1) := by decide +kernel
theorem dX11_sheet_41 : decode cX11_sheet 41 = .ok (.getfield 113, 3) := by decide +kernel
theorem dX11_sheet_44 : decode cX11_sheet 44 = .ok (.bipush 12, 2) := by decide +kernel
theorem dX11_sheet_46 : decode cX11_sheet 46 = .ok (.iload_n 1, 1) := by decide +kernel
theorem dX11_sheet_47 : decode cX11_sheet 47 = .ok (.imul, 1) := by decide +kernel
theorem dX11_sheet_48 : decode cX11_sheet 48 = .ok (.iload_n 3, 1) := by decide +kernel
theorem dX11_sheet_49 : decode cX11_sheet 49 = .ok (.iadd, 1) := by decide +kernel
theorem dX11_sheet_50 : decode cX11_sheet 50 = .ok (.iconst 0, 1) := by decide +kernel
theorem dX11_sheet_51 : decode cX11_sheet 51 = .ok (.bastore, 1) := by decide +kernel
theorem dX11_sheet_52 : decode cX11_sheet 52 = .ok (.iinc 3 1, 3) := by decide +kernel
theorem dX11_sheet_55 : decode cX11_sheet 55 = .ok (.goto (-21), 3) := by decide +kernel
theorem dX11_sheet_58 : decode cX11_sheet 58 = .ok (.iload_n 2, 1) := by decide +kernel
theorem dX11_sheet_59 : decode cX11_sheet 59 = .ok (.ireturn, 1) := by decide +kernel
set_option maxRecDepth 20000 in
theorem ggX11_lay_X11_isSheet : GoodIn wsX11_lay wsX11_isSheet := goodIn_r _ [6, 7, 8, 5, 9] (by decide +kernel) (by decide +kernel)
set_option maxRecDepth 20000 in
theorem gX11_lay_X11_isSheet : GoodIn wsX11_lay (va_wsS RX11 222 yX11_isSheet wsX11_isSheet) := goodIn_app (goodIn_of _ (by decide +kernel)) ggX11_lay_X11_isSheet
set_option maxRecDepth 20000 in
theorem ggX11_lay_X11_meets : GoodIn wsX11_lay wsX11_meets := goodIn_r _ [13, 14, 15, 16, 17, 18, 19, 20, 21, 22, 23, 24, 25, 26, 27, 28, 29, 30, 31, 32, 33, 34, 35, 36, 37, 38, 39, 40, 41, 42, 43, 44, 45, 46, 47, 48, 49, 50, 51, 52, 53, 54, 55, 56, 57, 58, 59, 60, 61, 62, 63, 64] (by decide +kernel) (by decide +kernel)
set_option maxRecDepth 20000 in
theorem gX11_lay_X11_meets : GoodIn wsX11_lay (wsV RX11 167 RX11 yX11_meets wsX11_meets) := goodIn_app (goodIn_of _ (by decide +kernel)) ggX11_lay_X11_meets
set_option maxRecDepth 20000 in
theorem ggX11_lay_X11_in : GoodIn wsX11_lay wsX11_in := goodIn_r _ [9] (by decide +kernel) (by decide +kernel)
set_option maxRecDepth 20000 in
theorem gX11_lay_X11_in : GoodIn wsX11_lay (va_wsS RX11 133 yX11_in wsX11_in) := goodIn_app (goodIn_of _ (by decide +kernel)) ggX11_lay_X11_in
theorem dX11_lay_0 : decode cX11_lay 0 = .ok (.iload_n 1, 1) := by decide +kernel
theorem dX11_lay_1 : decode cX11_lay 1 = .ok (.invokestatic 222, 3) := by decide +kernel
theorem dX11_lay_4 : decode cX11_lay 4 = .ok (.ifCond .ne 5, 3) := by decide +kernel
theorem dX11_lay_7 : decode cX11_lay 7 = .ok (.iconst (-1), 1) := by decide +kernel
theorem dX11_lay_8 : decode cX11_lay 8 = .ok (.ireturn, 1) := by decide +kernel
theorem dX11_lay_9 : decode cX11_lay 9 = .ok (.aload_n 0, 1) := by decide +kernel
theorem dX11_lay_10 : decode cX11_lay 10 = .ok (.getfield 110, 3) := by decide +kernel
theorem dX11_lay_13 : decode cX11_lay 13 = .ok (.iload_n 1, 1) := by decide +kernel
theorem dX11_lay_14 : decode cX11_lay 14 = .ok (.iaload, 1) := by decide +kernel
theorem dX11_lay_15 : decode cX11_lay 15 = .ok (.ifCond .ge 9, 3) := by decide +kernel
theorem dX11_lay_18 : decode cX11_lay 18 = .ok (.aload_n 0, 1) := by decide +kernel
theorem dX11_lay_19 : decode cX11_lay 19 = .ok (.iconst 1, 1) := by decide +kernel
theorem dX11_lay_20 : decode cX11_lay 20 = .ok (.invokevirtual 167, 3) := by decide +kernel
theorem dX11_lay_23 : decode cX11_lay 23 = .ok (.ireturn, 1) := by decide +kernel
theorem dX11_lay_24 : decode cX11_lay 24 = .ok (.iload_n 2, 1) := by decide +kernel
theorem dX11_lay_25 : decode cX11_lay 25 = .ok (.iconst 0, 1) := by decide +kernel
theorem dX11_lay_26 : decode cX11_lay 26 = .ok (.aload_n 0, 1) := by decide +kernel
theorem dX11_lay_27 : decode cX11_lay 27 = .ok (.getfield 110, 3) := by decide +kernel
theorem dX11_lay_30 : decode cX11_lay 30 = .ok (.iload_n 1, 1) := by decide +kernel
theorem dX11_lay_31 : decode cX11_lay 31 = .ok (.iaload, 1) := by decide +kernel
theorem dX11_lay_32 : decode cX11_lay 32 = .ok (.iconst 1, 1) := by decide +kernel
theorem dX11_lay_33 : decode cX11_lay 33 = .ok (.isub, 1) := by decide +kernel
theorem dX11_lay_34 : decode cX11_lay 34 = .ok (.invokestatic 133, 3) := by decide +kernel
theorem dX11_lay_37 : decode cX11_lay 37 = .ok (.ifCond .ne 9, 3) := by decide +kernel
theorem dX11_lay_40 : decode cX11_lay 40 = .ok (.aload_n 0, 1) := by decide +kernel
theorem dX11_lay_41 : decode cX11_lay 41 = .ok (.iconst 2, 1) := by decide +kernel
theorem dX11_lay_42 : decode cX11_lay 42 = .ok (.invokevirtual 167, 3) := by decide +kernel
theorem dX11_lay_45 : decode cX11_lay 45 = .ok (.ireturn, 1) := by decide +kernel
theorem dX11_lay_46 : decode cX11_lay 46 = .ok (.aload_n 0, 1) := by decide +kernel
theorem dX11_lay_47 : decode cX11_lay 47 = .ok (.getfield 113, 3) := by decide +kernel
theorem dX11_lay_50 : decode cX11_lay 50 = .ok (.bipush 12, 2) := by decide +kernel
theorem dX11_lay_52 : decode cX11_lay 52 = .ok (.iload_n 1, 1) := by decide +kernel
theorem dX11_lay_53 : decode cX11_lay 53 = .ok (.imul, 1) := by decide +kernel
theorem dX11_lay_54 : decode cX11_lay 54 = .ok (.iload_n 2, 1) := by decide +kernel
theorem dX11_lay_55 : decode cX11_lay 55 = .ok (.iadd, 1) := by decide +kernel
theorem dX11_lay_56 : decode cX11_lay 56 = .ok (.baload, 1) := by decide +kernel
theorem dX11_lay_57 : decode cX11_lay 57 = .ok (.istore 4, 2) := by decide +kernel
theorem dX11_lay_59 : decode cX11_lay 59 = .ok (.aload_n 0, 1) := by decide +kernel
theorem dX11_lay_60 : decode cX11_lay 60 = .ok (.getfield 113, 3) := by decide +kernel
theorem dX11_lay_63 : decode cX11_lay 63 = .ok (.bipush 12, 2) := by decide +kernel
theorem dX11_lay_65 : decode cX11_lay 65 = .ok (.iload_n 1, 1) := by decide +kernel
theorem dX11_lay_66 : decode cX11_lay 66 = .ok (.imul, 1) := by decide +kernel
theorem dX11_lay_67 : decode cX11_lay 67 = .ok (.iload_n 2, 1) := by decide +kernel
theorem dX11_lay_68 : decode cX11_lay 68 = .ok (.iadd, 1) := by decide +kernel
theorem dX11_lay_69 : decode cX11_lay 69 = .ok (.iload_n 3, 1) := by decide +kernel
theorem dX11_lay_70 : decode cX11_lay 70 = .ok (.i2b, 1) := by decide +kernel
theorem dX11_lay_71 : decode cX11_lay 71 = .ok (.bastore, 1) := by decide +kernel
theorem dX11_lay_72 : decode cX11_lay 72 = .ok (.sipush 1000, 3) := by decide +kernel
theorem dX11_lay_75 : decode cX11_lay 75 = .ok (.iload 4, 2) := by decide +kernel
theorem dX11_lay_77 : decode cX11_lay 77 = .ok (.iadd, 1) := by decide +kernel
theorem dX11_lay_78 : decode cX11_lay 78 = .ok (.ireturn, 1) := by decide +kernel
set_option maxRecDepth 20000 in
theorem ggX11_tear_X11_isSheet : GoodIn wsX11_tear wsX11_isSheet := goodIn_r _ [5, 6, 7, 4, 8] (by decide +kernel) (by decide +kernel)
set_option maxRecDepth 20000 in
theorem gX11_tear_X11_isSheet : GoodIn wsX11_tear (va_wsS RX11 222 yX11_isSheet wsX11_isSheet) := goodIn_app (goodIn_of _ (by decide +kernel)) ggX11_tear_X11_isSheet
set_option maxRecDepth 20000 in
theorem ggX11_tear_X11_meets : GoodIn wsX11_tear wsX11_meets := goodIn_r _ [12, 13, 14, 15, 16, 17, 18, 19, 20, 21, 22, 23, 24, 25, 26, 27, 28, 29, 30, 31, 32, 33, 34, 35, 36, 37, 38, 39, 40, 41, 42, 43, 44, 45, 46, 47, 48, 49, 50, 51, 52, 53, 54, 55, 56, 57, 58, 59, 60, 61, 62, 63] (by decide +kernel) (by decide +kernel)
set_option maxRecDepth 20000 in
theorem gX11_tear_X11_meets : GoodIn wsX11_tear (wsV RX11 167 RX11 yX11_meets wsX11_meets) := goodIn_app (goodIn_of _ (by decide +kernel)) ggX11_tear_X11_meets
