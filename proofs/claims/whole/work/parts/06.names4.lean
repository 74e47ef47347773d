theorem dX3_gives_76 : decode cX3_gives 76 = .ok (.getfield 13, 3) := by decide +kernel
theorem dX3_gives_79 : decode cX3_gives 79 = .ok (.iload_n 2, 1) := by decide +kernel
theorem dX3_gives_80 : decode cX3_gives 80 = .ok (.laload, 1) := by decide +kernel
theorem dX3_gives_81 : decode cX3_gives 81 = .ok (.invokevirtual 99, 3) := by decide +kernel
theorem dX3_gives_84 : decode cX3_gives 84 = .ok (.lreturn, 1) := by decide +kernel
theorem dX3_gives_85 : decode cX3_gives 85 = .ok (.aload_n 0, 1) := by decide +kernel
theorem dX3_gives_86 : decode cX3_gives 86 = .ok (.iload 4, 2) := by decide +kernel
theorem dX3_gives_88 : decode cX3_gives 88 = .ok (.aload_n 0, 1) := by decide +kernel
theorem dX3_gives_89 : decode cX3_gives 89 = .ok (.getfield 13, 3) := by decide +kernel
theorem dX3_gives_92 : decode cX3_gives 92 = .ok (.iload_n 2, 1) := by decide +kernel
theorem dX3_gives_93 : decode cX3_gives 93 = .ok (.laload, 1) := by decide +kernel
theorem dX3_gives_94 : decode cX3_gives 94 = .ok (.invokevirtual 103, 3) := by decide +kernel
theorem dX3_gives_97 : decode cX3_gives 97 = .ok (.lreturn, 1) := by decide +kernel
set_option maxRecDepth 20000 in
theorem ggX3_moved_X3_fitted : GoodIn wsX3_moved wsX3_fitted := goodIn_r _ [7, 8, 9, 10, 11, 12, 13, 6, 14, 15, 16, 17, 18, 19, 20, 21, 22, 23, 24, 25, 26, 27, 28, 29, 30, 31, 32, 33, 34, 35, 36, 37, 38, 39, 40, 41, 42, 43, 44, 45, 46, 47, 48, 49, 50, 51] (by decide +kernel) (by decide +kernel)
set_option maxRecDepth 20000 in
theorem gX3_moved_X3_fitted : GoodIn wsX3_moved (wsV RX3 116 RX3 yX3_fitted wsX3_fitted) := goodIn_app (goodIn_of _ (by decide +kernel)) ggX3_moved_X3_fitted
theorem dX3_moved_0 : decode cX3_moved 0 = .ok (.aload_n 0, 1) := by decide +kernel
theorem dX3_moved_1 : decode cX3_moved 1 = .ok (.iload_n 1, 1) := by decide +kernel
theorem dX3_moved_2 : decode cX3_moved 2 = .ok (.lload_n 2, 1) := by decide +kernel
theorem dX3_moved_3 : decode cX3_moved 3 = .ok (.invokevirtual 116, 3) := by decide +kernel
theorem dX3_moved_6 : decode cX3_moved 6 = .ok (.lstore 4, 2) := by decide +kernel
theorem dX3_moved_8 : decode cX3_moved 8 = .ok (.lload 4, 2) := by decide +kernel
theorem dX3_moved_10 : decode cX3_moved 10 = .ok (.aload_n 0, 1) := by decide +kernel
theorem dX3_moved_11 : decode cX3_moved 11 = .ok (.getfield 13, 3) := by decide +kernel
theorem dX3_moved_14 : decode cX3_moved 14 = .ok (.iload_n 1, 1) := by decide +kernel
theorem dX3_moved_15 : decode cX3_moved 15 = .ok (.laload, 1) := by decide +kernel
theorem dX3_moved_16 : decode cX3_moved 16 = .ok (.lcmp, 1) := by decide +kernel
theorem dX3_moved_17 : decode cX3_moved 17 = .ok (.ifCond .ne 5, 3) := by decide +kernel
theorem dX3_moved_20 : decode cX3_moved 20 = .ok (.iconst 0, 1) := by decide +kernel
theorem dX3_moved_21 : decode cX3_moved 21 = .ok (.ireturn, 1) := by decide +kernel
theorem dX3_moved_22 : decode cX3_moved 22 = .ok (.aload_n 0, 1) := by decide +kernel
theorem dX3_moved_23 : decode cX3_moved 23 = .ok (.getfield 13, 3) := by decide +kernel
theorem dX3_moved_26 : decode cX3_moved 26 = .ok (.iload_n 1, 1) := by decide +kernel
theorem dX3_moved_27 : decode cX3_moved 27 = .ok (.lload 4, 2) := by decide +kernel
theorem dX3_moved_29 : decode cX3_moved 29 = .ok (.lastore, 1) := by decide +kernel
theorem dX3_moved_30 : decode cX3_moved 30 = .ok (.aload_n 0, 1) := by decide +kernel
theorem dX3_moved_31 : decode cX3_moved 31 = .ok (.dup, 1) := by decide +kernel
theorem dX3_moved_32 : decode cX3_moved 32 = .ok (.getfield 119, 3) := by decide +kernel
theorem dX3_moved_35 : decode cX3_moved 35 = .ok (.iconst 1, 1) := by decide +kernel
theorem dX3_moved_36 : decode cX3_moved 36 = .ok (.iadd, 1) := by decide +kernel
theorem dX3_moved_37 : decode cX3_moved 37 = .ok (.putfield 119, 3) := by decide +kernel
theorem dX3_moved_40 : decode cX3_moved 40 = .ok (.iconst 1, 1) := by decide +kernel
theorem dX3_moved_41 : decode cX3_moved 41 = .ok (.ireturn, 1) := by decide +kernel
set_option maxRecDepth 20000 in
theorem ggX3_gets_X3_moved : GoodIn wsX3_gets wsX3_moved := goodIn_r _ [12, 13, 14, 15, 16, 17, 11, 18, 19, 20, 21, 22, 23, 24, 25, 26, 27, 28, 29, 30, 31, 32, 33, 34, 35, 36, 37, 38, 39, 40, 41, 42, 43, 63, 64, 65, 66, 67, 68, 69, 70, 71, 72, 73, 74, 75, 76, 77, 78, 79, 80, 81] (by decide +kernel) (by decide +kernel)
set_option maxRecDepth 20000 in
theorem gX3_gets_X3_moved : GoodIn wsX3_gets (wsV RX3 122 RX3 yX3_moved wsX3_moved) := goodIn_app (goodIn_of _ (by decide +kernel)) ggX3_gets_X3_moved
set_option maxRecDepth 20000 in
theorem ggX3_gets_X3_gives : GoodIn wsX3_gets wsX3_gives := goodIn_r _ [47, 19, 13, 40, 41, 42, 11, 43, 26, 27, 28, 29, 30, 31, 32, 33, 34, 35, 36, 37, 38, 39, 22, 23, 24, 25, 48, 49, 50, 51, 52, 53, 54, 55, 56, 57, 58, 59, 60, 61, 62, 63, 64, 65, 66, 67, 68, 69, 70, 71, 72, 73, 74, 75, 76, 77, 78, 79, 80, 81] (by decide +kernel) (by decide +kernel)
set_option maxRecDepth 20000 in
theorem gX3_gets_X3_gives : GoodIn wsX3_gets (wsV RX3 129 RX3 yX3_gives wsX3_gives) := goodIn_app (goodIn_of _ (by decide +kernel)) ggX3_gets_X3_gives
theorem dX3_gets_0 : decode cX3_gets 0 = .ok (.aload_n 0, 1) := by decide +kernel
theorem dX3_gets_1 : decode cX3_gets 1 = .ok (.iload_n 1, 1) := by decide +kernel
theorem dX3_gets_2 : decode cX3_gets 2 = .ok (.lload_n 2, 1) := by decide +kernel
theorem dX3_gets_3 : decode cX3_gets 3 = .ok (.invokevirtual 122, 3) := by decide +kernel
theorem dX3_gets_6 : decode cX3_gets 6 = .ok (.ifCond .ne 4, 3) := by decide +kernel
theorem dX3_gets_9 : decode cX3_gets 9 = .ok (.return_, 1) := by decide +kernel
theorem dX3_gets_10 : decode cX3_gets 10 = .ok (.aload_n 0, 1) := by decide +kernel
theorem dX3_gets_11 : decode cX3_gets 11 = .ok (.getfield 45, 3) := by decide +kernel
theorem dX3_gets_14 : decode cX3_gets 14 = .ok (.iconst 0, 1) := by decide +kernel
theorem dX3_gets_15 : decode cX3_gets 15 = .ok (.iload_n 1, 1) := by decide +kernel
theorem dX3_gets_16 : decode cX3_gets 16 = .ok (.iastore, 1) := by decide +kernel
theorem dX3_gets_17 : decode cX3_gets 17 = .ok (.aload_n 0, 1) := by decide +kernel
theorem dX3_gets_18 : decode cX3_gets 18 = .ok (.getfield 48, 3) := by decide +kernel
theorem dX3_gets_21 : decode cX3_gets 21 = .ok (.iconst 0, 1) := by decide +kernel
theorem dX3_gets_22 : decode cX3_gets 22 = .ok (.iconst 0, 1) := by decide +kernel
theorem dX3_gets_23 : decode cX3_gets 23 = .ok (.iastore, 1) := by decide +kernel
theorem dX3_gets_24 : decode cX3_gets 24 = .ok (.iconst 1, 1) := by decide +kernel
theorem dX3_gets_25 : decode cX3_gets 25 = .ok (.istore 4, 2) := by decide +kernel
theorem dX3_gets_27 : decode cX3_gets 27 = .ok (.iload 4, 2) := by decide +kernel
theorem dX3_gets_29 : decode cX3_gets 29 = .ok (.ifCond .le 160, 3) := by decide +kernel
theorem dX3_gets_32 : decode cX3_gets 32 = .ok (.aload_n 0, 1) := by decide +kernel
theorem dX3_gets_33 : decode cX3_gets 33 = .ok (.getfield 45, 3) := by decide +kernel
theorem dX3_gets_36 : decode cX3_gets 36 = .ok (.iload 4, 2) := by decide +kernel
theorem dX3_gets_38 : decode cX3_gets 38 = .ok (.iconst 1, 1) := by decide +kernel
theorem dX3_gets_39 : decode cX3_gets 39 = .ok (.isub, 1) := by decide +kernel
theorem dX3_gets_40 : decode cX3_gets 40 = .ok (.iaload, 1) := by decide +kernel
theorem dX3_gets_41 : decode cX3_gets 41 = .ok (.istore 5, 2) := by decide +kernel
theorem dX3_gets_43 : decode cX3_gets 43 = .ok (.aload_n 0, 1) := by decide +kernel
theorem dX3_gets_44 : decode cX3_gets 44 = .ok (.getfield 48, 3) := by decide +kernel
theorem dX3_gets_47 : decode cX3_gets 47 = .ok (.iload 4, 2) := by decide +kernel
theorem dX3_gets_49 : decode cX3_gets 49 = .ok (.iconst 1, 1) := by decide +kernel
theorem dX3_gets_50 : decode cX3_gets 50 = .ok (.isub, 1) := by decide +kernel
theorem dX3_gets_51 : decode cX3_gets 51 = .ok (.iaload, 1) := by decide +kernel
theorem dX3_gets_52 : decode cX3_gets 52 = .ok (.istore 6, 2) := by decide +kernel
theorem dX3_gets_54 : decode cX3_gets 54 = .ok (.iload 6, 2) := by decide +kernel
theorem dX3_gets_56 : decode cX3_gets 56 = .ok (.aload_n 0, 1) := by decide +kernel
theorem dX3_gets_57 : decode cX3_gets 57 = .ok (.getfield 126, 3) := by decide +kernel
theorem dX3_gets_60 : decode cX3_gets 60 = .ok (.if_icmp .ge 31, 3) := by decide +kernel
theorem dX3_gets_63 : decode cX3_gets 63 = .ok (.aload_n 0, 1) := by decide +kernel
theorem dX3_gets_64 : decode cX3_gets 64 = .ok (.getfield 26, 3) := by decide +kernel
theorem dX3_gets_67 : decode cX3_gets 67 = .ok (.iload 6, 2) := by decide +kernel
theorem dX3_gets_69 : decode cX3_gets 69 = .ok (.iaload, 1) := by decide +kernel
theorem dX3_gets_70 : decode cX3_gets 70 = .ok (.iload 5, 2) := by decide +kernel
theorem dX3_gets_72 : decode cX3_gets 72 = .ok (.if_icmp .ne 13, 3) := by decide +kernel
theorem dX3_gets_75 : decode cX3_gets 75 = .ok (.aload_n 0, 1) := by decide +kernel
theorem dX3_gets_76 : decode cX3_gets 76 = .ok (.getfield 32, 3) := by decide +kernel
theorem dX3_gets_79 : decode cX3_gets 79 = .ok (.iload 6, 2) := by decide +kernel
theorem dX3_gets_81 : decode cX3_gets 81 = .ok (.baload, 1) := by decide +kernel
theorem dX3_gets_82 : decode cX3_gets 82 = .ok (.ifCond .eq 9, 3) := by decide +kernel
theorem dX3_gets_85 : decode cX3_gets 85 = .ok (.iinc 6 1, 3) := by decide +kernel
theorem dX3_gets_88 : decode cX3_gets 88 = .ok (.goto (-34), 3) := by decide +kernel
theorem dX3_gets_91 : decode cX3_gets 91 = .ok (.aload_n 0, 1) := by decide +kernel
theorem dX3_gets_92 : decode cX3_gets 92 = .ok (.getfield 48, 3) := by decide +kernel
theorem dX3_gets_95 : decode cX3_gets 95 = .ok (.iload 4, 2) := by decide +kernel
theorem dX3_gets_97 : decode cX3_gets 97 = .ok (.iconst 1, 1) := by decide +kernel
theorem dX3_gets_98 : decode cX3_gets 98 = .ok (.isub, 1) := by decide +kernel
theorem dX3_gets_99 : decode cX3_gets 99 = .ok (.iload 6, 2) := by decide +kernel
theorem dX3_gets_101 : decode cX3_gets 101 = .ok (.iconst 1, 1) := by decide +kernel
theorem dX3_gets_102 : decode cX3_gets 102 = .ok (.iadd, 1) := by decide +kernel
theorem dX3_gets_103 : decode cX3_gets 103 = .ok (.iastore, 1) := by decide +kernel
theorem dX3_gets_104 : decode cX3_gets 104 = .ok (.iload 6, 2) := by decide +kernel
theorem dX3_gets_106 : decode cX3_gets 106 = .ok (.aload_n 0, 1) := by decide +kernel
theorem dX3_gets_107 : decode cX3_gets 107 = .ok (.getfield 126, 3) := by decide +kernel
theorem dX3_gets_110 : decode cX3_gets 110 = .ok (.if_icmp .lt 9, 3) := by decide +kernel
theorem dX3_gets_113 : decode cX3_gets 113 = .ok (.iinc 4 (-1), 3) := by decide +kernel
theorem dX3_gets_116 : decode cX3_gets 116 = .ok (.goto (-89), 3) := by decide +kernel
theorem dX3_gets_119 : decode cX3_gets 119 = .ok (.aload_n 0, 1) := by decide +kernel
theorem dX3_gets_120 : decode cX3_gets 120 = .ok (.getfield 32, 3) := by decide +kernel
theorem dX3_gets_123 : decode cX3_gets 123 = .ok (.iload 6, 2) := by decide +kernel
theorem dX3_gets_125 : decode cX3_gets 125 = .ok (.iconst 1, 1) := by decide +kernel
theorem dX3_gets_126 : decode cX3_gets 126 = .ok (.bastore, 1) := by decide +kernel
theorem dX3_gets_127 : decode cX3_gets 127 = .ok (.aload_n 0, 1) := by decide +kernel
theorem dX3_gets_128 : decode cX3_gets 128 = .ok (.aload_n 0, 1) := by decide +kernel
theorem dX3_gets_129 : decode cX3_gets 129 = .ok (.getfield 29, 3) := by decide +kernel
theorem dX3_gets_132 : decode cX3_gets 132 = .ok (.iload 6, 2) := by decide +kernel
theorem dX3_gets_134 : decode cX3_gets 134 = .ok (.iaload, 1) := by decide +kernel
theorem dX3_gets_135 : decode cX3_gets 135 = .ok (.aload_n 0, 1) := by decide +kernel
theorem dX3_gets_136 : decode cX3_gets 136 = .ok (.aload_n 0, 1) := by decide +kernel
theorem dX3_gets_137 : decode cX3_gets 137 = .ok (.getfield 23, 3) := by decide +kernel
theorem dX3_gets_140 : decode cX3_gets 140 = .ok (.iload 6, 2) := by decide +kernel
theorem dX3_gets_142 : decode cX3_gets 142 = .ok (.iaload, 1) := by decide +kernel
theorem dX3_gets_143 : decode cX3_gets 143 = .ok (.iload 5, 2) := by decide +kernel
theorem dX3_gets_145 : decode cX3_gets 145 = .ok (.aload_n 0, 1) := by decide +kernel
theorem dX3_gets_146 : decode cX3_gets 146 = .ok (.getfield 29, 3) := by decide +kernel
theorem dX3_gets_149 : decode cX3_gets 149 = .ok (.iload 6, 2) := by decide +kernel
theorem dX3_gets_151 : decode cX3_gets 151 = .ok (.iaload, 1) := by decide +kernel
theorem dX3_gets_152 : decode cX3_gets 152 = .ok (.invokevirtual 129, 3) := by decide +kernel
theorem dX3_gets_155 : decode cX3_gets 155 = .ok (.invokevirtual 122, 3) := by decide +kernel
theorem dX3_gets_158 : decode cX3_gets 158 = .ok (.ifCond .eq 28, 3) := by decide +kernel
theorem dX3_gets_161 : decode cX3_gets 161 = .ok (.aload_n 0, 1) := by decide +kernel
theorem dX3_gets_162 : decode cX3_gets 162 = .ok (.getfield 45, 3) := by decide +kernel
theorem dX3_gets_165 : decode cX3_gets 165 = .ok (.iload 4, 2) := by decide +kernel
theorem dX3_gets_167 : decode cX3_gets 167 = .ok (.aload_n 0, 1) := by decide +kernel
theorem dX3_gets_168 : decode cX3_gets 168 = .ok (.getfield 29, 3) := by decide +kernel
theorem dX3_gets_171 : decode cX3_gets 171 = .ok (.iload 6, 2) := by decide +kernel
theorem dX3_gets_173 : decode cX3_gets 173 = .ok (.iaload, 1) := by decide +kernel
theorem dX3_gets_174 : decode cX3_gets 174 = .ok (.iastore, 1) := by decide +kernel
theorem dX3_gets_175 : decode cX3_gets 175 = .ok (.aload_n 0, 1) := by decide +kernel
theorem dX3_gets_176 : decode cX3_gets 176 = .ok (.getfield 48, 3) := by decide +kernel
theorem dX3_gets_179 : decode cX3_gets 179 = .ok (.iload 4, 2) := by decide +kernel
theorem dX3_gets_181 : decode cX3_gets 181 = .ok (.iconst 0, 1) := by decide +kernel
theorem dX3_gets_182 : decode cX3_gets 182 = .ok (.iastore, 1) := by decide +kernel
theorem dX3_gets_183 : decode cX3_gets 183 = .ok (.iinc 4 1, 3) := by decide +kernel
theorem dX3_gets_186 : decode cX3_gets 186 = .ok (.goto (-159), 3) := by decide +kernel
theorem dX3_gets_189 : decode cX3_gets 189 = .ok (.return_, 1) := by decide +kernel
set_option maxRecDepth 20000 in
theorem ggX3_call_X3_gets : GoodIn wsX3_call wsX3_gets := goodIn_r _ [11, 12, 13, 14, 15, 5, 16, 17, 18, 19, 20, 10, 21, 4, 2, 22, 23, 24, 25, 26, 27, 28, 29, 30, 31, 32, 33, 34, 35, 36, 37, 38, 39, 40, 41, 42, 43, 44, 45, 46, 47, 48, 49, 50, 51, 52, 53, 54, 55, 56, 57, 58, 59, 60, 61, 62, 63, 64, 65, 66, 67, 68, 69, 78, 79, 80, 81, 82, 83, 84, 85, 86, 87, 88, 89, 90, 91, 92, 93, 94, 95, 96] (by decide +kernel) (by decide +kernel)
set_option maxRecDepth 20000 in
theorem gX3_call_X3_gets : GoodIn wsX3_call (wsV RX3 133 RX3 yX3_gets wsX3_gets) := goodIn_app (goodIn_of _ (by decide +kernel)) ggX3_call_X3_gets
set_option maxRecDepth 20000 in
theorem ggX3_call_X3_keep : GoodIn wsX3_call wsX3_keep := goodIn_r _ [73, 74, 75, 76, 3, 77, 78, 79, 80, 81, 82, 83, 84, 85, 86, 87, 88, 89, 90, 91, 92, 93, 94, 95, 96] (by decide +kernel) (by decide +kernel)
set_option maxRecDepth 20000 in
theorem gX3_call_X3_keep : GoodIn wsX3_call (wsV RX3 140 RX3 yX3_keep wsX3_keep) := goodIn_app (goodIn_of _ (by decide +kernel)) ggX3_call_X3_keep
theorem dX3_call_0 : decode cX3_call 0 = .ok (.aload_n 0, 1) := by decide +kernel
theorem dX3_call_1 : decode cX3_call 1 = .ok (.iconst 0, 1) := by decide +kernel
theorem dX3_call_2 : decode cX3_call 2 = .ok (.putfield 55, 3) := by decide +kernel
theorem dX3_call_5 : decode cX3_call 5 = .ok (.aload_n 0, 1) := by decide +kernel
theorem dX3_call_6 : decode cX3_call 6 = .ok (.iconst 0, 1) := by decide +kernel
theorem dX3_call_7 : decode cX3_call 7 = .ok (.putfield 119, 3) := by decide +kernel
theorem dX3_call_10 : decode cX3_call 10 = .ok (.iconst 0, 1) := by decide +kernel
theorem dX3_call_11 : decode cX3_call 11 = .ok (.istore 4, 2) := by decide +kernel
theorem dX3_call_13 : decode cX3_call 13 = .ok (.iload 4, 2) := by decide +kernel
theorem dX3_call_15 : decode cX3_call 15 = .ok (.bipush 16, 2) := by decide +kernel
theorem dX3_call_17 : decode cX3_call 17 = .ok (.if_icmp .ge 23, 3) := by decide +kernel
theorem dX3_call_20 : decode cX3_call 20 = .ok (.aload_n 0, 1) := by decide +kernel
theorem dX3_call_21 : decode cX3_call 21 = .ok (.getfield 39, 3) := by decide +kernel
theorem dX3_call_24 : decode cX3_call 24 = .ok (.iload 4, 2) := by decide +kernel
theorem dX3_call_26 : decode cX3_call 26 = .ok (.aload_n 0, 1) := by decide +kernel
theorem dX3_call_27 : decode cX3_call 27 = .ok (.getfield 13, 3) := by decide +kernel
theorem dX3_call_30 : decode cX3_call 30 = .ok (.iload 4, 2) := by decide +kernel
theorem dX3_call_32 : decode cX3_call 32 = .ok (.laload, 1) := by decide +kernel
theorem dX3_call_33 : decode cX3_call 33 = .ok (.lastore, 1) := by decide +kernel
theorem dX3_call_34 : decode cX3_call 34 = .ok (.iinc 4 1, 3) := by decide +kernel
theorem dX3_call_37 : decode cX3_call 37 = .ok (.goto (-24), 3) := by decide +kernel
theorem dX3_call_40 : decode cX3_call 40 = .ok (.iconst 0, 1) := by decide +kernel
theorem dX3_call_41 : decode cX3_call 41 = .ok (.istore 4, 2) := by decide +kernel
theorem dX3_call_43 : decode cX3_call 43 = .ok (.iload 4, 2) := by decide +kernel
theorem dX3_call_45 : decode cX3_call 45 = .ok (.bipush 24, 2) := by decide +kernel
theorem dX3_call_47 : decode cX3_call 47 = .ok (.if_icmp .ge 17, 3) := by decide +kernel
theorem dX3_call_50 : decode cX3_call 50 = .ok (.aload_n 0, 1) := by decide +kernel
theorem dX3_call_51 : decode cX3_call 51 = .ok (.getfield 32, 3) := by decide +kernel
theorem dX3_call_54 : decode cX3_call 54 = .ok (.iload 4, 2) := by decide +kernel
theorem dX3_call_56 : decode cX3_call 56 = .ok (.iconst 0, 1) := by decide +kernel
theorem dX3_call_57 : decode cX3_call 57 = .ok (.bastore, 1) := by decide +kernel
theorem dX3_call_58 : decode cX3_call 58 = .ok (.iinc 4 1, 3) := by decide +kernel
theorem dX3_call_61 : decode cX3_call 61 = .ok (.goto (-18), 3) := by decide +kernel
theorem dX3_call_64 : decode cX3_call 64 = .ok (.aload_n 0, 1) := by decide +kernel
theorem dX3_call_65 : decode cX3_call 65 = .ok (.iload_n 1, 1) := by decide +kernel
theorem dX3_call_66 : decode cX3_call 66 = .ok (.lload_n 2, 1) := by decide +kernel
theorem dX3_call_67 : decode cX3_call 67 = .ok (.invokevirtual 133, 3) := by decide +kernel
theorem dX3_call_70 : decode cX3_call 70 = .ok (.aload_n 0, 1) := by decide +kernel
theorem dX3_call_71 : decode cX3_call 71 = .ok (.dup, 1) := by decide +kernel
theorem dX3_call_72 : decode cX3_call 72 = .ok (.getfield 137, 3) := by decide +kernel
theorem dX3_call_75 : decode cX3_call 75 = .ok (.aload_n 0, 1) := by decide +kernel
theorem dX3_call_76 : decode cX3_call 76 = .ok (.getfield 119, 3) := by decide +kernel
theorem dX3_call_79 : decode cX3_call 79 = .ok (.iadd, 1) := by decide +kernel
theorem dX3_call_80 : decode cX3_call 80 = .ok (.putfield 137, 3) := by decide +kernel
theorem dX3_call_83 : decode cX3_call 83 = .ok (.aload_n 0, 1) := by decide +kernel
theorem dX3_call_84 : decode cX3_call 84 = .ok (.getfield 119, 3) := by decide +kernel
theorem dX3_call_87 : decode cX3_call 87 = .ok (.ifCond .le 7, 3) := by decide +kernel
theorem dX3_call_90 : decode cX3_call 90 = .ok (.aload_n 0, 1) := by decide +kernel
theorem dX3_call_91 : decode cX3_call 91 = .ok (.invokevirtual 140, 3) := by decide +kernel
theorem dX3_call_94 : decode cX3_call 94 = .ok (.aload_n 0, 1) := by decide +kernel
theorem dX3_call_95 : decode cX3_call 95 = .ok (.getfield 119, 3) := by decide +kernel
theorem dX3_call_98 : decode cX3_call 98 = .ok (.ireturn, 1) := by decide +kernel
theorem dX3_keep_0 : decode cX3_keep 0 = .ok (.aload_n 0, 1) := by decide +kernel
theorem dX3_keep_1 : decode cX3_keep 1 = .ok (.getfield 143, 3) := by decide +kernel
theorem dX3_keep_4 : decode cX3_keep 4 = .ok (.bipush 6, 2) := by decide +kernel
theorem dX3_keep_6 : decode cX3_keep 6 = .ok (.if_icmp .ne 69, 3) := by decide +kernel
theorem dX3_keep_9 : decode cX3_keep 9 = .ok (.iconst 0, 1) := by decide +kernel
theorem dX3_keep_10 : decode cX3_keep 10 = .ok (.istore_n 1, 1) := by decide +kernel
theorem dX3_keep_11 : decode cX3_keep 11 = .ok (.iload_n 1, 1) := by decide +kernel
theorem dX3_keep_12 : decode cX3_keep 12 = .ok (.bipush 80, 2) := by decide +kernel
theorem dX3_keep_14 : decode cX3_keep 14 = .ok (.if_icmp .ge 24, 3) := by decide +kernel
theorem dX3_keep_17 : decode cX3_keep 17 = .ok (.aload_n 0, 1) := by decide +kernel
theorem dX3_keep_18 : decode cX3_keep 18 = .ok (.getfield 36, 3) := by decide +kernel
theorem dX3_keep_21 : decode cX3_keep 21 = .ok (.iload_n 1, 1) := by decide +kernel
theorem dX3_keep_22 : decode cX3_keep 22 = .ok (.aload_n 0, 1) := by decide +kernel
theorem dX3_keep_23 : decode cX3_keep 23 = .ok (.getfield 36, 3) := by decide +kernel
theorem dX3_keep_26 : decode cX3_keep 26 = .ok (.iload_n 1, 1) := by decide +kernel
theorem dX3_keep_27 : decode cX3_keep 27 = .ok (.bipush 16, 2) := by decide +kernel
theorem dX3_keep_29 : decode cX3_keep 29 = .ok (.iadd, 1) := by decide +kernel
theorem dX3_keep_30 : decode cX3_keep 30 = .ok (.laload, 1) := by decide +kernel
theorem dX3_keep_31 : decode cX3_keep 31 = .ok (.lastore, 1) := by decide +kernel
theorem dX3_keep_32 : decode cX3_keep 32 = .ok (.iinc 1 1, 3) := by decide +kernel
theorem dX3_keep_35 : decode cX3_keep 35 = .ok (.goto (-24), 3) := by decide +kernel
theorem dX3_keep_38 : decode cX3_keep 38 = .ok (.iconst 0, 1) := by decide +kernel
theorem dX3_keep_39 : decode cX3_keep 39 = .ok (.istore_n 1, 1) := by decide +kernel
theorem dX3_keep_40 : decode cX3_keep 40 = .ok (.iload_n 1, 1) := by decide +kernel
theorem dX3_keep_41 : decode cX3_keep 41 = .ok (.iconst 5, 1) := by decide +kernel
theorem dX3_keep_42 : decode cX3_keep 42 = .ok (.if_icmp .ge 23, 3) := by decide +kernel
theorem dX3_keep_45 : decode cX3_keep 45 = .ok (.aload_n 0, 1) := by decide +kernel
theorem dX3_keep_46 : decode cX3_keep 46 = .ok (.getfield 42, 3) := by decide +kernel
theorem dX3_keep_49 : decode cX3_keep 49 = .ok (.iload_n 1, 1) := by decide +kernel
theorem dX3_keep_50 : decode cX3_keep 50 = .ok (.aload_n 0, 1) := by decide +kernel
theorem dX3_keep_51 : decode cX3_keep 51 = .ok (.getfield 42, 3) := by decide +kernel
theorem dX3_keep_54 : decode cX3_keep 54 = .ok (.iload_n 1, 1) := by decide +kernel
theorem dX3_keep_55 : decode cX3_keep 55 = .ok (.iconst 1, 1) := by decide +kernel
theorem dX3_keep_56 : decode cX3_keep 56 = .ok (.iadd, 1) := by decide +kernel
theorem dX3_keep_57 : decode cX3_keep 57 = .ok (.iaload, 1) := by decide +kernel
theorem dX3_keep_58 : decode cX3_keep 58 = .ok (.iastore, 1) := by decide +kernel
theorem dX3_keep_59 : decode cX3_keep 59 = .ok (.iinc 1 1, 3) := by decide +kernel
theorem dX3_keep_62 : decode cX3_keep 62 = .ok (.goto (-22), 3) := by decide +kernel
theorem dX3_keep_65 : decode cX3_keep 65 = .ok (.aload_n 0, 1) := by decide +kernel
theorem dX3_keep_66 : decode cX3_keep 66 = .ok (.dup, 1) := by decide +kernel
theorem dX3_keep_67 : decode cX3_keep 67 = .ok (.getfield 143, 3) := by decide +kernel
theorem dX3_keep_70 : decode cX3_keep 70 = .ok (.iconst 1, 1) := by decide +kernel
theorem dX3_keep_71 : decode cX3_keep 71 = .ok (.isub, 1) := by decide +kernel
theorem dX3_keep_72 : decode cX3_keep 72 = .ok (.putfield 143, 3) := by decide +kernel
theorem dX3_keep_75 : decode cX3_keep 75 = .ok (.iconst 0, 1) := by decide +kernel
theorem dX3_keep_76 : decode cX3_keep 76 = .ok (.istore_n 1, 1) := by decide +kernel
theorem dX3_keep_77 : decode cX3_keep 77 = .ok (.iload_n 1, 1) := by decide +kernel
theorem dX3_keep_78 : decode cX3_keep 78 = .ok (.bipush 16, 2) := by decide +kernel
theorem dX3_keep_80 : decode cX3_keep 80 = .ok (.if_icmp .ge 29, 3) := by decide +kernel
theorem dX3_keep_83 : decode cX3_keep 83 = .ok (.aload_n 0, 1) := by decide +kernel
theorem dX3_keep_84 : decode cX3_keep 84 = .ok (.getfield 36, 3) := by decide +kernel
theorem dX3_keep_87 : decode cX3_keep 87 = .ok (.bipush 16, 2) := by decide +kernel
theorem dX3_keep_89 : decode cX3_keep 89 = .ok (.aload_n 0, 1) := by decide +kernel
theorem dX3_keep_90 : decode cX3_keep 90 = .ok (.getfield 143, 3) := by decide +kernel
theorem dX3_keep_93 : decode cX3_keep 93 = .ok (.imul, 1) := by decide +kernel
theorem dX3_keep_94 : decode cX3_keep 94 = .ok (.iload_n 1, 1) := by decide +kernel
theorem dX3_keep_95 : decode cX3_keep 95 = .ok (.iadd, 1) := by decide +kernel
theorem dX3_keep_96 : decode cX3_keep 96 = .ok (.aload_n 0, 1) := by decide +kernel
theorem dX3_keep_97 : decode cX3_keep 97 = .ok (.getfield 39, 3) := by decide +kernel
theorem dX3_keep_100 : decode cX3_keep 100 = .ok (.iload_n 1, 1) := by decide +kernel
theorem dX3_keep_101 : decode cX3_keep 101 = .ok (.laload, 1) := by decide +kernel
theorem dX3_keep_102 : decode cX3_keep 102 = .ok (.lastore, 1) := by decide +kernel
theorem dX3_keep_103 : decode cX3_keep 103 = .ok (.iinc 1 1, 3) := by decide +kernel
theorem dX3_keep_106 : decode cX3_keep 106 = .ok (.goto (-29), 3) := by decide +kernel
theorem dX3_keep_109 : decode cX3_keep 109 = .ok (.aload_n 0, 1) := by decide +kernel
theorem dX3_keep_110 : decode cX3_keep 110 = .ok (.getfield 42, 3) := by decide +kernel
theorem dX3_keep_113 : decode cX3_keep 113 = .ok (.aload_n 0, 1) := by decide +kernel
theorem dX3_keep_114 : decode cX3_keep 114 = .ok (.getfield 143, 3) := by decide +kernel
theorem dX3_keep_117 : decode cX3_keep 117 = .ok (.aload_n 0, 1) := by decide +kernel
theorem dX3_keep_118 : decode cX3_keep 118 = .ok (.getfield 51, 3) := by decide +kernel
theorem dX3_keep_121 : decode cX3_keep 121 = .ok (.iastore, 1) := by decide +kernel
theorem dX3_keep_122 : decode cX3_keep 122 = .ok (.aload_n 0, 1) := by decide +kernel
theorem dX3_keep_123 : decode cX3_keep 123 = .ok (.dup, 1) := by decide +kernel
theorem dX3_keep_124 : decode cX3_keep 124 = .ok (.getfield 143, 3) := by decide +kernel
theorem dX3_keep_127 : decode cX3_keep 127 = .ok (.iconst 1, 1) := by decide +kernel
theorem dX3_keep_128 : decode cX3_keep 128 = .ok (.iadd, 1) := by decide +kernel
theorem dX3_keep_129 : decode cX3_keep 129 = .ok (.putfield 143, 3) := by decide +kernel
theorem dX3_keep_132 : decode cX3_keep 132 = .ok (.return_, 1) := by decide +kernel
set_option maxRecDepth 20000 in
theorem ggX3_dial_X3_refused : GoodIn wsX3_dial wsX3_refused := goodIn_r _ [11, 2, 49, 50, 51, 52, 53, 54, 55, 56, 57, 58, 59, 60, 61, 62, 63, 64, 65, 66, 67] (by decide +kernel) (by decide +kernel)
set_option maxRecDepth 20000 in
theorem gX3_dial_X3_refused : GoodIn wsX3_dial (wsV RX3 146 RX3 yX3_refused wsX3_refused) := goodIn_app (goodIn_of _ (by decide +kernel)) ggX3_dial_X3_refused
set_option maxRecDepth 20000 in
theorem ggX3_dial_X3_isNumber : GoodIn wsX3_dial wsX3_isNumber := goodIn_r _ [15, 16, 17, 18, 19, 20, 21, 22, 10, 23, 24] (by decide +kernel) (by decide +kernel)
set_option maxRecDepth 20000 in
theorem gX3_dial_X3_isNumber : GoodIn wsX3_dial (wsV RX3 150 RX3 yX3_isNumber wsX3_isNumber) := goodIn_app (goodIn_of _ (by decide +kernel)) ggX3_dial_X3_isNumber
set_option maxRecDepth 20000 in
theorem ggX3_dial_X3_isAbove : GoodIn wsX3_dial wsX3_isAbove := goodIn_r _ [28, 29, 30, 31, 10, 32, 18, 16, 33, 34, 35, 36] (by decide +kernel) (by decide +kernel)
set_option maxRecDepth 20000 in
theorem gX3_dial_X3_isAbove : GoodIn wsX3_dial (wsV RX3 80 RX3 yX3_isAbove wsX3_isAbove) := goodIn_app (goodIn_of _ (by decide +kernel)) ggX3_dial_X3_isAbove
set_option maxRecDepth 20000 in
theorem ggX3_dial_X3_fitted : GoodIn wsX3_dial wsX3_fitted := goodIn_r _ [40, 3, 4, 5, 41, 42, 43, 10, 44, 25, 26, 27, 28, 29, 30, 31, 32, 18, 16, 33, 34, 35, 36, 45, 46, 47, 48, 49, 50, 51, 52, 53, 54, 55, 56, 57, 58, 59, 60, 61, 62, 63, 64, 65, 66, 67] (by decide +kernel) (by decide +kernel)
set_option maxRecDepth 20000 in
theorem gX3_dial_X3_fitted : GoodIn wsX3_dial (wsV RX3 116 RX3 yX3_fitted wsX3_fitted) := goodIn_app (goodIn_of _ (by decide +kernel)) ggX3_dial_X3_fitted
theorem dX3_dial_0 : decode cX3_dial 0 = .ok (.iload_n 1, 1) := by decide +kernel
theorem dX3_dial_1 : decode cX3_dial 1 = .ok (.ifCond .lt 8, 3) := by decide +kernel
theorem dX3_dial_4 : decode cX3_dial 4 = .ok (.iload_n 1, 1) := by decide +kernel
theorem dX3_dial_5 : decode cX3_dial 5 = .ok (.iconst 3, 1) := by decide +kernel
theorem dX3_dial_6 : decode cX3_dial 6 = .ok (.if_icmp .le 9, 3) := by decide +kernel
theorem dX3_dial_9 : decode cX3_dial 9 = .ok (.aload_n 0, 1) := by decide +kernel
theorem dX3_dial_10 : decode cX3_dial 10 = .ok (.iconst 2, 1) := by decide +kernel
theorem dX3_dial_11 : decode cX3_dial 11 = .ok (.invokevirtual 146, 3) := by decide +kernel
theorem dX3_dial_14 : decode cX3_dial 14 = .ok (.ireturn, 1) := by decide +kernel
theorem dX3_dial_15 : decode cX3_dial 15 = .ok (.aload_n 0, 1) := by decide +kernel
theorem dX3_dial_16 : decode cX3_dial 16 = .ok (.getfield 51, 3) := by decide +kernel
theorem dX3_dial_19 : decode cX3_dial 19 = .ok (.bipush 16, 2) := by decide +kernel
theorem dX3_dial_21 : decode cX3_dial 21 = .ok (.if_icmp .ne 9, 3) := by decide +kernel
theorem dX3_dial_24 : decode cX3_dial 24 = .ok (.aload_n 0, 1) := by decide +kernel
theorem dX3_dial_25 : decode cX3_dial 25 = .ok (.iconst 5, 1) := by decide +kernel
theorem dX3_dial_26 : decode cX3_dial 26 = .ok (.invokevirtual 146, 3) := by decide +kernel
theorem dX3_dial_29 : decode cX3_dial 29 = .ok (.ireturn, 1) := by decide +kernel
theorem dX3_dial_30 : decode cX3_dial 30 = .ok (.aload_n 0, 1) := by decide +kernel
theorem dX3_dial_31 : decode cX3_dial 31 = .ok (.iload_n 1, 1) := by decide +kernel
theorem dX3_dial_32 : decode cX3_dial 32 = .ok (.lload_n 2, 1) := by decide +kernel
theorem dX3_dial_33 : decode cX3_dial 33 = .ok (.invokevirtual 150, 3) := by decide +kernel
theorem dX3_dial_36 : decode cX3_dial 36 = .ok (.ifCond .eq 13, 3) := by decide +kernel
theorem dX3_dial_39 : decode cX3_dial 39 = .ok (.aload_n 0, 1) := by decide +kernel
theorem dX3_dial_40 : decode cX3_dial 40 = .ok (.iload_n 1, 1) := by decide +kernel
theorem dX3_dial_41 : decode cX3_dial 41 = .ok (.lload 4, 2) := by decide +kernel
theorem dX3_dial_43 : decode cX3_dial 43 = .ok (.invokevirtual 150, 3) := by decide +kernel
theorem dX3_dial_46 : decode cX3_dial 46 = .ok (.ifCond .ne 9, 3) := by decide +kernel
theorem dX3_dial_49 : decode cX3_dial 49 = .ok (.aload_n 0, 1) := by decide +kernel
theorem dX3_dial_50 : decode cX3_dial 50 = .ok (.iconst 3, 1) := by decide +kernel
theorem dX3_dial_51 : decode cX3_dial 51 = .ok (.invokevirtual 146, 3) := by decide +kernel
theorem dX3_dial_54 : decode cX3_dial 54 = .ok (.ireturn, 1) := by decide +kernel
theorem dX3_dial_55 : decode cX3_dial 55 = .ok (.aload_n 0, 1) := by decide +kernel
theorem dX3_dial_56 : decode cX3_dial 56 = .ok (.iload_n 1, 1) := by decide +kernel
theorem dX3_dial_57 : decode cX3_dial 57 = .ok (.lload_n 2, 1) := by decide +kernel
theorem dX3_dial_58 : decode cX3_dial 58 = .ok (.lload 4, 2) := by decide +kernel
theorem dX3_dial_60 : decode cX3_dial 60 = .ok (.invokevirtual 80, 3) := by decide +kernel
theorem dX3_dial_63 : decode cX3_dial 63 = .ok (.ifCond .eq 9, 3) := by decide +kernel
theorem dX3_dial_66 : decode cX3_dial 66 = .ok (.aload_n 0, 1) := by decide +kernel
theorem dX3_dial_67 : decode cX3_dial 67 = .ok (.iconst 4, 1) := by decide +kernel
theorem dX3_dial_68 : decode cX3_dial 68 = .ok (.invokevirtual 146, 3) := by decide +kernel
theorem dX3_dial_71 : decode cX3_dial 71 = .ok (.ireturn, 1) := by decide +kernel
theorem dX3_dial_72 : decode cX3_dial 72 = .ok (.aload_n 0, 1) := by decide +kernel
theorem dX3_dial_73 : decode cX3_dial 73 = .ok (.iconst 0, 1) := by decide +kernel
theorem dX3_dial_74 : decode cX3_dial 74 = .ok (.putfield 55, 3) := by decide +kernel
theorem dX3_dial_77 : decode cX3_dial 77 = .ok (.aload_n 0, 1) := by decide +kernel
theorem dX3_dial_78 : decode cX3_dial 78 = .ok (.getfield 7, 3) := by decide +kernel
theorem dX3_dial_81 : decode cX3_dial 81 = .ok (.aload_n 0, 1) := by decide +kernel
theorem dX3_dial_82 : decode cX3_dial 82 = .ok (.getfield 51, 3) := by decide +kernel
theorem dX3_dial_85 : decode cX3_dial 85 = .ok (.iload_n 1, 1) := by decide +kernel
theorem dX3_dial_86 : decode cX3_dial 86 = .ok (.iastore, 1) := by decide +kernel
theorem dX3_dial_87 : decode cX3_dial 87 = .ok (.aload_n 0, 1) := by decide +kernel
theorem dX3_dial_88 : decode cX3_dial 88 = .ok (.getfield 17, 3) := by decide +kernel
theorem dX3_dial_91 : decode cX3_dial 91 = .ok (.aload_n 0, 1) := by decide +kernel
theorem dX3_dial_92 : decode cX3_dial 92 = .ok (.getfield 51, 3) := by decide +kernel
theorem dX3_dial_95 : decode cX3_dial 95 = .ok (.lload_n 2, 1) := by decide +kernel
theorem dX3_dial_96 : decode cX3_dial 96 = .ok (.lastore, 1) := by decide +kernel
theorem dX3_dial_97 : decode cX3_dial 97 = .ok (.aload_n 0, 1) := by decide +kernel
theorem dX3_dial_98 : decode cX3_dial 98 = .ok (.getfield 20, 3) := by decide +kernel
theorem dX3_dial_101 : decode cX3_dial 101 = .ok (.aload_n 0, 1) := by decide +kernel
theorem dX3_dial_102 : decode cX3_dial 102 = .ok (.getfield 51, 3) := by decide +kernel
theorem dX3_dial_105 : decode cX3_dial 105 = .ok (.lload 4, 2) := by decide +kernel
theorem dX3_dial_107 : decode cX3_dial 107 = .ok (.lastore, 1) := by decide +kernel
theorem dX3_dial_108 : decode cX3_dial 108 = .ok (.aload_n 0, 1) := by decide +kernel
theorem dX3_dial_109 : decode cX3_dial 109 = .ok (.getfield 13, 3) := by decide +kernel
theorem dX3_dial_112 : decode cX3_dial 112 = .ok (.aload_n 0, 1) := by decide +kernel
theorem dX3_dial_113 : decode cX3_dial 113 = .ok (.getfield 51, 3) := by decide +kernel
theorem dX3_dial_116 : decode cX3_dial 116 = .ok (.aload_n 0, 1) := by decide +kernel
theorem dX3_dial_117 : decode cX3_dial 117 = .ok (.aload_n 0, 1) := by decide +kernel
theorem dX3_dial_118 : decode cX3_dial 118 = .ok (.getfield 51, 3) := by decide +kernel
theorem dX3_dial_121 : decode cX3_dial 121 = .ok (.lconst 0, 1) := by decide +kernel
theorem dX3_dial_122 : decode cX3_dial 122 = .ok (.invokevirtual 116, 3) := by decide +kernel
theorem dX3_dial_125 : decode cX3_dial 125 = .ok (.lastore, 1) := by decide +kernel
theorem dX3_dial_126 : decode cX3_dial 126 = .ok (.aload_n 0, 1) := by decide +kernel
theorem dX3_dial_127 : decode cX3_dial 127 = .ok (.dup, 1) := by decide +kernel
theorem dX3_dial_128 : decode cX3_dial 128 = .ok (.getfield 51, 3) := by decide +kernel
theorem dX3_dial_131 : decode cX3_dial 131 = .ok (.iconst 1, 1) := by decide +kernel
theorem dX3_dial_132 : decode cX3_dial 132 = .ok (.iadd, 1) := by decide +kernel
theorem dX3_dial_133 : decode cX3_dial 133 = .ok (.putfield 51, 3) := by decide +kernel
theorem dX3_dial_136 : decode cX3_dial 136 = .ok (.aload_n 0, 1) := by decide +kernel
theorem dX3_dial_137 : decode cX3_dial 137 = .ok (.getfield 51, 3) := by decide +kernel
theorem dX3_dial_140 : decode cX3_dial 140 = .ok (.iconst 1, 1) := by decide +kernel
theorem dX3_dial_141 : decode cX3_dial 141 = .ok (.isub, 1) := by decide +kernel
theorem dX3_dial_142 : decode cX3_dial 142 = .ok (.ireturn, 1) := by decide +kernel
set_option maxRecDepth 20000 in
theorem ggX3_reason_X3_isReal : GoodIn wsX3_reason wsX3_isReal := goodIn_r _ [6] (by decide +kernel) (by decide +kernel)
set_option maxRecDepth 20000 in
theorem gX3_reason_X3_isReal : GoodIn wsX3_reason (wsV RX3 72 RX3 yX3_isReal wsX3_isReal) := goodIn_app (goodIn_of _ (by decide +kernel)) ggX3_reason_X3_isReal
theorem dX3_reason_0 : decode cX3_reason 0 = .ok (.aload_n 0, 1) := by decide +kernel
theorem dX3_reason_1 : decode cX3_reason 1 = .ok (.getfield 7, 3) := by decide +kernel
theorem dX3_reason_4 : decode cX3_reason 4 = .ok (.iload_n 2, 1) := by decide +kernel
theorem dX3_reason_5 : decode cX3_reason 5 = .ok (.iaload, 1) := by decide +kernel
theorem dX3_reason_6 : decode cX3_reason 6 = .ok (.aload_n 0, 1) := by decide +kernel
theorem dX3_reason_7 : decode cX3_reason 7 = .ok (.getfield 7, 3) := by decide +kernel
theorem dX3_reason_10 : decode cX3_reason 10 = .ok (.iload_n 3, 1) := by decide +kernel
theorem dX3_reason_11 : decode cX3_reason 11 = .ok (.iaload, 1) := by decide +kernel
theorem dX3_reason_12 : decode cX3_reason 12 = .ok (.if_icmp .ne 8, 3) := by decide +kernel
theorem dX3_reason_15 : decode cX3_reason 15 = .ok (.iload_n 2, 1) := by decide +kernel
theorem dX3_reason_16 : decode cX3_reason 16 = .ok (.iload_n 3, 1) := by decide +kernel
theorem dX3_reason_17 : decode cX3_reason 17 = .ok (.if_icmp .ne 6, 3) := by decide +kernel
theorem dX3_reason_20 : decode cX3_reason 20 = .ok (.bipush 6, 2) := by decide +kernel
theorem dX3_reason_22 : decode cX3_reason 22 = .ok (.ireturn, 1) := by decide +kernel
theorem dX3_reason_23 : decode cX3_reason 23 = .ok (.iload_n 1, 1) := by decide +kernel
theorem dX3_reason_24 : decode cX3_reason 24 = .ok (.iconst 2, 1) := by decide +kernel
theorem dX3_reason_25 : decode cX3_reason 25 = .ok (.if_icmp .ne 20, 3) := by decide +kernel
theorem dX3_reason_28 : decode cX3_reason 28 = .ok (.aload_n 0, 1) := by decide +kernel
theorem dX3_reason_29 : decode cX3_reason 29 = .ok (.aload_n 0, 1) := by decide +kernel
theorem dX3_reason_30 : decode cX3_reason 30 = .ok (.getfield 7, 3) := by decide +kernel
theorem dX3_reason_33 : decode cX3_reason 33 = .ok (.iload_n 2, 1) := by decide +kernel
theorem dX3_reason_34 : decode cX3_reason 34 = .ok (.iaload, 1) := by decide +kernel
theorem dX3_reason_35 : decode cX3_reason 35 = .ok (.invokevirtual 72, 3) := by decide +kernel
theorem dX3_reason_38 : decode cX3_reason 38 = .ok (.ifCond .ne 7, 3) := by decide +kernel
theorem dX3_reason_41 : decode cX3_reason 41 = .ok (.iconst 2, 1) := by decide +kernel
theorem dX3_reason_42 : decode cX3_reason 42 = .ok (.goto 4, 3) := by decide +kernel
theorem dX3_reason_45 : decode cX3_reason 45 = .ok (.iconst 0, 1) := by decide +kernel
theorem dX3_reason_46 : decode cX3_reason 46 = .ok (.ireturn, 1) := by decide +kernel
set_option maxRecDepth 20000 in
theorem ggX3_rod_X3_refused : GoodIn wsX3_rod wsX3_refused := goodIn_r _ [10, 2, 25, 26, 27, 28, 29, 30, 31, 32, 33, 34, 35, 36, 37, 38, 39, 40, 41, 42, 43] (by decide +kernel) (by decide +kernel)
set_option maxRecDepth 20000 in
theorem gX3_rod_X3_refused : GoodIn wsX3_rod (wsV RX3 146 RX3 yX3_refused wsX3_refused) := goodIn_app (goodIn_of _ (by decide +kernel)) ggX3_rod_X3_refused
set_option maxRecDepth 20000 in
theorem ggX3_rod_X3_isDial : GoodIn wsX3_rod wsX3_isDial := goodIn_r _ [14, 15, 25, 26, 27, 28, 29, 30, 31, 32, 33, 34, 35, 36, 37, 38, 39, 40, 41, 42, 43] (by decide +kernel) (by decide +kernel)
set_option maxRecDepth 20000 in
theorem gX3_rod_X3_isDial : GoodIn wsX3_rod (wsV RX3 153 RX3 yX3_isDial wsX3_isDial) := goodIn_app (goodIn_of _ (by decide +kernel)) ggX3_rod_X3_isDial
set_option maxRecDepth 20000 in
theorem ggX3_rod_X3_reason : GoodIn wsX3_rod wsX3_reason := goodIn_r _ [19, 20, 21, 22, 23, 9, 24, 25, 26, 27, 28, 29, 30, 31, 32, 33, 34, 35, 36, 37, 38, 39, 40, 41, 42, 43] (by decide +kernel) (by decide +kernel)
set_option maxRecDepth 20000 in
theorem gX3_rod_X3_reason : GoodIn wsX3_rod (wsV RX3 156 RX3 yX3_reason wsX3_reason) := goodIn_app (goodIn_of _ (by decide +kernel)) ggX3_rod_X3_reason
theorem dX3_rod_0 : decode cX3_rod 0 = .ok (.iload_n 1, 1) := by decide +kernel
theorem dX3_rod_1 : decode cX3_rod 1 = .ok (.ifCond .lt 8, 3) := by decide +kernel
theorem dX3_rod_4 : decode cX3_rod 4 = .ok (.iload_n 1, 1) := by decide +kernel
theorem dX3_rod_5 : decode cX3_rod 5 = .ok (.iconst 3, 1) := by decide +kernel
theorem dX3_rod_6 : decode cX3_rod 6 = .ok (.if_icmp .le 9, 3) := by decide +kernel
theorem dX3_rod_9 : decode cX3_rod 9 = .ok (.aload_n 0, 1) := by decide +kernel
theorem dX3_rod_10 : decode cX3_rod 10 = .ok (.iconst 2, 1) := by decide +kernel
theorem dX3_rod_11 : decode cX3_rod 11 = .ok (.invokevirtual 146, 3) := by decide +kernel
theorem dX3_rod_14 : decode cX3_rod 14 = .ok (.ireturn, 1) := by decide +kernel
theorem dX3_rod_15 : decode cX3_rod 15 = .ok (.aload_n 0, 1) := by decide +kernel
theorem dX3_rod_16 : decode cX3_rod 16 = .ok (.iload_n 2, 1) := by decide +kernel
theorem dX3_rod_17 : decode cX3_rod 17 = .ok (.invokevirtual 153, 3) := by decide +kernel
theorem dX3_rod_20 : decode cX3_rod 20 = .ok (.ifCond .eq 11, 3) := by decide +kernel
theorem dX3_rod_23 : decode cX3_rod 23 = .ok (.aload_n 0, 1) := by decide +kernel
theorem dX3_rod_24 : decode cX3_rod 24 = .ok (.iload_n 3, 1) := by decide +kernel
theorem dX3_rod_25 : decode cX3_rod 25 = .ok (.invokevirtual 153, 3) := by decide +kernel
theorem dX3_rod_28 : decode cX3_rod 28 = .ok (.ifCond .ne 9, 3) := by decide +kernel
theorem dX3_rod_31 : decode cX3_rod 31 = .ok (.aload_n 0, 1) := by decide +kernel
theorem dX3_rod_32 : decode cX3_rod 32 = .ok (.iconst 1, 1) := by decide +kernel
theorem dX3_rod_33 : decode cX3_rod 33 = .ok (.invokevirtual 146, 3) := by decide +kernel
theorem dX3_rod_36 : decode cX3_rod 36 = .ok (.ireturn, 1) := by decide +kernel
theorem dX3_rod_37 : decode cX3_rod 37 = .ok (.aload_n 0, 1) := by decide +kernel
theorem dX3_rod_38 : decode cX3_rod 38 = .ok (.iload_n 1, 1) := by decide +kernel
theorem dX3_rod_39 : decode cX3_rod 39 = .ok (.iload_n 2, 1) := by decide +kernel
theorem dX3_rod_40 : decode cX3_rod 40 = .ok (.iload_n 3, 1) := by decide +kernel
theorem dX3_rod_41 : decode cX3_rod 41 = .ok (.invokevirtual 156, 3) := by decide +kernel
theorem dX3_rod_44 : decode cX3_rod 44 = .ok (.istore 4, 2) := by decide +kernel
theorem dX3_rod_46 : decode cX3_rod 46 = .ok (.iload 4, 2) := by decide +kernel
theorem dX3_rod_48 : decode cX3_rod 48 = .ok (.ifCond .le 10, 3) := by decide +kernel
theorem dX3_rod_51 : decode cX3_rod 51 = .ok (.aload_n 0, 1) := by decide +kernel
theorem dX3_rod_52 : decode cX3_rod 52 = .ok (.iload 4, 2) := by decide +kernel
theorem dX3_rod_54 : decode cX3_rod 54 = .ok (.invokevirtual 146, 3) := by decide +kernel
theorem dX3_rod_57 : decode cX3_rod 57 = .ok (.ireturn, 1) := by decide +kernel
theorem dX3_rod_58 : decode cX3_rod 58 = .ok (.aload_n 0, 1) := by decide +kernel
theorem dX3_rod_59 : decode cX3_rod 59 = .ok (.getfield 126, 3) := by decide +kernel
theorem dX3_rod_62 : decode cX3_rod 62 = .ok (.bipush 24, 2) := by decide +kernel
theorem dX3_rod_64 : decode cX3_rod 64 = .ok (.if_icmp .ne 9, 3) := by decide +kernel
theorem dX3_rod_67 : decode cX3_rod 67 = .ok (.aload_n 0, 1) := by decide +kernel
theorem dX3_rod_68 : decode cX3_rod 68 = .ok (.iconst 5, 1) := by decide +kernel
theorem dX3_rod_69 : decode cX3_rod 69 = .ok (.invokevirtual 146, 3) := by decide +kernel
theorem dX3_rod_72 : decode cX3_rod 72 = .ok (.ireturn, 1) := by decide +kernel
theorem dX3_rod_73 : decode cX3_rod 73 = .ok (.aload_n 0, 1) := by decide +kernel
theorem dX3_rod_74 : decode cX3_rod 74 = .ok (.iconst 0, 1) := by decide +kernel
theorem dX3_rod_75 : decode cX3_rod 75 = .ok (.putfield 55, 3) := by decide +kernel
theorem dX3_rod_78 : decode cX3_rod 78 = .ok (.aload_n 0, 1) := by decide +kernel
theorem dX3_rod_79 : decode cX3_rod 79 = .ok (.getfield 23, 3) := by decide +kernel
theorem dX3_rod_82 : decode cX3_rod 82 = .ok (.aload_n 0, 1) := by decide +kernel
theorem dX3_rod_83 : decode cX3_rod 83 = .ok (.getfield 126, 3) := by decide +kernel
theorem dX3_rod_86 : decode cX3_rod 86 = .ok (.iload_n 1, 1) := by decide +kernel
theorem dX3_rod_87 : decode cX3_rod 87 = .ok (.iastore, 1) := by decide +kernel
theorem dX3_rod_88 : decode cX3_rod 88 = .ok (.aload_n 0, 1) := by decide +kernel
theorem dX3_rod_89 : decode cX3_rod 89 = .ok (.getfield 26, 3) := by decide +kernel
theorem dX3_rod_92 : decode cX3_rod 92 = .ok (.aload_n 0, 1) := by decide +kernel
theorem dX3_rod_93 : decode cX3_rod 93 = .ok (.getfield 126, 3) := by decide +kernel
theorem dX3_rod_96 : decode cX3_rod 96 = .ok (.iload_n 2, 1) := by decide +kernel
theorem dX3_rod_97 : decode cX3_rod 97 = .ok (.iastore, 1) := by decide +kernel
theorem dX3_rod_98 : decode cX3_rod 98 = .ok (.aload_n 0, 1) := by decide +kernel
theorem dX3_rod_99 : decode cX3_rod 99 = .ok (.getfield 29, 3) := by decide +kernel
theorem dX3_rod_102 : decode cX3_rod 102 = .ok (.aload_n 0, 1) := by decide +kernel
theorem dX3_rod_103 : decode cX3_rod 103 = .ok (.getfield 126, 3) := by decide +kernel
theorem dX3_rod_106 : decode cX3_rod 106 = .ok (.iload_n 3, 1) := by decide +kernel
theorem dX3_rod_107 : decode cX3_rod 107 = .ok (.iastore, 1) := by decide +kernel
theorem dX3_rod_108 : decode cX3_rod 108 = .ok (.aload_n 0, 1) := by decide +kernel
theorem dX3_rod_109 : decode cX3_rod 109 = .ok (.dup, 1) := by decide +kernel
theorem dX3_rod_110 : decode cX3_rod 110 = .ok (.getfield 126, 3) := by decide +kernel
theorem dX3_rod_113 : decode cX3_rod 113 = .ok (.iconst 1, 1) := by decide +kernel
theorem dX3_rod_114 : decode cX3_rod 114 = .ok (.iadd, 1) := by decide +kernel
theorem dX3_rod_115 : decode cX3_rod 115 = .ok (.putfield 126, 3) := by decide +kernel
theorem dX3_rod_118 : decode cX3_rod 118 = .ok (.aload_n 0, 1) := by decide +kernel
theorem dX3_rod_119 : decode cX3_rod 119 = .ok (.getfield 126, 3) := by decide +kernel
theorem dX3_rod_122 : decode cX3_rod 122 = .ok (.iconst 1, 1) := by decide +kernel
theorem dX3_rod_123 : decode cX3_rod 123 = .ok (.isub, 1) := by decide +kernel
theorem dX3_rod_124 : decode cX3_rod 124 = .ok (.ireturn, 1) := by decide +kernel
set_option maxRecDepth 20000 in
theorem ggX3_set_X3_isDial : GoodIn wsX3_set wsX3_isDial := goodIn_r _ [6, 7, 100, 101, 102, 103, 104, 105, 106, 107, 108, 109, 110, 111, 112, 113, 114, 115, 116, 117, 118] (by decide +kernel) (by decide +kernel)
set_option maxRecDepth 20000 in
theorem gX3_set_X3_isDial : GoodIn wsX3_set (wsV RX3 153 RX3 yX3_isDial wsX3_isDial) := goodIn_app (goodIn_of _ (by decide +kernel)) ggX3_set_X3_isDial
set_option maxRecDepth 20000 in
theorem ggX3_set_X3_refused : GoodIn wsX3_set wsX3_refused := goodIn_r _ [11, 12, 100, 101, 102, 103, 104, 105, 106, 107, 108, 109, 110, 111, 112, 113, 114, 115, 116, 117, 118] (by decide +kernel) (by decide +kernel)
set_option maxRecDepth 20000 in
theorem gX3_set_X3_refused : GoodIn wsX3_set (wsV RX3 146 RX3 yX3_refused wsX3_refused) := goodIn_app (goodIn_of _ (by decide +kernel)) ggX3_set_X3_refused
set_option maxRecDepth 20000 in
theorem ggX3_set_X3_isNumber : GoodIn wsX3_set wsX3_isNumber := goodIn_r _ [16, 17, 18, 19, 20, 21, 22, 23, 5, 24, 25] (by decide +kernel) (by decide +kernel)
set_option maxRecDepth 20000 in
theorem gX3_set_X3_isNumber : GoodIn wsX3_set (wsV RX3 150 RX3 yX3_isNumber wsX3_isNumber) := goodIn_app (goodIn_of _ (by decide +kernel)) ggX3_set_X3_isNumber
set_option maxRecDepth 20000 in
theorem ggX3_set_X3_call : GoodIn wsX3_set wsX3_call := goodIn_r _ [29, 12, 30, 31, 32, 33, 34, 35, 36, 37, 5, 38, 39, 40, 41, 42, 43, 44, 45, 46, 47, 48, 49, 50, 51, 52, 1, 53, 54, 55, 56, 57, 58, 59, 60, 61, 62, 63, 64, 65, 66, 19, 17, 67, 68, 69, 70, 71, 72, 73, 74, 75, 76, 77, 78, 79, 80, 81, 82, 83, 84, 85, 86, 87, 88, 89, 90, 91, 92, 25, 93, 94, 95, 96, 97, 98, 99, 7, 100, 101, 102, 103, 104, 105, 106, 107, 108, 109, 110, 111, 112, 113, 114, 115, 116, 117, 118] (by decide +kernel) (by decide +kernel)
set_option maxRecDepth 20000 in
theorem gX3_set_X3_call : GoodIn wsX3_set (wsV RX3 160 RX3 yX3_call wsX3_call) := goodIn_app (goodIn_of _ (by decide +kernel)) ggX3_set_X3_call
theorem dX3_set_0 : decode cX3_set 0 = .ok (.aload_n 0, 1) := by decide +kernel
theorem dX3_set_1 : decode cX3_set 1 = .ok (.iload_n 1, 1) := by decide +kernel
theorem dX3_set_2 : decode cX3_set 2 = .ok (.invokevirtual 153, 3) := by decide +kernel
theorem dX3_set_5 : decode cX3_set 5 = .ok (.ifCond .ne 9, 3) := by decide +kernel
theorem dX3_set_8 : decode cX3_set 8 = .ok (.aload_n 0, 1) := by decide +kernel
theorem dX3_set_9 : decode cX3_set 9 = .ok (.iconst 1, 1) := by decide +kernel
theorem dX3_set_10 : decode cX3_set 10 = .ok (.invokevirtual 146, 3) := by decide +kernel
theorem dX3_set_13 : decode cX3_set 13 = .ok (.ireturn, 1) := by decide +kernel
theorem dX3_set_14 : decode cX3_set 14 = .ok (.aload_n 0, 1) := by decide +kernel
theorem dX3_set_15 : decode cX3_set 15 = .ok (.aload_n 0, 1) := by decide +kernel
theorem dX3_set_16 : decode cX3_set 16 = .ok (.getfield 7, 3) := by decide +kernel
theorem dX3_set_19 : decode cX3_set 19 = .ok (.iload_n 1, 1) := by decide +kernel
theorem dX3_set_20 : decode cX3_set 20 = .ok (.iaload, 1) := by decide +kernel
theorem dX3_set_21 : decode cX3_set 21 = .ok (.lload_n 2, 1) := by decide +kernel
theorem dX3_set_22 : decode cX3_set 22 = .ok (.invokevirtual 150, 3) := by decide +kernel
theorem dX3_set_25 : decode cX3_set 25 = .ok (.ifCond .ne 9, 3) := by decide +kernel
theorem dX3_set_28 : decode cX3_set 28 = .ok (.aload_n 0, 1) := by decide +kernel
theorem dX3_set_29 : decode cX3_set 29 = .ok (.iconst 3, 1) := by decide +kernel
theorem dX3_set_30 : decode cX3_set 30 = .ok (.invokevirtual 146, 3) := by decide +kernel
theorem dX3_set_33 : decode cX3_set 33 = .ok (.ireturn, 1) := by decide +kernel
theorem dX3_set_34 : decode cX3_set 34 = .ok (.aload_n 0, 1) := by decide +kernel
theorem dX3_set_35 : decode cX3_set 35 = .ok (.iload_n 1, 1) := by decide +kernel
theorem dX3_set_36 : decode cX3_set 36 = .ok (.lload_n 2, 1) := by decide +kernel
theorem dX3_set_37 : decode cX3_set 37 = .ok (.invokevirtual 160, 3) := by decide +kernel
theorem dX3_set_40 : decode cX3_set 40 = .ok (.ireturn, 1) := by decide +kernel
set_option maxRecDepth 20000 in
theorem ggX3_turn_X3_isDial : GoodIn wsX3_turn wsX3_isDial := goodIn_r _ [7, 8, 104, 105, 106, 107, 108, 109, 110, 111, 112, 113, 114, 115, 116, 117, 118, 119, 120, 121, 122] (by decide +kernel) (by decide +kernel)
set_option maxRecDepth 20000 in
theorem gX3_turn_X3_isDial : GoodIn wsX3_turn (wsV RX3 153 RX3 yX3_isDial wsX3_isDial) := goodIn_app (goodIn_of _ (by decide +kernel)) ggX3_turn_X3_isDial
set_option maxRecDepth 20000 in
theorem ggX3_turn_X3_refused : GoodIn wsX3_turn wsX3_refused := goodIn_r _ [12, 13, 104, 105, 106, 107, 108, 109, 110, 111, 112, 113, 114, 115, 116, 117, 118, 119, 120, 121, 122] (by decide +kernel) (by decide +kernel)
set_option maxRecDepth 20000 in
theorem gX3_turn_X3_refused : GoodIn wsX3_turn (wsV RX3 146 RX3 yX3_refused wsX3_refused) := goodIn_app (goodIn_of _ (by decide +kernel)) ggX3_turn_X3_refused
set_option maxRecDepth 20000 in
theorem ggX3_turn_X3_isReal : GoodIn wsX3_turn wsX3_isReal := goodIn_r _ [17] (by decide +kernel) (by decide +kernel)
set_option maxRecDepth 20000 in
theorem gX3_turn_X3_isReal : GoodIn wsX3_turn (wsV RX3 72 RX3 yX3_isReal wsX3_isReal) := goodIn_app (goodIn_of _ (by decide +kernel)) ggX3_turn_X3_isReal
set_option maxRecDepth 20000 in
theorem ggX3_turn_X3_turned : GoodIn wsX3_turn wsX3_turned := goodIn_r _ [21, 22, 23, 24, 6, 25, 26, 27, 14, 15, 16, 17, 28, 29, 30, 31, 32, 33, 34, 35, 36, 37, 38, 39, 40, 41, 42, 43, 44, 45, 46, 47, 48] (by decide +kernel) (by decide +kernel)
set_option maxRecDepth 20000 in
theorem gX3_turn_X3_turned : GoodIn wsX3_turn (wsV RX3 164 RX3 yX3_turned wsX3_turned) := goodIn_app (goodIn_of _ (by decide +kernel)) ggX3_turn_X3_turned
set_option maxRecDepth 20000 in
theorem ggX3_turn_X3_call : GoodIn wsX3_turn wsX3_call := goodIn_r _ [52, 13, 53, 54, 2, 55, 56, 57, 58, 59, 6, 60, 61, 62, 63, 64, 65, 66, 67, 68, 69, 70, 71, 72, 73, 74, 1, 75, 76, 77, 78, 79, 80, 81, 82, 83, 84, 85, 86, 87, 88, 32, 33, 14, 15, 16, 17, 89, 90, 91, 92, 93, 94, 95, 96, 28, 29, 30, 31, 44, 45, 46, 47, 48, 27, 22, 23, 24, 25, 26, 97, 98, 99, 100, 101, 102, 103, 8, 104, 105, 106, 107, 108, 109, 110, 111, 112, 113, 114, 115, 116, 117, 118, 119, 120, 121, 122] (by decide +kernel) (by decide +kernel)
set_option maxRecDepth 20000 in
theorem gX3_turn_X3_call : GoodIn wsX3_turn (wsV RX3 160 RX3 yX3_call wsX3_call) := goodIn_app (goodIn_of _ (by decide +kernel)) ggX3_turn_X3_call
theorem dX3_turn_0 : decode cX3_turn 0 = .ok (.aload_n 0, 1) := by decide +kernel
theorem dX3_turn_1 : decode cX3_turn 1 = .ok (.iload_n 1, 1) := by decide +kernel
theorem dX3_turn_2 : decode cX3_turn 2 = .ok (.invokevirtual 153, 3) := by decide +kernel
theorem dX3_turn_5 : decode cX3_turn 5 = .ok (.ifCond .ne 9, 3) := by decide +kernel
theorem dX3_turn_8 : decode cX3_turn 8 = .ok (.aload_n 0, 1) := by decide +kernel
theorem dX3_turn_9 : decode cX3_turn 9 = .ok (.iconst 1, 1) := by decide +kernel
theorem dX3_turn_10 : decode cX3_turn 10 = .ok (.invokevirtual 146, 3) := by decide +kernel
theorem dX3_turn_13 : decode cX3_turn 13 = .ok (.ireturn, 1) := by decide +kernel
theorem dX3_turn_14 : decode cX3_turn 14 = .ok (.iload_n 2, 1) := by decide +kernel
theorem dX3_turn_15 : decode cX3_turn 15 = .ok (.ifCond .lt 25, 3) := by decide +kernel
theorem dX3_turn_18 : decode cX3_turn 18 = .ok (.iload_n 2, 1) := by decide +kernel
theorem dX3_turn_19 : decode cX3_turn 19 = .ok (.iconst 4, 1) := by decide +kernel
theorem dX3_turn_20 : decode cX3_turn 20 = .ok (.if_icmp .gt 20, 3) := by decide +kernel
theorem dX3_turn_23 : decode cX3_turn 23 = .ok (.iload_n 2, 1) := by decide +kernel
theorem dX3_turn_24 : decode cX3_turn 24 = .ok (.ifCond .le 22, 3) := by decide +kernel
theorem dX3_turn_27 : decode cX3_turn 27 = .ok (.aload_n 0, 1) := by decide +kernel
theorem dX3_turn_28 : decode cX3_turn 28 = .ok (.aload_n 0, 1) := by decide +kernel
theorem dX3_turn_29 : decode cX3_turn 29 = .ok (.getfield 7, 3) := by decide +kernel
theorem dX3_turn_32 : decode cX3_turn 32 = .ok (.iload_n 1, 1) := by decide +kernel
theorem dX3_turn_33 : decode cX3_turn 33 = .ok (.iaload, 1) := by decide +kernel
theorem dX3_turn_34 : decode cX3_turn 34 = .ok (.invokevirtual 72, 3) := by decide +kernel
theorem dX3_turn_37 : decode cX3_turn 37 = .ok (.ifCond .ne 9, 3) := by decide +kernel
theorem dX3_turn_40 : decode cX3_turn 40 = .ok (.aload_n 0, 1) := by decide +kernel
theorem dX3_turn_41 : decode cX3_turn 41 = .ok (.iconst 2, 1) := by decide +kernel
theorem dX3_turn_42 : decode cX3_turn 42 = .ok (.invokevirtual 146, 3) := by decide +kernel
theorem dX3_turn_45 : decode cX3_turn 45 = .ok (.ireturn, 1) := by decide +kernel
theorem dX3_turn_46 : decode cX3_turn 46 = .ok (.aload_n 0, 1) := by decide +kernel
theorem dX3_turn_47 : decode cX3_turn 47 = .ok (.iload_n 1, 1) := by decide +kernel
theorem dX3_turn_48 : decode cX3_turn 48 = .ok (.aload_n 0, 1) := by decide +kernel
theorem dX3_turn_49 : decode cX3_turn 49 = .ok (.aload_n 0, 1) := by decide +kernel
theorem dX3_turn_50 : decode cX3_turn 50 = .ok (.getfield 7, 3) := by decide +kernel
theorem dX3_turn_53 : decode cX3_turn 53 = .ok (.iload_n 1, 1) := by decide +kernel
theorem dX3_turn_54 : decode cX3_turn 54 = .ok (.iaload, 1) := by decide +kernel
theorem dX3_turn_55 : decode cX3_turn 55 = .ok (.aload_n 0, 1) := by decide +kernel
theorem dX3_turn_56 : decode cX3_turn 56 = .ok (.getfield 13, 3) := by decide +kernel
theorem dX3_turn_59 : decode cX3_turn 59 = .ok (.iload_n 1, 1) := by decide +kernel
theorem dX3_turn_60 : decode cX3_turn 60 = .ok (.laload, 1) := by decide +kernel
theorem dX3_turn_61 : decode cX3_turn 61 = .ok (.iload_n 2, 1) := by decide +kernel
theorem dX3_turn_62 : decode cX3_turn 62 = .ok (.invokevirtual 164, 3) := by decide +kernel
theorem dX3_turn_65 : decode cX3_turn 65 = .ok (.invokevirtual 160, 3) := by decide +kernel
theorem dX3_turn_68 : decode cX3_turn 68 = .ok (.ireturn, 1) := by decide +kernel
set_option maxRecDepth 20000 in
theorem ggX3_take_X3_isDial : GoodIn wsX3_take wsX3_isDial := goodIn_r _ [5, 6, 94, 95, 96, 97, 98, 99, 100, 101, 102, 103, 104, 105, 106, 107, 108, 109, 110, 111, 112] (by decide +kernel) (by decide +kernel)
set_option maxRecDepth 20000 in
theorem gX3_take_X3_isDial : GoodIn wsX3_take (wsV RX3 153 RX3 yX3_isDial wsX3_isDial) := goodIn_app (goodIn_of _ (by decide +kernel)) ggX3_take_X3_isDial
set_option maxRecDepth 20000 in
theorem ggX3_take_X3_refused : GoodIn wsX3_take wsX3_refused := goodIn_r _ [10, 11, 94, 95, 96, 97, 98, 99, 100, 101, 102, 103, 104, 105, 106, 107, 108, 109, 110, 111, 112] (by decide +kernel) (by decide +kernel)
set_option maxRecDepth 20000 in
theorem gX3_take_X3_refused : GoodIn wsX3_take (wsV RX3 146 RX3 yX3_refused wsX3_refused) := goodIn_app (goodIn_of _ (by decide +kernel)) ggX3_take_X3_refused
set_option maxRecDepth 20000 in
theorem ggX3_take_X3_reason : GoodIn wsX3_take wsX3_reason := goodIn_r _ [15, 16, 17, 18, 19, 4, 20, 94, 95, 96, 97, 98, 99, 100, 101, 102, 103, 104, 105, 106, 107, 108, 109, 110, 111, 112] (by decide +kernel) (by decide +kernel)
set_option maxRecDepth 20000 in
theorem gX3_take_X3_reason : GoodIn wsX3_take (wsV RX3 156 RX3 yX3_reason wsX3_reason) := goodIn_app (goodIn_of _ (by decide +kernel)) ggX3_take_X3_reason
set_option maxRecDepth 20000 in
theorem ggX3_take_X3_gives : GoodIn wsX3_take wsX3_gives := goodIn_r _ [24, 16, 25, 26, 27, 28, 4, 29, 30, 31, 32, 33, 34, 35, 36, 37, 38, 39, 17, 18, 19, 20, 40, 41, 42, 43, 44, 45, 46, 47, 48, 49, 50, 51, 52, 53, 54, 55, 56, 57, 58, 94, 95, 96, 97, 98, 99, 100, 101, 102, 103, 104, 105, 106, 107, 108, 109, 110, 111, 112] (by decide +kernel) (by decide +kernel)
set_option maxRecDepth 20000 in
theorem gX3_take_X3_gives : GoodIn wsX3_take (wsV RX3 129 RX3 yX3_gives wsX3_gives) := goodIn_app (goodIn_of _ (by decide +kernel)) ggX3_take_X3_gives
set_option maxRecDepth 20000 in
theorem ggX3_take_X3_call : GoodIn wsX3_take wsX3_call := goodIn_r _ [62, 11, 63, 64, 25, 65, 66, 67, 68, 69, 4, 70, 71, 72, 73, 74, 75, 76, 77, 78, 79, 80, 81, 82, 83, 84, 16, 85, 86, 40, 41, 42, 43, 30, 31, 32, 33, 34, 35, 36, 37, 38, 39, 17, 18, 19, 20, 26, 27, 28, 29, 21, 22, 23, 24, 44, 45, 46, 47, 48, 49, 50, 51, 52, 53, 54, 55, 56, 57, 58, 87, 88, 89, 90, 91, 92, 93, 6, 94, 95, 96, 97, 98, 99, 100, 101, 102, 103, 104, 105, 106, 107, 108, 109, 110, 111, 112] (by decide +kernel) (by decide +kernel)
set_option maxRecDepth 20000 in
theorem gX3_take_X3_call : GoodIn wsX3_take (wsV RX3 160 RX3 yX3_call wsX3_call) := goodIn_app (goodIn_of _ (by decide +kernel)) ggX3_take_X3_call
theorem dX3_take_0 : decode cX3_take 0 = .ok (.aload_n 0, 1) := by decide +kernel
theorem dX3_take_1 : decode cX3_take 1 = .ok (.iload_n 1, 1) := by decide +kernel
theorem dX3_take_2 : decode cX3_take 2 = .ok (.invokevirtual 153, 3) := by decide +kernel
theorem dX3_take_5 : decode cX3_take 5 = .ok (.ifCond .eq 11, 3) := by decide +kernel
theorem dX3_take_8 : decode cX3_take 8 = .ok (.aload_n 0, 1) := by decide +kernel
theorem dX3_take_9 : decode cX3_take 9 = .ok (.iload_n 2, 1) := by decide +kernel
theorem dX3_take_10 : decode cX3_take 10 = .ok (.invokevirtual 153, 3) := by decide +kernel
