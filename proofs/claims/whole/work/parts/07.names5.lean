theorem dX3_take_13 : decode cX3_take 13 = .ok (.ifCond .ne 9, 3) := by decide +kernel
theorem dX3_take_16 : decode cX3_take 16 = .ok (.aload_n 0, 1) := by decide +kernel
theorem dX3_take_17 : decode cX3_take 17 = .ok (.iconst 1, 1) := by decide +kernel
theorem dX3_take_18 : decode cX3_take 18 = .ok (.invokevirtual 146, 3) := by decide +kernel
theorem dX3_take_21 : decode cX3_take 21 = .ok (.ireturn, 1) := by decide +kernel
theorem dX3_take_22 : decode cX3_take 22 = .ok (.iload_n 3, 1) := by decide +kernel
theorem dX3_take_23 : decode cX3_take 23 = .ok (.ifCond .lt 8, 3) := by decide +kernel
theorem dX3_take_26 : decode cX3_take 26 = .ok (.iload_n 3, 1) := by decide +kernel
theorem dX3_take_27 : decode cX3_take 27 = .ok (.iconst 3, 1) := by decide +kernel
theorem dX3_take_28 : decode cX3_take 28 = .ok (.if_icmp .le 9, 3) := by decide +kernel
theorem dX3_take_31 : decode cX3_take 31 = .ok (.aload_n 0, 1) := by decide +kernel
theorem dX3_take_32 : decode cX3_take 32 = .ok (.iconst 2, 1) := by decide +kernel
theorem dX3_take_33 : decode cX3_take 33 = .ok (.invokevirtual 146, 3) := by decide +kernel
theorem dX3_take_36 : decode cX3_take 36 = .ok (.ireturn, 1) := by decide +kernel
theorem dX3_take_37 : decode cX3_take 37 = .ok (.aload_n 0, 1) := by decide +kernel
theorem dX3_take_38 : decode cX3_take 38 = .ok (.iload_n 3, 1) := by decide +kernel
theorem dX3_take_39 : decode cX3_take 39 = .ok (.iload_n 2, 1) := by decide +kernel
theorem dX3_take_40 : decode cX3_take 40 = .ok (.iload_n 1, 1) := by decide +kernel
theorem dX3_take_41 : decode cX3_take 41 = .ok (.invokevirtual 156, 3) := by decide +kernel
theorem dX3_take_44 : decode cX3_take 44 = .ok (.istore 4, 2) := by decide +kernel
theorem dX3_take_46 : decode cX3_take 46 = .ok (.iload 4, 2) := by decide +kernel
theorem dX3_take_48 : decode cX3_take 48 = .ok (.ifCond .le 10, 3) := by decide +kernel
theorem dX3_take_51 : decode cX3_take 51 = .ok (.aload_n 0, 1) := by decide +kernel
theorem dX3_take_52 : decode cX3_take 52 = .ok (.iload 4, 2) := by decide +kernel
theorem dX3_take_54 : decode cX3_take 54 = .ok (.invokevirtual 146, 3) := by decide +kernel
theorem dX3_take_57 : decode cX3_take 57 = .ok (.ireturn, 1) := by decide +kernel
theorem dX3_take_58 : decode cX3_take 58 = .ok (.aload_n 0, 1) := by decide +kernel
theorem dX3_take_59 : decode cX3_take 59 = .ok (.iload_n 1, 1) := by decide +kernel
theorem dX3_take_60 : decode cX3_take 60 = .ok (.aload_n 0, 1) := by decide +kernel
theorem dX3_take_61 : decode cX3_take 61 = .ok (.iload_n 3, 1) := by decide +kernel
theorem dX3_take_62 : decode cX3_take 62 = .ok (.iload_n 2, 1) := by decide +kernel
theorem dX3_take_63 : decode cX3_take 63 = .ok (.iload_n 1, 1) := by decide +kernel
theorem dX3_take_64 : decode cX3_take 64 = .ok (.invokevirtual 129, 3) := by decide +kernel
theorem dX3_take_67 : decode cX3_take 67 = .ok (.invokevirtual 160, 3) := by decide +kernel
theorem dX3_take_70 : decode cX3_take 70 = .ok (.ireturn, 1) := by decide +kernel
set_option maxRecDepth 20000 in
theorem ggX3_back_X3_refused : GoodIn wsX3_back wsX3_refused := goodIn_r _ [10, 2, 11, 12, 13, 14, 15, 16, 17, 18, 19, 20, 21, 22, 23, 24, 25, 26, 27, 28, 29] (by decide +kernel) (by decide +kernel)
set_option maxRecDepth 20000 in
theorem gX3_back_X3_refused : GoodIn wsX3_back (wsV RX3 146 RX3 yX3_refused wsX3_refused) := goodIn_app (goodIn_of _ (by decide +kernel)) ggX3_back_X3_refused
theorem dX3_back_0 : decode cX3_back 0 = .ok (.aload_n 0, 1) := by decide +kernel
theorem dX3_back_1 : decode cX3_back 1 = .ok (.getfield 143, 3) := by decide +kernel
theorem dX3_back_4 : decode cX3_back 4 = .ok (.ifCond .ne 10, 3) := by decide +kernel
theorem dX3_back_7 : decode cX3_back 7 = .ok (.aload_n 0, 1) := by decide +kernel
theorem dX3_back_8 : decode cX3_back 8 = .ok (.bipush 7, 2) := by decide +kernel
theorem dX3_back_10 : decode cX3_back 10 = .ok (.invokevirtual 146, 3) := by decide +kernel
theorem dX3_back_13 : decode cX3_back 13 = .ok (.ireturn, 1) := by decide +kernel
theorem dX3_back_14 : decode cX3_back 14 = .ok (.aload_n 0, 1) := by decide +kernel
theorem dX3_back_15 : decode cX3_back 15 = .ok (.iconst 0, 1) := by decide +kernel
theorem dX3_back_16 : decode cX3_back 16 = .ok (.putfield 55, 3) := by decide +kernel
theorem dX3_back_19 : decode cX3_back 19 = .ok (.aload_n 0, 1) := by decide +kernel
theorem dX3_back_20 : decode cX3_back 20 = .ok (.dup, 1) := by decide +kernel
theorem dX3_back_21 : decode cX3_back 21 = .ok (.getfield 143, 3) := by decide +kernel
theorem dX3_back_24 : decode cX3_back 24 = .ok (.iconst 1, 1) := by decide +kernel
theorem dX3_back_25 : decode cX3_back 25 = .ok (.isub, 1) := by decide +kernel
theorem dX3_back_26 : decode cX3_back 26 = .ok (.putfield 143, 3) := by decide +kernel
theorem dX3_back_29 : decode cX3_back 29 = .ok (.iconst 0, 1) := by decide +kernel
theorem dX3_back_30 : decode cX3_back 30 = .ok (.istore_n 1, 1) := by decide +kernel
theorem dX3_back_31 : decode cX3_back 31 = .ok (.iconst 0, 1) := by decide +kernel
theorem dX3_back_32 : decode cX3_back 32 = .ok (.istore_n 2, 1) := by decide +kernel
theorem dX3_back_33 : decode cX3_back 33 = .ok (.iload_n 2, 1) := by decide +kernel
theorem dX3_back_34 : decode cX3_back 34 = .ok (.aload_n 0, 1) := by decide +kernel
theorem dX3_back_35 : decode cX3_back 35 = .ok (.getfield 42, 3) := by decide +kernel
theorem dX3_back_38 : decode cX3_back 38 = .ok (.aload_n 0, 1) := by decide +kernel
theorem dX3_back_39 : decode cX3_back 39 = .ok (.getfield 143, 3) := by decide +kernel
theorem dX3_back_42 : decode cX3_back 42 = .ok (.iaload, 1) := by decide +kernel
theorem dX3_back_43 : decode cX3_back 43 = .ok (.if_icmp .ge 50, 3) := by decide +kernel
theorem dX3_back_46 : decode cX3_back 46 = .ok (.aload_n 0, 1) := by decide +kernel
theorem dX3_back_47 : decode cX3_back 47 = .ok (.getfield 36, 3) := by decide +kernel
theorem dX3_back_50 : decode cX3_back 50 = .ok (.bipush 16, 2) := by decide +kernel
theorem dX3_back_52 : decode cX3_back 52 = .ok (.aload_n 0, 1) := by decide +kernel
theorem dX3_back_53 : decode cX3_back 53 = .ok (.getfield 143, 3) := by decide +kernel
theorem dX3_back_56 : decode cX3_back 56 = .ok (.imul, 1) := by decide +kernel
theorem dX3_back_57 : decode cX3_back 57 = .ok (.iload_n 2, 1) := by decide +kernel
theorem dX3_back_58 : decode cX3_back 58 = .ok (.iadd, 1) := by decide +kernel
theorem dX3_back_59 : decode cX3_back 59 = .ok (.laload, 1) := by decide +kernel
theorem dX3_back_60 : decode cX3_back 60 = .ok (.lstore_n 3, 1) := by decide +kernel
theorem dX3_back_61 : decode cX3_back 61 = .ok (.iload_n 1, 1) := by decide +kernel
theorem dX3_back_62 : decode cX3_back 62 = .ok (.lload_n 3, 1) := by decide +kernel
theorem dX3_back_63 : decode cX3_back 63 = .ok (.aload_n 0, 1) := by decide +kernel
theorem dX3_back_64 : decode cX3_back 64 = .ok (.getfield 13, 3) := by decide +kernel
theorem dX3_back_67 : decode cX3_back 67 = .ok (.iload_n 2, 1) := by decide +kernel
theorem dX3_back_68 : decode cX3_back 68 = .ok (.laload, 1) := by decide +kernel
theorem dX3_back_69 : decode cX3_back 69 = .ok (.lcmp, 1) := by decide +kernel
theorem dX3_back_70 : decode cX3_back 70 = .ok (.ifCond .eq 7, 3) := by decide +kernel
theorem dX3_back_73 : decode cX3_back 73 = .ok (.iconst 1, 1) := by decide +kernel
theorem dX3_back_74 : decode cX3_back 74 = .ok (.goto 4, 3) := by decide +kernel
theorem dX3_back_77 : decode cX3_back 77 = .ok (.iconst 0, 1) := by decide +kernel
theorem dX3_back_78 : decode cX3_back 78 = .ok (.iadd, 1) := by decide +kernel
theorem dX3_back_79 : decode cX3_back 79 = .ok (.istore_n 1, 1) := by decide +kernel
theorem dX3_back_80 : decode cX3_back 80 = .ok (.aload_n 0, 1) := by decide +kernel
theorem dX3_back_81 : decode cX3_back 81 = .ok (.getfield 13, 3) := by decide +kernel
theorem dX3_back_84 : decode cX3_back 84 = .ok (.iload_n 2, 1) := by decide +kernel
theorem dX3_back_85 : decode cX3_back 85 = .ok (.lload_n 3, 1) := by decide +kernel
theorem dX3_back_86 : decode cX3_back 86 = .ok (.lastore, 1) := by decide +kernel
theorem dX3_back_87 : decode cX3_back 87 = .ok (.iinc 2 1, 3) := by decide +kernel
theorem dX3_back_90 : decode cX3_back 90 = .ok (.goto (-57), 3) := by decide +kernel
theorem dX3_back_93 : decode cX3_back 93 = .ok (.iload_n 1, 1) := by decide +kernel
theorem dX3_back_94 : decode cX3_back 94 = .ok (.ireturn, 1) := by decide +kernel
set_option maxRecDepth 20000 in
theorem ggX3_order_X3_isDial : GoodIn wsX3_order wsX3_isDial := goodIn_r _ [8, 9, 24, 25, 26, 27, 28, 29, 30, 31, 32, 33, 34, 35, 36, 37, 38, 39, 40, 41, 42] (by decide +kernel) (by decide +kernel)
set_option maxRecDepth 20000 in
theorem gX3_order_X3_isDial : GoodIn wsX3_order (wsV RX3 153 RX3 yX3_isDial wsX3_isDial) := goodIn_app (goodIn_of _ (by decide +kernel)) ggX3_order_X3_isDial
set_option maxRecDepth 20000 in
theorem ggX3_order_X3_isAbove : GoodIn wsX3_order wsX3_isAbove := goodIn_r _ [13, 14, 15, 16, 7, 17, 18, 19, 20, 21, 22, 23] (by decide +kernel) (by decide +kernel)
set_option maxRecDepth 20000 in
theorem gX3_order_X3_isAbove : GoodIn wsX3_order (wsV RX3 80 RX3 yX3_isAbove wsX3_isAbove) := goodIn_app (goodIn_of _ (by decide +kernel)) ggX3_order_X3_isAbove
theorem dX3_order_0 : decode cX3_order 0 = .ok (.aload_n 0, 1) := by decide +kernel
theorem dX3_order_1 : decode cX3_order 1 = .ok (.aload_n 0, 1) := by decide +kernel
theorem dX3_order_2 : decode cX3_order 2 = .ok (.iload_n 1, 1) := by decide +kernel
theorem dX3_order_3 : decode cX3_order 3 = .ok (.invokevirtual 153, 3) := by decide +kernel
theorem dX3_order_6 : decode cX3_order 6 = .ok (.ifCond .eq 11, 3) := by decide +kernel
theorem dX3_order_9 : decode cX3_order 9 = .ok (.aload_n 0, 1) := by decide +kernel
theorem dX3_order_10 : decode cX3_order 10 = .ok (.iload_n 2, 1) := by decide +kernel
theorem dX3_order_11 : decode cX3_order 11 = .ok (.invokevirtual 153, 3) := by decide +kernel
theorem dX3_order_14 : decode cX3_order 14 = .ok (.ifCond .ne 7, 3) := by decide +kernel
theorem dX3_order_17 : decode cX3_order 17 = .ok (.iconst 1, 1) := by decide +kernel
theorem dX3_order_18 : decode cX3_order 18 = .ok (.goto 24, 3) := by decide +kernel
theorem dX3_order_21 : decode cX3_order 21 = .ok (.aload_n 0, 1) := by decide +kernel
theorem dX3_order_22 : decode cX3_order 22 = .ok (.getfield 7, 3) := by decide +kernel
theorem dX3_order_25 : decode cX3_order 25 = .ok (.iload_n 1, 1) := by decide +kernel
theorem dX3_order_26 : decode cX3_order 26 = .ok (.iaload, 1) := by decide +kernel
theorem dX3_order_27 : decode cX3_order 27 = .ok (.aload_n 0, 1) := by decide +kernel
theorem dX3_order_28 : decode cX3_order 28 = .ok (.getfield 7, 3) := by decide +kernel
theorem dX3_order_31 : decode cX3_order 31 = .ok (.iload_n 2, 1) := by decide +kernel
theorem dX3_order_32 : decode cX3_order 32 = .ok (.iaload, 1) := by decide +kernel
theorem dX3_order_33 : decode cX3_order 33 = .ok (.if_icmp .eq 8, 3) := by decide +kernel
theorem dX3_order_36 : decode cX3_order 36 = .ok (.bipush 6, 2) := by decide +kernel
theorem dX3_order_38 : decode cX3_order 38 = .ok (.goto 4, 3) := by decide +kernel
theorem dX3_order_41 : decode cX3_order 41 = .ok (.iconst 0, 1) := by decide +kernel
theorem dX3_order_42 : decode cX3_order 42 = .ok (.putfield 55, 3) := by decide +kernel
theorem dX3_order_45 : decode cX3_order 45 = .ok (.aload_n 0, 1) := by decide +kernel
theorem dX3_order_46 : decode cX3_order 46 = .ok (.getfield 55, 3) := by decide +kernel
theorem dX3_order_49 : decode cX3_order 49 = .ok (.ifCond .le 6, 3) := by decide +kernel
theorem dX3_order_52 : decode cX3_order 52 = .ok (.bipush (-2), 2) := by decide +kernel
theorem dX3_order_54 : decode cX3_order 54 = .ok (.ireturn, 1) := by decide +kernel
theorem dX3_order_55 : decode cX3_order 55 = .ok (.aload_n 0, 1) := by decide +kernel
theorem dX3_order_56 : decode cX3_order 56 = .ok (.aload_n 0, 1) := by decide +kernel
theorem dX3_order_57 : decode cX3_order 57 = .ok (.getfield 7, 3) := by decide +kernel
theorem dX3_order_60 : decode cX3_order 60 = .ok (.iload_n 1, 1) := by decide +kernel
theorem dX3_order_61 : decode cX3_order 61 = .ok (.iaload, 1) := by decide +kernel
theorem dX3_order_62 : decode cX3_order 62 = .ok (.aload_n 0, 1) := by decide +kernel
theorem dX3_order_63 : decode cX3_order 63 = .ok (.getfield 13, 3) := by decide +kernel
theorem dX3_order_66 : decode cX3_order 66 = .ok (.iload_n 1, 1) := by decide +kernel
theorem dX3_order_67 : decode cX3_order 67 = .ok (.laload, 1) := by decide +kernel
theorem dX3_order_68 : decode cX3_order 68 = .ok (.aload_n 0, 1) := by decide +kernel
theorem dX3_order_69 : decode cX3_order 69 = .ok (.getfield 13, 3) := by decide +kernel
theorem dX3_order_72 : decode cX3_order 72 = .ok (.iload_n 2, 1) := by decide +kernel
theorem dX3_order_73 : decode cX3_order 73 = .ok (.laload, 1) := by decide +kernel
theorem dX3_order_74 : decode cX3_order 74 = .ok (.invokevirtual 80, 3) := by decide +kernel
theorem dX3_order_77 : decode cX3_order 77 = .ok (.ifCond .eq 5, 3) := by decide +kernel
theorem dX3_order_80 : decode cX3_order 80 = .ok (.iconst 1, 1) := by decide +kernel
theorem dX3_order_81 : decode cX3_order 81 = .ok (.ireturn, 1) := by decide +kernel
theorem dX3_order_82 : decode cX3_order 82 = .ok (.aload_n 0, 1) := by decide +kernel
theorem dX3_order_83 : decode cX3_order 83 = .ok (.aload_n 0, 1) := by decide +kernel
theorem dX3_order_84 : decode cX3_order 84 = .ok (.getfield 7, 3) := by decide +kernel
theorem dX3_order_87 : decode cX3_order 87 = .ok (.iload_n 1, 1) := by decide +kernel
theorem dX3_order_88 : decode cX3_order 88 = .ok (.iaload, 1) := by decide +kernel
theorem dX3_order_89 : decode cX3_order 89 = .ok (.aload_n 0, 1) := by decide +kernel
theorem dX3_order_90 : decode cX3_order 90 = .ok (.getfield 13, 3) := by decide +kernel
theorem dX3_order_93 : decode cX3_order 93 = .ok (.iload_n 2, 1) := by decide +kernel
theorem dX3_order_94 : decode cX3_order 94 = .ok (.laload, 1) := by decide +kernel
theorem dX3_order_95 : decode cX3_order 95 = .ok (.aload_n 0, 1) := by decide +kernel
theorem dX3_order_96 : decode cX3_order 96 = .ok (.getfield 13, 3) := by decide +kernel
theorem dX3_order_99 : decode cX3_order 99 = .ok (.iload_n 1, 1) := by decide +kernel
theorem dX3_order_100 : decode cX3_order 100 = .ok (.laload, 1) := by decide +kernel
theorem dX3_order_101 : decode cX3_order 101 = .ok (.invokevirtual 80, 3) := by decide +kernel
theorem dX3_order_104 : decode cX3_order 104 = .ok (.ifCond .eq 7, 3) := by decide +kernel
theorem dX3_order_107 : decode cX3_order 107 = .ok (.iconst (-1), 1) := by decide +kernel
theorem dX3_order_108 : decode cX3_order 108 = .ok (.goto 4, 3) := by decide +kernel
theorem dX3_order_111 : decode cX3_order 111 = .ok (.iconst 0, 1) := by decide +kernel
theorem dX3_order_112 : decode cX3_order 112 = .ok (.ireturn, 1) := by decide +kernel
set_option maxRecDepth 20000 in
theorem ggX3_look_X3_isDial : GoodIn wsX3_look wsX3_isDial := goodIn_r _ [9, 10, 11, 12, 13, 14, 15, 16, 17, 18, 19, 20, 21, 22, 23, 24, 25, 26, 27, 28, 29] (by decide +kernel) (by decide +kernel)
set_option maxRecDepth 20000 in
theorem gX3_look_X3_isDial : GoodIn wsX3_look (wsV RX3 153 RX3 yX3_isDial wsX3_isDial) := goodIn_app (goodIn_of _ (by decide +kernel)) ggX3_look_X3_isDial
theorem dX3_look_0 : decode cX3_look 0 = .ok (.aload_n 0, 1) := by decide +kernel
theorem dX3_look_1 : decode cX3_look 1 = .ok (.iload_n 1, 1) := by decide +kernel
theorem dX3_look_2 : decode cX3_look 2 = .ok (.invokevirtual 153, 3) := by decide +kernel
theorem dX3_look_5 : decode cX3_look 5 = .ok (.ifCond .ne 5, 3) := by decide +kernel
theorem dX3_look_8 : decode cX3_look 8 = .ok (.lconst 0, 1) := by decide +kernel
theorem dX3_look_9 : decode cX3_look 9 = .ok (.lreturn, 1) := by decide +kernel
theorem dX3_look_10 : decode cX3_look 10 = .ok (.iload_n 2, 1) := by decide +kernel
theorem dX3_look_11 : decode cX3_look 11 = .ok (.ifCond .ne 12, 3) := by decide +kernel
theorem dX3_look_14 : decode cX3_look 14 = .ok (.aload_n 0, 1) := by decide +kernel
theorem dX3_look_15 : decode cX3_look 15 = .ok (.getfield 13, 3) := by decide +kernel
theorem dX3_look_18 : decode cX3_look 18 = .ok (.iload_n 1, 1) := by decide +kernel
theorem dX3_look_19 : decode cX3_look 19 = .ok (.laload, 1) := by decide +kernel
theorem dX3_look_20 : decode cX3_look 20 = .ok (.goto 47, 3) := by decide +kernel
theorem dX3_look_23 : decode cX3_look 23 = .ok (.iload_n 2, 1) := by decide +kernel
theorem dX3_look_24 : decode cX3_look 24 = .ok (.iconst 1, 1) := by decide +kernel
theorem dX3_look_25 : decode cX3_look 25 = .ok (.if_icmp .ne 12, 3) := by decide +kernel
theorem dX3_look_28 : decode cX3_look 28 = .ok (.aload_n 0, 1) := by decide +kernel
theorem dX3_look_29 : decode cX3_look 29 = .ok (.getfield 17, 3) := by decide +kernel
theorem dX3_look_32 : decode cX3_look 32 = .ok (.iload_n 1, 1) := by decide +kernel
theorem dX3_look_33 : decode cX3_look 33 = .ok (.laload, 1) := by decide +kernel
theorem dX3_look_34 : decode cX3_look 34 = .ok (.goto 33, 3) := by decide +kernel
theorem dX3_look_37 : decode cX3_look 37 = .ok (.iload_n 2, 1) := by decide +kernel
theorem dX3_look_38 : decode cX3_look 38 = .ok (.iconst 2, 1) := by decide +kernel
theorem dX3_look_39 : decode cX3_look 39 = .ok (.if_icmp .ne 12, 3) := by decide +kernel
theorem dX3_look_42 : decode cX3_look 42 = .ok (.aload_n 0, 1) := by decide +kernel
theorem dX3_look_43 : decode cX3_look 43 = .ok (.getfield 20, 3) := by decide +kernel
theorem dX3_look_46 : decode cX3_look 46 = .ok (.iload_n 1, 1) := by decide +kernel
theorem dX3_look_47 : decode cX3_look 47 = .ok (.laload, 1) := by decide +kernel
theorem dX3_look_48 : decode cX3_look 48 = .ok (.goto 19, 3) := by decide +kernel
theorem dX3_look_51 : decode cX3_look 51 = .ok (.iload_n 2, 1) := by decide +kernel
theorem dX3_look_52 : decode cX3_look 52 = .ok (.iconst 3, 1) := by decide +kernel
theorem dX3_look_53 : decode cX3_look 53 = .ok (.if_icmp .ne 13, 3) := by decide +kernel
theorem dX3_look_56 : decode cX3_look 56 = .ok (.aload_n 0, 1) := by decide +kernel
theorem dX3_look_57 : decode cX3_look 57 = .ok (.getfield 7, 3) := by decide +kernel
theorem dX3_look_60 : decode cX3_look 60 = .ok (.iload_n 1, 1) := by decide +kernel
theorem dX3_look_61 : decode cX3_look 61 = .ok (.iaload, 1) := by decide +kernel
theorem dX3_look_62 : decode cX3_look 62 = .ok (.i2l, 1) := by decide +kernel
theorem dX3_look_63 : decode cX3_look 63 = .ok (.goto 4, 3) := by decide +kernel
theorem dX3_look_66 : decode cX3_look 66 = .ok (.lconst 0, 1) := by decide +kernel
theorem dX3_look_67 : decode cX3_look 67 = .ok (.lreturn, 1) := by decide +kernel
theorem dX3_count_0 : decode cX3_count 0 = .ok (.iload_n 1, 1) := by decide +kernel
theorem dX3_count_1 : decode cX3_count 1 = .ok (.ifCond .ne 10, 3) := by decide +kernel
theorem dX3_count_4 : decode cX3_count 4 = .ok (.aload_n 0, 1) := by decide +kernel
theorem dX3_count_5 : decode cX3_count 5 = .ok (.getfield 51, 3) := by decide +kernel
theorem dX3_count_8 : decode cX3_count 8 = .ok (.goto 52, 3) := by decide +kernel
theorem dX3_count_11 : decode cX3_count 11 = .ok (.iload_n 1, 1) := by decide +kernel
theorem dX3_count_12 : decode cX3_count 12 = .ok (.iconst 1, 1) := by decide +kernel
theorem dX3_count_13 : decode cX3_count 13 = .ok (.if_icmp .ne 10, 3) := by decide +kernel
theorem dX3_count_16 : decode cX3_count 16 = .ok (.aload_n 0, 1) := by decide +kernel
theorem dX3_count_17 : decode cX3_count 17 = .ok (.getfield 126, 3) := by decide +kernel
theorem dX3_count_20 : decode cX3_count 20 = .ok (.goto 40, 3) := by decide +kernel
theorem dX3_count_23 : decode cX3_count 23 = .ok (.iload_n 1, 1) := by decide +kernel
theorem dX3_count_24 : decode cX3_count 24 = .ok (.iconst 2, 1) := by decide +kernel
theorem dX3_count_25 : decode cX3_count 25 = .ok (.if_icmp .ne 10, 3) := by decide +kernel
theorem dX3_count_28 : decode cX3_count 28 = .ok (.aload_n 0, 1) := by decide +kernel
theorem dX3_count_29 : decode cX3_count 29 = .ok (.getfield 143, 3) := by decide +kernel
theorem dX3_count_32 : decode cX3_count 32 = .ok (.goto 28, 3) := by decide +kernel
theorem dX3_count_35 : decode cX3_count 35 = .ok (.iload_n 1, 1) := by decide +kernel
theorem dX3_count_36 : decode cX3_count 36 = .ok (.iconst 3, 1) := by decide +kernel
theorem dX3_count_37 : decode cX3_count 37 = .ok (.if_icmp .ne 10, 3) := by decide +kernel
theorem dX3_count_40 : decode cX3_count 40 = .ok (.aload_n 0, 1) := by decide +kernel
theorem dX3_count_41 : decode cX3_count 41 = .ok (.getfield 137, 3) := by decide +kernel
theorem dX3_count_44 : decode cX3_count 44 = .ok (.goto 16, 3) := by decide +kernel
theorem dX3_count_47 : decode cX3_count 47 = .ok (.iload_n 1, 1) := by decide +kernel
theorem dX3_count_48 : decode cX3_count 48 = .ok (.iconst 4, 1) := by decide +kernel
theorem dX3_count_49 : decode cX3_count 49 = .ok (.if_icmp .ne 10, 3) := by decide +kernel
theorem dX3_count_52 : decode cX3_count 52 = .ok (.aload_n 0, 1) := by decide +kernel
theorem dX3_count_53 : decode cX3_count 53 = .ok (.getfield 55, 3) := by decide +kernel
theorem dX3_count_56 : decode cX3_count 56 = .ok (.goto 4, 3) := by decide +kernel
theorem dX3_count_59 : decode cX3_count 59 = .ok (.iconst (-1), 1) := by decide +kernel
theorem dX3_count_60 : decode cX3_count 60 = .ok (.ireturn, 1) := by decide +kernel
theorem dJ9_abs_0f7a4_0 : decode cJ9_abs_0f7a4 0 = .ok (.iload_n 0, 1) := by decide +kernel
theorem dJ9_abs_0f7a4_1 : decode cJ9_abs_0f7a4 1 = .ok (.ifCond .ge 8, 3) := by decide +kernel
theorem dJ9_abs_0f7a4_4 : decode cJ9_abs_0f7a4 4 = .ok (.iload_n 0, 1) := by decide +kernel
theorem dJ9_abs_0f7a4_5 : decode cJ9_abs_0f7a4 5 = .ok (.ineg, 1) := by decide +kernel
theorem dJ9_abs_0f7a4_6 : decode cJ9_abs_0f7a4 6 = .ok (.goto 4, 3) := by decide +kernel
theorem dJ9_abs_0f7a4_9 : decode cJ9_abs_0f7a4 9 = .ok (.iload_n 0, 1) := by decide +kernel
theorem dJ9_abs_0f7a4_10 : decode cJ9_abs_0f7a4 10 = .ok (.ireturn, 1) := by decide +kernel
theorem dJ9_abs_067f4_0 : decode cJ9_abs_067f4 0 = .ok (.lload_n 0, 1) := by decide +kernel
theorem dJ9_abs_067f4_1 : decode cJ9_abs_067f4 1 = .ok (.lconst 0, 1) := by decide +kernel
theorem dJ9_abs_067f4_2 : decode cJ9_abs_067f4 2 = .ok (.lcmp, 1) := by decide +kernel
theorem dJ9_abs_067f4_3 : decode cJ9_abs_067f4 3 = .ok (.ifCond .ge 8, 3) := by decide +kernel
theorem dJ9_abs_067f4_6 : decode cJ9_abs_067f4 6 = .ok (.lload_n 0, 1) := by decide +kernel
theorem dJ9_abs_067f4_7 : decode cJ9_abs_067f4 7 = .ok (.lneg, 1) := by decide +kernel
theorem dJ9_abs_067f4_8 : decode cJ9_abs_067f4 8 = .ok (.goto 4, 3) := by decide +kernel
theorem dJ9_abs_067f4_11 : decode cJ9_abs_067f4 11 = .ok (.lload_n 0, 1) := by decide +kernel
theorem dJ9_abs_067f4_12 : decode cJ9_abs_067f4 12 = .ok (.lreturn, 1) := by decide +kernel
set_option maxRecDepth 20000 in
theorem ggL_law_X2_init : GoodIn wsL_law wsX2_init := goodIn_r _ [9, 10, 11, 12, 13, 14, 15, 16, 17, 18, 19, 20, 21, 22, 23, 24, 25, 26, 27, 28, 29, 30, 31, 32, 33, 366, 367, 368, 369, 370, 371, 372, 373, 374, 375, 376, 377, 378, 379, 399, 400, 401, 402] (by decide +kernel) (by decide +kernel)
set_option maxRecDepth 20000 in
theorem gL_law_X2_init : GoodIn wsL_law (wsX2_init) := ggL_law_X2_init
set_option maxRecDepth 20000 in
theorem ggL_law_X3_init : GoodIn wsL_law wsX3_init := goodIn_r _ [36, 37, 11, 12, 13, 38, 15, 39, 40, 41, 42, 43, 44, 22, 45, 46, 47, 48, 49, 50, 380, 381, 382, 383, 384, 385, 386, 387, 388, 389, 390, 391, 392, 393, 394, 395, 396, 397, 398] (by decide +kernel) (by decide +kernel)
set_option maxRecDepth 20000 in
theorem gL_law_X3_init : GoodIn wsL_law (wsX3_init) := ggL_law_X3_init
set_option maxRecDepth 20000 in
theorem ggL_law_X2_dial : GoodIn wsL_law wsX2_dial := goodIn_r _ [54, 55, 56, 14, 16, 17, 18, 57, 58, 59, 2, 60, 61, 62, 63, 64, 65, 66, 67, 68, 69, 70, 71, 72, 73, 74, 75, 76, 77, 78, 79, 80, 81, 82, 83, 84, 85, 86, 87, 88, 89, 90, 366, 367, 368, 369, 370, 371, 372, 373, 374, 375, 376, 377, 378, 379] (by decide +kernel) (by decide +kernel)
set_option maxRecDepth 20000 in
theorem gL_law_X2_dial : GoodIn wsL_law (wsV RL 15 RX2 yX2_dial wsX2_dial) := goodIn_app (goodIn_of _ (by decide +kernel)) ggL_law_X2_dial
set_option maxRecDepth 20000 in
theorem ggL_law_X3_dial : GoodIn wsL_law wsX3_dial := goodIn_r _ [94, 95, 96, 38, 40, 41, 39, 97, 98, 99, 5, 100, 101, 102, 103, 104, 105, 106, 107, 108, 109, 110, 111, 112, 113, 114, 115, 116, 117, 118, 119, 120, 121, 122, 123, 124, 125, 126, 127, 128, 129, 130, 131, 132, 133, 134, 135, 136, 137, 380, 381, 382, 383, 384, 385, 386, 387, 388, 389, 390, 391, 392, 393, 394, 395, 396, 397, 398] (by decide +kernel) (by decide +kernel)
set_option maxRecDepth 20000 in
theorem gL_law_X3_dial : GoodIn wsL_law (wsV RL 19 RX3 yX3_dial wsX3_dial) := goodIn_app (goodIn_of _ (by decide +kernel)) ggL_law_X3_dial
set_option maxRecDepth 20000 in
theorem ggL_law_X2_rod : GoodIn wsL_law wsX2_rod := goodIn_r _ [141, 55, 142, 19, 20, 21, 143, 144, 145, 2, 146, 147, 148, 149, 150, 151, 152, 153, 56, 154, 155, 156, 157, 14, 158, 76, 63, 77, 366, 367, 368, 369, 370, 371, 372, 373, 374, 375, 376, 377, 378, 379] (by decide +kernel) (by decide +kernel)
set_option maxRecDepth 20000 in
theorem gL_law_X2_rod : GoodIn wsL_law (wsV RL 20 RX2 yX2_rod wsX2_rod) := goodIn_app (goodIn_of _ (by decide +kernel)) ggL_law_X2_rod
set_option maxRecDepth 20000 in
theorem ggL_law_X3_rod : GoodIn wsL_law wsX3_rod := goodIn_r _ [162, 163, 96, 42, 43, 44, 97, 98, 99, 5, 100, 164, 165, 166, 167, 95, 168, 169, 170, 171, 38, 122, 123, 124, 125, 380, 381, 382, 383, 384, 385, 386, 387, 388, 389, 390, 391, 392, 393, 394, 395, 396, 397, 398] (by decide +kernel) (by decide +kernel)
set_option maxRecDepth 20000 in
theorem gL_law_X3_rod : GoodIn wsL_law (wsV RL 24 RX3 yX3_rod wsX3_rod) := goodIn_app (goodIn_of _ (by decide +kernel)) ggL_law_X3_rod
set_option maxRecDepth 20000 in
theorem ggL_law_X2_set : GoodIn wsL_law wsX2_set := goodIn_r _ [175, 55, 176, 177, 178, 2, 179, 14, 150, 151, 152, 153, 56, 61, 62, 63, 64, 65, 66, 67, 68, 180, 181, 182, 183, 142, 23, 184, 185, 186, 187, 188, 16, 17, 18, 20, 21, 19, 81, 82, 83, 84, 85, 86, 87, 70, 71, 72, 73, 74, 75, 76, 77, 78, 79, 80, 88, 89, 90, 189, 190, 191, 192, 27, 193, 194, 195, 196, 26, 197, 198, 199, 33, 32, 200, 201, 202, 203, 204, 205, 206, 207, 208, 209, 210, 211, 212, 213, 214, 215, 216, 217, 218, 219, 220, 221, 222, 223, 366, 367, 368, 369, 370, 371, 372, 373, 374, 375, 376, 377, 378, 379, 399, 400, 401, 402] (by decide +kernel) (by decide +kernel)
set_option maxRecDepth 20000 in
theorem gL_law_X2_set : GoodIn wsL_law (wsV RL 25 RX2 yX2_set wsX2_set) := goodIn_app (goodIn_of _ (by decide +kernel)) ggL_law_X2_set
set_option maxRecDepth 20000 in
theorem ggL_law_X3_set : GoodIn wsL_law wsX3_set := goodIn_r _ [227, 38, 164, 165, 166, 5, 167, 95, 97, 98, 99, 100, 96, 101, 102, 103, 104, 105, 106, 107, 108, 109, 110, 111, 112, 113, 228, 229, 230, 231, 232, 47, 39, 45, 233, 234, 235, 236, 237, 49, 50, 163, 43, 44, 42, 238, 239, 240, 241, 126, 127, 128, 129, 40, 41, 130, 131, 132, 133, 114, 115, 116, 117, 118, 119, 120, 121, 122, 123, 124, 125, 134, 135, 136, 137, 242, 243, 244, 245, 246, 247, 248, 249, 250, 251, 252, 253, 254, 255, 256, 257, 258, 259, 260, 261, 262, 263, 264, 46, 48, 380, 381, 382, 383, 384, 385, 386, 387, 388, 389, 390, 391, 392, 393, 394, 395, 396, 397, 398] (by decide +kernel) (by decide +kernel)
set_option maxRecDepth 20000 in
theorem gL_law_X3_set : GoodIn wsL_law (wsV RL 29 RX3 yX3_set wsX3_set) := goodIn_app (goodIn_of _ (by decide +kernel)) ggL_law_X3_set
set_option maxRecDepth 20000 in
theorem ggL_law_X2_turn : GoodIn wsL_law wsX2_turn := goodIn_r _ [268, 55, 14, 18, 269, 270, 271, 2, 272, 150, 151, 152, 153, 56, 158, 76, 63, 77, 273, 274, 275, 276, 215, 216, 217, 218, 219, 220, 221, 222, 223, 78, 79, 80, 65, 67, 277, 278, 279, 280, 281, 282, 283, 284, 285, 211, 212, 213, 286, 287, 288, 289, 290, 291, 180, 181, 182, 183, 142, 23, 184, 185, 186, 187, 188, 16, 17, 20, 21, 19, 81, 82, 83, 84, 85, 86, 87, 70, 71, 72, 73, 74, 75, 88, 89, 90, 189, 190, 191, 192, 27, 193, 194, 195, 196, 26, 197, 198, 199, 33, 32, 200, 201, 202, 203, 204, 205, 206, 207, 208, 209, 210, 214, 366, 367, 368, 369, 370, 371, 372, 373, 374, 375, 376, 377, 378, 379, 399, 400, 401, 402] (by decide +kernel) (by decide +kernel)
set_option maxRecDepth 20000 in
theorem gL_law_X2_turn : GoodIn wsL_law (wsV RL 30 RX2 yX2_turn wsX2_turn) := goodIn_app (goodIn_of _ (by decide +kernel)) ggL_law_X2_turn
set_option maxRecDepth 20000 in
theorem ggL_law_X3_turn : GoodIn wsL_law wsX3_turn := goodIn_r _ [295, 38, 39, 164, 165, 166, 5, 167, 95, 97, 98, 99, 100, 96, 122, 123, 124, 125, 296, 297, 298, 299, 256, 257, 258, 259, 113, 255, 246, 247, 248, 249, 107, 105, 300, 301, 302, 303, 304, 305, 306, 307, 308, 309, 250, 251, 252, 253, 254, 228, 229, 230, 231, 232, 47, 45, 233, 234, 235, 236, 237, 49, 50, 163, 43, 44, 42, 238, 239, 240, 241, 126, 127, 128, 129, 40, 41, 130, 131, 132, 133, 114, 115, 116, 117, 118, 119, 120, 121, 134, 135, 136, 137, 242, 243, 244, 245, 260, 261, 262, 263, 264, 46, 48, 380, 381, 382, 383, 384, 385, 386, 387, 388, 389, 390, 391, 392, 393, 394, 395, 396, 397, 398] (by decide +kernel) (by decide +kernel)
set_option maxRecDepth 20000 in
theorem gL_law_X3_turn : GoodIn wsL_law (wsV RL 34 RX3 yX3_turn wsX3_turn) := goodIn_app (goodIn_of _ (by decide +kernel)) ggL_law_X3_turn
set_option maxRecDepth 20000 in
theorem ggL_law_X2_take : GoodIn wsL_law wsX2_take := goodIn_r _ [313, 55, 314, 315, 316, 2, 317, 150, 151, 152, 153, 56, 147, 148, 149, 154, 155, 156, 157, 14, 158, 76, 63, 77, 204, 205, 206, 207, 18, 208, 89, 90, 87, 70, 71, 72, 73, 74, 75, 78, 79, 80, 65, 67, 209, 85, 86, 210, 211, 212, 213, 214, 215, 216, 217, 218, 219, 220, 221, 222, 223, 180, 181, 182, 183, 142, 23, 184, 185, 186, 187, 188, 16, 17, 20, 21, 19, 81, 82, 83, 84, 88, 189, 190, 191, 192, 27, 193, 194, 195, 196, 26, 197, 198, 199, 33, 32, 200, 201, 202, 203, 366, 367, 368, 369, 370, 371, 372, 373, 374, 375, 376, 377, 378, 379, 399, 400, 401, 402] (by decide +kernel) (by decide +kernel)
set_option maxRecDepth 20000 in
theorem gL_law_X2_take : GoodIn wsL_law (wsV RL 35 RX2 yX2_take wsX2_take) := goodIn_app (goodIn_of _ (by decide +kernel)) ggL_law_X2_take
set_option maxRecDepth 20000 in
theorem ggL_law_X3_take : GoodIn wsL_law wsX3_take := goodIn_r _ [321, 164, 165, 166, 5, 167, 95, 97, 98, 99, 100, 96, 168, 169, 170, 171, 38, 122, 123, 124, 125, 242, 243, 244, 245, 39, 134, 135, 136, 137, 114, 115, 116, 117, 118, 119, 120, 121, 107, 105, 130, 131, 132, 133, 246, 247, 248, 249, 250, 251, 252, 253, 254, 255, 256, 257, 258, 259, 113, 228, 229, 230, 231, 232, 47, 45, 233, 234, 235, 236, 237, 49, 50, 163, 43, 44, 42, 238, 239, 240, 241, 126, 127, 128, 129, 40, 41, 260, 261, 262, 263, 264, 46, 48, 380, 381, 382, 383, 384, 385, 386, 387, 388, 389, 390, 391, 392, 393, 394, 395, 396, 397, 398] (by decide +kernel) (by decide +kernel)
set_option maxRecDepth 20000 in
theorem gL_law_X3_take : GoodIn wsL_law (wsV RL 38 RX3 yX3_take wsX3_take) := goodIn_app (goodIn_of _ (by decide +kernel)) ggL_law_X3_take
set_option maxRecDepth 20000 in
theorem ggL_law_X2_back : GoodIn wsL_law wsX2_back := goodIn_r _ [325, 27, 55, 18, 326, 327, 328, 26, 329, 198, 330, 331, 332, 333, 199, 33, 32, 366, 367, 368, 369, 370, 371, 372, 373, 374, 375, 376, 377, 378, 379, 399, 400, 401, 402] (by decide +kernel) (by decide +kernel)
set_option maxRecDepth 20000 in
theorem gL_law_X2_back : GoodIn wsL_law (wsV RL 39 RX2 yX2_back wsX2_back) := goodIn_app (goodIn_of _ (by decide +kernel)) ggL_law_X2_back
set_option maxRecDepth 20000 in
theorem ggL_law_X3_back : GoodIn wsL_law wsX3_back := goodIn_r _ [337, 264, 96, 48, 46, 39, 97, 98, 99, 5, 100, 380, 381, 382, 383, 384, 385, 386, 387, 388, 389, 390, 391, 392, 393, 394, 395, 396, 397, 398] (by decide +kernel) (by decide +kernel)
set_option maxRecDepth 20000 in
theorem gL_law_X3_back : GoodIn wsL_law (wsV RL 43 RX3 yX3_back wsX3_back) := goodIn_app (goodIn_of _ (by decide +kernel)) ggL_law_X3_back
set_option maxRecDepth 20000 in
theorem ggL_law_X2_order : GoodIn wsL_law wsX2_order := goodIn_r _ [341, 55, 14, 18, 342, 343, 344, 2, 345, 150, 151, 152, 153, 56, 69, 70, 63, 71, 72, 73, 74, 75, 76, 77, 78, 79, 80, 65, 67, 366, 367, 368, 369, 370, 371, 372, 373, 374, 375, 376, 377, 378, 379] (by decide +kernel) (by decide +kernel)
set_option maxRecDepth 20000 in
theorem gL_law_X2_order : GoodIn wsL_law (wsV RL 44 RX2 yX2_order wsX2_order) := goodIn_app (goodIn_of _ (by decide +kernel)) ggL_law_X2_order
set_option maxRecDepth 20000 in
theorem ggL_law_X3_order : GoodIn wsL_law wsX3_order := goodIn_r _ [349, 38, 96, 39, 164, 165, 166, 5, 167, 95, 114, 115, 116, 117, 118, 119, 120, 121, 107, 105, 122, 123, 124, 125, 380, 381, 382, 383, 384, 385, 386, 387, 388, 389, 390, 391, 392, 393, 394, 395, 396, 397, 398] (by decide +kernel) (by decide +kernel)
set_option maxRecDepth 20000 in
theorem gL_law_X3_order : GoodIn wsL_law (wsV RL 47 RX3 yX3_order wsX3_order) := goodIn_app (goodIn_of _ (by decide +kernel)) ggL_law_X3_order
set_option maxRecDepth 20000 in
theorem ggL_law_X2_look : GoodIn wsL_law wsX2_look := goodIn_r _ [353, 18, 16, 17, 14, 150, 151, 152, 2, 153, 56, 366, 367, 368, 369, 370, 371, 372, 373, 374, 375, 376, 377, 378, 379] (by decide +kernel) (by decide +kernel)
set_option maxRecDepth 20000 in
theorem gL_law_X2_look : GoodIn wsL_law (wsV RL 48 RX2 yX2_look wsX2_look) := goodIn_app (goodIn_of _ (by decide +kernel)) ggL_law_X2_look
set_option maxRecDepth 20000 in
theorem ggL_law_X3_look : GoodIn wsL_law wsX3_look := goodIn_r _ [357, 39, 40, 41, 38, 164, 165, 166, 5, 167, 95, 380, 381, 382, 383, 384, 385, 386, 387, 388, 389, 390, 391, 392, 393, 394, 395, 396, 397, 398] (by decide +kernel) (by decide +kernel)
set_option maxRecDepth 20000 in
theorem gL_law_X3_look : GoodIn wsL_law (wsV RL 52 RX3 yX3_look wsX3_look) := goodIn_app (goodIn_of _ (by decide +kernel)) ggL_law_X3_look
set_option maxRecDepth 20000 in
theorem ggL_law_X2_count : GoodIn wsL_law wsX2_count := goodIn_r _ [361, 56, 142, 27, 193, 55, 326, 327, 328, 26, 329, 198, 366, 367, 368, 369, 370, 371, 372, 373, 374, 375, 376, 377, 378, 379, 399, 400, 401, 402] (by decide +kernel) (by decide +kernel)
set_option maxRecDepth 20000 in
theorem gL_law_X2_count : GoodIn wsL_law (wsV RL 53 RX2 yX2_count wsX2_count) := goodIn_app (goodIn_of _ (by decide +kernel)) ggL_law_X2_count
set_option maxRecDepth 20000 in
theorem ggL_law_X3_count : GoodIn wsL_law wsX3_count := goodIn_r _ [365, 95, 163, 264, 233, 96, 380, 381, 382, 383, 384, 385, 386, 387, 388, 389, 390, 391, 392, 393, 394, 395, 396, 397, 398] (by decide +kernel) (by decide +kernel)
set_option maxRecDepth 20000 in
theorem gL_law_X3_count : GoodIn wsL_law (wsV RL 57 RX3 yX3_count wsX3_count) := goodIn_app (goodIn_of _ (by decide +kernel)) ggL_law_X3_count
theorem dL_law_0 : decode cL_law 0 = .ok (.new 7, 3) := by decide +kernel
theorem dL_law_3 : decode cL_law 3 = .ok (.dup, 1) := by decide +kernel
theorem dL_law_4 : decode cL_law 4 = .ok (.invokespecial 9, 3) := by decide +kernel
theorem dL_law_7 : decode cL_law 7 = .ok (.astore_n 1, 1) := by decide +kernel
theorem dL_law_8 : decode cL_law 8 = .ok (.new 10, 3) := by decide +kernel
theorem dL_law_11 : decode cL_law 11 = .ok (.dup, 1) := by decide +kernel
theorem dL_law_12 : decode cL_law 12 = .ok (.invokespecial 12, 3) := by decide +kernel
theorem dL_law_15 : decode cL_law 15 = .ok (.astore_n 2, 1) := by decide +kernel
theorem dL_law_16 : decode cL_law 16 = .ok (.iconst 0, 1) := by decide +kernel
theorem dL_law_17 : decode cL_law 17 = .ok (.istore_n 3, 1) := by decide +kernel
theorem dL_law_18 : decode cL_law 18 = .ok (.iload_n 3, 1) := by decide +kernel
theorem dL_law_19 : decode cL_law 19 = .ok (.aload_n 0, 1) := by decide +kernel
theorem dL_law_20 : decode cL_law 20 = .ok (.arraylength, 1) := by decide +kernel
theorem dL_law_21 : decode cL_law 21 = .ok (.bipush 6, 2) := by decide +kernel
theorem dL_law_23 : decode cL_law 23 = .ok (.isub, 1) := by decide +kernel
theorem dL_law_24 : decode cL_law 24 = .ok (.if_icmp .gt 454, 3) := by decide +kernel
theorem dL_law_27 : decode cL_law 27 = .ok (.aload_n 0, 1) := by decide +kernel
theorem dL_law_28 : decode cL_law 28 = .ok (.iload_n 3, 1) := by decide +kernel
theorem dL_law_29 : decode cL_law 29 = .ok (.iaload, 1) := by decide +kernel
theorem dL_law_30 : decode cL_law 30 = .ok (.bipush 15, 2) := by decide +kernel
theorem dL_law_32 : decode cL_law 32 = .ok (.iand, 1) := by decide +kernel
theorem dL_law_33 : decode cL_law 33 = .ok (.tableswitch 439 0 8 #[51, 154, 197, 260, 293, 336, 349, 382, 416], 51) := by decide +kernel
theorem dL_law_84 : decode cL_law 84 = .ok (.aload_n 1, 1) := by decide +kernel
theorem dL_law_85 : decode cL_law 85 = .ok (.aload_n 0, 1) := by decide +kernel
theorem dL_law_86 : decode cL_law 86 = .ok (.iload_n 3, 1) := by decide +kernel
theorem dL_law_87 : decode cL_law 87 = .ok (.iconst 1, 1) := by decide +kernel
theorem dL_law_88 : decode cL_law 88 = .ok (.iadd, 1) := by decide +kernel
theorem dL_law_89 : decode cL_law 89 = .ok (.iaload, 1) := by decide +kernel
theorem dL_law_90 : decode cL_law 90 = .ok (.aload_n 0, 1) := by decide +kernel
theorem dL_law_91 : decode cL_law 91 = .ok (.iload_n 3, 1) := by decide +kernel
theorem dL_law_92 : decode cL_law 92 = .ok (.iconst 2, 1) := by decide +kernel
theorem dL_law_93 : decode cL_law 93 = .ok (.iadd, 1) := by decide +kernel
theorem dL_law_94 : decode cL_law 94 = .ok (.iaload, 1) := by decide +kernel
theorem dL_law_95 : decode cL_law 95 = .ok (.i2l, 1) := by decide +kernel
theorem dL_law_96 : decode cL_law 96 = .ok (.bipush 32, 2) := by decide +kernel
theorem dL_law_98 : decode cL_law 98 = .ok (.lshl, 1) := by decide +kernel
theorem dL_law_99 : decode cL_law 99 = .ok (.aload_n 0, 1) := by decide +kernel
theorem dL_law_100 : decode cL_law 100 = .ok (.iload_n 3, 1) := by decide +kernel
theorem dL_law_101 : decode cL_law 101 = .ok (.iconst 3, 1) := by decide +kernel
theorem dL_law_102 : decode cL_law 102 = .ok (.iadd, 1) := by decide +kernel
theorem dL_law_103 : decode cL_law 103 = .ok (.iaload, 1) := by decide +kernel
theorem dL_law_104 : decode cL_law 104 = .ok (.i2l, 1) := by decide +kernel
theorem dL_law_105 : decode cL_law 105 = .ok (.ldc2_w 13, 3) := by decide +kernel
theorem dL_law_108 : decode cL_law 108 = .ok (.land, 1) := by decide +kernel
theorem dL_law_109 : decode cL_law 109 = .ok (.lor, 1) := by decide +kernel
theorem dL_law_110 : decode cL_law 110 = .ok (.aload_n 0, 1) := by decide +kernel
theorem dL_law_111 : decode cL_law 111 = .ok (.iload_n 3, 1) := by decide +kernel
theorem dL_law_112 : decode cL_law 112 = .ok (.iconst 4, 1) := by decide +kernel
theorem dL_law_113 : decode cL_law 113 = .ok (.iadd, 1) := by decide +kernel
theorem dL_law_114 : decode cL_law 114 = .ok (.iaload, 1) := by decide +kernel
theorem dL_law_115 : decode cL_law 115 = .ok (.i2l, 1) := by decide +kernel
theorem dL_law_116 : decode cL_law 116 = .ok (.bipush 32, 2) := by decide +kernel
theorem dL_law_118 : decode cL_law 118 = .ok (.lshl, 1) := by decide +kernel
theorem dL_law_119 : decode cL_law 119 = .ok (.aload_n 0, 1) := by decide +kernel
theorem dL_law_120 : decode cL_law 120 = .ok (.iload_n 3, 1) := by decide +kernel
theorem dL_law_121 : decode cL_law 121 = .ok (.iconst 5, 1) := by decide +kernel
theorem dL_law_122 : decode cL_law 122 = .ok (.iadd, 1) := by decide +kernel
theorem dL_law_123 : decode cL_law 123 = .ok (.iaload, 1) := by decide +kernel
theorem dL_law_124 : decode cL_law 124 = .ok (.i2l, 1) := by decide +kernel
theorem dL_law_125 : decode cL_law 125 = .ok (.ldc2_w 13, 3) := by decide +kernel
theorem dL_law_128 : decode cL_law 128 = .ok (.land, 1) := by decide +kernel
theorem dL_law_129 : decode cL_law 129 = .ok (.lor, 1) := by decide +kernel
theorem dL_law_130 : decode cL_law 130 = .ok (.invokevirtual 15, 3) := by decide +kernel
theorem dL_law_133 : decode cL_law 133 = .ok (.aload_n 2, 1) := by decide +kernel
theorem dL_law_134 : decode cL_law 134 = .ok (.aload_n 0, 1) := by decide +kernel
theorem dL_law_135 : decode cL_law 135 = .ok (.iload_n 3, 1) := by decide +kernel
theorem dL_law_136 : decode cL_law 136 = .ok (.iconst 1, 1) := by decide +kernel
theorem dL_law_137 : decode cL_law 137 = .ok (.iadd, 1) := by decide +kernel
theorem dL_law_138 : decode cL_law 138 = .ok (.iaload, 1) := by decide +kernel
theorem dL_law_139 : decode cL_law 139 = .ok (.aload_n 0, 1) := by decide +kernel
theorem dL_law_140 : decode cL_law 140 = .ok (.iload_n 3, 1) := by decide +kernel
theorem dL_law_141 : decode cL_law 141 = .ok (.iconst 2, 1) := by decide +kernel
theorem dL_law_142 : decode cL_law 142 = .ok (.iadd, 1) := by decide +kernel
theorem dL_law_143 : decode cL_law 143 = .ok (.iaload, 1) := by decide +kernel
theorem dL_law_144 : decode cL_law 144 = .ok (.i2l, 1) := by decide +kernel
theorem dL_law_145 : decode cL_law 145 = .ok (.bipush 32, 2) := by decide +kernel
theorem dL_law_147 : decode cL_law 147 = .ok (.lshl, 1) := by decide +kernel
theorem dL_law_148 : decode cL_law 148 = .ok (.aload_n 0, 1) := by decide +kernel
theorem dL_law_149 : decode cL_law 149 = .ok (.iload_n 3, 1) := by decide +kernel
theorem dL_law_150 : decode cL_law 150 = .ok (.iconst 3, 1) := by decide +kernel
theorem dL_law_151 : decode cL_law 151 = .ok (.iadd, 1) := by decide +kernel
theorem dL_law_152 : decode cL_law 152 = .ok (.iaload, 1) := by decide +kernel
theorem dL_law_153 : decode cL_law 153 = .ok (.i2l, 1) := by decide +kernel
theorem dL_law_154 : decode cL_law 154 = .ok (.ldc2_w 13, 3) := by decide +kernel
theorem dL_law_157 : decode cL_law 157 = .ok (.land, 1) := by decide +kernel
theorem dL_law_158 : decode cL_law 158 = .ok (.lor, 1) := by decide +kernel
theorem dL_law_159 : decode cL_law 159 = .ok (.aload_n 0, 1) := by decide +kernel
theorem dL_law_160 : decode cL_law 160 = .ok (.iload_n 3, 1) := by decide +kernel
theorem dL_law_161 : decode cL_law 161 = .ok (.iconst 4, 1) := by decide +kernel
theorem dL_law_162 : decode cL_law 162 = .ok (.iadd, 1) := by decide +kernel
theorem dL_law_163 : decode cL_law 163 = .ok (.iaload, 1) := by decide +kernel
theorem dL_law_164 : decode cL_law 164 = .ok (.i2l, 1) := by decide +kernel
theorem dL_law_165 : decode cL_law 165 = .ok (.bipush 32, 2) := by decide +kernel
theorem dL_law_167 : decode cL_law 167 = .ok (.lshl, 1) := by decide +kernel
theorem dL_law_168 : decode cL_law 168 = .ok (.aload_n 0, 1) := by decide +kernel
theorem dL_law_169 : decode cL_law 169 = .ok (.iload_n 3, 1) := by decide +kernel
theorem dL_law_170 : decode cL_law 170 = .ok (.iconst 5, 1) := by decide +kernel
theorem dL_law_171 : decode cL_law 171 = .ok (.iadd, 1) := by decide +kernel
theorem dL_law_172 : decode cL_law 172 = .ok (.iaload, 1) := by decide +kernel
theorem dL_law_173 : decode cL_law 173 = .ok (.i2l, 1) := by decide +kernel
theorem dL_law_174 : decode cL_law 174 = .ok (.ldc2_w 13, 3) := by decide +kernel
theorem dL_law_177 : decode cL_law 177 = .ok (.land, 1) := by decide +kernel
theorem dL_law_178 : decode cL_law 178 = .ok (.lor, 1) := by decide +kernel
theorem dL_law_179 : decode cL_law 179 = .ok (.invokevirtual 19, 3) := by decide +kernel
theorem dL_law_182 : decode cL_law 182 = .ok (.if_icmp .eq 290, 3) := by decide +kernel
theorem dL_law_185 : decode cL_law 185 = .ok (.iconst 0, 1) := by decide +kernel
theorem dL_law_186 : decode cL_law 186 = .ok (.ireturn, 1) := by decide +kernel
theorem dL_law_187 : decode cL_law 187 = .ok (.aload_n 1, 1) := by decide +kernel
theorem dL_law_188 : decode cL_law 188 = .ok (.aload_n 0, 1) := by decide +kernel
theorem dL_law_189 : decode cL_law 189 = .ok (.iload_n 3, 1) := by decide +kernel
theorem dL_law_190 : decode cL_law 190 = .ok (.iconst 1, 1) := by decide +kernel
theorem dL_law_191 : decode cL_law 191 = .ok (.iadd, 1) := by decide +kernel
theorem dL_law_192 : decode cL_law 192 = .ok (.iaload, 1) := by decide +kernel
theorem dL_law_193 : decode cL_law 193 = .ok (.aload_n 0, 1) := by decide +kernel
theorem dL_law_194 : decode cL_law 194 = .ok (.iload_n 3, 1) := by decide +kernel
theorem dL_law_195 : decode cL_law 195 = .ok (.iconst 2, 1) := by decide +kernel
theorem dL_law_196 : decode cL_law 196 = .ok (.iadd, 1) := by decide +kernel
theorem dL_law_197 : decode cL_law 197 = .ok (.iaload, 1) := by decide +kernel
theorem dL_law_198 : decode cL_law 198 = .ok (.aload_n 0, 1) := by decide +kernel
theorem dL_law_199 : decode cL_law 199 = .ok (.iload_n 3, 1) := by decide +kernel
theorem dL_law_200 : decode cL_law 200 = .ok (.iconst 3, 1) := by decide +kernel
theorem dL_law_201 : decode cL_law 201 = .ok (.iadd, 1) := by decide +kernel
theorem dL_law_202 : decode cL_law 202 = .ok (.iaload, 1) := by decide +kernel
theorem dL_law_203 : decode cL_law 203 = .ok (.invokevirtual 20, 3) := by decide +kernel
theorem dL_law_206 : decode cL_law 206 = .ok (.aload_n 2, 1) := by decide +kernel
theorem dL_law_207 : decode cL_law 207 = .ok (.aload_n 0, 1) := by decide +kernel
theorem dL_law_208 : decode cL_law 208 = .ok (.iload_n 3, 1) := by decide +kernel
theorem dL_law_209 : decode cL_law 209 = .ok (.iconst 1, 1) := by decide +kernel
theorem dL_law_210 : decode cL_law 210 = .ok (.iadd, 1) := by decide +kernel
theorem dL_law_211 : decode cL_law 211 = .ok (.iaload, 1) := by decide +kernel
theorem dL_law_212 : decode cL_law 212 = .ok (.aload_n 0, 1) := by decide +kernel
theorem dL_law_213 : decode cL_law 213 = .ok (.iload_n 3, 1) := by decide +kernel
theorem dL_law_214 : decode cL_law 214 = .ok (.iconst 2, 1) := by decide +kernel
theorem dL_law_215 : decode cL_law 215 = .ok (.iadd, 1) := by decide +kernel
theorem dL_law_216 : decode cL_law 216 = .ok (.iaload, 1) := by decide +kernel
theorem dL_law_217 : decode cL_law 217 = .ok (.aload_n 0, 1) := by decide +kernel
theorem dL_law_218 : decode cL_law 218 = .ok (.iload_n 3, 1) := by decide +kernel
theorem dL_law_219 : decode cL_law 219 = .ok (.iconst 3, 1) := by decide +kernel
theorem dL_law_220 : decode cL_law 220 = .ok (.iadd, 1) := by decide +kernel
theorem dL_law_221 : decode cL_law 221 = .ok (.iaload, 1) := by decide +kernel
theorem dL_law_222 : decode cL_law 222 = .ok (.invokevirtual 24, 3) := by decide +kernel
theorem dL_law_225 : decode cL_law 225 = .ok (.if_icmp .eq 247, 3) := by decide +kernel
theorem dL_law_228 : decode cL_law 228 = .ok (.iconst 0, 1) := by decide +kernel
theorem dL_law_229 : decode cL_law 229 = .ok (.ireturn, 1) := by decide +kernel
theorem dL_law_230 : decode cL_law 230 = .ok (.aload_n 1, 1) := by decide +kernel
theorem dL_law_231 : decode cL_law 231 = .ok (.aload_n 0, 1) := by decide +kernel
theorem dL_law_232 : decode cL_law 232 = .ok (.iload_n 3, 1) := by decide +kernel
theorem dL_law_233 : decode cL_law 233 = .ok (.iconst 1, 1) := by decide +kernel
theorem dL_law_234 : decode cL_law 234 = .ok (.iadd, 1) := by decide +kernel
theorem dL_law_235 : decode cL_law 235 = .ok (.iaload, 1) := by decide +kernel
theorem dL_law_236 : decode cL_law 236 = .ok (.aload_n 0, 1) := by decide +kernel
theorem dL_law_237 : decode cL_law 237 = .ok (.iload_n 3, 1) := by decide +kernel
theorem dL_law_238 : decode cL_law 238 = .ok (.iconst 2, 1) := by decide +kernel
theorem dL_law_239 : decode cL_law 239 = .ok (.iadd, 1) := by decide +kernel
theorem dL_law_240 : decode cL_law 240 = .ok (.iaload, 1) := by decide +kernel
theorem dL_law_241 : decode cL_law 241 = .ok (.i2l, 1) := by decide +kernel
theorem dL_law_242 : decode cL_law 242 = .ok (.bipush 32, 2) := by decide +kernel
theorem dL_law_244 : decode cL_law 244 = .ok (.lshl, 1) := by decide +kernel
theorem dL_law_245 : decode cL_law 245 = .ok (.aload_n 0, 1) := by decide +kernel
theorem dL_law_246 : decode cL_law 246 = .ok (.iload_n 3, 1) := by decide +kernel
theorem dL_law_247 : decode cL_law 247 = .ok (.iconst 3, 1) := by decide +kernel
theorem dL_law_248 : decode cL_law 248 = .ok (.iadd, 1) := by decide +kernel
theorem dL_law_249 : decode cL_law 249 = .ok (.iaload, 1) := by decide +kernel
theorem dL_law_250 : decode cL_law 250 = .ok (.i2l, 1) := by decide +kernel
theorem dL_law_251 : decode cL_law 251 = .ok (.ldc2_w 13, 3) := by decide +kernel
theorem dL_law_254 : decode cL_law 254 = .ok (.land, 1) := by decide +kernel
theorem dL_law_255 : decode cL_law 255 = .ok (.lor, 1) := by decide +kernel
theorem dL_law_256 : decode cL_law 256 = .ok (.invokevirtual 25, 3) := by decide +kernel
theorem dL_law_259 : decode cL_law 259 = .ok (.aload_n 2, 1) := by decide +kernel
theorem dL_law_260 : decode cL_law 260 = .ok (.aload_n 0, 1) := by decide +kernel
theorem dL_law_261 : decode cL_law 261 = .ok (.iload_n 3, 1) := by decide +kernel
theorem dL_law_262 : decode cL_law 262 = .ok (.iconst 1, 1) := by decide +kernel
theorem dL_law_263 : decode cL_law 263 = .ok (.iadd, 1) := by decide +kernel
theorem dL_law_264 : decode cL_law 264 = .ok (.iaload, 1) := by decide +kernel
theorem dL_law_265 : decode cL_law 265 = .ok (.aload_n 0, 1) := by decide +kernel
theorem dL_law_266 : decode cL_law 266 = .ok (.iload_n 3, 1) := by decide +kernel
theorem dL_law_267 : decode cL_law 267 = .ok (.iconst 2, 1) := by decide +kernel
theorem dL_law_268 : decode cL_law 268 = .ok (.iadd, 1) := by decide +kernel
theorem dL_law_269 : decode cL_law 269 = .ok (.iaload, 1) := by decide +kernel
theorem dL_law_270 : decode cL_law 270 = .ok (.i2l, 1) := by decide +kernel
theorem dL_law_271 : decode cL_law 271 = .ok (.bipush 32, 2) := by decide +kernel
theorem dL_law_273 : decode cL_law 273 = .ok (.lshl, 1) := by decide +kernel
theorem dL_law_274 : decode cL_law 274 = .ok (.aload_n 0, 1) := by decide +kernel
theorem dL_law_275 : decode cL_law 275 = .ok (.iload_n 3, 1) := by decide +kernel
theorem dL_law_276 : decode cL_law 276 = .ok (.iconst 3, 1) := by decide +kernel
theorem dL_law_277 : decode cL_law 277 = .ok (.iadd, 1) := by decide +kernel
theorem dL_law_278 : decode cL_law 278 = .ok (.iaload, 1) := by decide +kernel
theorem dL_law_279 : decode cL_law 279 = .ok (.i2l, 1) := by decide +kernel
theorem dL_law_280 : decode cL_law 280 = .ok (.ldc2_w 13, 3) := by decide +kernel
theorem dL_law_283 : decode cL_law 283 = .ok (.land, 1) := by decide +kernel
theorem dL_law_284 : decode cL_law 284 = .ok (.lor, 1) := by decide +kernel
theorem dL_law_285 : decode cL_law 285 = .ok (.invokevirtual 29, 3) := by decide +kernel
theorem dL_law_288 : decode cL_law 288 = .ok (.if_icmp .eq 184, 3) := by decide +kernel
theorem dL_law_291 : decode cL_law 291 = .ok (.iconst 0, 1) := by decide +kernel
theorem dL_law_292 : decode cL_law 292 = .ok (.ireturn, 1) := by decide +kernel
theorem dL_law_293 : decode cL_law 293 = .ok (.aload_n 1, 1) := by decide +kernel
theorem dL_law_294 : decode cL_law 294 = .ok (.aload_n 0, 1) := by decide +kernel
theorem dL_law_295 : decode cL_law 295 = .ok (.iload_n 3, 1) := by decide +kernel
theorem dL_law_296 : decode cL_law 296 = .ok (.iconst 1, 1) := by decide +kernel
theorem dL_law_297 : decode cL_law 297 = .ok (.iadd, 1) := by decide +kernel
theorem dL_law_298 : decode cL_law 298 = .ok (.iaload, 1) := by decide +kernel
theorem dL_law_299 : decode cL_law 299 = .ok (.aload_n 0, 1) := by decide +kernel
theorem dL_law_300 : decode cL_law 300 = .ok (.iload_n 3, 1) := by decide +kernel
theorem dL_law_301 : decode cL_law 301 = .ok (.iconst 2, 1) := by decide +kernel
theorem dL_law_302 : decode cL_law 302 = .ok (.iadd, 1) := by decide +kernel
theorem dL_law_303 : decode cL_law 303 = .ok (.iaload, 1) := by decide +kernel
theorem dL_law_304 : decode cL_law 304 = .ok (.invokevirtual 30, 3) := by decide +kernel
theorem dL_law_307 : decode cL_law 307 = .ok (.aload_n 2, 1) := by decide +kernel
theorem dL_law_308 : decode cL_law 308 = .ok (.aload_n 0, 1) := by decide +kernel
theorem dL_law_309 : decode cL_law 309 = .ok (.iload_n 3, 1) := by decide +kernel
theorem dL_law_310 : decode cL_law 310 = .ok (.iconst 1, 1) := by decide +kernel
theorem dL_law_311 : decode cL_law 311 = .ok (.iadd, 1) := by decide +kernel
theorem dL_law_312 : decode cL_law 312 = .ok (.iaload, 1) := by decide +kernel
theorem dL_law_313 : decode cL_law 313 = .ok (.aload_n 0, 1) := by decide +kernel
theorem dL_law_314 : decode cL_law 314 = .ok (.iload_n 3, 1) := by decide +kernel
theorem dL_law_315 : decode cL_law 315 = .ok (.iconst 2, 1) := by decide +kernel
theorem dL_law_316 : decode cL_law 316 = .ok (.iadd, 1) := by decide +kernel
theorem dL_law_317 : decode cL_law 317 = .ok (.iaload, 1) := by decide +kernel
theorem dL_law_318 : decode cL_law 318 = .ok (.invokevirtual 34, 3) := by decide +kernel
theorem dL_law_321 : decode cL_law 321 = .ok (.if_icmp .eq 151, 3) := by decide +kernel
theorem dL_law_324 : decode cL_law 324 = .ok (.iconst 0, 1) := by decide +kernel
theorem dL_law_325 : decode cL_law 325 = .ok (.ireturn, 1) := by decide +kernel
theorem dL_law_326 : decode cL_law 326 = .ok (.aload_n 1, 1) := by decide +kernel
theorem dL_law_327 : decode cL_law 327 = .ok (.aload_n 0, 1) := by decide +kernel
theorem dL_law_328 : decode cL_law 328 = .ok (.iload_n 3, 1) := by decide +kernel
theorem dL_law_329 : decode cL_law 329 = .ok (.iconst 1, 1) := by decide +kernel
theorem dL_law_330 : decode cL_law 330 = .ok (.iadd, 1) := by decide +kernel
theorem dL_law_331 : decode cL_law 331 = .ok (.iaload, 1) := by decide +kernel
theorem dL_law_332 : decode cL_law 332 = .ok (.aload_n 0, 1) := by decide +kernel
theorem dL_law_333 : decode cL_law 333 = .ok (.iload_n 3, 1) := by decide +kernel
theorem dL_law_334 : decode cL_law 334 = .ok (.iconst 2, 1) := by decide +kernel
theorem dL_law_335 : decode cL_law 335 = .ok (.iadd, 1) := by decide +kernel
theorem dL_law_336 : decode cL_law 336 = .ok (.iaload, 1) := by decide +kernel
theorem dL_law_337 : decode cL_law 337 = .ok (.aload_n 0, 1) := by decide +kernel
theorem dL_law_338 : decode cL_law 338 = .ok (.iload_n 3, 1) := by decide +kernel
theorem dL_law_339 : decode cL_law 339 = .ok (.iconst 3, 1) := by decide +kernel
theorem dL_law_340 : decode cL_law 340 = .ok (.iadd, 1) := by decide +kernel
theorem dL_law_341 : decode cL_law 341 = .ok (.iaload, 1) := by decide +kernel
theorem dL_law_342 : decode cL_law 342 = .ok (.invokevirtual 35, 3) := by decide +kernel
theorem dL_law_345 : decode cL_law 345 = .ok (.aload_n 2, 1) := by decide +kernel
theorem dL_law_346 : decode cL_law 346 = .ok (.aload_n 0, 1) := by decide +kernel
theorem dL_law_347 : decode cL_law 347 = .ok (.iload_n 3, 1) := by decide +kernel
theorem dL_law_348 : decode cL_law 348 = .ok (.iconst 1, 1) := by decide +kernel
theorem dL_law_349 : decode cL_law 349 = .ok (.iadd, 1) := by decide +kernel
theorem dL_law_350 : decode cL_law 350 = .ok (.iaload, 1) := by decide +kernel
theorem dL_law_351 : decode cL_law 351 = .ok (.aload_n 0, 1) := by decide +kernel
theorem dL_law_352 : decode cL_law 352 = .ok (.iload_n 3, 1) := by decide +kernel
theorem dL_law_353 : decode cL_law 353 = .ok (.iconst 2, 1) := by decide +kernel
theorem dL_law_354 : decode cL_law 354 = .ok (.iadd, 1) := by decide +kernel
theorem dL_law_355 : decode cL_law 355 = .ok (.iaload, 1) := by decide +kernel
theorem dL_law_356 : decode cL_law 356 = .ok (.aload_n 0, 1) := by decide +kernel
theorem dL_law_357 : decode cL_law 357 = .ok (.iload_n 3, 1) := by decide +kernel
theorem dL_law_358 : decode cL_law 358 = .ok (.iconst 3, 1) := by decide +kernel
theorem dL_law_359 : decode cL_law 359 = .ok (.iadd, 1) := by decide +kernel
theorem dL_law_360 : decode cL_law 360 = .ok (.iaload, 1) := by decide +kernel
theorem dL_law_361 : decode cL_law 361 = .ok (.invokevirtual 38, 3) := by decide +kernel
theorem dL_law_364 : decode cL_law 364 = .ok (.if_icmp .eq 108, 3) := by decide +kernel
theorem dL_law_367 : decode cL_law 367 = .ok (.iconst 0, 1) := by decide +kernel
theorem dL_law_368 : decode cL_law 368 = .ok (.ireturn, 1) := by decide +kernel
theorem dL_law_369 : decode cL_law 369 = .ok (.aload_n 1, 1) := by decide +kernel
theorem dL_law_370 : decode cL_law 370 = .ok (.invokevirtual 39, 3) := by decide +kernel
theorem dL_law_373 : decode cL_law 373 = .ok (.aload_n 2, 1) := by decide +kernel
theorem dL_law_374 : decode cL_law 374 = .ok (.invokevirtual 43, 3) := by decide +kernel
theorem dL_law_377 : decode cL_law 377 = .ok (.if_icmp .eq 95, 3) := by decide +kernel
theorem dL_law_380 : decode cL_law 380 = .ok (.iconst 0, 1) := by decide +kernel
theorem dL_law_381 : decode cL_law 381 = .ok (.ireturn, 1) := by decide +kernel
theorem dL_law_382 : decode cL_law 382 = .ok (.aload_n 1, 1) := by decide +kernel
theorem dL_law_383 : decode cL_law 383 = .ok (.aload_n 0, 1) := by decide +kernel
theorem dL_law_384 : decode cL_law 384 = .ok (.iload_n 3, 1) := by decide +kernel
theorem dL_law_385 : decode cL_law 385 = .ok (.iconst 1, 1) := by decide +kernel
theorem dL_law_386 : decode cL_law 386 = .ok (.iadd, 1) := by decide +kernel
theorem dL_law_387 : decode cL_law 387 = .ok (.iaload, 1) := by decide +kernel
theorem dL_law_388 : decode cL_law 388 = .ok (.aload_n 0, 1) := by decide +kernel
theorem dL_law_389 : decode cL_law 389 = .ok (.iload_n 3, 1) := by decide +kernel
theorem dL_law_390 : decode cL_law 390 = .ok (.iconst 2, 1) := by decide +kernel
theorem dL_law_391 : decode cL_law 391 = .ok (.iadd, 1) := by decide +kernel
theorem dL_law_392 : decode cL_law 392 = .ok (.iaload, 1) := by decide +kernel
theorem dL_law_393 : decode cL_law 393 = .ok (.invokevirtual 44, 3) := by decide +kernel
theorem dL_law_396 : decode cL_law 396 = .ok (.aload_n 2, 1) := by decide +kernel
theorem dL_law_397 : decode cL_law 397 = .ok (.aload_n 0, 1) := by decide +kernel
theorem dL_law_398 : decode cL_law 398 = .ok (.iload_n 3, 1) := by decide +kernel
theorem dL_law_399 : decode cL_law 399 = .ok (.iconst 1, 1) := by decide +kernel
theorem dL_law_400 : decode cL_law 400 = .ok (.iadd, 1) := by decide +kernel
theorem dL_law_401 : decode cL_law 401 = .ok (.iaload, 1) := by decide +kernel
theorem dL_law_402 : decode cL_law 402 = .ok (.aload_n 0, 1) := by decide +kernel
theorem dL_law_403 : decode cL_law 403 = .ok (.iload_n 3, 1) := by decide +kernel
theorem dL_law_404 : decode cL_law 404 = .ok (.iconst 2, 1) := by decide +kernel
theorem dL_law_405 : decode cL_law 405 = .ok (.iadd, 1) := by decide +kernel
theorem dL_law_406 : decode cL_law 406 = .ok (.iaload, 1) := by decide +kernel
theorem dL_law_407 : decode cL_law 407 = .ok (.invokevirtual 47, 3) := by decide +kernel
theorem dL_law_410 : decode cL_law 410 = .ok (.if_icmp .eq 62, 3) := by decide +kernel
theorem dL_law_413 : decode cL_law 413 = .ok (.iconst 0, 1) := by decide +kernel
theorem dL_law_414 : decode cL_law 414 = .ok (.ireturn, 1) := by decide +kernel
theorem dL_law_415 : decode cL_law 415 = .ok (.aload_n 1, 1) := by decide +kernel
theorem dL_law_416 : decode cL_law 416 = .ok (.aload_n 0, 1) := by decide +kernel
theorem dL_law_417 : decode cL_law 417 = .ok (.iload_n 3, 1) := by decide +kernel
theorem dL_law_418 : decode cL_law 418 = .ok (.iconst 1, 1) := by decide +kernel
theorem dL_law_419 : decode cL_law 419 = .ok (.iadd, 1) := by decide +kernel
