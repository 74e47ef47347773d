set_option maxRecDepth 20000 in
theorem ggX2_gift_X0_sizeOf : GoodIn wsX2_gift wsX0_sizeOf := goodIn_r _ [30, 31, 32, 33, 34, 35, 36, 37, 16, 17, 5, 18, 19, 20] (by decide +kernel) (by decide +kernel)
set_option maxRecDepth 20000 in
theorem gX2_gift_X0_sizeOf : GoodIn wsX2_gift (va_wsS RX2 148 yX0_sizeOf wsX0_sizeOf) := goodIn_app (goodIn_of _ (by decide +kernel)) ggX2_gift_X0_sizeOf
theorem dX2_gift_0 : decode cX2_gift 0 = .ok (.aload_n 0, 1) := by decide +kernel
theorem dX2_gift_1 : decode cX2_gift 1 = .ok (.getfield 9, 3) := by decide +kernel
theorem dX2_gift_4 : decode cX2_gift 4 = .ok (.iload_n 2, 1) := by decide +kernel
theorem dX2_gift_5 : decode cX2_gift 5 = .ok (.iaload, 1) := by decide +kernel
theorem dX2_gift_6 : decode cX2_gift 6 = .ok (.istore 4, 2) := by decide +kernel
theorem dX2_gift_8 : decode cX2_gift 8 = .ok (.iload_n 1, 1) := by decide +kernel
theorem dX2_gift_9 : decode cX2_gift 9 = .ok (.tableswitch 81 0 2 #[27, 45, 63], 27) := by decide +kernel
theorem dX2_gift_36 : decode cX2_gift 36 = .ok (.iload 4, 2) := by decide +kernel
theorem dX2_gift_38 : decode cX2_gift 38 = .ok (.aload_n 0, 1) := by decide +kernel
theorem dX2_gift_39 : decode cX2_gift 39 = .ok (.getfield 20, 3) := by decide +kernel
theorem dX2_gift_42 : decode cX2_gift 42 = .ok (.iload_n 2, 1) := by decide +kernel
theorem dX2_gift_43 : decode cX2_gift 43 = .ok (.laload, 1) := by decide +kernel
theorem dX2_gift_44 : decode cX2_gift 44 = .ok (.aload_n 0, 1) := by decide +kernel
theorem dX2_gift_45 : decode cX2_gift 45 = .ok (.getfield 20, 3) := by decide +kernel
theorem dX2_gift_48 : decode cX2_gift 48 = .ok (.iload_n 3, 1) := by decide +kernel
theorem dX2_gift_49 : decode cX2_gift 49 = .ok (.laload, 1) := by decide +kernel
theorem dX2_gift_50 : decode cX2_gift 50 = .ok (.invokestatic 138, 3) := by decide +kernel
theorem dX2_gift_53 : decode cX2_gift 53 = .ok (.lreturn, 1) := by decide +kernel
theorem dX2_gift_54 : decode cX2_gift 54 = .ok (.iload 4, 2) := by decide +kernel
theorem dX2_gift_56 : decode cX2_gift 56 = .ok (.aload_n 0, 1) := by decide +kernel
theorem dX2_gift_57 : decode cX2_gift 57 = .ok (.getfield 20, 3) := by decide +kernel
theorem dX2_gift_60 : decode cX2_gift 60 = .ok (.iload_n 2, 1) := by decide +kernel
theorem dX2_gift_61 : decode cX2_gift 61 = .ok (.laload, 1) := by decide +kernel
theorem dX2_gift_62 : decode cX2_gift 62 = .ok (.aload_n 0, 1) := by decide +kernel
theorem dX2_gift_63 : decode cX2_gift 63 = .ok (.getfield 20, 3) := by decide +kernel
theorem dX2_gift_66 : decode cX2_gift 66 = .ok (.iload_n 3, 1) := by decide +kernel
theorem dX2_gift_67 : decode cX2_gift 67 = .ok (.laload, 1) := by decide +kernel
theorem dX2_gift_68 : decode cX2_gift 68 = .ok (.invokestatic 142, 3) := by decide +kernel
theorem dX2_gift_71 : decode cX2_gift 71 = .ok (.lreturn, 1) := by decide +kernel
theorem dX2_gift_72 : decode cX2_gift 72 = .ok (.iload 4, 2) := by decide +kernel
theorem dX2_gift_74 : decode cX2_gift 74 = .ok (.aload_n 0, 1) := by decide +kernel
theorem dX2_gift_75 : decode cX2_gift 75 = .ok (.getfield 20, 3) := by decide +kernel
theorem dX2_gift_78 : decode cX2_gift 78 = .ok (.iload_n 3, 1) := by decide +kernel
theorem dX2_gift_79 : decode cX2_gift 79 = .ok (.laload, 1) := by decide +kernel
theorem dX2_gift_80 : decode cX2_gift 80 = .ok (.aload_n 0, 1) := by decide +kernel
theorem dX2_gift_81 : decode cX2_gift 81 = .ok (.getfield 20, 3) := by decide +kernel
theorem dX2_gift_84 : decode cX2_gift 84 = .ok (.iload_n 2, 1) := by decide +kernel
theorem dX2_gift_85 : decode cX2_gift 85 = .ok (.laload, 1) := by decide +kernel
theorem dX2_gift_86 : decode cX2_gift 86 = .ok (.invokestatic 145, 3) := by decide +kernel
theorem dX2_gift_89 : decode cX2_gift 89 = .ok (.lreturn, 1) := by decide +kernel
theorem dX2_gift_90 : decode cX2_gift 90 = .ok (.iload 4, 2) := by decide +kernel
theorem dX2_gift_92 : decode cX2_gift 92 = .ok (.aload_n 0, 1) := by decide +kernel
theorem dX2_gift_93 : decode cX2_gift 93 = .ok (.getfield 20, 3) := by decide +kernel
theorem dX2_gift_96 : decode cX2_gift 96 = .ok (.iload_n 2, 1) := by decide +kernel
theorem dX2_gift_97 : decode cX2_gift 97 = .ok (.laload, 1) := by decide +kernel
theorem dX2_gift_98 : decode cX2_gift 98 = .ok (.invokestatic 148, 3) := by decide +kernel
theorem dX2_gift_101 : decode cX2_gift 101 = .ok (.lreturn, 1) := by decide +kernel
theorem dX3_init_0 : decode cX3_init 0 = .ok (.aload_n 0, 1) := by decide +kernel
theorem dX3_init_1 : decode cX3_init 1 = .ok (.invokespecial 1, 3) := by decide +kernel
theorem dX3_init_4 : decode cX3_init 4 = .ok (.aload_n 0, 1) := by decide +kernel
theorem dX3_init_5 : decode cX3_init 5 = .ok (.bipush 16, 2) := by decide +kernel
theorem dX3_init_7 : decode cX3_init 7 = .ok (.newarray .int, 2) := by decide +kernel
theorem dX3_init_9 : decode cX3_init 9 = .ok (.putfield 7, 3) := by decide +kernel
theorem dX3_init_12 : decode cX3_init 12 = .ok (.aload_n 0, 1) := by decide +kernel
theorem dX3_init_13 : decode cX3_init 13 = .ok (.bipush 16, 2) := by decide +kernel
theorem dX3_init_15 : decode cX3_init 15 = .ok (.newarray .long, 2) := by decide +kernel
theorem dX3_init_17 : decode cX3_init 17 = .ok (.putfield 13, 3) := by decide +kernel
theorem dX3_init_20 : decode cX3_init 20 = .ok (.aload_n 0, 1) := by decide +kernel
theorem dX3_init_21 : decode cX3_init 21 = .ok (.bipush 16, 2) := by decide +kernel
theorem dX3_init_23 : decode cX3_init 23 = .ok (.newarray .long, 2) := by decide +kernel
theorem dX3_init_25 : decode cX3_init 25 = .ok (.putfield 17, 3) := by decide +kernel
theorem dX3_init_28 : decode cX3_init 28 = .ok (.aload_n 0, 1) := by decide +kernel
theorem dX3_init_29 : decode cX3_init 29 = .ok (.bipush 16, 2) := by decide +kernel
theorem dX3_init_31 : decode cX3_init 31 = .ok (.newarray .long, 2) := by decide +kernel
theorem dX3_init_33 : decode cX3_init 33 = .ok (.putfield 20, 3) := by decide +kernel
theorem dX3_init_36 : decode cX3_init 36 = .ok (.aload_n 0, 1) := by decide +kernel
theorem dX3_init_37 : decode cX3_init 37 = .ok (.bipush 24, 2) := by decide +kernel
theorem dX3_init_39 : decode cX3_init 39 = .ok (.newarray .int, 2) := by decide +kernel
theorem dX3_init_41 : decode cX3_init 41 = .ok (.putfield 23, 3) := by decide +kernel
theorem dX3_init_44 : decode cX3_init 44 = .ok (.aload_n 0, 1) := by decide +kernel
theorem dX3_init_45 : decode cX3_init 45 = .ok (.bipush 24, 2) := by decide +kernel
theorem dX3_init_47 : decode cX3_init 47 = .ok (.newarray .int, 2) := by decide +kernel
theorem dX3_init_49 : decode cX3_init 49 = .ok (.putfield 26, 3) := by decide +kernel
theorem dX3_init_52 : decode cX3_init 52 = .ok (.aload_n 0, 1) := by decide +kernel
theorem dX3_init_53 : decode cX3_init 53 = .ok (.bipush 24, 2) := by decide +kernel
theorem dX3_init_55 : decode cX3_init 55 = .ok (.newarray .int, 2) := by decide +kernel
theorem dX3_init_57 : decode cX3_init 57 = .ok (.putfield 29, 3) := by decide +kernel
theorem dX3_init_60 : decode cX3_init 60 = .ok (.aload_n 0, 1) := by decide +kernel
theorem dX3_init_61 : decode cX3_init 61 = .ok (.bipush 24, 2) := by decide +kernel
theorem dX3_init_63 : decode cX3_init 63 = .ok (.newarray .boolean, 2) := by decide +kernel
theorem dX3_init_65 : decode cX3_init 65 = .ok (.putfield 32, 3) := by decide +kernel
theorem dX3_init_68 : decode cX3_init 68 = .ok (.aload_n 0, 1) := by decide +kernel
theorem dX3_init_69 : decode cX3_init 69 = .ok (.bipush 96, 2) := by decide +kernel
theorem dX3_init_71 : decode cX3_init 71 = .ok (.newarray .long, 2) := by decide +kernel
theorem dX3_init_73 : decode cX3_init 73 = .ok (.putfield 36, 3) := by decide +kernel
theorem dX3_init_76 : decode cX3_init 76 = .ok (.aload_n 0, 1) := by decide +kernel
theorem dX3_init_77 : decode cX3_init 77 = .ok (.bipush 16, 2) := by decide +kernel
theorem dX3_init_79 : decode cX3_init 79 = .ok (.newarray .long, 2) := by decide +kernel
theorem dX3_init_81 : decode cX3_init 81 = .ok (.putfield 39, 3) := by decide +kernel
theorem dX3_init_84 : decode cX3_init 84 = .ok (.aload_n 0, 1) := by decide +kernel
theorem dX3_init_85 : decode cX3_init 85 = .ok (.bipush 6, 2) := by decide +kernel
theorem dX3_init_87 : decode cX3_init 87 = .ok (.newarray .int, 2) := by decide +kernel
theorem dX3_init_89 : decode cX3_init 89 = .ok (.putfield 42, 3) := by decide +kernel
theorem dX3_init_92 : decode cX3_init 92 = .ok (.aload_n 0, 1) := by decide +kernel
theorem dX3_init_93 : decode cX3_init 93 = .ok (.bipush 26, 2) := by decide +kernel
theorem dX3_init_95 : decode cX3_init 95 = .ok (.newarray .int, 2) := by decide +kernel
theorem dX3_init_97 : decode cX3_init 97 = .ok (.putfield 45, 3) := by decide +kernel
theorem dX3_init_100 : decode cX3_init 100 = .ok (.aload_n 0, 1) := by decide +kernel
theorem dX3_init_101 : decode cX3_init 101 = .ok (.bipush 26, 2) := by decide +kernel
theorem dX3_init_103 : decode cX3_init 103 = .ok (.newarray .int, 2) := by decide +kernel
theorem dX3_init_105 : decode cX3_init 105 = .ok (.putfield 48, 3) := by decide +kernel
theorem dX3_init_108 : decode cX3_init 108 = .ok (.return_, 1) := by decide +kernel
theorem dX3_isDial_0 : decode cX3_isDial 0 = .ok (.iload_n 1, 1) := by decide +kernel
theorem dX3_isDial_1 : decode cX3_isDial 1 = .ok (.ifCond .lt 15, 3) := by decide +kernel
theorem dX3_isDial_4 : decode cX3_isDial 4 = .ok (.iload_n 1, 1) := by decide +kernel
theorem dX3_isDial_5 : decode cX3_isDial 5 = .ok (.aload_n 0, 1) := by decide +kernel
theorem dX3_isDial_6 : decode cX3_isDial 6 = .ok (.getfield 51, 3) := by decide +kernel
theorem dX3_isDial_9 : decode cX3_isDial 9 = .ok (.if_icmp .ge 7, 3) := by decide +kernel
theorem dX3_isDial_12 : decode cX3_isDial 12 = .ok (.iconst 1, 1) := by decide +kernel
theorem dX3_isDial_13 : decode cX3_isDial 13 = .ok (.goto 4, 3) := by decide +kernel
theorem dX3_isDial_16 : decode cX3_isDial 16 = .ok (.iconst 0, 1) := by decide +kernel
theorem dX3_isDial_17 : decode cX3_isDial 17 = .ok (.ireturn, 1) := by decide +kernel
theorem dX3_isReal_0 : decode cX3_isReal 0 = .ok (.iload_n 1, 1) := by decide +kernel
theorem dX3_isReal_1 : decode cX3_isReal 1 = .ok (.iconst 1, 1) := by decide +kernel
theorem dX3_isReal_2 : decode cX3_isReal 2 = .ok (.if_icmp .le 7, 3) := by decide +kernel
theorem dX3_isReal_5 : decode cX3_isReal 5 = .ok (.iconst 1, 1) := by decide +kernel
theorem dX3_isReal_6 : decode cX3_isReal 6 = .ok (.goto 4, 3) := by decide +kernel
theorem dX3_isReal_9 : decode cX3_isReal 9 = .ok (.iconst 0, 1) := by decide +kernel
theorem dX3_isReal_10 : decode cX3_isReal 10 = .ok (.ireturn, 1) := by decide +kernel
theorem dX3_refused_0 : decode cX3_refused 0 = .ok (.aload_n 0, 1) := by decide +kernel
theorem dX3_refused_1 : decode cX3_refused 1 = .ok (.iload_n 1, 1) := by decide +kernel
theorem dX3_refused_2 : decode cX3_refused 2 = .ok (.putfield 55, 3) := by decide +kernel
theorem dX3_refused_5 : decode cX3_refused 5 = .ok (.iconst (-1), 1) := by decide +kernel
theorem dX3_refused_6 : decode cX3_refused 6 = .ok (.ireturn, 1) := by decide +kernel
theorem dX3_isInt_0 : decode cX3_isInt 0 = .ok (.lload_n 1, 1) := by decide +kernel
theorem dX3_isInt_1 : decode cX3_isInt 1 = .ok (.ldc2_w 58, 3) := by decide +kernel
theorem dX3_isInt_4 : decode cX3_isInt 4 = .ok (.lcmp, 1) := by decide +kernel
theorem dX3_isInt_5 : decode cX3_isInt 5 = .ok (.ifCond .lt 15, 3) := by decide +kernel
theorem dX3_isInt_8 : decode cX3_isInt 8 = .ok (.lload_n 1, 1) := by decide +kernel
theorem dX3_isInt_9 : decode cX3_isInt 9 = .ok (.ldc2_w 60, 3) := by decide +kernel
theorem dX3_isInt_12 : decode cX3_isInt 12 = .ok (.lcmp, 1) := by decide +kernel
theorem dX3_isInt_13 : decode cX3_isInt 13 = .ok (.ifCond .gt 7, 3) := by decide +kernel
theorem dX3_isInt_16 : decode cX3_isInt 16 = .ok (.iconst 1, 1) := by decide +kernel
theorem dX3_isInt_17 : decode cX3_isInt 17 = .ok (.goto 4, 3) := by decide +kernel
theorem dX3_isInt_20 : decode cX3_isInt 20 = .ok (.iconst 0, 1) := by decide +kernel
theorem dX3_isInt_21 : decode cX3_isInt 21 = .ok (.ireturn, 1) := by decide +kernel
set_option maxRecDepth 20000 in
theorem ggX3_isNumber_X3_isInt : GoodIn wsX3_isNumber wsX3_isInt := goodIn_r _ [9, 10, 3] (by decide +kernel) (by decide +kernel)
set_option maxRecDepth 20000 in
theorem gX3_isNumber_X3_isInt : GoodIn wsX3_isNumber (wsV RX3 66 RX3 yX3_isInt wsX3_isInt) := goodIn_app (goodIn_of _ (by decide +kernel)) ggX3_isNumber_X3_isInt
theorem dX3_isNumber_0 : decode cX3_isNumber 0 = .ok (.iload_n 1, 1) := by decide +kernel
theorem dX3_isNumber_1 : decode cX3_isNumber 1 = .ok (.iconst 1, 1) := by decide +kernel
theorem dX3_isNumber_2 : decode cX3_isNumber 2 = .ok (.if_icmp .ne 5, 3) := by decide +kernel
theorem dX3_isNumber_5 : decode cX3_isNumber 5 = .ok (.iconst 1, 1) := by decide +kernel
theorem dX3_isNumber_6 : decode cX3_isNumber 6 = .ok (.ireturn, 1) := by decide +kernel
theorem dX3_isNumber_7 : decode cX3_isNumber 7 = .ok (.iload_n 1, 1) := by decide +kernel
theorem dX3_isNumber_8 : decode cX3_isNumber 8 = .ok (.iconst 3, 1) := by decide +kernel
theorem dX3_isNumber_9 : decode cX3_isNumber 9 = .ok (.if_icmp .ne 21, 3) := by decide +kernel
theorem dX3_isNumber_12 : decode cX3_isNumber 12 = .ok (.lload_n 2, 1) := by decide +kernel
theorem dX3_isNumber_13 : decode cX3_isNumber 13 = .ok (.ldc2_w 62, 3) := by decide +kernel
theorem dX3_isNumber_16 : decode cX3_isNumber 16 = .ok (.land, 1) := by decide +kernel
theorem dX3_isNumber_17 : decode cX3_isNumber 17 = .ok (.ldc2_w 64, 3) := by decide +kernel
theorem dX3_isNumber_20 : decode cX3_isNumber 20 = .ok (.lcmp, 1) := by decide +kernel
theorem dX3_isNumber_21 : decode cX3_isNumber 21 = .ok (.ifCond .gt 7, 3) := by decide +kernel
theorem dX3_isNumber_24 : decode cX3_isNumber 24 = .ok (.iconst 1, 1) := by decide +kernel
theorem dX3_isNumber_25 : decode cX3_isNumber 25 = .ok (.goto 4, 3) := by decide +kernel
theorem dX3_isNumber_28 : decode cX3_isNumber 28 = .ok (.iconst 0, 1) := by decide +kernel
theorem dX3_isNumber_29 : decode cX3_isNumber 29 = .ok (.ireturn, 1) := by decide +kernel
theorem dX3_isNumber_30 : decode cX3_isNumber 30 = .ok (.aload_n 0, 1) := by decide +kernel
theorem dX3_isNumber_31 : decode cX3_isNumber 31 = .ok (.lload_n 2, 1) := by decide +kernel
theorem dX3_isNumber_32 : decode cX3_isNumber 32 = .ok (.invokevirtual 66, 3) := by decide +kernel
theorem dX3_isNumber_35 : decode cX3_isNumber 35 = .ok (.ifCond .eq 23, 3) := by decide +kernel
theorem dX3_isNumber_38 : decode cX3_isNumber 38 = .ok (.iload_n 1, 1) := by decide +kernel
theorem dX3_isNumber_39 : decode cX3_isNumber 39 = .ok (.ifCond .eq 15, 3) := by decide +kernel
theorem dX3_isNumber_42 : decode cX3_isNumber 42 = .ok (.lload_n 2, 1) := by decide +kernel
theorem dX3_isNumber_43 : decode cX3_isNumber 43 = .ok (.ldc2_w 60, 3) := by decide +kernel
theorem dX3_isNumber_46 : decode cX3_isNumber 46 = .ok (.land, 1) := by decide +kernel
theorem dX3_isNumber_47 : decode cX3_isNumber 47 = .ok (.ldc2_w 70, 3) := by decide +kernel
theorem dX3_isNumber_50 : decode cX3_isNumber 50 = .ok (.lcmp, 1) := by decide +kernel
theorem dX3_isNumber_51 : decode cX3_isNumber 51 = .ok (.ifCond .gt 7, 3) := by decide +kernel
theorem dX3_isNumber_54 : decode cX3_isNumber 54 = .ok (.iconst 1, 1) := by decide +kernel
theorem dX3_isNumber_55 : decode cX3_isNumber 55 = .ok (.goto 4, 3) := by decide +kernel
theorem dX3_isNumber_58 : decode cX3_isNumber 58 = .ok (.iconst 0, 1) := by decide +kernel
theorem dX3_isNumber_59 : decode cX3_isNumber 59 = .ok (.ireturn, 1) := by decide +kernel
set_option maxRecDepth 20000 in
theorem ggX3_rank_X3_isReal : GoodIn wsX3_rank wsX3_isReal := goodIn_r _ [7] (by decide +kernel) (by decide +kernel)
set_option maxRecDepth 20000 in
theorem gX3_rank_X3_isReal : GoodIn wsX3_rank (wsV RX3 72 RX3 yX3_isReal wsX3_isReal) := goodIn_app (goodIn_of _ (by decide +kernel)) ggX3_rank_X3_isReal
theorem dX3_rank_0 : decode cX3_rank 0 = .ok (.aload_n 0, 1) := by decide +kernel
theorem dX3_rank_1 : decode cX3_rank 1 = .ok (.iload_n 1, 1) := by decide +kernel
theorem dX3_rank_2 : decode cX3_rank 2 = .ok (.invokevirtual 72, 3) := by decide +kernel
theorem dX3_rank_5 : decode cX3_rank 5 = .ok (.ifCond .eq 9, 3) := by decide +kernel
theorem dX3_rank_8 : decode cX3_rank 8 = .ok (.lload_n 2, 1) := by decide +kernel
theorem dX3_rank_9 : decode cX3_rank 9 = .ok (.lconst 0, 1) := by decide +kernel
theorem dX3_rank_10 : decode cX3_rank 10 = .ok (.lcmp, 1) := by decide +kernel
theorem dX3_rank_11 : decode cX3_rank 11 = .ok (.ifCond .lt 5, 3) := by decide +kernel
theorem dX3_rank_14 : decode cX3_rank 14 = .ok (.lload_n 2, 1) := by decide +kernel
theorem dX3_rank_15 : decode cX3_rank 15 = .ok (.lreturn, 1) := by decide +kernel
theorem dX3_rank_16 : decode cX3_rank 16 = .ok (.iload_n 1, 1) := by decide +kernel
theorem dX3_rank_17 : decode cX3_rank 17 = .ok (.iconst 2, 1) := by decide +kernel
theorem dX3_rank_18 : decode cX3_rank 18 = .ok (.if_icmp .ne 11, 3) := by decide +kernel
theorem dX3_rank_21 : decode cX3_rank 21 = .ok (.lload_n 2, 1) := by decide +kernel
theorem dX3_rank_22 : decode cX3_rank 22 = .ok (.ldc2_w 60, 3) := by decide +kernel
theorem dX3_rank_25 : decode cX3_rank 25 = .ok (.lxor, 1) := by decide +kernel
theorem dX3_rank_26 : decode cX3_rank 26 = .ok (.goto 8, 3) := by decide +kernel
theorem dX3_rank_29 : decode cX3_rank 29 = .ok (.lload_n 2, 1) := by decide +kernel
theorem dX3_rank_30 : decode cX3_rank 30 = .ok (.ldc2_w 62, 3) := by decide +kernel
theorem dX3_rank_33 : decode cX3_rank 33 = .ok (.lxor, 1) := by decide +kernel
theorem dX3_rank_34 : decode cX3_rank 34 = .ok (.lreturn, 1) := by decide +kernel
set_option maxRecDepth 20000 in
theorem ggX3_isAbove_X3_rank : GoodIn wsX3_isAbove wsX3_rank := goodIn_r _ [5, 6, 7, 8, 9, 10, 4, 11] (by decide +kernel) (by decide +kernel)
set_option maxRecDepth 20000 in
theorem gX3_isAbove_X3_rank : GoodIn wsX3_isAbove (wsV RX3 76 RX3 yX3_rank wsX3_rank) := goodIn_app (goodIn_of _ (by decide +kernel)) ggX3_isAbove_X3_rank
theorem dX3_isAbove_0 : decode cX3_isAbove 0 = .ok (.aload_n 0, 1) := by decide +kernel
theorem dX3_isAbove_1 : decode cX3_isAbove 1 = .ok (.iload_n 1, 1) := by decide +kernel
theorem dX3_isAbove_2 : decode cX3_isAbove 2 = .ok (.lload_n 2, 1) := by decide +kernel
theorem dX3_isAbove_3 : decode cX3_isAbove 3 = .ok (.invokevirtual 76, 3) := by decide +kernel
theorem dX3_isAbove_6 : decode cX3_isAbove 6 = .ok (.aload_n 0, 1) := by decide +kernel
theorem dX3_isAbove_7 : decode cX3_isAbove 7 = .ok (.iload_n 1, 1) := by decide +kernel
theorem dX3_isAbove_8 : decode cX3_isAbove 8 = .ok (.lload 4, 2) := by decide +kernel
theorem dX3_isAbove_10 : decode cX3_isAbove 10 = .ok (.invokevirtual 76, 3) := by decide +kernel
theorem dX3_isAbove_13 : decode cX3_isAbove 13 = .ok (.lcmp, 1) := by decide +kernel
theorem dX3_isAbove_14 : decode cX3_isAbove 14 = .ok (.ifCond .le 7, 3) := by decide +kernel
theorem dX3_isAbove_17 : decode cX3_isAbove 17 = .ok (.iconst 1, 1) := by decide +kernel
theorem dX3_isAbove_18 : decode cX3_isAbove 18 = .ok (.goto 4, 3) := by decide +kernel
theorem dX3_isAbove_21 : decode cX3_isAbove 21 = .ok (.iconst 0, 1) := by decide +kernel
theorem dX3_isAbove_22 : decode cX3_isAbove 22 = .ok (.ireturn, 1) := by decide +kernel
set_option maxRecDepth 20000 in
theorem ggX3_greater_X3_isAbove : GoodIn wsX3_greater wsX3_isAbove := goodIn_r _ [5, 6, 7, 8, 4, 9, 10, 11, 12, 13, 14, 15] (by decide +kernel) (by decide +kernel)
set_option maxRecDepth 20000 in
theorem gX3_greater_X3_isAbove : GoodIn wsX3_greater (wsV RX3 80 RX3 yX3_isAbove wsX3_isAbove) := goodIn_app (goodIn_of _ (by decide +kernel)) ggX3_greater_X3_isAbove
theorem dX3_greater_0 : decode cX3_greater 0 = .ok (.aload_n 0, 1) := by decide +kernel
theorem dX3_greater_1 : decode cX3_greater 1 = .ok (.iload_n 1, 1) := by decide +kernel
theorem dX3_greater_2 : decode cX3_greater 2 = .ok (.lload 4, 2) := by decide +kernel
theorem dX3_greater_4 : decode cX3_greater 4 = .ok (.lload_n 2, 1) := by decide +kernel
theorem dX3_greater_5 : decode cX3_greater 5 = .ok (.invokevirtual 80, 3) := by decide +kernel
theorem dX3_greater_8 : decode cX3_greater 8 = .ok (.ifCond .eq 8, 3) := by decide +kernel
theorem dX3_greater_11 : decode cX3_greater 11 = .ok (.lload 4, 2) := by decide +kernel
theorem dX3_greater_13 : decode cX3_greater 13 = .ok (.goto 4, 3) := by decide +kernel
theorem dX3_greater_16 : decode cX3_greater 16 = .ok (.lload_n 2, 1) := by decide +kernel
theorem dX3_greater_17 : decode cX3_greater 17 = .ok (.lreturn, 1) := by decide +kernel
set_option maxRecDepth 20000 in
theorem ggX3_less_X3_isAbove : GoodIn wsX3_less wsX3_isAbove := goodIn_r _ [5, 6, 7, 8, 4, 9, 10, 11, 12, 13, 14, 15] (by decide +kernel) (by decide +kernel)
set_option maxRecDepth 20000 in
theorem gX3_less_X3_isAbove : GoodIn wsX3_less (wsV RX3 80 RX3 yX3_isAbove wsX3_isAbove) := goodIn_app (goodIn_of _ (by decide +kernel)) ggX3_less_X3_isAbove
theorem dX3_less_0 : decode cX3_less 0 = .ok (.aload_n 0, 1) := by decide +kernel
theorem dX3_less_1 : decode cX3_less 1 = .ok (.iload_n 1, 1) := by decide +kernel
theorem dX3_less_2 : decode cX3_less 2 = .ok (.lload_n 2, 1) := by decide +kernel
theorem dX3_less_3 : decode cX3_less 3 = .ok (.lload 4, 2) := by decide +kernel
theorem dX3_less_5 : decode cX3_less 5 = .ok (.invokevirtual 80, 3) := by decide +kernel
theorem dX3_less_8 : decode cX3_less 8 = .ok (.ifCond .eq 8, 3) := by decide +kernel
theorem dX3_less_11 : decode cX3_less 11 = .ok (.lload 4, 2) := by decide +kernel
theorem dX3_less_13 : decode cX3_less 13 = .ok (.goto 4, 3) := by decide +kernel
theorem dX3_less_16 : decode cX3_less 16 = .ok (.lload_n 2, 1) := by decide +kernel
theorem dX3_less_17 : decode cX3_less 17 = .ok (.lreturn, 1) := by decide +kernel
theorem dX3_plain_0 : decode cX3_plain 0 = .ok (.iload_n 1, 1) := by decide +kernel
theorem dX3_plain_1 : decode cX3_plain 1 = .ok (.iconst 2, 1) := by decide +kernel
theorem dX3_plain_2 : decode cX3_plain 2 = .ok (.if_icmp .ne 11, 3) := by decide +kernel
theorem dX3_plain_5 : decode cX3_plain 5 = .ok (.lload_n 2, 1) := by decide +kernel
theorem dX3_plain_6 : decode cX3_plain 6 = .ok (.ldc2_w 60, 3) := by decide +kernel
theorem dX3_plain_9 : decode cX3_plain 9 = .ok (.land, 1) := by decide +kernel
theorem dX3_plain_10 : decode cX3_plain 10 = .ok (.goto 8, 3) := by decide +kernel
theorem dX3_plain_13 : decode cX3_plain 13 = .ok (.lload_n 2, 1) := by decide +kernel
theorem dX3_plain_14 : decode cX3_plain 14 = .ok (.ldc2_w 62, 3) := by decide +kernel
theorem dX3_plain_17 : decode cX3_plain 17 = .ok (.land, 1) := by decide +kernel
theorem dX3_plain_18 : decode cX3_plain 18 = .ok (.lreturn, 1) := by decide +kernel
theorem dX3_signed_0 : decode cX3_signed 0 = .ok (.lload 4, 2) := by decide +kernel
theorem dX3_signed_2 : decode cX3_signed 2 = .ok (.lconst 0, 1) := by decide +kernel
theorem dX3_signed_3 : decode cX3_signed 3 = .ok (.lcmp, 1) := by decide +kernel
theorem dX3_signed_4 : decode cX3_signed 4 = .ok (.ifCond .lt 5, 3) := by decide +kernel
theorem dX3_signed_7 : decode cX3_signed 7 = .ok (.lload_n 2, 1) := by decide +kernel
theorem dX3_signed_8 : decode cX3_signed 8 = .ok (.lreturn, 1) := by decide +kernel
theorem dX3_signed_9 : decode cX3_signed 9 = .ok (.iload_n 1, 1) := by decide +kernel
theorem dX3_signed_10 : decode cX3_signed 10 = .ok (.iconst 2, 1) := by decide +kernel
theorem dX3_signed_11 : decode cX3_signed 11 = .ok (.if_icmp .ne 11, 3) := by decide +kernel
theorem dX3_signed_14 : decode cX3_signed 14 = .ok (.lload_n 2, 1) := by decide +kernel
theorem dX3_signed_15 : decode cX3_signed 15 = .ok (.ldc2_w 84, 3) := by decide +kernel
theorem dX3_signed_18 : decode cX3_signed 18 = .ok (.lsub, 1) := by decide +kernel
theorem dX3_signed_19 : decode cX3_signed 19 = .ok (.goto 8, 3) := by decide +kernel
theorem dX3_signed_22 : decode cX3_signed 22 = .ok (.lload_n 2, 1) := by decide +kernel
theorem dX3_signed_23 : decode cX3_signed 23 = .ok (.ldc2_w 86, 3) := by decide +kernel
theorem dX3_signed_26 : decode cX3_signed 26 = .ok (.lor, 1) := by decide +kernel
theorem dX3_signed_27 : decode cX3_signed 27 = .ok (.lreturn, 1) := by decide +kernel
set_option maxRecDepth 20000 in
theorem ggX3_sizeOf_X3_isReal : GoodIn wsX3_sizeOf wsX3_isReal := goodIn_r _ [7] (by decide +kernel) (by decide +kernel)
set_option maxRecDepth 20000 in
theorem gX3_sizeOf_X3_isReal : GoodIn wsX3_sizeOf (wsV RX3 72 RX3 yX3_isReal wsX3_isReal) := goodIn_app (goodIn_of _ (by decide +kernel)) ggX3_sizeOf_X3_isReal
set_option maxRecDepth 20000 in
theorem ggX3_sizeOf_X3_plain : GoodIn wsX3_sizeOf wsX3_plain := goodIn_r _ [11, 12, 13] (by decide +kernel) (by decide +kernel)
set_option maxRecDepth 20000 in
theorem gX3_sizeOf_X3_plain : GoodIn wsX3_sizeOf (wsV RX3 88 RX3 yX3_plain wsX3_plain) := goodIn_app (goodIn_of _ (by decide +kernel)) ggX3_sizeOf_X3_plain
theorem dX3_sizeOf_0 : decode cX3_sizeOf 0 = .ok (.aload_n 0, 1) := by decide +kernel
theorem dX3_sizeOf_1 : decode cX3_sizeOf 1 = .ok (.iload_n 1, 1) := by decide +kernel
theorem dX3_sizeOf_2 : decode cX3_sizeOf 2 = .ok (.invokevirtual 72, 3) := by decide +kernel
theorem dX3_sizeOf_5 : decode cX3_sizeOf 5 = .ok (.ifCond .eq 10, 3) := by decide +kernel
theorem dX3_sizeOf_8 : decode cX3_sizeOf 8 = .ok (.aload_n 0, 1) := by decide +kernel
theorem dX3_sizeOf_9 : decode cX3_sizeOf 9 = .ok (.iload_n 1, 1) := by decide +kernel
theorem dX3_sizeOf_10 : decode cX3_sizeOf 10 = .ok (.lload_n 2, 1) := by decide +kernel
theorem dX3_sizeOf_11 : decode cX3_sizeOf 11 = .ok (.invokevirtual 88, 3) := by decide +kernel
theorem dX3_sizeOf_14 : decode cX3_sizeOf 14 = .ok (.lreturn, 1) := by decide +kernel
theorem dX3_sizeOf_15 : decode cX3_sizeOf 15 = .ok (.lload_n 2, 1) := by decide +kernel
theorem dX3_sizeOf_16 : decode cX3_sizeOf 16 = .ok (.lconst 0, 1) := by decide +kernel
theorem dX3_sizeOf_17 : decode cX3_sizeOf 17 = .ok (.lcmp, 1) := by decide +kernel
theorem dX3_sizeOf_18 : decode cX3_sizeOf 18 = .ok (.ifCond .ge 23, 3) := by decide +kernel
theorem dX3_sizeOf_21 : decode cX3_sizeOf 21 = .ok (.iload_n 1, 1) := by decide +kernel
theorem dX3_sizeOf_22 : decode cX3_sizeOf 22 = .ok (.ifCond .ne 11, 3) := by decide +kernel
theorem dX3_sizeOf_25 : decode cX3_sizeOf 25 = .ok (.lload_n 2, 1) := by decide +kernel
theorem dX3_sizeOf_26 : decode cX3_sizeOf 26 = .ok (.ldc2_w 58, 3) := by decide +kernel
theorem dX3_sizeOf_29 : decode cX3_sizeOf 29 = .ok (.lcmp, 1) := by decide +kernel
theorem dX3_sizeOf_30 : decode cX3_sizeOf 30 = .ok (.ifCond .eq 11, 3) := by decide +kernel
theorem dX3_sizeOf_33 : decode cX3_sizeOf 33 = .ok (.lload_n 2, 1) := by decide +kernel
theorem dX3_sizeOf_34 : decode cX3_sizeOf 34 = .ok (.ldc2_w 86, 3) := by decide +kernel
theorem dX3_sizeOf_37 : decode cX3_sizeOf 37 = .ok (.lcmp, 1) := by decide +kernel
theorem dX3_sizeOf_38 : decode cX3_sizeOf 38 = .ok (.ifCond .ne 5, 3) := by decide +kernel
theorem dX3_sizeOf_41 : decode cX3_sizeOf 41 = .ok (.lload_n 2, 1) := by decide +kernel
theorem dX3_sizeOf_42 : decode cX3_sizeOf 42 = .ok (.lreturn, 1) := by decide +kernel
theorem dX3_sizeOf_43 : decode cX3_sizeOf 43 = .ok (.lload_n 2, 1) := by decide +kernel
theorem dX3_sizeOf_44 : decode cX3_sizeOf 44 = .ok (.lneg, 1) := by decide +kernel
theorem dX3_sizeOf_45 : decode cX3_sizeOf 45 = .ok (.lreturn, 1) := by decide +kernel
theorem dX3_one_0 : decode cX3_one 0 = .ok (.iload_n 1, 1) := by decide +kernel
theorem dX3_one_1 : decode cX3_one 1 = .ok (.iconst 2, 1) := by decide +kernel
theorem dX3_one_2 : decode cX3_one 2 = .ok (.if_icmp .ne 9, 3) := by decide +kernel
theorem dX3_one_5 : decode cX3_one 5 = .ok (.ldc2_w 91, 3) := by decide +kernel
theorem dX3_one_8 : decode cX3_one 8 = .ok (.goto 6, 3) := by decide +kernel
theorem dX3_one_11 : decode cX3_one 11 = .ok (.ldc2_w 93, 3) := by decide +kernel
theorem dX3_one_14 : decode cX3_one 14 = .ok (.lreturn, 1) := by decide +kernel
set_option maxRecDepth 20000 in
theorem ggX3_whole_X3_plain : GoodIn wsX3_whole wsX3_plain := goodIn_r _ [5, 6, 7] (by decide +kernel) (by decide +kernel)
set_option maxRecDepth 20000 in
theorem gX3_whole_X3_plain : GoodIn wsX3_whole (wsV RX3 88 RX3 yX3_plain wsX3_plain) := goodIn_app (goodIn_of _ (by decide +kernel)) ggX3_whole_X3_plain
set_option maxRecDepth 20000 in
theorem ggX3_whole_X3_one : GoodIn wsX3_whole wsX3_one := goodIn_r _ [11, 12, 13] (by decide +kernel) (by decide +kernel)
set_option maxRecDepth 20000 in
theorem gX3_whole_X3_one : GoodIn wsX3_whole (wsV RX3 95 RX3 yX3_one wsX3_one) := goodIn_app (goodIn_of _ (by decide +kernel)) ggX3_whole_X3_one
set_option maxRecDepth 20000 in
theorem ggX3_whole_X3_signed : GoodIn wsX3_whole wsX3_signed := goodIn_r _ [17, 18, 19] (by decide +kernel) (by decide +kernel)
set_option maxRecDepth 20000 in
theorem gX3_whole_X3_signed : GoodIn wsX3_whole (wsV RX3 99 RX3 yX3_signed wsX3_signed) := goodIn_app (goodIn_of _ (by decide +kernel)) ggX3_whole_X3_signed
theorem dX3_whole_0 : decode cX3_whole 0 = .ok (.aload_n 0, 1) := by decide +kernel
theorem dX3_whole_1 : decode cX3_whole 1 = .ok (.iload_n 1, 1) := by decide +kernel
theorem dX3_whole_2 : decode cX3_whole 2 = .ok (.lload_n 2, 1) := by decide +kernel
theorem dX3_whole_3 : decode cX3_whole 3 = .ok (.invokevirtual 88, 3) := by decide +kernel
theorem dX3_whole_6 : decode cX3_whole 6 = .ok (.lstore 5, 2) := by decide +kernel
theorem dX3_whole_8 : decode cX3_whole 8 = .ok (.iload_n 1, 1) := by decide +kernel
theorem dX3_whole_9 : decode cX3_whole 9 = .ok (.iconst 2, 1) := by decide +kernel
theorem dX3_whole_10 : decode cX3_whole 10 = .ok (.if_icmp .ne 8, 3) := by decide +kernel
theorem dX3_whole_13 : decode cX3_whole 13 = .ok (.bipush 23, 2) := by decide +kernel
theorem dX3_whole_15 : decode cX3_whole 15 = .ok (.goto 5, 3) := by decide +kernel
theorem dX3_whole_18 : decode cX3_whole 18 = .ok (.bipush 52, 2) := by decide +kernel
theorem dX3_whole_20 : decode cX3_whole 20 = .ok (.istore 7, 2) := by decide +kernel
theorem dX3_whole_22 : decode cX3_whole 22 = .ok (.lload 5, 2) := by decide +kernel
theorem dX3_whole_24 : decode cX3_whole 24 = .ok (.iload 7, 2) := by decide +kernel
theorem dX3_whole_26 : decode cX3_whole 26 = .ok (.lshr, 1) := by decide +kernel
theorem dX3_whole_27 : decode cX3_whole 27 = .ok (.l2i, 1) := by decide +kernel
theorem dX3_whole_28 : decode cX3_whole 28 = .ok (.iload_n 1, 1) := by decide +kernel
theorem dX3_whole_29 : decode cX3_whole 29 = .ok (.iconst 2, 1) := by decide +kernel
theorem dX3_whole_30 : decode cX3_whole 30 = .ok (.if_icmp .ne 8, 3) := by decide +kernel
theorem dX3_whole_33 : decode cX3_whole 33 = .ok (.bipush 127, 2) := by decide +kernel
theorem dX3_whole_35 : decode cX3_whole 35 = .ok (.goto 6, 3) := by decide +kernel
theorem dX3_whole_38 : decode cX3_whole 38 = .ok (.sipush 1023, 3) := by decide +kernel
theorem dX3_whole_41 : decode cX3_whole 41 = .ok (.isub, 1) := by decide +kernel
theorem dX3_whole_42 : decode cX3_whole 42 = .ok (.istore 8, 2) := by decide +kernel
theorem dX3_whole_44 : decode cX3_whole 44 = .ok (.lload 5, 2) := by decide +kernel
theorem dX3_whole_46 : decode cX3_whole 46 = .ok (.lconst 0, 1) := by decide +kernel
theorem dX3_whole_47 : decode cX3_whole 47 = .ok (.lcmp, 1) := by decide +kernel
theorem dX3_whole_48 : decode cX3_whole 48 = .ok (.ifCond .eq 10, 3) := by decide +kernel
theorem dX3_whole_51 : decode cX3_whole 51 = .ok (.iload 8, 2) := by decide +kernel
theorem dX3_whole_53 : decode cX3_whole 53 = .ok (.iload 7, 2) := by decide +kernel
theorem dX3_whole_55 : decode cX3_whole 55 = .ok (.if_icmp .lt 5, 3) := by decide +kernel
theorem dX3_whole_58 : decode cX3_whole 58 = .ok (.lload_n 2, 1) := by decide +kernel
theorem dX3_whole_59 : decode cX3_whole 59 = .ok (.lreturn, 1) := by decide +kernel
theorem dX3_whole_60 : decode cX3_whole 60 = .ok (.iload 4, 2) := by decide +kernel
theorem dX3_whole_62 : decode cX3_whole 62 = .ok (.iconst 1, 1) := by decide +kernel
theorem dX3_whole_63 : decode cX3_whole 63 = .ok (.if_icmp .ne 17, 3) := by decide +kernel
theorem dX3_whole_66 : decode cX3_whole 66 = .ok (.lload_n 2, 1) := by decide +kernel
theorem dX3_whole_67 : decode cX3_whole 67 = .ok (.lconst 0, 1) := by decide +kernel
theorem dX3_whole_68 : decode cX3_whole 68 = .ok (.lcmp, 1) := by decide +kernel
theorem dX3_whole_69 : decode cX3_whole 69 = .ok (.ifCond .ge 7, 3) := by decide +kernel
theorem dX3_whole_72 : decode cX3_whole 72 = .ok (.iconst 1, 1) := by decide +kernel
theorem dX3_whole_73 : decode cX3_whole 73 = .ok (.goto 18, 3) := by decide +kernel
theorem dX3_whole_76 : decode cX3_whole 76 = .ok (.iconst 0, 1) := by decide +kernel
theorem dX3_whole_77 : decode cX3_whole 77 = .ok (.goto 14, 3) := by decide +kernel
theorem dX3_whole_80 : decode cX3_whole 80 = .ok (.lload_n 2, 1) := by decide +kernel
theorem dX3_whole_81 : decode cX3_whole 81 = .ok (.lconst 0, 1) := by decide +kernel
theorem dX3_whole_82 : decode cX3_whole 82 = .ok (.lcmp, 1) := by decide +kernel
theorem dX3_whole_83 : decode cX3_whole 83 = .ok (.ifCond .lt 7, 3) := by decide +kernel
theorem dX3_whole_86 : decode cX3_whole 86 = .ok (.iconst 1, 1) := by decide +kernel
theorem dX3_whole_87 : decode cX3_whole 87 = .ok (.goto 4, 3) := by decide +kernel
theorem dX3_whole_90 : decode cX3_whole 90 = .ok (.iconst 0, 1) := by decide +kernel
theorem dX3_whole_91 : decode cX3_whole 91 = .ok (.istore 9, 2) := by decide +kernel
theorem dX3_whole_93 : decode cX3_whole 93 = .ok (.iload 8, 2) := by decide +kernel
theorem dX3_whole_95 : decode cX3_whole 95 = .ok (.ifCond .ge 59, 3) := by decide +kernel
theorem dX3_whole_98 : decode cX3_whole 98 = .ok (.iload 4, 2) := by decide +kernel
theorem dX3_whole_100 : decode cX3_whole 100 = .ok (.iconst 3, 1) := by decide +kernel
theorem dX3_whole_101 : decode cX3_whole 101 = .ok (.if_icmp .ne 32, 3) := by decide +kernel
theorem dX3_whole_104 : decode cX3_whole 104 = .ok (.iload 8, 2) := by decide +kernel
theorem dX3_whole_106 : decode cX3_whole 106 = .ok (.iconst (-1), 1) := by decide +kernel
theorem dX3_whole_107 : decode cX3_whole 107 = .ok (.if_icmp .ne 23, 3) := by decide +kernel
theorem dX3_whole_110 : decode cX3_whole 110 = .ok (.lload 5, 2) := by decide +kernel
theorem dX3_whole_112 : decode cX3_whole 112 = .ok (.aload_n 0, 1) := by decide +kernel
theorem dX3_whole_113 : decode cX3_whole 113 = .ok (.iload_n 1, 1) := by decide +kernel
theorem dX3_whole_114 : decode cX3_whole 114 = .ok (.invokevirtual 95, 3) := by decide +kernel
theorem dX3_whole_117 : decode cX3_whole 117 = .ok (.lconst 1, 1) := by decide +kernel
theorem dX3_whole_118 : decode cX3_whole 118 = .ok (.iload 7, 2) := by decide +kernel
theorem dX3_whole_120 : decode cX3_whole 120 = .ok (.lshl, 1) := by decide +kernel
theorem dX3_whole_121 : decode cX3_whole 121 = .ok (.lsub, 1) := by decide +kernel
theorem dX3_whole_122 : decode cX3_whole 122 = .ok (.lcmp, 1) := by decide +kernel
theorem dX3_whole_123 : decode cX3_whole 123 = .ok (.ifCond .le 7, 3) := by decide +kernel
theorem dX3_whole_126 : decode cX3_whole 126 = .ok (.iconst 1, 1) := by decide +kernel
theorem dX3_whole_127 : decode cX3_whole 127 = .ok (.goto 4, 3) := by decide +kernel
theorem dX3_whole_130 : decode cX3_whole 130 = .ok (.iconst 0, 1) := by decide +kernel
theorem dX3_whole_131 : decode cX3_whole 131 = .ok (.istore 9, 2) := by decide +kernel
theorem dX3_whole_133 : decode cX3_whole 133 = .ok (.aload_n 0, 1) := by decide +kernel
theorem dX3_whole_134 : decode cX3_whole 134 = .ok (.iload_n 1, 1) := by decide +kernel
theorem dX3_whole_135 : decode cX3_whole 135 = .ok (.iload 9, 2) := by decide +kernel
theorem dX3_whole_137 : decode cX3_whole 137 = .ok (.ifCond .eq 11, 3) := by decide +kernel
theorem dX3_whole_140 : decode cX3_whole 140 = .ok (.aload_n 0, 1) := by decide +kernel
theorem dX3_whole_141 : decode cX3_whole 141 = .ok (.iload_n 1, 1) := by decide +kernel
theorem dX3_whole_142 : decode cX3_whole 142 = .ok (.invokevirtual 95, 3) := by decide +kernel
theorem dX3_whole_145 : decode cX3_whole 145 = .ok (.goto 4, 3) := by decide +kernel
theorem dX3_whole_148 : decode cX3_whole 148 = .ok (.lconst 0, 1) := by decide +kernel
theorem dX3_whole_149 : decode cX3_whole 149 = .ok (.lload_n 2, 1) := by decide +kernel
theorem dX3_whole_150 : decode cX3_whole 150 = .ok (.invokevirtual 99, 3) := by decide +kernel
theorem dX3_whole_153 : decode cX3_whole 153 = .ok (.lreturn, 1) := by decide +kernel
theorem dX3_whole_154 : decode cX3_whole 154 = .ok (.iload 7, 2) := by decide +kernel
theorem dX3_whole_156 : decode cX3_whole 156 = .ok (.iload 8, 2) := by decide +kernel
theorem dX3_whole_158 : decode cX3_whole 158 = .ok (.isub, 1) := by decide +kernel
theorem dX3_whole_159 : decode cX3_whole 159 = .ok (.istore 10, 2) := by decide +kernel
theorem dX3_whole_161 : decode cX3_whole 161 = .ok (.lload 5, 2) := by decide +kernel
theorem dX3_whole_163 : decode cX3_whole 163 = .ok (.lconst 1, 1) := by decide +kernel
theorem dX3_whole_164 : decode cX3_whole 164 = .ok (.iload 10, 2) := by decide +kernel
theorem dX3_whole_166 : decode cX3_whole 166 = .ok (.lshl, 1) := by decide +kernel
theorem dX3_whole_167 : decode cX3_whole 167 = .ok (.lconst 1, 1) := by decide +kernel
theorem dX3_whole_168 : decode cX3_whole 168 = .ok (.lsub, 1) := by decide +kernel
theorem dX3_whole_169 : decode cX3_whole 169 = .ok (.land, 1) := by decide +kernel
theorem dX3_whole_170 : decode cX3_whole 170 = .ok (.lstore 11, 2) := by decide +kernel
theorem dX3_whole_172 : decode cX3_whole 172 = .ok (.lload 5, 2) := by decide +kernel
theorem dX3_whole_174 : decode cX3_whole 174 = .ok (.lload 11, 2) := by decide +kernel
theorem dX3_whole_176 : decode cX3_whole 176 = .ok (.lsub, 1) := by decide +kernel
theorem dX3_whole_177 : decode cX3_whole 177 = .ok (.lstore 13, 2) := by decide +kernel
theorem dX3_whole_179 : decode cX3_whole 179 = .ok (.lload 11, 2) := by decide +kernel
theorem dX3_whole_181 : decode cX3_whole 181 = .ok (.lconst 0, 1) := by decide +kernel
theorem dX3_whole_182 : decode cX3_whole 182 = .ok (.lcmp, 1) := by decide +kernel
theorem dX3_whole_183 : decode cX3_whole 183 = .ok (.ifCond .ne 5, 3) := by decide +kernel
theorem dX3_whole_186 : decode cX3_whole 186 = .ok (.lload_n 2, 1) := by decide +kernel
theorem dX3_whole_187 : decode cX3_whole 187 = .ok (.lreturn, 1) := by decide +kernel
theorem dX3_whole_188 : decode cX3_whole 188 = .ok (.iload 4, 2) := by decide +kernel
theorem dX3_whole_190 : decode cX3_whole 190 = .ok (.iconst 3, 1) := by decide +kernel
theorem dX3_whole_191 : decode cX3_whole 191 = .ok (.if_icmp .ne 63, 3) := by decide +kernel
theorem dX3_whole_194 : decode cX3_whole 194 = .ok (.lconst 1, 1) := by decide +kernel
theorem dX3_whole_195 : decode cX3_whole 195 = .ok (.iload 10, 2) := by decide +kernel
theorem dX3_whole_197 : decode cX3_whole 197 = .ok (.iconst 1, 1) := by decide +kernel
theorem dX3_whole_198 : decode cX3_whole 198 = .ok (.isub, 1) := by decide +kernel
theorem dX3_whole_199 : decode cX3_whole 199 = .ok (.lshl, 1) := by decide +kernel
theorem dX3_whole_200 : decode cX3_whole 200 = .ok (.lstore 15, 2) := by decide +kernel
theorem dX3_whole_202 : decode cX3_whole 202 = .ok (.iload 8, 2) := by decide +kernel
theorem dX3_whole_204 : decode cX3_whole 204 = .ok (.ifCond .eq 15, 3) := by decide +kernel
theorem dX3_whole_207 : decode cX3_whole 207 = .ok (.lload 5, 2) := by decide +kernel
theorem dX3_whole_209 : decode cX3_whole 209 = .ok (.iload 10, 2) := by decide +kernel
theorem dX3_whole_211 : decode cX3_whole 211 = .ok (.lshr, 1) := by decide +kernel
theorem dX3_whole_212 : decode cX3_whole 212 = .ok (.lconst 1, 1) := by decide +kernel
theorem dX3_whole_213 : decode cX3_whole 213 = .ok (.land, 1) := by decide +kernel
theorem dX3_whole_214 : decode cX3_whole 214 = .ok (.lconst 1, 1) := by decide +kernel
theorem dX3_whole_215 : decode cX3_whole 215 = .ok (.lcmp, 1) := by decide +kernel
theorem dX3_whole_216 : decode cX3_whole 216 = .ok (.ifCond .ne 7, 3) := by decide +kernel
theorem dX3_whole_219 : decode cX3_whole 219 = .ok (.iconst 1, 1) := by decide +kernel
theorem dX3_whole_220 : decode cX3_whole 220 = .ok (.goto 4, 3) := by decide +kernel
theorem dX3_whole_223 : decode cX3_whole 223 = .ok (.iconst 0, 1) := by decide +kernel
theorem dX3_whole_224 : decode cX3_whole 224 = .ok (.istore 17, 2) := by decide +kernel
theorem dX3_whole_226 : decode cX3_whole 226 = .ok (.lload 11, 2) := by decide +kernel
theorem dX3_whole_228 : decode cX3_whole 228 = .ok (.lload 15, 2) := by decide +kernel
theorem dX3_whole_230 : decode cX3_whole 230 = .ok (.lcmp, 1) := by decide +kernel
theorem dX3_whole_231 : decode cX3_whole 231 = .ok (.ifCond .gt 16, 3) := by decide +kernel
theorem dX3_whole_234 : decode cX3_whole 234 = .ok (.lload 11, 2) := by decide +kernel
theorem dX3_whole_236 : decode cX3_whole 236 = .ok (.lload 15, 2) := by decide +kernel
theorem dX3_whole_238 : decode cX3_whole 238 = .ok (.lcmp, 1) := by decide +kernel
theorem dX3_whole_239 : decode cX3_whole 239 = .ok (.ifCond .ne 12, 3) := by decide +kernel
theorem dX3_whole_242 : decode cX3_whole 242 = .ok (.iload 17, 2) := by decide +kernel
theorem dX3_whole_244 : decode cX3_whole 244 = .ok (.ifCond .eq 7, 3) := by decide +kernel
theorem dX3_whole_247 : decode cX3_whole 247 = .ok (.iconst 1, 1) := by decide +kernel
theorem dX3_whole_248 : decode cX3_whole 248 = .ok (.goto 4, 3) := by decide +kernel
theorem dX3_whole_251 : decode cX3_whole 251 = .ok (.iconst 0, 1) := by decide +kernel
theorem dX3_whole_252 : decode cX3_whole 252 = .ok (.istore 9, 2) := by decide +kernel
theorem dX3_whole_254 : decode cX3_whole 254 = .ok (.aload_n 0, 1) := by decide +kernel
theorem dX3_whole_255 : decode cX3_whole 255 = .ok (.iload_n 1, 1) := by decide +kernel
theorem dX3_whole_256 : decode cX3_whole 256 = .ok (.iload 9, 2) := by decide +kernel
theorem dX3_whole_258 : decode cX3_whole 258 = .ok (.ifCond .eq 13, 3) := by decide +kernel
theorem dX3_whole_261 : decode cX3_whole 261 = .ok (.lload 13, 2) := by decide +kernel
theorem dX3_whole_263 : decode cX3_whole 263 = .ok (.lconst 1, 1) := by decide +kernel
theorem dX3_whole_264 : decode cX3_whole 264 = .ok (.iload 10, 2) := by decide +kernel
theorem dX3_whole_266 : decode cX3_whole 266 = .ok (.lshl, 1) := by decide +kernel
theorem dX3_whole_267 : decode cX3_whole 267 = .ok (.ladd, 1) := by decide +kernel
theorem dX3_whole_268 : decode cX3_whole 268 = .ok (.goto 5, 3) := by decide +kernel
theorem dX3_whole_271 : decode cX3_whole 271 = .ok (.lload 13, 2) := by decide +kernel
theorem dX3_whole_273 : decode cX3_whole 273 = .ok (.lload_n 2, 1) := by decide +kernel
theorem dX3_whole_274 : decode cX3_whole 274 = .ok (.invokevirtual 99, 3) := by decide +kernel
theorem dX3_whole_277 : decode cX3_whole 277 = .ok (.lreturn, 1) := by decide +kernel
set_option maxRecDepth 20000 in
theorem ggX3_turned_X3_sizeOf : GoodIn wsX3_turned wsX3_sizeOf := goodIn_r _ [5, 6, 7, 8, 9, 10, 4, 11, 12, 13, 14, 15, 16, 17] (by decide +kernel) (by decide +kernel)
set_option maxRecDepth 20000 in
theorem gX3_turned_X3_sizeOf : GoodIn wsX3_turned (wsV RX3 103 RX3 yX3_sizeOf wsX3_sizeOf) := goodIn_app (goodIn_of _ (by decide +kernel)) ggX3_turned_X3_sizeOf
set_option maxRecDepth 20000 in
theorem ggX3_turned_X3_whole : GoodIn wsX3_turned wsX3_whole := goodIn_r _ [21, 12, 13, 14, 4, 15, 16, 17, 22, 23, 24, 25, 26, 27, 28, 29, 30, 31, 32, 7] (by decide +kernel) (by decide +kernel)
set_option maxRecDepth 20000 in
theorem gX3_turned_X3_whole : GoodIn wsX3_turned (wsV RX3 106 RX3 yX3_whole wsX3_whole) := goodIn_app (goodIn_of _ (by decide +kernel)) ggX3_turned_X3_whole
set_option maxRecDepth 20000 in
theorem ggX3_turned_X3_plain : GoodIn wsX3_turned wsX3_plain := goodIn_r _ [15, 16, 17] (by decide +kernel) (by decide +kernel)
set_option maxRecDepth 20000 in
theorem gX3_turned_X3_plain : GoodIn wsX3_turned (wsV RX3 88 RX3 yX3_plain wsX3_plain) := goodIn_app (goodIn_of _ (by decide +kernel)) ggX3_turned_X3_plain
set_option maxRecDepth 20000 in
theorem ggX3_turned_X3_one : GoodIn wsX3_turned wsX3_one := goodIn_r _ [25, 26, 27] (by decide +kernel) (by decide +kernel)
set_option maxRecDepth 20000 in
theorem gX3_turned_X3_one : GoodIn wsX3_turned (wsV RX3 95 RX3 yX3_one wsX3_one) := goodIn_app (goodIn_of _ (by decide +kernel)) ggX3_turned_X3_one
set_option maxRecDepth 20000 in
theorem ggX3_turned_X3_signed : GoodIn wsX3_turned wsX3_signed := goodIn_r _ [31, 32, 7] (by decide +kernel) (by decide +kernel)
set_option maxRecDepth 20000 in
theorem gX3_turned_X3_signed : GoodIn wsX3_turned (wsV RX3 99 RX3 yX3_signed wsX3_signed) := goodIn_app (goodIn_of _ (by decide +kernel)) ggX3_turned_X3_signed
theorem dX3_turned_0 : decode cX3_turned 0 = .ok (.iload 4, 2) := by decide +kernel
theorem dX3_turned_2 : decode cX3_turned 2 = .ok (.ifCond .ne 10, 3) := by decide +kernel
theorem dX3_turned_5 : decode cX3_turned 5 = .ok (.aload_n 0, 1) := by decide +kernel
theorem dX3_turned_6 : decode cX3_turned 6 = .ok (.iload_n 1, 1) := by decide +kernel
theorem dX3_turned_7 : decode cX3_turned 7 = .ok (.lload_n 2, 1) := by decide +kernel
theorem dX3_turned_8 : decode cX3_turned 8 = .ok (.invokevirtual 103, 3) := by decide +kernel
theorem dX3_turned_11 : decode cX3_turned 11 = .ok (.lreturn, 1) := by decide +kernel
theorem dX3_turned_12 : decode cX3_turned 12 = .ok (.iload 4, 2) := by decide +kernel
theorem dX3_turned_14 : decode cX3_turned 14 = .ok (.iconst 4, 1) := by decide +kernel
theorem dX3_turned_15 : decode cX3_turned 15 = .ok (.if_icmp .ge 12, 3) := by decide +kernel
theorem dX3_turned_18 : decode cX3_turned 18 = .ok (.aload_n 0, 1) := by decide +kernel
theorem dX3_turned_19 : decode cX3_turned 19 = .ok (.iload_n 1, 1) := by decide +kernel
theorem dX3_turned_20 : decode cX3_turned 20 = .ok (.lload_n 2, 1) := by decide +kernel
theorem dX3_turned_21 : decode cX3_turned 21 = .ok (.iload 4, 2) := by decide +kernel
theorem dX3_turned_23 : decode cX3_turned 23 = .ok (.invokevirtual 106, 3) := by decide +kernel
theorem dX3_turned_26 : decode cX3_turned 26 = .ok (.lreturn, 1) := by decide +kernel
theorem dX3_turned_27 : decode cX3_turned 27 = .ok (.aload_n 0, 1) := by decide +kernel
theorem dX3_turned_28 : decode cX3_turned 28 = .ok (.iload_n 1, 1) := by decide +kernel
theorem dX3_turned_29 : decode cX3_turned 29 = .ok (.lload_n 2, 1) := by decide +kernel
theorem dX3_turned_30 : decode cX3_turned 30 = .ok (.invokevirtual 88, 3) := by decide +kernel
theorem dX3_turned_33 : decode cX3_turned 33 = .ok (.lconst 0, 1) := by decide +kernel
theorem dX3_turned_34 : decode cX3_turned 34 = .ok (.lcmp, 1) := by decide +kernel
theorem dX3_turned_35 : decode cX3_turned 35 = .ok (.ifCond .ne 7, 3) := by decide +kernel
theorem dX3_turned_38 : decode cX3_turned 38 = .ok (.lload_n 2, 1) := by decide +kernel
theorem dX3_turned_39 : decode cX3_turned 39 = .ok (.goto 14, 3) := by decide +kernel
theorem dX3_turned_42 : decode cX3_turned 42 = .ok (.aload_n 0, 1) := by decide +kernel
theorem dX3_turned_43 : decode cX3_turned 43 = .ok (.iload_n 1, 1) := by decide +kernel
theorem dX3_turned_44 : decode cX3_turned 44 = .ok (.aload_n 0, 1) := by decide +kernel
theorem dX3_turned_45 : decode cX3_turned 45 = .ok (.iload_n 1, 1) := by decide +kernel
theorem dX3_turned_46 : decode cX3_turned 46 = .ok (.invokevirtual 95, 3) := by decide +kernel
theorem dX3_turned_49 : decode cX3_turned 49 = .ok (.lload_n 2, 1) := by decide +kernel
theorem dX3_turned_50 : decode cX3_turned 50 = .ok (.invokevirtual 99, 3) := by decide +kernel
theorem dX3_turned_53 : decode cX3_turned 53 = .ok (.lreturn, 1) := by decide +kernel
set_option maxRecDepth 20000 in
theorem ggX3_fitted_X3_less : GoodIn wsX3_fitted wsX3_less := goodIn_r _ [8, 9, 10, 11, 7, 12, 13, 14, 15, 16, 17, 18, 19, 20, 21, 22] (by decide +kernel) (by decide +kernel)
set_option maxRecDepth 20000 in
theorem gX3_fitted_X3_less : GoodIn wsX3_fitted (wsV RX3 110 RX3 yX3_less wsX3_less) := goodIn_app (goodIn_of _ (by decide +kernel)) ggX3_fitted_X3_less
set_option maxRecDepth 20000 in
theorem ggX3_fitted_X3_greater : GoodIn wsX3_fitted wsX3_greater := goodIn_r _ [26, 9, 10, 11, 7, 12, 13, 14, 15, 16, 17, 18, 19, 20, 21, 22] (by decide +kernel) (by decide +kernel)
set_option maxRecDepth 20000 in
theorem gX3_fitted_X3_greater : GoodIn wsX3_fitted (wsV RX3 113 RX3 yX3_greater wsX3_greater) := goodIn_app (goodIn_of _ (by decide +kernel)) ggX3_fitted_X3_greater
theorem dX3_fitted_0 : decode cX3_fitted 0 = .ok (.aload_n 0, 1) := by decide +kernel
theorem dX3_fitted_1 : decode cX3_fitted 1 = .ok (.getfield 7, 3) := by decide +kernel
theorem dX3_fitted_4 : decode cX3_fitted 4 = .ok (.iload_n 1, 1) := by decide +kernel
theorem dX3_fitted_5 : decode cX3_fitted 5 = .ok (.iaload, 1) := by decide +kernel
theorem dX3_fitted_6 : decode cX3_fitted 6 = .ok (.istore 4, 2) := by decide +kernel
theorem dX3_fitted_8 : decode cX3_fitted 8 = .ok (.aload_n 0, 1) := by decide +kernel
theorem dX3_fitted_9 : decode cX3_fitted 9 = .ok (.iload 4, 2) := by decide +kernel
theorem dX3_fitted_11 : decode cX3_fitted 11 = .ok (.aload_n 0, 1) := by decide +kernel
theorem dX3_fitted_12 : decode cX3_fitted 12 = .ok (.getfield 17, 3) := by decide +kernel
theorem dX3_fitted_15 : decode cX3_fitted 15 = .ok (.iload_n 1, 1) := by decide +kernel
theorem dX3_fitted_16 : decode cX3_fitted 16 = .ok (.laload, 1) := by decide +kernel
theorem dX3_fitted_17 : decode cX3_fitted 17 = .ok (.aload_n 0, 1) := by decide +kernel
theorem dX3_fitted_18 : decode cX3_fitted 18 = .ok (.iload 4, 2) := by decide +kernel
theorem dX3_fitted_20 : decode cX3_fitted 20 = .ok (.aload_n 0, 1) := by decide +kernel
theorem dX3_fitted_21 : decode cX3_fitted 21 = .ok (.getfield 20, 3) := by decide +kernel
theorem dX3_fitted_24 : decode cX3_fitted 24 = .ok (.iload_n 1, 1) := by decide +kernel
theorem dX3_fitted_25 : decode cX3_fitted 25 = .ok (.laload, 1) := by decide +kernel
theorem dX3_fitted_26 : decode cX3_fitted 26 = .ok (.lload_n 2, 1) := by decide +kernel
theorem dX3_fitted_27 : decode cX3_fitted 27 = .ok (.invokevirtual 110, 3) := by decide +kernel
theorem dX3_fitted_30 : decode cX3_fitted 30 = .ok (.invokevirtual 113, 3) := by decide +kernel
theorem dX3_fitted_33 : decode cX3_fitted 33 = .ok (.lreturn, 1) := by decide +kernel
set_option maxRecDepth 20000 in
theorem ggX3_gives_X3_greater : GoodIn wsX3_gives wsX3_greater := goodIn_r _ [7, 8, 9, 10, 6, 11, 12, 13, 14, 15, 16, 17, 18, 19, 20, 21] (by decide +kernel) (by decide +kernel)
set_option maxRecDepth 20000 in
theorem gX3_gives_X3_greater : GoodIn wsX3_gives (wsV RX3 113 RX3 yX3_greater wsX3_greater) := goodIn_app (goodIn_of _ (by decide +kernel)) ggX3_gives_X3_greater
set_option maxRecDepth 20000 in
theorem ggX3_gives_X3_less : GoodIn wsX3_gives wsX3_less := goodIn_r _ [25, 8, 9, 10, 6, 11, 12, 13, 14, 15, 16, 17, 18, 19, 20, 21] (by decide +kernel) (by decide +kernel)
set_option maxRecDepth 20000 in
theorem gX3_gives_X3_less : GoodIn wsX3_gives (wsV RX3 110 RX3 yX3_less wsX3_less) := goodIn_app (goodIn_of _ (by decide +kernel)) ggX3_gives_X3_less
set_option maxRecDepth 20000 in
theorem ggX3_gives_X3_plain : GoodIn wsX3_gives wsX3_plain := goodIn_r _ [29, 16, 17] (by decide +kernel) (by decide +kernel)
set_option maxRecDepth 20000 in
theorem gX3_gives_X3_plain : GoodIn wsX3_gives (wsV RX3 88 RX3 yX3_plain wsX3_plain) := goodIn_app (goodIn_of _ (by decide +kernel)) ggX3_gives_X3_plain
set_option maxRecDepth 20000 in
theorem ggX3_gives_X3_signed : GoodIn wsX3_gives wsX3_signed := goodIn_r _ [33, 34, 35] (by decide +kernel) (by decide +kernel)
set_option maxRecDepth 20000 in
theorem gX3_gives_X3_signed : GoodIn wsX3_gives (wsV RX3 99 RX3 yX3_signed wsX3_signed) := goodIn_app (goodIn_of _ (by decide +kernel)) ggX3_gives_X3_signed
set_option maxRecDepth 20000 in
theorem ggX3_gives_X3_sizeOf : GoodIn wsX3_gives wsX3_sizeOf := goodIn_r _ [39, 40, 35, 18, 19, 20, 6, 21, 26, 27, 28, 29, 16, 17] (by decide +kernel) (by decide +kernel)
set_option maxRecDepth 20000 in
theorem gX3_gives_X3_sizeOf : GoodIn wsX3_gives (wsV RX3 103 RX3 yX3_sizeOf wsX3_sizeOf) := goodIn_app (goodIn_of _ (by decide +kernel)) ggX3_gives_X3_sizeOf
theorem dX3_gives_0 : decode cX3_gives 0 = .ok (.aload_n 0, 1) := by decide +kernel
theorem dX3_gives_1 : decode cX3_gives 1 = .ok (.getfield 7, 3) := by decide +kernel
theorem dX3_gives_4 : decode cX3_gives 4 = .ok (.iload_n 2, 1) := by decide +kernel
theorem dX3_gives_5 : decode cX3_gives 5 = .ok (.iaload, 1) := by decide +kernel
theorem dX3_gives_6 : decode cX3_gives 6 = .ok (.istore 4, 2) := by decide +kernel
theorem dX3_gives_8 : decode cX3_gives 8 = .ok (.iload_n 1, 1) := by decide +kernel
theorem dX3_gives_9 : decode cX3_gives 9 = .ok (.ifCond .ne 22, 3) := by decide +kernel
theorem dX3_gives_12 : decode cX3_gives 12 = .ok (.aload_n 0, 1) := by decide +kernel
theorem dX3_gives_13 : decode cX3_gives 13 = .ok (.iload 4, 2) := by decide +kernel
theorem dX3_gives_15 : decode cX3_gives 15 = .ok (.aload_n 0, 1) := by decide +kernel
theorem dX3_gives_16 : decode cX3_gives 16 = .ok (.getfield 13, 3) := by decide +kernel
theorem dX3_gives_19 : decode cX3_gives 19 = .ok (.iload_n 2, 1) := by decide +kernel
theorem dX3_gives_20 : decode cX3_gives 20 = .ok (.laload, 1) := by decide +kernel
theorem dX3_gives_21 : decode cX3_gives 21 = .ok (.aload_n 0, 1) := by decide +kernel
theorem dX3_gives_22 : decode cX3_gives 22 = .ok (.getfield 13, 3) := by decide +kernel
theorem dX3_gives_25 : decode cX3_gives 25 = .ok (.iload_n 3, 1) := by decide +kernel
theorem dX3_gives_26 : decode cX3_gives 26 = .ok (.laload, 1) := by decide +kernel
theorem dX3_gives_27 : decode cX3_gives 27 = .ok (.invokevirtual 113, 3) := by decide +kernel
theorem dX3_gives_30 : decode cX3_gives 30 = .ok (.lreturn, 1) := by decide +kernel
theorem dX3_gives_31 : decode cX3_gives 31 = .ok (.iload_n 1, 1) := by decide +kernel
theorem dX3_gives_32 : decode cX3_gives 32 = .ok (.iconst 1, 1) := by decide +kernel
theorem dX3_gives_33 : decode cX3_gives 33 = .ok (.if_icmp .ne 22, 3) := by decide +kernel
theorem dX3_gives_36 : decode cX3_gives 36 = .ok (.aload_n 0, 1) := by decide +kernel
theorem dX3_gives_37 : decode cX3_gives 37 = .ok (.iload 4, 2) := by decide +kernel
theorem dX3_gives_39 : decode cX3_gives 39 = .ok (.aload_n 0, 1) := by decide +kernel
theorem dX3_gives_40 : decode cX3_gives 40 = .ok (.getfield 13, 3) := by decide +kernel
theorem dX3_gives_43 : decode cX3_gives 43 = .ok (.iload_n 2, 1) := by decide +kernel
theorem dX3_gives_44 : decode cX3_gives 44 = .ok (.laload, 1) := by decide +kernel
theorem dX3_gives_45 : decode cX3_gives 45 = .ok (.aload_n 0, 1) := by decide +kernel
theorem dX3_gives_46 : decode cX3_gives 46 = .ok (.getfield 13, 3) := by decide +kernel
theorem dX3_gives_49 : decode cX3_gives 49 = .ok (.iload_n 3, 1) := by decide +kernel
theorem dX3_gives_50 : decode cX3_gives 50 = .ok (.laload, 1) := by decide +kernel
theorem dX3_gives_51 : decode cX3_gives 51 = .ok (.invokevirtual 110, 3) := by decide +kernel
theorem dX3_gives_54 : decode cX3_gives 54 = .ok (.lreturn, 1) := by decide +kernel
theorem dX3_gives_55 : decode cX3_gives 55 = .ok (.iload_n 1, 1) := by decide +kernel
theorem dX3_gives_56 : decode cX3_gives 56 = .ok (.iconst 2, 1) := by decide +kernel
theorem dX3_gives_57 : decode cX3_gives 57 = .ok (.if_icmp .ne 28, 3) := by decide +kernel
theorem dX3_gives_60 : decode cX3_gives 60 = .ok (.aload_n 0, 1) := by decide +kernel
theorem dX3_gives_61 : decode cX3_gives 61 = .ok (.iload 4, 2) := by decide +kernel
theorem dX3_gives_63 : decode cX3_gives 63 = .ok (.aload_n 0, 1) := by decide +kernel
theorem dX3_gives_64 : decode cX3_gives 64 = .ok (.iload 4, 2) := by decide +kernel
theorem dX3_gives_66 : decode cX3_gives 66 = .ok (.aload_n 0, 1) := by decide +kernel
theorem dX3_gives_67 : decode cX3_gives 67 = .ok (.getfield 13, 3) := by decide +kernel
theorem dX3_gives_70 : decode cX3_gives 70 = .ok (.iload_n 3, 1) := by decide +kernel
theorem dX3_gives_71 : decode cX3_gives 71 = .ok (.laload, 1) := by decide +kernel
theorem dX3_gives_72 : decode cX3_gives 72 = .ok (.invokevirtual 88, 3) := by decide +kernel
theorem dX3_gives_75 : decode cX3_gives 75 = .ok (.aload_n 0, 1) := by decide +kernel
