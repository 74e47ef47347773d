theorem dX0_isReal_0 : decode cX0_isReal 0 = .ok (.iload_n 0, 1) := by decide +kernel
theorem dX0_isReal_1 : decode cX0_isReal 1 = .ok (.iconst 2, 1) := by decide +kernel
theorem dX0_isReal_2 : decode cX0_isReal 2 = .ok (.if_icmp .eq 8, 3) := by decide +kernel
theorem dX0_isReal_5 : decode cX0_isReal 5 = .ok (.iload_n 0, 1) := by decide +kernel
theorem dX0_isReal_6 : decode cX0_isReal 6 = .ok (.iconst 3, 1) := by decide +kernel
theorem dX0_isReal_7 : decode cX0_isReal 7 = .ok (.if_icmp .ne 7, 3) := by decide +kernel
theorem dX0_isReal_10 : decode cX0_isReal 10 = .ok (.iconst 1, 1) := by decide +kernel
theorem dX0_isReal_11 : decode cX0_isReal 11 = .ok (.goto 4, 3) := by decide +kernel
theorem dX0_isReal_14 : decode cX0_isReal 14 = .ok (.iconst 0, 1) := by decide +kernel
theorem dX0_isReal_15 : decode cX0_isReal 15 = .ok (.ireturn, 1) := by decide +kernel
theorem dX0_isOfKind_0 : decode cX0_isOfKind 0 = .ok (.lload_n 1, 1) := by decide +kernel
theorem dX0_isOfKind_1 : decode cX0_isOfKind 1 = .ok (.lload_n 1, 1) := by decide +kernel
theorem dX0_isOfKind_2 : decode cX0_isOfKind 2 = .ok (.l2i, 1) := by decide +kernel
theorem dX0_isOfKind_3 : decode cX0_isOfKind 3 = .ok (.i2l, 1) := by decide +kernel
theorem dX0_isOfKind_4 : decode cX0_isOfKind 4 = .ok (.lcmp, 1) := by decide +kernel
theorem dX0_isOfKind_5 : decode cX0_isOfKind 5 = .ok (.ifCond .ne 7, 3) := by decide +kernel
theorem dX0_isOfKind_8 : decode cX0_isOfKind 8 = .ok (.iconst 1, 1) := by decide +kernel
theorem dX0_isOfKind_9 : decode cX0_isOfKind 9 = .ok (.goto 4, 3) := by decide +kernel
theorem dX0_isOfKind_12 : decode cX0_isOfKind 12 = .ok (.iconst 0, 1) := by decide +kernel
theorem dX0_isOfKind_13 : decode cX0_isOfKind 13 = .ok (.istore_n 3, 1) := by decide +kernel
theorem dX0_isOfKind_14 : decode cX0_isOfKind 14 = .ok (.iload_n 0, 1) := by decide +kernel
theorem dX0_isOfKind_15 : decode cX0_isOfKind 15 = .ok (.tableswitch 71 0 3 #[29, 71, 31, 53], 29) := by decide +kernel
theorem dX0_isOfKind_44 : decode cX0_isOfKind 44 = .ok (.iload_n 3, 1) := by decide +kernel
theorem dX0_isOfKind_45 : decode cX0_isOfKind 45 = .ok (.ireturn, 1) := by decide +kernel
theorem dX0_isOfKind_46 : decode cX0_isOfKind 46 = .ok (.iload_n 3, 1) := by decide +kernel
theorem dX0_isOfKind_47 : decode cX0_isOfKind 47 = .ok (.ifCond .eq 19, 3) := by decide +kernel
theorem dX0_isOfKind_50 : decode cX0_isOfKind 50 = .ok (.lload_n 1, 1) := by decide +kernel
theorem dX0_isOfKind_51 : decode cX0_isOfKind 51 = .ok (.ldc2_w 11, 3) := by decide +kernel
theorem dX0_isOfKind_54 : decode cX0_isOfKind 54 = .ok (.land, 1) := by decide +kernel
theorem dX0_isOfKind_55 : decode cX0_isOfKind 55 = .ok (.ldc2_w 13, 3) := by decide +kernel
theorem dX0_isOfKind_58 : decode cX0_isOfKind 58 = .ok (.lcmp, 1) := by decide +kernel
theorem dX0_isOfKind_59 : decode cX0_isOfKind 59 = .ok (.ifCond .gt 7, 3) := by decide +kernel
theorem dX0_isOfKind_62 : decode cX0_isOfKind 62 = .ok (.iconst 1, 1) := by decide +kernel
theorem dX0_isOfKind_63 : decode cX0_isOfKind 63 = .ok (.goto 4, 3) := by decide +kernel
theorem dX0_isOfKind_66 : decode cX0_isOfKind 66 = .ok (.iconst 0, 1) := by decide +kernel
theorem dX0_isOfKind_67 : decode cX0_isOfKind 67 = .ok (.ireturn, 1) := by decide +kernel
theorem dX0_isOfKind_68 : decode cX0_isOfKind 68 = .ok (.lload_n 1, 1) := by decide +kernel
theorem dX0_isOfKind_69 : decode cX0_isOfKind 69 = .ok (.ldc2_w 15, 3) := by decide +kernel
theorem dX0_isOfKind_72 : decode cX0_isOfKind 72 = .ok (.land, 1) := by decide +kernel
theorem dX0_isOfKind_73 : decode cX0_isOfKind 73 = .ok (.ldc2_w 17, 3) := by decide +kernel
theorem dX0_isOfKind_76 : decode cX0_isOfKind 76 = .ok (.lcmp, 1) := by decide +kernel
theorem dX0_isOfKind_77 : decode cX0_isOfKind 77 = .ok (.ifCond .gt 7, 3) := by decide +kernel
theorem dX0_isOfKind_80 : decode cX0_isOfKind 80 = .ok (.iconst 1, 1) := by decide +kernel
theorem dX0_isOfKind_81 : decode cX0_isOfKind 81 = .ok (.goto 4, 3) := by decide +kernel
theorem dX0_isOfKind_84 : decode cX0_isOfKind 84 = .ok (.iconst 0, 1) := by decide +kernel
theorem dX0_isOfKind_85 : decode cX0_isOfKind 85 = .ok (.ireturn, 1) := by decide +kernel
theorem dX0_isOfKind_86 : decode cX0_isOfKind 86 = .ok (.iconst 1, 1) := by decide +kernel
theorem dX0_isOfKind_87 : decode cX0_isOfKind 87 = .ok (.ireturn, 1) := by decide +kernel
set_option maxRecDepth 20000 in
theorem ggX0_compared_X0_rank : GoodIn wsX0_compared wsX0_rank := goodIn_r _ [4, 5, 6, 3, 7, 8, 9, 10, 11, 12] (by decide +kernel) (by decide +kernel)
set_option maxRecDepth 20000 in
theorem gX0_compared_X0_rank : GoodIn wsX0_compared (va_wsS RX0 19 yX0_rank wsX0_rank) := goodIn_app (goodIn_of _ (by decide +kernel)) ggX0_compared_X0_rank
theorem dX0_compared_0 : decode cX0_compared 0 = .ok (.iload_n 0, 1) := by decide +kernel
theorem dX0_compared_1 : decode cX0_compared 1 = .ok (.lload_n 1, 1) := by decide +kernel
theorem dX0_compared_2 : decode cX0_compared 2 = .ok (.invokestatic 19, 3) := by decide +kernel
theorem dX0_compared_5 : decode cX0_compared 5 = .ok (.lstore 5, 2) := by decide +kernel
theorem dX0_compared_7 : decode cX0_compared 7 = .ok (.iload_n 0, 1) := by decide +kernel
theorem dX0_compared_8 : decode cX0_compared 8 = .ok (.lload_n 3, 1) := by decide +kernel
theorem dX0_compared_9 : decode cX0_compared 9 = .ok (.invokestatic 19, 3) := by decide +kernel
theorem dX0_compared_12 : decode cX0_compared 12 = .ok (.lstore 7, 2) := by decide +kernel
theorem dX0_compared_14 : decode cX0_compared 14 = .ok (.lload 5, 2) := by decide +kernel
theorem dX0_compared_16 : decode cX0_compared 16 = .ok (.lload 7, 2) := by decide +kernel
theorem dX0_compared_18 : decode cX0_compared 18 = .ok (.lcmp, 1) := by decide +kernel
theorem dX0_compared_19 : decode cX0_compared 19 = .ok (.ifCond .le 7, 3) := by decide +kernel
theorem dX0_compared_22 : decode cX0_compared 22 = .ok (.iconst 1, 1) := by decide +kernel
theorem dX0_compared_23 : decode cX0_compared 23 = .ok (.goto 16, 3) := by decide +kernel
theorem dX0_compared_26 : decode cX0_compared 26 = .ok (.lload 5, 2) := by decide +kernel
theorem dX0_compared_28 : decode cX0_compared 28 = .ok (.lload 7, 2) := by decide +kernel
theorem dX0_compared_30 : decode cX0_compared 30 = .ok (.lcmp, 1) := by decide +kernel
theorem dX0_compared_31 : decode cX0_compared 31 = .ok (.ifCond .ge 7, 3) := by decide +kernel
theorem dX0_compared_34 : decode cX0_compared 34 = .ok (.iconst (-1), 1) := by decide +kernel
theorem dX0_compared_35 : decode cX0_compared 35 = .ok (.goto 4, 3) := by decide +kernel
theorem dX0_compared_38 : decode cX0_compared 38 = .ok (.iconst 0, 1) := by decide +kernel
theorem dX0_compared_39 : decode cX0_compared 39 = .ok (.ireturn, 1) := by decide +kernel
set_option maxRecDepth 20000 in
theorem ggX0_greater_X0_compared : GoodIn wsX0_greater wsX0_compared := goodIn_r _ [4, 5, 6, 3, 7, 8, 9, 10, 11, 12, 13, 14, 15] (by decide +kernel) (by decide +kernel)
set_option maxRecDepth 20000 in
theorem gX0_greater_X0_compared : GoodIn wsX0_greater (va_wsS RX0 23 yX0_compared wsX0_compared) := goodIn_app (goodIn_of _ (by decide +kernel)) ggX0_greater_X0_compared
theorem dX0_greater_0 : decode cX0_greater 0 = .ok (.iload_n 0, 1) := by decide +kernel
theorem dX0_greater_1 : decode cX0_greater 1 = .ok (.lload_n 1, 1) := by decide +kernel
theorem dX0_greater_2 : decode cX0_greater 2 = .ok (.lload_n 3, 1) := by decide +kernel
theorem dX0_greater_3 : decode cX0_greater 3 = .ok (.invokestatic 23, 3) := by decide +kernel
theorem dX0_greater_6 : decode cX0_greater 6 = .ok (.ifCond .lt 7, 3) := by decide +kernel
theorem dX0_greater_9 : decode cX0_greater 9 = .ok (.lload_n 1, 1) := by decide +kernel
theorem dX0_greater_10 : decode cX0_greater 10 = .ok (.goto 4, 3) := by decide +kernel
theorem dX0_greater_13 : decode cX0_greater 13 = .ok (.lload_n 3, 1) := by decide +kernel
theorem dX0_greater_14 : decode cX0_greater 14 = .ok (.lreturn, 1) := by decide +kernel
set_option maxRecDepth 20000 in
theorem ggX0_less_X0_compared : GoodIn wsX0_less wsX0_compared := goodIn_r _ [4, 5, 6, 3, 7, 8, 9, 10, 11, 12, 13, 14, 15] (by decide +kernel) (by decide +kernel)
set_option maxRecDepth 20000 in
theorem gX0_less_X0_compared : GoodIn wsX0_less (va_wsS RX0 23 yX0_compared wsX0_compared) := goodIn_app (goodIn_of _ (by decide +kernel)) ggX0_less_X0_compared
theorem dX0_less_0 : decode cX0_less 0 = .ok (.iload_n 0, 1) := by decide +kernel
theorem dX0_less_1 : decode cX0_less 1 = .ok (.lload_n 1, 1) := by decide +kernel
theorem dX0_less_2 : decode cX0_less 2 = .ok (.lload_n 3, 1) := by decide +kernel
theorem dX0_less_3 : decode cX0_less 3 = .ok (.invokestatic 23, 3) := by decide +kernel
theorem dX0_less_6 : decode cX0_less 6 = .ok (.ifCond .gt 7, 3) := by decide +kernel
theorem dX0_less_9 : decode cX0_less 9 = .ok (.lload_n 1, 1) := by decide +kernel
theorem dX0_less_10 : decode cX0_less 10 = .ok (.goto 4, 3) := by decide +kernel
theorem dX0_less_13 : decode cX0_less 13 = .ok (.lload_n 3, 1) := by decide +kernel
theorem dX0_less_14 : decode cX0_less 14 = .ok (.lreturn, 1) := by decide +kernel
set_option maxRecDepth 20000 in
theorem ggX0_fitted_X0_less : GoodIn wsX0_fitted wsX0_less := goodIn_r _ [4, 5, 6, 3, 7, 8, 9, 10, 11, 12, 13, 14, 15, 16, 17, 18] (by decide +kernel) (by decide +kernel)
set_option maxRecDepth 20000 in
theorem gX0_fitted_X0_less : GoodIn wsX0_fitted (va_wsS RX0 27 yX0_less wsX0_less) := goodIn_app (goodIn_of _ (by decide +kernel)) ggX0_fitted_X0_less
set_option maxRecDepth 20000 in
theorem ggX0_fitted_X0_greater : GoodIn wsX0_fitted wsX0_greater := goodIn_r _ [21, 5, 6, 3, 7, 8, 9, 10, 11, 12, 13, 14, 15, 16, 17, 18] (by decide +kernel) (by decide +kernel)
set_option maxRecDepth 20000 in
theorem gX0_fitted_X0_greater : GoodIn wsX0_fitted (va_wsS RX0 31 yX0_greater wsX0_greater) := goodIn_app (goodIn_of _ (by decide +kernel)) ggX0_fitted_X0_greater
theorem dX0_fitted_0 : decode cX0_fitted 0 = .ok (.iload_n 0, 1) := by decide +kernel
theorem dX0_fitted_1 : decode cX0_fitted 1 = .ok (.lload_n 1, 1) := by decide +kernel
theorem dX0_fitted_2 : decode cX0_fitted 2 = .ok (.iload_n 0, 1) := by decide +kernel
theorem dX0_fitted_3 : decode cX0_fitted 3 = .ok (.lload_n 3, 1) := by decide +kernel
theorem dX0_fitted_4 : decode cX0_fitted 4 = .ok (.lload 5, 2) := by decide +kernel
theorem dX0_fitted_6 : decode cX0_fitted 6 = .ok (.invokestatic 27, 3) := by decide +kernel
theorem dX0_fitted_9 : decode cX0_fitted 9 = .ok (.invokestatic 31, 3) := by decide +kernel
theorem dX0_fitted_12 : decode cX0_fitted 12 = .ok (.lreturn, 1) := by decide +kernel
set_option maxRecDepth 20000 in
theorem ggX0_sizeOf_X0_sizeBits : GoodIn wsX0_sizeOf wsX0_sizeBits := goodIn_r _ [11, 12, 13] (by decide +kernel) (by decide +kernel)
set_option maxRecDepth 20000 in
theorem gX0_sizeOf_X0_sizeBits : GoodIn wsX0_sizeOf (va_wsS RX0 43 yX0_sizeBits wsX0_sizeBits) := goodIn_app (goodIn_of _ (by decide +kernel)) ggX0_sizeOf_X0_sizeBits
theorem dX0_sizeOf_0 : decode cX0_sizeOf 0 = .ok (.iload_n 0, 1) := by decide +kernel
theorem dX0_sizeOf_1 : decode cX0_sizeOf 1 = .ok (.lookupswitch 39 #[(0, 27), (1, 34)], 27) := by decide +kernel
theorem dX0_sizeOf_28 : decode cX0_sizeOf 28 = .ok (.lload_n 1, 1) := by decide +kernel
theorem dX0_sizeOf_29 : decode cX0_sizeOf 29 = .ok (.l2i, 1) := by decide +kernel
theorem dX0_sizeOf_30 : decode cX0_sizeOf 30 = .ok (.invokestatic 34, 3) := by decide +kernel
theorem dX0_sizeOf_33 : decode cX0_sizeOf 33 = .ok (.i2l, 1) := by decide +kernel
theorem dX0_sizeOf_34 : decode cX0_sizeOf 34 = .ok (.lreturn, 1) := by decide +kernel
theorem dX0_sizeOf_35 : decode cX0_sizeOf 35 = .ok (.lload_n 1, 1) := by decide +kernel
theorem dX0_sizeOf_36 : decode cX0_sizeOf 36 = .ok (.invokestatic 40, 3) := by decide +kernel
theorem dX0_sizeOf_39 : decode cX0_sizeOf 39 = .ok (.lreturn, 1) := by decide +kernel
theorem dX0_sizeOf_40 : decode cX0_sizeOf 40 = .ok (.lload_n 1, 1) := by decide +kernel
theorem dX0_sizeOf_41 : decode cX0_sizeOf 41 = .ok (.iload_n 0, 1) := by decide +kernel
theorem dX0_sizeOf_42 : decode cX0_sizeOf 42 = .ok (.invokestatic 43, 3) := by decide +kernel
theorem dX0_sizeOf_45 : decode cX0_sizeOf 45 = .ok (.land, 1) := by decide +kernel
theorem dX0_sizeOf_46 : decode cX0_sizeOf 46 = .ok (.lreturn, 1) := by decide +kernel
set_option maxRecDepth 20000 in
theorem ggX0_signed_X0_sizeBits : GoodIn wsX0_signed wsX0_sizeBits := goodIn_r _ [5, 6, 7] (by decide +kernel) (by decide +kernel)
set_option maxRecDepth 20000 in
theorem gX0_signed_X0_sizeBits : GoodIn wsX0_signed (va_wsS RX0 43 yX0_sizeBits wsX0_sizeBits) := goodIn_app (goodIn_of _ (by decide +kernel)) ggX0_signed_X0_sizeBits
theorem dX0_signed_0 : decode cX0_signed 0 = .ok (.iload_n 0, 1) := by decide +kernel
theorem dX0_signed_1 : decode cX0_signed 1 = .ok (.invokestatic 43, 3) := by decide +kernel
theorem dX0_signed_4 : decode cX0_signed 4 = .ok (.lstore 5, 2) := by decide +kernel
theorem dX0_signed_6 : decode cX0_signed 6 = .ok (.lload_n 3, 1) := by decide +kernel
theorem dX0_signed_7 : decode cX0_signed 7 = .ok (.lconst 0, 1) := by decide +kernel
theorem dX0_signed_8 : decode cX0_signed 8 = .ok (.lcmp, 1) := by decide +kernel
theorem dX0_signed_9 : decode cX0_signed 9 = .ok (.ifCond .ge 14, 3) := by decide +kernel
theorem dX0_signed_12 : decode cX0_signed 12 = .ok (.lload_n 1, 1) := by decide +kernel
theorem dX0_signed_13 : decode cX0_signed 13 = .ok (.lload 5, 2) := by decide +kernel
theorem dX0_signed_15 : decode cX0_signed 15 = .ok (.ldc2_w 47, 3) := by decide +kernel
theorem dX0_signed_18 : decode cX0_signed 18 = .ok (.lxor, 1) := by decide +kernel
theorem dX0_signed_19 : decode cX0_signed 19 = .ok (.lor, 1) := by decide +kernel
theorem dX0_signed_20 : decode cX0_signed 20 = .ok (.goto 7, 3) := by decide +kernel
theorem dX0_signed_23 : decode cX0_signed 23 = .ok (.lload_n 1, 1) := by decide +kernel
theorem dX0_signed_24 : decode cX0_signed 24 = .ok (.lload 5, 2) := by decide +kernel
theorem dX0_signed_26 : decode cX0_signed 26 = .ok (.land, 1) := by decide +kernel
theorem dX0_signed_27 : decode cX0_signed 27 = .ok (.lreturn, 1) := by decide +kernel
set_option maxRecDepth 20000 in
theorem ggX0_turned_X0_sizeOf : GoodIn wsX0_turned wsX0_sizeOf := goodIn_r _ [4, 5, 6, 7, 8, 9, 10, 11, 12, 13, 3, 14, 15, 16] (by decide +kernel) (by decide +kernel)
set_option maxRecDepth 20000 in
theorem gX0_turned_X0_sizeOf : GoodIn wsX0_turned (va_wsS RX0 49 yX0_sizeOf wsX0_sizeOf) := goodIn_app (goodIn_of _ (by decide +kernel)) ggX0_turned_X0_sizeOf
set_option maxRecDepth 20000 in
theorem ggX0_turned_X0_oneOf : GoodIn wsX0_turned wsX0_oneOf := goodIn_r _ [19, 20, 21, 22, 23, 3, 24] (by decide +kernel) (by decide +kernel)
set_option maxRecDepth 20000 in
theorem gX0_turned_X0_oneOf : GoodIn wsX0_turned (va_wsS RX0 52 yX0_oneOf wsX0_oneOf) := goodIn_app (goodIn_of _ (by decide +kernel)) ggX0_turned_X0_oneOf
set_option maxRecDepth 20000 in
theorem ggX0_turned_X0_signed : GoodIn wsX0_turned wsX0_signed := goodIn_r _ [27, 28, 12, 13, 3, 14, 15, 16] (by decide +kernel) (by decide +kernel)
set_option maxRecDepth 20000 in
theorem gX0_turned_X0_signed : GoodIn wsX0_turned (va_wsS RX0 55 yX0_signed wsX0_signed) := goodIn_app (goodIn_of _ (by decide +kernel)) ggX0_turned_X0_signed
set_option maxRecDepth 20000 in
theorem ggX0_turned_X0_wholeSize : GoodIn wsX0_turned wsX0_wholeSize := goodIn_r _ [31, 22, 23, 3, 24, 1, 2, 4, 5, 6, 7, 8, 9, 10, 11, 12, 13, 14, 15, 16, 17, 18, 19, 20, 21, 32, 33, 34] (by decide +kernel) (by decide +kernel)
set_option maxRecDepth 20000 in
theorem gX0_turned_X0_wholeSize : GoodIn wsX0_turned (va_wsS RX0 58 yX0_wholeSize wsX0_wholeSize) := goodIn_app (goodIn_of _ (by decide +kernel)) ggX0_turned_X0_wholeSize
theorem dX0_turned_0 : decode cX0_turned 0 = .ok (.iload_n 3, 1) := by decide +kernel
theorem dX0_turned_1 : decode cX0_turned 1 = .ok (.ifCond .ne 9, 3) := by decide +kernel
theorem dX0_turned_4 : decode cX0_turned 4 = .ok (.iload_n 0, 1) := by decide +kernel
theorem dX0_turned_5 : decode cX0_turned 5 = .ok (.lload_n 1, 1) := by decide +kernel
theorem dX0_turned_6 : decode cX0_turned 6 = .ok (.invokestatic 49, 3) := by decide +kernel
theorem dX0_turned_9 : decode cX0_turned 9 = .ok (.lreturn, 1) := by decide +kernel
theorem dX0_turned_10 : decode cX0_turned 10 = .ok (.iload_n 0, 1) := by decide +kernel
theorem dX0_turned_11 : decode cX0_turned 11 = .ok (.lload_n 1, 1) := by decide +kernel
theorem dX0_turned_12 : decode cX0_turned 12 = .ok (.invokestatic 49, 3) := by decide +kernel
theorem dX0_turned_15 : decode cX0_turned 15 = .ok (.lconst 0, 1) := by decide +kernel
theorem dX0_turned_16 : decode cX0_turned 16 = .ok (.lcmp, 1) := by decide +kernel
theorem dX0_turned_17 : decode cX0_turned 17 = .ok (.ifCond .ne 5, 3) := by decide +kernel
theorem dX0_turned_20 : decode cX0_turned 20 = .ok (.lload_n 1, 1) := by decide +kernel
theorem dX0_turned_21 : decode cX0_turned 21 = .ok (.lreturn, 1) := by decide +kernel
theorem dX0_turned_22 : decode cX0_turned 22 = .ok (.iload_n 3, 1) := by decide +kernel
theorem dX0_turned_23 : decode cX0_turned 23 = .ok (.iconst 4, 1) := by decide +kernel
theorem dX0_turned_24 : decode cX0_turned 24 = .ok (.if_icmp .ne 13, 3) := by decide +kernel
theorem dX0_turned_27 : decode cX0_turned 27 = .ok (.iload_n 0, 1) := by decide +kernel
theorem dX0_turned_28 : decode cX0_turned 28 = .ok (.iload_n 0, 1) := by decide +kernel
theorem dX0_turned_29 : decode cX0_turned 29 = .ok (.invokestatic 52, 3) := by decide +kernel
theorem dX0_turned_32 : decode cX0_turned 32 = .ok (.lload_n 1, 1) := by decide +kernel
theorem dX0_turned_33 : decode cX0_turned 33 = .ok (.invokestatic 55, 3) := by decide +kernel
theorem dX0_turned_36 : decode cX0_turned 36 = .ok (.lreturn, 1) := by decide +kernel
theorem dX0_turned_37 : decode cX0_turned 37 = .ok (.iload_n 0, 1) := by decide +kernel
theorem dX0_turned_38 : decode cX0_turned 38 = .ok (.iload_n 0, 1) := by decide +kernel
theorem dX0_turned_39 : decode cX0_turned 39 = .ok (.lload_n 1, 1) := by decide +kernel
theorem dX0_turned_40 : decode cX0_turned 40 = .ok (.iload_n 3, 1) := by decide +kernel
theorem dX0_turned_41 : decode cX0_turned 41 = .ok (.invokestatic 58, 3) := by decide +kernel
theorem dX0_turned_44 : decode cX0_turned 44 = .ok (.lload_n 1, 1) := by decide +kernel
theorem dX0_turned_45 : decode cX0_turned 45 = .ok (.invokestatic 55, 3) := by decide +kernel
theorem dX0_turned_48 : decode cX0_turned 48 = .ok (.lreturn, 1) := by decide +kernel
set_option maxRecDepth 20000 in
theorem ggX0_wholeSize_X0_placesOf : GoodIn wsX0_wholeSize wsX0_placesOf := goodIn_r _ [4] (by decide +kernel) (by decide +kernel)
set_option maxRecDepth 20000 in
theorem gX0_wholeSize_X0_placesOf : GoodIn wsX0_wholeSize (va_wsS RX0 62 yX0_placesOf wsX0_placesOf) := goodIn_app (goodIn_of _ (by decide +kernel)) ggX0_wholeSize_X0_placesOf
set_option maxRecDepth 20000 in
theorem ggX0_wholeSize_X0_sizeOf : GoodIn wsX0_wholeSize wsX0_sizeOf := goodIn_r _ [7, 8, 9, 10, 11, 12, 13, 14, 15, 16, 3, 17, 18, 19] (by decide +kernel) (by decide +kernel)
set_option maxRecDepth 20000 in
theorem gX0_wholeSize_X0_sizeOf : GoodIn wsX0_wholeSize (va_wsS RX0 49 yX0_sizeOf wsX0_sizeOf) := goodIn_app (goodIn_of _ (by decide +kernel)) ggX0_wholeSize_X0_sizeOf
set_option maxRecDepth 20000 in
theorem ggX0_wholeSize_X0_oneOf : GoodIn wsX0_wholeSize wsX0_oneOf := goodIn_r _ [22, 23, 24, 1, 2, 3, 4] (by decide +kernel) (by decide +kernel)
set_option maxRecDepth 20000 in
theorem gX0_wholeSize_X0_oneOf : GoodIn wsX0_wholeSize (va_wsS RX0 52 yX0_oneOf wsX0_oneOf) := goodIn_app (goodIn_of _ (by decide +kernel)) ggX0_wholeSize_X0_oneOf
set_option maxRecDepth 20000 in
theorem ggX0_wholeSize_X0_isAway : GoodIn wsX0_wholeSize wsX0_isAway := goodIn_r _ [27] (by decide +kernel) (by decide +kernel)
set_option maxRecDepth 20000 in
theorem gX0_wholeSize_X0_isAway : GoodIn wsX0_wholeSize (va_wsS RX0 65 yX0_isAway wsX0_isAway) := goodIn_app (goodIn_of _ (by decide +kernel)) ggX0_wholeSize_X0_isAway
theorem dX0_wholeSize_0 : decode cX0_wholeSize 0 = .ok (.iload_n 0, 1) := by decide +kernel
theorem dX0_wholeSize_1 : decode cX0_wholeSize 1 = .ok (.invokestatic 62, 3) := by decide +kernel
theorem dX0_wholeSize_4 : decode cX0_wholeSize 4 = .ok (.istore 4, 2) := by decide +kernel
theorem dX0_wholeSize_6 : decode cX0_wholeSize 6 = .ok (.iload_n 0, 1) := by decide +kernel
theorem dX0_wholeSize_7 : decode cX0_wholeSize 7 = .ok (.lload_n 1, 1) := by decide +kernel
theorem dX0_wholeSize_8 : decode cX0_wholeSize 8 = .ok (.invokestatic 49, 3) := by decide +kernel
theorem dX0_wholeSize_11 : decode cX0_wholeSize 11 = .ok (.lstore 5, 2) := by decide +kernel
theorem dX0_wholeSize_13 : decode cX0_wholeSize 13 = .ok (.iload_n 0, 1) := by decide +kernel
theorem dX0_wholeSize_14 : decode cX0_wholeSize 14 = .ok (.invokestatic 52, 3) := by decide +kernel
theorem dX0_wholeSize_17 : decode cX0_wholeSize 17 = .ok (.lstore 7, 2) := by decide +kernel
theorem dX0_wholeSize_19 : decode cX0_wholeSize 19 = .ok (.lload 5, 2) := by decide +kernel
theorem dX0_wholeSize_21 : decode cX0_wholeSize 21 = .ok (.lload 7, 2) := by decide +kernel
theorem dX0_wholeSize_23 : decode cX0_wholeSize 23 = .ok (.lcmp, 1) := by decide +kernel
theorem dX0_wholeSize_24 : decode cX0_wholeSize 24 = .ok (.ifCond .ge 40, 3) := by decide +kernel
theorem dX0_wholeSize_27 : decode cX0_wholeSize 27 = .ok (.lload 7, 2) := by decide +kernel
theorem dX0_wholeSize_29 : decode cX0_wholeSize 29 = .ok (.lconst 1, 1) := by decide +kernel
theorem dX0_wholeSize_30 : decode cX0_wholeSize 30 = .ok (.iload 4, 2) := by decide +kernel
theorem dX0_wholeSize_32 : decode cX0_wholeSize 32 = .ok (.lshl, 1) := by decide +kernel
theorem dX0_wholeSize_33 : decode cX0_wholeSize 33 = .ok (.lsub, 1) := by decide +kernel
theorem dX0_wholeSize_34 : decode cX0_wholeSize 34 = .ok (.lstore 9, 2) := by decide +kernel
theorem dX0_wholeSize_36 : decode cX0_wholeSize 36 = .ok (.lload_n 1, 1) := by decide +kernel
theorem dX0_wholeSize_37 : decode cX0_wholeSize 37 = .ok (.iload_n 3, 1) := by decide +kernel
theorem dX0_wholeSize_38 : decode cX0_wholeSize 38 = .ok (.lload 5, 2) := by decide +kernel
theorem dX0_wholeSize_40 : decode cX0_wholeSize 40 = .ok (.lload 9, 2) := by decide +kernel
theorem dX0_wholeSize_42 : decode cX0_wholeSize 42 = .ok (.lcmp, 1) := by decide +kernel
theorem dX0_wholeSize_43 : decode cX0_wholeSize 43 = .ok (.ifCond .le 7, 3) := by decide +kernel
theorem dX0_wholeSize_46 : decode cX0_wholeSize 46 = .ok (.iconst 1, 1) := by decide +kernel
theorem dX0_wholeSize_47 : decode cX0_wholeSize 47 = .ok (.goto 4, 3) := by decide +kernel
theorem dX0_wholeSize_50 : decode cX0_wholeSize 50 = .ok (.iconst 0, 1) := by decide +kernel
theorem dX0_wholeSize_51 : decode cX0_wholeSize 51 = .ok (.invokestatic 65, 3) := by decide +kernel
theorem dX0_wholeSize_54 : decode cX0_wholeSize 54 = .ok (.ifCond .eq 8, 3) := by decide +kernel
theorem dX0_wholeSize_57 : decode cX0_wholeSize 57 = .ok (.lload 7, 2) := by decide +kernel
theorem dX0_wholeSize_59 : decode cX0_wholeSize 59 = .ok (.goto 4, 3) := by decide +kernel
theorem dX0_wholeSize_62 : decode cX0_wholeSize 62 = .ok (.lconst 0, 1) := by decide +kernel
theorem dX0_wholeSize_63 : decode cX0_wholeSize 63 = .ok (.lreturn, 1) := by decide +kernel
theorem dX0_wholeSize_64 : decode cX0_wholeSize 64 = .ok (.lload 5, 2) := by decide +kernel
theorem dX0_wholeSize_66 : decode cX0_wholeSize 66 = .ok (.lload 7, 2) := by decide +kernel
theorem dX0_wholeSize_68 : decode cX0_wholeSize 68 = .ok (.lsub, 1) := by decide +kernel
theorem dX0_wholeSize_69 : decode cX0_wholeSize 69 = .ok (.iload 4, 2) := by decide +kernel
theorem dX0_wholeSize_71 : decode cX0_wholeSize 71 = .ok (.lshr, 1) := by decide +kernel
theorem dX0_wholeSize_72 : decode cX0_wholeSize 72 = .ok (.lstore 9, 2) := by decide +kernel
theorem dX0_wholeSize_74 : decode cX0_wholeSize 74 = .ok (.lload 9, 2) := by decide +kernel
theorem dX0_wholeSize_76 : decode cX0_wholeSize 76 = .ok (.iload 4, 2) := by decide +kernel
theorem dX0_wholeSize_78 : decode cX0_wholeSize 78 = .ok (.i2l, 1) := by decide +kernel
theorem dX0_wholeSize_79 : decode cX0_wholeSize 79 = .ok (.lcmp, 1) := by decide +kernel
theorem dX0_wholeSize_80 : decode cX0_wholeSize 80 = .ok (.ifCond .lt 6, 3) := by decide +kernel
theorem dX0_wholeSize_83 : decode cX0_wholeSize 83 = .ok (.lload 5, 2) := by decide +kernel
theorem dX0_wholeSize_85 : decode cX0_wholeSize 85 = .ok (.lreturn, 1) := by decide +kernel
theorem dX0_wholeSize_86 : decode cX0_wholeSize 86 = .ok (.lconst 1, 1) := by decide +kernel
theorem dX0_wholeSize_87 : decode cX0_wholeSize 87 = .ok (.iload 4, 2) := by decide +kernel
theorem dX0_wholeSize_89 : decode cX0_wholeSize 89 = .ok (.i2l, 1) := by decide +kernel
theorem dX0_wholeSize_90 : decode cX0_wholeSize 90 = .ok (.lload 9, 2) := by decide +kernel
theorem dX0_wholeSize_92 : decode cX0_wholeSize 92 = .ok (.lsub, 1) := by decide +kernel
theorem dX0_wholeSize_93 : decode cX0_wholeSize 93 = .ok (.l2i, 1) := by decide +kernel
theorem dX0_wholeSize_94 : decode cX0_wholeSize 94 = .ok (.lshl, 1) := by decide +kernel
theorem dX0_wholeSize_95 : decode cX0_wholeSize 95 = .ok (.lstore 11, 2) := by decide +kernel
theorem dX0_wholeSize_97 : decode cX0_wholeSize 97 = .ok (.lload 5, 2) := by decide +kernel
theorem dX0_wholeSize_99 : decode cX0_wholeSize 99 = .ok (.lload 11, 2) := by decide +kernel
theorem dX0_wholeSize_101 : decode cX0_wholeSize 101 = .ok (.lneg, 1) := by decide +kernel
theorem dX0_wholeSize_102 : decode cX0_wholeSize 102 = .ok (.land, 1) := by decide +kernel
theorem dX0_wholeSize_103 : decode cX0_wholeSize 103 = .ok (.lstore 13, 2) := by decide +kernel
theorem dX0_wholeSize_105 : decode cX0_wholeSize 105 = .ok (.lload 5, 2) := by decide +kernel
theorem dX0_wholeSize_107 : decode cX0_wholeSize 107 = .ok (.lload 13, 2) := by decide +kernel
theorem dX0_wholeSize_109 : decode cX0_wholeSize 109 = .ok (.lsub, 1) := by decide +kernel
theorem dX0_wholeSize_110 : decode cX0_wholeSize 110 = .ok (.lstore 15, 2) := by decide +kernel
theorem dX0_wholeSize_112 : decode cX0_wholeSize 112 = .ok (.lload 15, 2) := by decide +kernel
theorem dX0_wholeSize_114 : decode cX0_wholeSize 114 = .ok (.lconst 0, 1) := by decide +kernel
theorem dX0_wholeSize_115 : decode cX0_wholeSize 115 = .ok (.lcmp, 1) := by decide +kernel
theorem dX0_wholeSize_116 : decode cX0_wholeSize 116 = .ok (.ifCond .ne 6, 3) := by decide +kernel
theorem dX0_wholeSize_119 : decode cX0_wholeSize 119 = .ok (.lload 5, 2) := by decide +kernel
theorem dX0_wholeSize_121 : decode cX0_wholeSize 121 = .ok (.lreturn, 1) := by decide +kernel
theorem dX0_wholeSize_122 : decode cX0_wholeSize 122 = .ok (.lload 13, 2) := by decide +kernel
theorem dX0_wholeSize_124 : decode cX0_wholeSize 124 = .ok (.lload 11, 2) := by decide +kernel
theorem dX0_wholeSize_126 : decode cX0_wholeSize 126 = .ok (.land, 1) := by decide +kernel
theorem dX0_wholeSize_127 : decode cX0_wholeSize 127 = .ok (.lconst 0, 1) := by decide +kernel
theorem dX0_wholeSize_128 : decode cX0_wholeSize 128 = .ok (.lcmp, 1) := by decide +kernel
theorem dX0_wholeSize_129 : decode cX0_wholeSize 129 = .ok (.ifCond .eq 7, 3) := by decide +kernel
theorem dX0_wholeSize_132 : decode cX0_wholeSize 132 = .ok (.iconst 1, 1) := by decide +kernel
theorem dX0_wholeSize_133 : decode cX0_wholeSize 133 = .ok (.goto 4, 3) := by decide +kernel
theorem dX0_wholeSize_136 : decode cX0_wholeSize 136 = .ok (.iconst 0, 1) := by decide +kernel
theorem dX0_wholeSize_137 : decode cX0_wholeSize 137 = .ok (.istore 17, 2) := by decide +kernel
theorem dX0_wholeSize_139 : decode cX0_wholeSize 139 = .ok (.lload 11, 2) := by decide +kernel
theorem dX0_wholeSize_141 : decode cX0_wholeSize 141 = .ok (.iconst 1, 1) := by decide +kernel
theorem dX0_wholeSize_142 : decode cX0_wholeSize 142 = .ok (.lshr, 1) := by decide +kernel
theorem dX0_wholeSize_143 : decode cX0_wholeSize 143 = .ok (.lstore 18, 2) := by decide +kernel
theorem dX0_wholeSize_145 : decode cX0_wholeSize 145 = .ok (.lload 15, 2) := by decide +kernel
theorem dX0_wholeSize_147 : decode cX0_wholeSize 147 = .ok (.lload 18, 2) := by decide +kernel
theorem dX0_wholeSize_149 : decode cX0_wholeSize 149 = .ok (.lcmp, 1) := by decide +kernel
theorem dX0_wholeSize_150 : decode cX0_wholeSize 150 = .ok (.ifCond .gt 16, 3) := by decide +kernel
theorem dX0_wholeSize_153 : decode cX0_wholeSize 153 = .ok (.lload 15, 2) := by decide +kernel
theorem dX0_wholeSize_155 : decode cX0_wholeSize 155 = .ok (.lload 18, 2) := by decide +kernel
theorem dX0_wholeSize_157 : decode cX0_wholeSize 157 = .ok (.lcmp, 1) := by decide +kernel
theorem dX0_wholeSize_158 : decode cX0_wholeSize 158 = .ok (.ifCond .ne 12, 3) := by decide +kernel
theorem dX0_wholeSize_161 : decode cX0_wholeSize 161 = .ok (.iload 17, 2) := by decide +kernel
theorem dX0_wholeSize_163 : decode cX0_wholeSize 163 = .ok (.ifCond .eq 7, 3) := by decide +kernel
theorem dX0_wholeSize_166 : decode cX0_wholeSize 166 = .ok (.iconst 1, 1) := by decide +kernel
theorem dX0_wholeSize_167 : decode cX0_wholeSize 167 = .ok (.goto 4, 3) := by decide +kernel
theorem dX0_wholeSize_170 : decode cX0_wholeSize 170 = .ok (.iconst 0, 1) := by decide +kernel
theorem dX0_wholeSize_171 : decode cX0_wholeSize 171 = .ok (.istore 20, 2) := by decide +kernel
theorem dX0_wholeSize_173 : decode cX0_wholeSize 173 = .ok (.lload_n 1, 1) := by decide +kernel
theorem dX0_wholeSize_174 : decode cX0_wholeSize 174 = .ok (.iload_n 3, 1) := by decide +kernel
theorem dX0_wholeSize_175 : decode cX0_wholeSize 175 = .ok (.iload 20, 2) := by decide +kernel
theorem dX0_wholeSize_177 : decode cX0_wholeSize 177 = .ok (.invokestatic 65, 3) := by decide +kernel
theorem dX0_wholeSize_180 : decode cX0_wholeSize 180 = .ok (.ifCond .eq 11, 3) := by decide +kernel
theorem dX0_wholeSize_183 : decode cX0_wholeSize 183 = .ok (.lload 13, 2) := by decide +kernel
theorem dX0_wholeSize_185 : decode cX0_wholeSize 185 = .ok (.lload 11, 2) := by decide +kernel
theorem dX0_wholeSize_187 : decode cX0_wholeSize 187 = .ok (.ladd, 1) := by decide +kernel
theorem dX0_wholeSize_188 : decode cX0_wholeSize 188 = .ok (.goto 5, 3) := by decide +kernel
theorem dX0_wholeSize_191 : decode cX0_wholeSize 191 = .ok (.lload 13, 2) := by decide +kernel
theorem dX0_wholeSize_193 : decode cX0_wholeSize 193 = .ok (.lreturn, 1) := by decide +kernel
theorem dX0_isAway_0 : decode cX0_isAway 0 = .ok (.iload_n 2, 1) := by decide +kernel
theorem dX0_isAway_1 : decode cX0_isAway 1 = .ok (.lookupswitch 51 #[(1, 27), (2, 39)], 27) := by decide +kernel
theorem dX0_isAway_28 : decode cX0_isAway 28 = .ok (.lload_n 0, 1) := by decide +kernel
theorem dX0_isAway_29 : decode cX0_isAway 29 = .ok (.lconst 0, 1) := by decide +kernel
theorem dX0_isAway_30 : decode cX0_isAway 30 = .ok (.lcmp, 1) := by decide +kernel
theorem dX0_isAway_31 : decode cX0_isAway 31 = .ok (.ifCond .ge 7, 3) := by decide +kernel
theorem dX0_isAway_34 : decode cX0_isAway 34 = .ok (.iconst 1, 1) := by decide +kernel
theorem dX0_isAway_35 : decode cX0_isAway 35 = .ok (.goto 4, 3) := by decide +kernel
theorem dX0_isAway_38 : decode cX0_isAway 38 = .ok (.iconst 0, 1) := by decide +kernel
theorem dX0_isAway_39 : decode cX0_isAway 39 = .ok (.ireturn, 1) := by decide +kernel
theorem dX0_isAway_40 : decode cX0_isAway 40 = .ok (.lload_n 0, 1) := by decide +kernel
theorem dX0_isAway_41 : decode cX0_isAway 41 = .ok (.lconst 0, 1) := by decide +kernel
theorem dX0_isAway_42 : decode cX0_isAway 42 = .ok (.lcmp, 1) := by decide +kernel
theorem dX0_isAway_43 : decode cX0_isAway 43 = .ok (.ifCond .lt 7, 3) := by decide +kernel
theorem dX0_isAway_46 : decode cX0_isAway 46 = .ok (.iconst 1, 1) := by decide +kernel
theorem dX0_isAway_47 : decode cX0_isAway 47 = .ok (.goto 4, 3) := by decide +kernel
theorem dX0_isAway_50 : decode cX0_isAway 50 = .ok (.iconst 0, 1) := by decide +kernel
theorem dX0_isAway_51 : decode cX0_isAway 51 = .ok (.ireturn, 1) := by decide +kernel
theorem dX0_isAway_52 : decode cX0_isAway 52 = .ok (.iload_n 3, 1) := by decide +kernel
theorem dX0_isAway_53 : decode cX0_isAway 53 = .ok (.ireturn, 1) := by decide +kernel
set_option maxRecDepth 20000 in
theorem ggX0_rank_X0_isReal : GoodIn wsX0_rank wsX0_isReal := goodIn_r _ [4] (by decide +kernel) (by decide +kernel)
set_option maxRecDepth 20000 in
theorem gX0_rank_X0_isReal : GoodIn wsX0_rank (va_wsS RX0 69 yX0_isReal wsX0_isReal) := goodIn_app (goodIn_of _ (by decide +kernel)) ggX0_rank_X0_isReal
set_option maxRecDepth 20000 in
theorem ggX0_rank_X0_sizeBits : GoodIn wsX0_rank wsX0_sizeBits := goodIn_r _ [7, 8, 9] (by decide +kernel) (by decide +kernel)
set_option maxRecDepth 20000 in
theorem gX0_rank_X0_sizeBits : GoodIn wsX0_rank (va_wsS RX0 43 yX0_sizeBits wsX0_sizeBits) := goodIn_app (goodIn_of _ (by decide +kernel)) ggX0_rank_X0_sizeBits
theorem dX0_rank_0 : decode cX0_rank 0 = .ok (.iload_n 0, 1) := by decide +kernel
theorem dX0_rank_1 : decode cX0_rank 1 = .ok (.invokestatic 69, 3) := by decide +kernel
theorem dX0_rank_4 : decode cX0_rank 4 = .ok (.ifCond .eq 18, 3) := by decide +kernel
theorem dX0_rank_7 : decode cX0_rank 7 = .ok (.lload_n 1, 1) := by decide +kernel
theorem dX0_rank_8 : decode cX0_rank 8 = .ok (.lconst 0, 1) := by decide +kernel
theorem dX0_rank_9 : decode cX0_rank 9 = .ok (.lcmp, 1) := by decide +kernel
theorem dX0_rank_10 : decode cX0_rank 10 = .ok (.ifCond .ge 12, 3) := by decide +kernel
theorem dX0_rank_13 : decode cX0_rank 13 = .ok (.lload_n 1, 1) := by decide +kernel
theorem dX0_rank_14 : decode cX0_rank 14 = .ok (.iload_n 0, 1) := by decide +kernel
theorem dX0_rank_15 : decode cX0_rank 15 = .ok (.invokestatic 43, 3) := by decide +kernel
theorem dX0_rank_18 : decode cX0_rank 18 = .ok (.lxor, 1) := by decide +kernel
theorem dX0_rank_19 : decode cX0_rank 19 = .ok (.goto 4, 3) := by decide +kernel
theorem dX0_rank_22 : decode cX0_rank 22 = .ok (.lload_n 1, 1) := by decide +kernel
theorem dX0_rank_23 : decode cX0_rank 23 = .ok (.lreturn, 1) := by decide +kernel
theorem dX0_sizeBits_0 : decode cX0_sizeBits 0 = .ok (.iload_n 0, 1) := by decide +kernel
theorem dX0_sizeBits_1 : decode cX0_sizeBits 1 = .ok (.iconst 2, 1) := by decide +kernel
theorem dX0_sizeBits_2 : decode cX0_sizeBits 2 = .ok (.if_icmp .ne 9, 3) := by decide +kernel
theorem dX0_sizeBits_5 : decode cX0_sizeBits 5 = .ok (.ldc2_w 11, 3) := by decide +kernel
theorem dX0_sizeBits_8 : decode cX0_sizeBits 8 = .ok (.goto 6, 3) := by decide +kernel
theorem dX0_sizeBits_11 : decode cX0_sizeBits 11 = .ok (.ldc2_w 15, 3) := by decide +kernel
theorem dX0_sizeBits_14 : decode cX0_sizeBits 14 = .ok (.lreturn, 1) := by decide +kernel
theorem dX0_placesOf_0 : decode cX0_placesOf 0 = .ok (.iload_n 0, 1) := by decide +kernel
theorem dX0_placesOf_1 : decode cX0_placesOf 1 = .ok (.iconst 2, 1) := by decide +kernel
theorem dX0_placesOf_2 : decode cX0_placesOf 2 = .ok (.if_icmp .ne 8, 3) := by decide +kernel
theorem dX0_placesOf_5 : decode cX0_placesOf 5 = .ok (.bipush 23, 2) := by decide +kernel
theorem dX0_placesOf_7 : decode cX0_placesOf 7 = .ok (.goto 5, 3) := by decide +kernel
theorem dX0_placesOf_10 : decode cX0_placesOf 10 = .ok (.bipush 52, 2) := by decide +kernel
theorem dX0_placesOf_12 : decode cX0_placesOf 12 = .ok (.ireturn, 1) := by decide +kernel
set_option maxRecDepth 20000 in
theorem ggX0_oneOf_X0_placesOf : GoodIn wsX0_oneOf wsX0_placesOf := goodIn_r _ [6] (by decide +kernel) (by decide +kernel)
set_option maxRecDepth 20000 in
theorem gX0_oneOf_X0_placesOf : GoodIn wsX0_oneOf (va_wsS RX0 62 yX0_placesOf wsX0_placesOf) := goodIn_app (goodIn_of _ (by decide +kernel)) ggX0_oneOf_X0_placesOf
theorem dX0_oneOf_0 : decode cX0_oneOf 0 = .ok (.iload_n 0, 1) := by decide +kernel
theorem dX0_oneOf_1 : decode cX0_oneOf 1 = .ok (.iconst 2, 1) := by decide +kernel
theorem dX0_oneOf_2 : decode cX0_oneOf 2 = .ok (.if_icmp .ne 9, 3) := by decide +kernel
theorem dX0_oneOf_5 : decode cX0_oneOf 5 = .ok (.ldc2_w 73, 3) := by decide +kernel
theorem dX0_oneOf_8 : decode cX0_oneOf 8 = .ok (.goto 6, 3) := by decide +kernel
theorem dX0_oneOf_11 : decode cX0_oneOf 11 = .ok (.ldc2_w 75, 3) := by decide +kernel
theorem dX0_oneOf_14 : decode cX0_oneOf 14 = .ok (.iload_n 0, 1) := by decide +kernel
theorem dX0_oneOf_15 : decode cX0_oneOf 15 = .ok (.invokestatic 62, 3) := by decide +kernel
theorem dX0_oneOf_18 : decode cX0_oneOf 18 = .ok (.lshl, 1) := by decide +kernel
theorem dX0_oneOf_19 : decode cX0_oneOf 19 = .ok (.lreturn, 1) := by decide +kernel
theorem dX1_init_0 : decode cX1_init 0 = .ok (.aload_n 0, 1) := by decide +kernel
theorem dX1_init_1 : decode cX1_init 1 = .ok (.invokespecial 3, 3) := by decide +kernel
theorem dX1_init_4 : decode cX1_init 4 = .ok (.aload_n 0, 1) := by decide +kernel
theorem dX1_init_5 : decode cX1_init 5 = .ok (.bipush 96, 2) := by decide +kernel
theorem dX1_init_7 : decode cX1_init 7 = .ok (.newarray .long, 2) := by decide +kernel
theorem dX1_init_9 : decode cX1_init 9 = .ok (.putfield 9, 3) := by decide +kernel
theorem dX1_init_12 : decode cX1_init 12 = .ok (.aload_n 0, 1) := by decide +kernel
theorem dX1_init_13 : decode cX1_init 13 = .ok (.bipush 6, 2) := by decide +kernel
theorem dX1_init_15 : decode cX1_init 15 = .ok (.newarray .int, 2) := by decide +kernel
theorem dX1_init_17 : decode cX1_init 17 = .ok (.putfield 15, 3) := by decide +kernel
theorem dX1_init_20 : decode cX1_init 20 = .ok (.return_, 1) := by decide +kernel
theorem dX1_held_0 : decode cX1_held 0 = .ok (.aload_n 0, 1) := by decide +kernel
theorem dX1_held_1 : decode cX1_held 1 = .ok (.getfield 19, 3) := by decide +kernel
theorem dX1_held_4 : decode cX1_held 4 = .ok (.ireturn, 1) := by decide +kernel
theorem dX1_keep_0 : decode cX1_keep 0 = .ok (.aload_n 0, 1) := by decide +kernel
theorem dX1_keep_1 : decode cX1_keep 1 = .ok (.getfield 19, 3) := by decide +kernel
theorem dX1_keep_4 : decode cX1_keep 4 = .ok (.bipush 6, 2) := by decide +kernel
theorem dX1_keep_6 : decode cX1_keep 6 = .ok (.if_icmp .ne 26, 3) := by decide +kernel
theorem dX1_keep_9 : decode cX1_keep 9 = .ok (.aload_n 0, 1) := by decide +kernel
theorem dX1_keep_10 : decode cX1_keep 10 = .ok (.aload_n 0, 1) := by decide +kernel
theorem dX1_keep_11 : decode cX1_keep 11 = .ok (.getfield 23, 3) := by decide +kernel
theorem dX1_keep_14 : decode cX1_keep 14 = .ok (.iconst 1, 1) := by decide +kernel
theorem dX1_keep_15 : decode cX1_keep 15 = .ok (.iadd, 1) := by decide +kernel
theorem dX1_keep_16 : decode cX1_keep 16 = .ok (.bipush 6, 2) := by decide +kernel
theorem dX1_keep_18 : decode cX1_keep 18 = .ok (.irem, 1) := by decide +kernel
theorem dX1_keep_19 : decode cX1_keep 19 = .ok (.putfield 23, 3) := by decide +kernel
theorem dX1_keep_22 : decode cX1_keep 22 = .ok (.aload_n 0, 1) := by decide +kernel
theorem dX1_keep_23 : decode cX1_keep 23 = .ok (.dup, 1) := by decide +kernel
theorem dX1_keep_24 : decode cX1_keep 24 = .ok (.getfield 19, 3) := by decide +kernel
theorem dX1_keep_27 : decode cX1_keep 27 = .ok (.iconst 1, 1) := by decide +kernel
theorem dX1_keep_28 : decode cX1_keep 28 = .ok (.isub, 1) := by decide +kernel
theorem dX1_keep_29 : decode cX1_keep 29 = .ok (.putfield 19, 3) := by decide +kernel
theorem dX1_keep_32 : decode cX1_keep 32 = .ok (.aload_n 0, 1) := by decide +kernel
theorem dX1_keep_33 : decode cX1_keep 33 = .ok (.getfield 23, 3) := by decide +kernel
theorem dX1_keep_36 : decode cX1_keep 36 = .ok (.aload_n 0, 1) := by decide +kernel
theorem dX1_keep_37 : decode cX1_keep 37 = .ok (.getfield 19, 3) := by decide +kernel
theorem dX1_keep_40 : decode cX1_keep 40 = .ok (.iadd, 1) := by decide +kernel
theorem dX1_keep_41 : decode cX1_keep 41 = .ok (.bipush 6, 2) := by decide +kernel
theorem dX1_keep_43 : decode cX1_keep 43 = .ok (.irem, 1) := by decide +kernel
theorem dX1_keep_44 : decode cX1_keep 44 = .ok (.istore_n 3, 1) := by decide +kernel
theorem dX1_keep_45 : decode cX1_keep 45 = .ok (.aload_n 0, 1) := by decide +kernel
theorem dX1_keep_46 : decode cX1_keep 46 = .ok (.getfield 15, 3) := by decide +kernel
theorem dX1_keep_49 : decode cX1_keep 49 = .ok (.iload_n 3, 1) := by decide +kernel
theorem dX1_keep_50 : decode cX1_keep 50 = .ok (.iload_n 2, 1) := by decide +kernel
theorem dX1_keep_51 : decode cX1_keep 51 = .ok (.iastore, 1) := by decide +kernel
theorem dX1_keep_52 : decode cX1_keep 52 = .ok (.aload_n 1, 1) := by decide +kernel
theorem dX1_keep_53 : decode cX1_keep 53 = .ok (.iconst 0, 1) := by decide +kernel
theorem dX1_keep_54 : decode cX1_keep 54 = .ok (.aload_n 0, 1) := by decide +kernel
theorem dX1_keep_55 : decode cX1_keep 55 = .ok (.getfield 9, 3) := by decide +kernel
theorem dX1_keep_58 : decode cX1_keep 58 = .ok (.iload_n 3, 1) := by decide +kernel
theorem dX1_keep_59 : decode cX1_keep 59 = .ok (.bipush 16, 2) := by decide +kernel
theorem dX1_keep_61 : decode cX1_keep 61 = .ok (.imul, 1) := by decide +kernel
theorem dX1_keep_62 : decode cX1_keep 62 = .ok (.iload_n 2, 1) := by decide +kernel
theorem dX1_keep_63 : decode cX1_keep 63 = .ok (.invokestatic 26, 3) := by decide +kernel
theorem dX1_keep_66 : decode cX1_keep 66 = .ok (.aload_n 0, 1) := by decide +kernel
theorem dX1_keep_67 : decode cX1_keep 67 = .ok (.dup, 1) := by decide +kernel
theorem dX1_keep_68 : decode cX1_keep 68 = .ok (.getfield 19, 3) := by decide +kernel
theorem dX1_keep_71 : decode cX1_keep 71 = .ok (.iconst 1, 1) := by decide +kernel
theorem dX1_keep_72 : decode cX1_keep 72 = .ok (.iadd, 1) := by decide +kernel
theorem dX1_keep_73 : decode cX1_keep 73 = .ok (.putfield 19, 3) := by decide +kernel
theorem dX1_keep_76 : decode cX1_keep 76 = .ok (.return_, 1) := by decide +kernel
theorem dX1_restoreLatest_0 : decode cX1_restoreLatest 0 = .ok (.aload_n 0, 1) := by decide +kernel
theorem dX1_restoreLatest_1 : decode cX1_restoreLatest 1 = .ok (.dup, 1) := by decide +kernel
theorem dX1_restoreLatest_2 : decode cX1_restoreLatest 2 = .ok (.getfield 19, 3) := by decide +kernel
theorem dX1_restoreLatest_5 : decode cX1_restoreLatest 5 = .ok (.iconst 1, 1) := by decide +kernel
theorem dX1_restoreLatest_6 : decode cX1_restoreLatest 6 = .ok (.isub, 1) := by decide +kernel
theorem dX1_restoreLatest_7 : decode cX1_restoreLatest 7 = .ok (.putfield 19, 3) := by decide +kernel
theorem dX1_restoreLatest_10 : decode cX1_restoreLatest 10 = .ok (.aload_n 0, 1) := by decide +kernel
theorem dX1_restoreLatest_11 : decode cX1_restoreLatest 11 = .ok (.getfield 23, 3) := by decide +kernel
theorem dX1_restoreLatest_14 : decode cX1_restoreLatest 14 = .ok (.aload_n 0, 1) := by decide +kernel
theorem dX1_restoreLatest_15 : decode cX1_restoreLatest 15 = .ok (.getfield 19, 3) := by decide +kernel
theorem dX1_restoreLatest_18 : decode cX1_restoreLatest 18 = .ok (.iadd, 1) := by decide +kernel
theorem dX1_restoreLatest_19 : decode cX1_restoreLatest 19 = .ok (.bipush 6, 2) := by decide +kernel
theorem dX1_restoreLatest_21 : decode cX1_restoreLatest 21 = .ok (.irem, 1) := by decide +kernel
theorem dX1_restoreLatest_22 : decode cX1_restoreLatest 22 = .ok (.istore_n 2, 1) := by decide +kernel
theorem dX1_restoreLatest_23 : decode cX1_restoreLatest 23 = .ok (.iconst 0, 1) := by decide +kernel
theorem dX1_restoreLatest_24 : decode cX1_restoreLatest 24 = .ok (.istore_n 3, 1) := by decide +kernel
theorem dX1_restoreLatest_25 : decode cX1_restoreLatest 25 = .ok (.iconst 0, 1) := by decide +kernel
theorem dX1_restoreLatest_26 : decode cX1_restoreLatest 26 = .ok (.istore 4, 2) := by decide +kernel
theorem dX1_restoreLatest_28 : decode cX1_restoreLatest 28 = .ok (.iload 4, 2) := by decide +kernel
theorem dX1_restoreLatest_30 : decode cX1_restoreLatest 30 = .ok (.aload_n 0, 1) := by decide +kernel
theorem dX1_restoreLatest_31 : decode cX1_restoreLatest 31 = .ok (.getfield 15, 3) := by decide +kernel
theorem dX1_restoreLatest_34 : decode cX1_restoreLatest 34 = .ok (.iload_n 2, 1) := by decide +kernel
theorem dX1_restoreLatest_35 : decode cX1_restoreLatest 35 = .ok (.iaload, 1) := by decide +kernel
theorem dX1_restoreLatest_36 : decode cX1_restoreLatest 36 = .ok (.if_icmp .ge 42, 3) := by decide +kernel
theorem dX1_restoreLatest_39 : decode cX1_restoreLatest 39 = .ok (.aload_n 0, 1) := by decide +kernel
theorem dX1_restoreLatest_40 : decode cX1_restoreLatest 40 = .ok (.getfield 9, 3) := by decide +kernel
theorem dX1_restoreLatest_43 : decode cX1_restoreLatest 43 = .ok (.iload_n 2, 1) := by decide +kernel
theorem dX1_restoreLatest_44 : decode cX1_restoreLatest 44 = .ok (.bipush 16, 2) := by decide +kernel
theorem dX1_restoreLatest_46 : decode cX1_restoreLatest 46 = .ok (.imul, 1) := by decide +kernel
theorem dX1_restoreLatest_47 : decode cX1_restoreLatest 47 = .ok (.iload 4, 2) := by decide +kernel
theorem dX1_restoreLatest_49 : decode cX1_restoreLatest 49 = .ok (.iadd, 1) := by decide +kernel
theorem dX1_restoreLatest_50 : decode cX1_restoreLatest 50 = .ok (.laload, 1) := by decide +kernel
theorem dX1_restoreLatest_51 : decode cX1_restoreLatest 51 = .ok (.lstore 5, 2) := by decide +kernel
theorem dX1_restoreLatest_53 : decode cX1_restoreLatest 53 = .ok (.aload_n 1, 1) := by decide +kernel
theorem dX1_restoreLatest_54 : decode cX1_restoreLatest 54 = .ok (.iload 4, 2) := by decide +kernel
theorem dX1_restoreLatest_56 : decode cX1_restoreLatest 56 = .ok (.laload, 1) := by decide +kernel
theorem dX1_restoreLatest_57 : decode cX1_restoreLatest 57 = .ok (.lload 5, 2) := by decide +kernel
theorem dX1_restoreLatest_59 : decode cX1_restoreLatest 59 = .ok (.lcmp, 1) := by decide +kernel
theorem dX1_restoreLatest_60 : decode cX1_restoreLatest 60 = .ok (.ifCond .eq 12, 3) := by decide +kernel
theorem dX1_restoreLatest_63 : decode cX1_restoreLatest 63 = .ok (.aload_n 1, 1) := by decide +kernel
theorem dX1_restoreLatest_64 : decode cX1_restoreLatest 64 = .ok (.iload 4, 2) := by decide +kernel
theorem dX1_restoreLatest_66 : decode cX1_restoreLatest 66 = .ok (.lload 5, 2) := by decide +kernel
theorem dX1_restoreLatest_68 : decode cX1_restoreLatest 68 = .ok (.lastore, 1) := by decide +kernel
theorem dX1_restoreLatest_69 : decode cX1_restoreLatest 69 = .ok (.iinc 3 1, 3) := by decide +kernel
theorem dX1_restoreLatest_72 : decode cX1_restoreLatest 72 = .ok (.iinc 4 1, 3) := by decide +kernel
theorem dX1_restoreLatest_75 : decode cX1_restoreLatest 75 = .ok (.goto (-47), 3) := by decide +kernel
theorem dX1_restoreLatest_78 : decode cX1_restoreLatest 78 = .ok (.iload_n 3, 1) := by decide +kernel
theorem dX1_restoreLatest_79 : decode cX1_restoreLatest 79 = .ok (.ireturn, 1) := by decide +kernel
set_option maxRecDepth 20000 in
theorem ggX2_init_X1_init : GoodIn wsX2_init wsX1_init := goodIn_r _ [21, 22, 2, 3, 6, 23, 4, 24, 39, 40, 41, 42] (by decide +kernel) (by decide +kernel)
set_option maxRecDepth 20000 in
theorem gX2_init_X1_init : GoodIn wsX2_init (wsX1_init) := ggX2_init_X1_init
theorem dX2_init_0 : decode cX2_init 0 = .ok (.aload_n 0, 1) := by decide +kernel
theorem dX2_init_1 : decode cX2_init 1 = .ok (.invokespecial 1, 3) := by decide +kernel
theorem dX2_init_4 : decode cX2_init 4 = .ok (.aload_n 0, 1) := by decide +kernel
theorem dX2_init_5 : decode cX2_init 5 = .ok (.bipush 16, 2) := by decide +kernel
theorem dX2_init_7 : decode cX2_init 7 = .ok (.newarray .int, 2) := by decide +kernel
theorem dX2_init_9 : decode cX2_init 9 = .ok (.putfield 9, 3) := by decide +kernel
theorem dX2_init_12 : decode cX2_init 12 = .ok (.aload_n 0, 1) := by decide +kernel
theorem dX2_init_13 : decode cX2_init 13 = .ok (.bipush 16, 2) := by decide +kernel
theorem dX2_init_15 : decode cX2_init 15 = .ok (.newarray .long, 2) := by decide +kernel
theorem dX2_init_17 : decode cX2_init 17 = .ok (.putfield 13, 3) := by decide +kernel
theorem dX2_init_20 : decode cX2_init 20 = .ok (.aload_n 0, 1) := by decide +kernel
theorem dX2_init_21 : decode cX2_init 21 = .ok (.bipush 16, 2) := by decide +kernel
theorem dX2_init_23 : decode cX2_init 23 = .ok (.newarray .long, 2) := by decide +kernel
theorem dX2_init_25 : decode cX2_init 25 = .ok (.putfield 17, 3) := by decide +kernel
theorem dX2_init_28 : decode cX2_init 28 = .ok (.aload_n 0, 1) := by decide +kernel
theorem dX2_init_29 : decode cX2_init 29 = .ok (.bipush 16, 2) := by decide +kernel
theorem dX2_init_31 : decode cX2_init 31 = .ok (.newarray .long, 2) := by decide +kernel
theorem dX2_init_33 : decode cX2_init 33 = .ok (.putfield 20, 3) := by decide +kernel
theorem dX2_init_36 : decode cX2_init 36 = .ok (.aload_n 0, 1) := by decide +kernel
theorem dX2_init_37 : decode cX2_init 37 = .ok (.bipush 24, 2) := by decide +kernel
theorem dX2_init_39 : decode cX2_init 39 = .ok (.newarray .int, 2) := by decide +kernel
theorem dX2_init_41 : decode cX2_init 41 = .ok (.putfield 23, 3) := by decide +kernel
theorem dX2_init_44 : decode cX2_init 44 = .ok (.aload_n 0, 1) := by decide +kernel
theorem dX2_init_45 : decode cX2_init 45 = .ok (.bipush 24, 2) := by decide +kernel
theorem dX2_init_47 : decode cX2_init 47 = .ok (.newarray .int, 2) := by decide +kernel
theorem dX2_init_49 : decode cX2_init 49 = .ok (.putfield 26, 3) := by decide +kernel
theorem dX2_init_52 : decode cX2_init 52 = .ok (.aload_n 0, 1) := by decide +kernel
theorem dX2_init_53 : decode cX2_init 53 = .ok (.bipush 24, 2) := by decide +kernel
theorem dX2_init_55 : decode cX2_init 55 = .ok (.newarray .int, 2) := by decide +kernel
theorem dX2_init_57 : decode cX2_init 57 = .ok (.putfield 29, 3) := by decide +kernel
theorem dX2_init_60 : decode cX2_init 60 = .ok (.aload_n 0, 1) := by decide +kernel
theorem dX2_init_61 : decode cX2_init 61 = .ok (.bipush 24, 2) := by decide +kernel
theorem dX2_init_63 : decode cX2_init 63 = .ok (.newarray .boolean, 2) := by decide +kernel
theorem dX2_init_65 : decode cX2_init 65 = .ok (.putfield 32, 3) := by decide +kernel
theorem dX2_init_68 : decode cX2_init 68 = .ok (.aload_n 0, 1) := by decide +kernel
theorem dX2_init_69 : decode cX2_init 69 = .ok (.new 36, 3) := by decide +kernel
theorem dX2_init_72 : decode cX2_init 72 = .ok (.dup, 1) := by decide +kernel
theorem dX2_init_73 : decode cX2_init 73 = .ok (.invokespecial 38, 3) := by decide +kernel
theorem dX2_init_76 : decode cX2_init 76 = .ok (.putfield 39, 3) := by decide +kernel
theorem dX2_init_79 : decode cX2_init 79 = .ok (.return_, 1) := by decide +kernel
set_option maxRecDepth 20000 in
theorem ggX2_dial_X2_faultOfDial : GoodIn wsX2_dial wsX2_faultOfDial := goodIn_r _ [11, 2, 12, 13, 14, 15, 16, 17, 18, 19, 20, 21, 22, 23, 24, 25, 26, 27, 28, 29, 30, 31, 42, 43, 44, 45, 46, 47, 48, 49, 50, 51, 52, 53, 54, 55] (by decide +kernel) (by decide +kernel)
set_option maxRecDepth 20000 in
theorem gX2_dial_X2_faultOfDial : GoodIn wsX2_dial (wsV RX2 43 RX2 yX2_faultOfDial wsX2_faultOfDial) := goodIn_app (goodIn_of _ (by decide +kernel)) ggX2_dial_X2_faultOfDial
set_option maxRecDepth 20000 in
theorem ggX2_dial_X0_fitted : GoodIn wsX2_dial wsX0_fitted := goodIn_r _ [34, 35, 36, 14, 37, 38, 21, 22, 23, 24, 25, 26, 27, 28, 29, 30, 31, 16, 18, 39, 40, 41] (by decide +kernel) (by decide +kernel)
set_option maxRecDepth 20000 in
theorem gX2_dial_X0_fitted : GoodIn wsX2_dial (va_wsS RX2 54 yX0_fitted wsX0_fitted) := goodIn_app (goodIn_of _ (by decide +kernel)) ggX2_dial_X0_fitted
theorem dX2_dial_0 : decode cX2_dial 0 = .ok (.aload_n 0, 1) := by decide +kernel
theorem dX2_dial_1 : decode cX2_dial 1 = .ok (.aload_n 0, 1) := by decide +kernel
theorem dX2_dial_2 : decode cX2_dial 2 = .ok (.iload_n 1, 1) := by decide +kernel
theorem dX2_dial_3 : decode cX2_dial 3 = .ok (.lload_n 2, 1) := by decide +kernel
theorem dX2_dial_4 : decode cX2_dial 4 = .ok (.lload 4, 2) := by decide +kernel
theorem dX2_dial_6 : decode cX2_dial 6 = .ok (.invokevirtual 43, 3) := by decide +kernel
theorem dX2_dial_9 : decode cX2_dial 9 = .ok (.putfield 47, 3) := by decide +kernel
theorem dX2_dial_12 : decode cX2_dial 12 = .ok (.aload_n 0, 1) := by decide +kernel
theorem dX2_dial_13 : decode cX2_dial 13 = .ok (.getfield 47, 3) := by decide +kernel
theorem dX2_dial_16 : decode cX2_dial 16 = .ok (.ifCond .eq 5, 3) := by decide +kernel
theorem dX2_dial_19 : decode cX2_dial 19 = .ok (.iconst (-1), 1) := by decide +kernel
theorem dX2_dial_20 : decode cX2_dial 20 = .ok (.ireturn, 1) := by decide +kernel
theorem dX2_dial_21 : decode cX2_dial 21 = .ok (.aload_n 0, 1) := by decide +kernel
theorem dX2_dial_22 : decode cX2_dial 22 = .ok (.getfield 51, 3) := by decide +kernel
theorem dX2_dial_25 : decode cX2_dial 25 = .ok (.istore 6, 2) := by decide +kernel
theorem dX2_dial_27 : decode cX2_dial 27 = .ok (.aload_n 0, 1) := by decide +kernel
theorem dX2_dial_28 : decode cX2_dial 28 = .ok (.getfield 9, 3) := by decide +kernel
theorem dX2_dial_31 : decode cX2_dial 31 = .ok (.iload 6, 2) := by decide +kernel
theorem dX2_dial_33 : decode cX2_dial 33 = .ok (.iload_n 1, 1) := by decide +kernel
theorem dX2_dial_34 : decode cX2_dial 34 = .ok (.iastore, 1) := by decide +kernel
theorem dX2_dial_35 : decode cX2_dial 35 = .ok (.aload_n 0, 1) := by decide +kernel
theorem dX2_dial_36 : decode cX2_dial 36 = .ok (.getfield 13, 3) := by decide +kernel
theorem dX2_dial_39 : decode cX2_dial 39 = .ok (.iload 6, 2) := by decide +kernel
theorem dX2_dial_41 : decode cX2_dial 41 = .ok (.lload_n 2, 1) := by decide +kernel
theorem dX2_dial_42 : decode cX2_dial 42 = .ok (.lastore, 1) := by decide +kernel
theorem dX2_dial_43 : decode cX2_dial 43 = .ok (.aload_n 0, 1) := by decide +kernel
theorem dX2_dial_44 : decode cX2_dial 44 = .ok (.getfield 17, 3) := by decide +kernel
theorem dX2_dial_47 : decode cX2_dial 47 = .ok (.iload 6, 2) := by decide +kernel
theorem dX2_dial_49 : decode cX2_dial 49 = .ok (.lload 4, 2) := by decide +kernel
theorem dX2_dial_51 : decode cX2_dial 51 = .ok (.lastore, 1) := by decide +kernel
theorem dX2_dial_52 : decode cX2_dial 52 = .ok (.aload_n 0, 1) := by decide +kernel
theorem dX2_dial_53 : decode cX2_dial 53 = .ok (.getfield 20, 3) := by decide +kernel
theorem dX2_dial_56 : decode cX2_dial 56 = .ok (.iload 6, 2) := by decide +kernel
theorem dX2_dial_58 : decode cX2_dial 58 = .ok (.iload_n 1, 1) := by decide +kernel
theorem dX2_dial_59 : decode cX2_dial 59 = .ok (.lload_n 2, 1) := by decide +kernel
theorem dX2_dial_60 : decode cX2_dial 60 = .ok (.lload 4, 2) := by decide +kernel
theorem dX2_dial_62 : decode cX2_dial 62 = .ok (.lconst 0, 1) := by decide +kernel
theorem dX2_dial_63 : decode cX2_dial 63 = .ok (.invokestatic 54, 3) := by decide +kernel
theorem dX2_dial_66 : decode cX2_dial 66 = .ok (.lastore, 1) := by decide +kernel
theorem dX2_dial_67 : decode cX2_dial 67 = .ok (.aload_n 0, 1) := by decide +kernel
theorem dX2_dial_68 : decode cX2_dial 68 = .ok (.dup, 1) := by decide +kernel
theorem dX2_dial_69 : decode cX2_dial 69 = .ok (.getfield 51, 3) := by decide +kernel
theorem dX2_dial_72 : decode cX2_dial 72 = .ok (.iconst 1, 1) := by decide +kernel
theorem dX2_dial_73 : decode cX2_dial 73 = .ok (.iadd, 1) := by decide +kernel
theorem dX2_dial_74 : decode cX2_dial 74 = .ok (.putfield 51, 3) := by decide +kernel
theorem dX2_dial_77 : decode cX2_dial 77 = .ok (.iload 6, 2) := by decide +kernel
theorem dX2_dial_79 : decode cX2_dial 79 = .ok (.ireturn, 1) := by decide +kernel
set_option maxRecDepth 20000 in
theorem ggX2_rod_X2_faultOfRod : GoodIn wsX2_rod wsX2_faultOfRod := goodIn_r _ [10, 2, 11, 12, 9, 13, 14, 15, 16, 17, 18, 19, 20, 21, 22, 23, 24, 25, 26, 27, 28, 29, 30, 31, 32, 33, 34, 35, 36, 37, 38, 39, 40, 41] (by decide +kernel) (by decide +kernel)
set_option maxRecDepth 20000 in
theorem gX2_rod_X2_faultOfRod : GoodIn wsX2_rod (wsV RX2 60 RX2 yX2_faultOfRod wsX2_faultOfRod) := goodIn_app (goodIn_of _ (by decide +kernel)) ggX2_rod_X2_faultOfRod
theorem dX2_rod_0 : decode cX2_rod 0 = .ok (.aload_n 0, 1) := by decide +kernel
theorem dX2_rod_1 : decode cX2_rod 1 = .ok (.aload_n 0, 1) := by decide +kernel
theorem dX2_rod_2 : decode cX2_rod 2 = .ok (.iload_n 1, 1) := by decide +kernel
theorem dX2_rod_3 : decode cX2_rod 3 = .ok (.iload_n 2, 1) := by decide +kernel
theorem dX2_rod_4 : decode cX2_rod 4 = .ok (.iload_n 3, 1) := by decide +kernel
theorem dX2_rod_5 : decode cX2_rod 5 = .ok (.invokevirtual 60, 3) := by decide +kernel
theorem dX2_rod_8 : decode cX2_rod 8 = .ok (.putfield 47, 3) := by decide +kernel
theorem dX2_rod_11 : decode cX2_rod 11 = .ok (.aload_n 0, 1) := by decide +kernel
theorem dX2_rod_12 : decode cX2_rod 12 = .ok (.getfield 47, 3) := by decide +kernel
theorem dX2_rod_15 : decode cX2_rod 15 = .ok (.ifCond .eq 5, 3) := by decide +kernel
theorem dX2_rod_18 : decode cX2_rod 18 = .ok (.iconst (-1), 1) := by decide +kernel
theorem dX2_rod_19 : decode cX2_rod 19 = .ok (.ireturn, 1) := by decide +kernel
theorem dX2_rod_20 : decode cX2_rod 20 = .ok (.aload_n 0, 1) := by decide +kernel
theorem dX2_rod_21 : decode cX2_rod 21 = .ok (.getfield 64, 3) := by decide +kernel
theorem dX2_rod_24 : decode cX2_rod 24 = .ok (.istore 4, 2) := by decide +kernel
theorem dX2_rod_26 : decode cX2_rod 26 = .ok (.aload_n 0, 1) := by decide +kernel
theorem dX2_rod_27 : decode cX2_rod 27 = .ok (.getfield 23, 3) := by decide +kernel
theorem dX2_rod_30 : decode cX2_rod 30 = .ok (.iload 4, 2) := by decide +kernel
theorem dX2_rod_32 : decode cX2_rod 32 = .ok (.iload_n 1, 1) := by decide +kernel
theorem dX2_rod_33 : decode cX2_rod 33 = .ok (.iastore, 1) := by decide +kernel
theorem dX2_rod_34 : decode cX2_rod 34 = .ok (.aload_n 0, 1) := by decide +kernel
theorem dX2_rod_35 : decode cX2_rod 35 = .ok (.getfield 26, 3) := by decide +kernel
theorem dX2_rod_38 : decode cX2_rod 38 = .ok (.iload 4, 2) := by decide +kernel
theorem dX2_rod_40 : decode cX2_rod 40 = .ok (.iload_n 2, 1) := by decide +kernel
theorem dX2_rod_41 : decode cX2_rod 41 = .ok (.iastore, 1) := by decide +kernel
theorem dX2_rod_42 : decode cX2_rod 42 = .ok (.aload_n 0, 1) := by decide +kernel
theorem dX2_rod_43 : decode cX2_rod 43 = .ok (.getfield 29, 3) := by decide +kernel
theorem dX2_rod_46 : decode cX2_rod 46 = .ok (.iload 4, 2) := by decide +kernel
theorem dX2_rod_48 : decode cX2_rod 48 = .ok (.iload_n 3, 1) := by decide +kernel
