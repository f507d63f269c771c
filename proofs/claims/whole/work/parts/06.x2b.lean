theorem dX2_make_18 : decode cX2_make 18 = .ok (.iload 5, 2) := by decide +kernel
theorem dX2_make_20 : decode cX2_make 20 = .ok (.lshl, 1) := by decide +kernel
theorem dX2_make_21 : decode cX2_make 21 = .ok (.lstore 6, 2) := by decide +kernel
theorem dX2_make_23 : decode cX2_make 23 = .ok (.iload 4, 2) := by decide +kernel
theorem dX2_make_25 : decode cX2_make 25 = .ok (.bipush 63, 2) := by decide +kernel
theorem dX2_make_27 : decode cX2_make 27 = .ok (.iadd, 1) := by decide +kernel
theorem dX2_make_28 : decode cX2_make 28 = .ok (.iload 5, 2) := by decide +kernel
theorem dX2_make_30 : decode cX2_make 30 = .ok (.isub, 1) := by decide +kernel
theorem dX2_make_31 : decode cX2_make 31 = .ok (.istore 8, 2) := by decide +kernel
theorem dX2_make_33 : decode cX2_make 33 = .ok (.iload 8, 2) := by decide +kernel
theorem dX2_make_35 : decode cX2_make 35 = .ok (.sipush (-16382), 3) := by decide +kernel
theorem dX2_make_38 : decode cX2_make 38 = .ok (.if_icmp .ge 13, 3) := by decide +kernel
theorem dX2_make_41 : decode cX2_make 41 = .ok (.aload_n 0, 1) := by decide +kernel
theorem dX2_make_42 : decode cX2_make 42 = .ok (.iload_n 1, 1) := by decide +kernel
theorem dX2_make_43 : decode cX2_make 43 = .ok (.iload 8, 2) := by decide +kernel
theorem dX2_make_45 : decode cX2_make 45 = .ok (.lload 6, 2) := by decide +kernel
theorem dX2_make_47 : decode cX2_make 47 = .ok (.invokevirtual 188, 3) := by decide +kernel
theorem dX2_make_50 : decode cX2_make 50 = .ok (.areturn, 1) := by decide +kernel
theorem dX2_make_51 : decode cX2_make 51 = .ok (.iload 8, 2) := by decide +kernel
theorem dX2_make_53 : decode cX2_make 53 = .ok (.sipush 16383, 3) := by decide +kernel
theorem dX2_make_56 : decode cX2_make 56 = .ok (.if_icmp .le 13, 3) := by decide +kernel
theorem dX2_make_59 : decode cX2_make 59 = .ok (.aload_n 0, 1) := by decide +kernel
theorem dX2_make_60 : decode cX2_make 60 = .ok (.iload_n 1, 1) := by decide +kernel
theorem dX2_make_61 : decode cX2_make 61 = .ok (.iload 8, 2) := by decide +kernel
theorem dX2_make_63 : decode cX2_make 63 = .ok (.lload 6, 2) := by decide +kernel
theorem dX2_make_65 : decode cX2_make 65 = .ok (.invokevirtual 192, 3) := by decide +kernel
theorem dX2_make_68 : decode cX2_make 68 = .ok (.areturn, 1) := by decide +kernel
theorem dX2_make_69 : decode cX2_make 69 = .ok (.iload_n 1, 1) := by decide +kernel
theorem dX2_make_70 : decode cX2_make 70 = .ok (.iload 8, 2) := by decide +kernel
theorem dX2_make_72 : decode cX2_make 72 = .ok (.lload 6, 2) := by decide +kernel
theorem dX2_make_74 : decode cX2_make 74 = .ok (.invokestatic 195, 3) := by decide +kernel
theorem dX2_make_77 : decode cX2_make 77 = .ok (.areturn, 1) := by decide +kernel
set_option maxRecDepth 20000 in
theorem ggX2_makeUnder_X2_isMasked : GoodIn wsX2_makeUnder wsX2_isMasked := goodIn_r _ [9, 10, 47, 48, 49, 50, 51, 52, 53] (by decide +kernel) (by decide +kernel)
set_option maxRecDepth 20000 in
theorem gX2_makeUnder_X2_isMasked : GoodIn wsX2_makeUnder (wsV RX2 163 RX2 yX2_isMasked wsX2_isMasked) := goodIn_app (goodIn_of _ (by decide +kernel)) ggX2_makeUnder_X2_isMasked
set_option maxRecDepth 20000 in
theorem ggX2_makeUnder_X2_normal : GoodIn wsX2_makeUnder wsX2_normal := goodIn_r _ [13, 2, 3, 4, 14, 15, 8, 16, 17, 18, 19, 20, 21, 22, 23, 24, 54, 55] (by decide +kernel) (by decide +kernel)
set_option maxRecDepth 20000 in
theorem gX2_makeUnder_X2_normal : GoodIn wsX2_makeUnder (va_wsS RX2 195 yX2_normal wsX2_normal) := goodIn_app (goodIn_of _ (by decide +kernel)) ggX2_makeUnder_X2_normal
set_option maxRecDepth 20000 in
theorem ggX2_makeUnder_X2_isCut : GoodIn wsX2_makeUnder wsX2_isCut := goodIn_r _ [27] (by decide +kernel) (by decide +kernel)
set_option maxRecDepth 20000 in
theorem gX2_makeUnder_X2_isCut : GoodIn wsX2_makeUnder (va_wsS RX2 198 yX2_isCut wsX2_isCut) := goodIn_app (goodIn_of _ (by decide +kernel)) ggX2_makeUnder_X2_isCut
set_option maxRecDepth 20000 in
theorem ggX2_makeUnder_X2_rounded : GoodIn wsX2_makeUnder wsX2_rounded := goodIn_r _ [31, 25, 26, 8, 27, 32, 33, 34, 35, 10, 36, 37, 38, 39, 40, 41, 42, 43, 44, 45, 46, 47, 48, 49, 50, 51, 52, 53] (by decide +kernel) (by decide +kernel)
set_option maxRecDepth 20000 in
theorem gX2_makeUnder_X2_rounded : GoodIn wsX2_makeUnder (wsV RX2 202 RX2 yX2_rounded wsX2_rounded) := goodIn_app (goodIn_of _ (by decide +kernel)) ggX2_makeUnder_X2_rounded
set_option maxRecDepth 20000 in
theorem ggX2_makeUnder_X2_signOf : GoodIn wsX2_makeUnder wsX2_signOf := goodIn_r _ [16, 17] (by decide +kernel) (by decide +kernel)
set_option maxRecDepth 20000 in
theorem gX2_makeUnder_X2_signOf : GoodIn wsX2_makeUnder (va_wsS RX2 178 yX2_signOf wsX2_signOf) := goodIn_app (goodIn_of _ (by decide +kernel)) ggX2_makeUnder_X2_signOf
set_option maxRecDepth 20000 in
theorem ggX2_makeUnder_X1_init : GoodIn wsX2_makeUnder wsX1_init := goodIn_r _ [19, 20, 21, 22, 23, 24, 54, 55] (by decide +kernel) (by decide +kernel)
set_option maxRecDepth 20000 in
theorem gX2_makeUnder_X1_init_n52 : GoodIn wsX2_makeUnder (wsX1_init) := ggX2_makeUnder_X1_init
theorem dX2_makeUnder_0 : decode cX2_makeUnder 0 = .ok (.aload_n 0, 1) := by decide +kernel
theorem dX2_makeUnder_1 : decode cX2_makeUnder 1 = .ok (.bipush 16, 2) := by decide +kernel
theorem dX2_makeUnder_3 : decode cX2_makeUnder 3 = .ok (.invokevirtual 163, 3) := by decide +kernel
theorem dX2_makeUnder_6 : decode cX2_makeUnder 6 = .ok (.ifCond .ne 25, 3) := by decide +kernel
theorem dX2_makeUnder_9 : decode cX2_makeUnder 9 = .ok (.aload_n 0, 1) := by decide +kernel
theorem dX2_makeUnder_10 : decode cX2_makeUnder 10 = .ok (.dup, 1) := by decide +kernel
theorem dX2_makeUnder_11 : decode cX2_makeUnder 11 = .ok (.getfield 21, 3) := by decide +kernel
theorem dX2_makeUnder_14 : decode cX2_makeUnder 14 = .ok (.bipush 16, 2) := by decide +kernel
theorem dX2_makeUnder_16 : decode cX2_makeUnder 16 = .ok (.ior, 1) := by decide +kernel
theorem dX2_makeUnder_17 : decode cX2_makeUnder 17 = .ok (.putfield 21, 3) := by decide +kernel
theorem dX2_makeUnder_20 : decode cX2_makeUnder 20 = .ok (.iload_n 1, 1) := by decide +kernel
theorem dX2_makeUnder_21 : decode cX2_makeUnder 21 = .ok (.iload_n 2, 1) := by decide +kernel
theorem dX2_makeUnder_22 : decode cX2_makeUnder 22 = .ok (.sipush 24576, 3) := by decide +kernel
theorem dX2_makeUnder_25 : decode cX2_makeUnder 25 = .ok (.iadd, 1) := by decide +kernel
theorem dX2_makeUnder_26 : decode cX2_makeUnder 26 = .ok (.lload_n 3, 1) := by decide +kernel
theorem dX2_makeUnder_27 : decode cX2_makeUnder 27 = .ok (.invokestatic 195, 3) := by decide +kernel
theorem dX2_makeUnder_30 : decode cX2_makeUnder 30 = .ok (.areturn, 1) := by decide +kernel
theorem dX2_makeUnder_31 : decode cX2_makeUnder 31 = .ok (.sipush (-16382), 3) := by decide +kernel
theorem dX2_makeUnder_34 : decode cX2_makeUnder 34 = .ok (.iload_n 2, 1) := by decide +kernel
theorem dX2_makeUnder_35 : decode cX2_makeUnder 35 = .ok (.isub, 1) := by decide +kernel
theorem dX2_makeUnder_36 : decode cX2_makeUnder 36 = .ok (.istore 5, 2) := by decide +kernel
theorem dX2_makeUnder_38 : decode cX2_makeUnder 38 = .ok (.lload_n 3, 1) := by decide +kernel
theorem dX2_makeUnder_39 : decode cX2_makeUnder 39 = .ok (.iload 5, 2) := by decide +kernel
theorem dX2_makeUnder_41 : decode cX2_makeUnder 41 = .ok (.invokestatic 198, 3) := by decide +kernel
theorem dX2_makeUnder_44 : decode cX2_makeUnder 44 = .ok (.ifCond .eq 14, 3) := by decide +kernel
theorem dX2_makeUnder_47 : decode cX2_makeUnder 47 = .ok (.aload_n 0, 1) := by decide +kernel
theorem dX2_makeUnder_48 : decode cX2_makeUnder 48 = .ok (.dup, 1) := by decide +kernel
theorem dX2_makeUnder_49 : decode cX2_makeUnder 49 = .ok (.getfield 21, 3) := by decide +kernel
theorem dX2_makeUnder_52 : decode cX2_makeUnder 52 = .ok (.bipush 48, 2) := by decide +kernel
theorem dX2_makeUnder_54 : decode cX2_makeUnder 54 = .ok (.ior, 1) := by decide +kernel
theorem dX2_makeUnder_55 : decode cX2_makeUnder 55 = .ok (.putfield 21, 3) := by decide +kernel
theorem dX2_makeUnder_58 : decode cX2_makeUnder 58 = .ok (.aload_n 0, 1) := by decide +kernel
theorem dX2_makeUnder_59 : decode cX2_makeUnder 59 = .ok (.iload_n 1, 1) := by decide +kernel
theorem dX2_makeUnder_60 : decode cX2_makeUnder 60 = .ok (.lload_n 3, 1) := by decide +kernel
theorem dX2_makeUnder_61 : decode cX2_makeUnder 61 = .ok (.iload 5, 2) := by decide +kernel
theorem dX2_makeUnder_63 : decode cX2_makeUnder 63 = .ok (.invokevirtual 202, 3) := by decide +kernel
theorem dX2_makeUnder_66 : decode cX2_makeUnder 66 = .ok (.lstore 6, 2) := by decide +kernel
theorem dX2_makeUnder_68 : decode cX2_makeUnder 68 = .ok (.new 48, 3) := by decide +kernel
theorem dX2_makeUnder_71 : decode cX2_makeUnder 71 = .ok (.dup, 1) := by decide +kernel
theorem dX2_makeUnder_72 : decode cX2_makeUnder 72 = .ok (.iload_n 1, 1) := by decide +kernel
theorem dX2_makeUnder_73 : decode cX2_makeUnder 73 = .ok (.invokestatic 178, 3) := by decide +kernel
theorem dX2_makeUnder_76 : decode cX2_makeUnder 76 = .ok (.lload 6, 2) := by decide +kernel
theorem dX2_makeUnder_78 : decode cX2_makeUnder 78 = .ok (.lconst 0, 1) := by decide +kernel
theorem dX2_makeUnder_79 : decode cX2_makeUnder 79 = .ok (.lcmp, 1) := by decide +kernel
theorem dX2_makeUnder_80 : decode cX2_makeUnder 80 = .ok (.ifCond .ge 7, 3) := by decide +kernel
theorem dX2_makeUnder_83 : decode cX2_makeUnder 83 = .ok (.iconst 1, 1) := by decide +kernel
theorem dX2_makeUnder_84 : decode cX2_makeUnder 84 = .ok (.goto 4, 3) := by decide +kernel
theorem dX2_makeUnder_87 : decode cX2_makeUnder 87 = .ok (.iconst 0, 1) := by decide +kernel
theorem dX2_makeUnder_88 : decode cX2_makeUnder 88 = .ok (.ior, 1) := by decide +kernel
theorem dX2_makeUnder_89 : decode cX2_makeUnder 89 = .ok (.lload 6, 2) := by decide +kernel
theorem dX2_makeUnder_91 : decode cX2_makeUnder 91 = .ok (.invokespecial 52, 3) := by decide +kernel
theorem dX2_makeUnder_94 : decode cX2_makeUnder 94 = .ok (.areturn, 1) := by decide +kernel
set_option maxRecDepth 20000 in
theorem ggX2_makeOver_X2_isMasked : GoodIn wsX2_makeOver wsX2_isMasked := goodIn_r _ [7, 8, 34, 35, 36, 37, 38, 39, 40] (by decide +kernel) (by decide +kernel)
set_option maxRecDepth 20000 in
theorem gX2_makeOver_X2_isMasked : GoodIn wsX2_makeOver (wsV RX2 163 RX2 yX2_isMasked wsX2_isMasked) := goodIn_app (goodIn_of _ (by decide +kernel)) ggX2_makeOver_X2_isMasked
set_option maxRecDepth 20000 in
theorem ggX2_makeOver_X2_normal : GoodIn wsX2_makeOver wsX2_normal := goodIn_r _ [11, 12, 13, 14, 15, 16, 6, 17, 18, 19, 20, 21, 22, 23, 24, 25, 41, 42] (by decide +kernel) (by decide +kernel)
set_option maxRecDepth 20000 in
theorem gX2_makeOver_X2_normal : GoodIn wsX2_makeOver (va_wsS RX2 195 yX2_normal wsX2_normal) := goodIn_app (goodIn_of _ (by decide +kernel)) ggX2_makeOver_X2_normal
set_option maxRecDepth 20000 in
theorem ggX2_makeOver_X2_rounding : GoodIn wsX2_makeOver wsX2_rounding := goodIn_r _ [29, 8, 34, 35, 36, 37, 38, 39, 40] (by decide +kernel) (by decide +kernel)
set_option maxRecDepth 20000 in
theorem gX2_makeOver_X2_rounding : GoodIn wsX2_makeOver (wsV RX2 206 RX2 yX2_rounding wsX2_rounding) := goodIn_app (goodIn_of _ (by decide +kernel)) ggX2_makeOver_X2_rounding
set_option maxRecDepth 20000 in
theorem ggX2_makeOver_X2_infinite : GoodIn wsX2_makeOver wsX2_infinite := goodIn_r _ [32, 12, 13, 14, 33, 15, 16, 6, 17, 18, 19, 20, 21, 22, 23, 24, 25, 41, 42] (by decide +kernel) (by decide +kernel)
set_option maxRecDepth 20000 in
theorem gX2_makeOver_X2_infinite : GoodIn wsX2_makeOver (va_wsS RX2 212 yX2_infinite wsX2_infinite) := goodIn_app (goodIn_of _ (by decide +kernel)) ggX2_makeOver_X2_infinite
theorem dX2_makeOver_0 : decode cX2_makeOver 0 = .ok (.aload_n 0, 1) := by decide +kernel
theorem dX2_makeOver_1 : decode cX2_makeOver 1 = .ok (.dup, 1) := by decide +kernel
theorem dX2_makeOver_2 : decode cX2_makeOver 2 = .ok (.getfield 21, 3) := by decide +kernel
theorem dX2_makeOver_5 : decode cX2_makeOver 5 = .ok (.bipush 8, 2) := by decide +kernel
theorem dX2_makeOver_7 : decode cX2_makeOver 7 = .ok (.ior, 1) := by decide +kernel
theorem dX2_makeOver_8 : decode cX2_makeOver 8 = .ok (.putfield 21, 3) := by decide +kernel
theorem dX2_makeOver_11 : decode cX2_makeOver 11 = .ok (.aload_n 0, 1) := by decide +kernel
theorem dX2_makeOver_12 : decode cX2_makeOver 12 = .ok (.bipush 8, 2) := by decide +kernel
theorem dX2_makeOver_14 : decode cX2_makeOver 14 = .ok (.invokevirtual 163, 3) := by decide +kernel
theorem dX2_makeOver_17 : decode cX2_makeOver 17 = .ok (.ifCond .ne 14, 3) := by decide +kernel
theorem dX2_makeOver_20 : decode cX2_makeOver 20 = .ok (.iload_n 1, 1) := by decide +kernel
theorem dX2_makeOver_21 : decode cX2_makeOver 21 = .ok (.iload_n 2, 1) := by decide +kernel
theorem dX2_makeOver_22 : decode cX2_makeOver 22 = .ok (.sipush 24576, 3) := by decide +kernel
theorem dX2_makeOver_25 : decode cX2_makeOver 25 = .ok (.isub, 1) := by decide +kernel
theorem dX2_makeOver_26 : decode cX2_makeOver 26 = .ok (.lload_n 3, 1) := by decide +kernel
theorem dX2_makeOver_27 : decode cX2_makeOver 27 = .ok (.invokestatic 195, 3) := by decide +kernel
theorem dX2_makeOver_30 : decode cX2_makeOver 30 = .ok (.areturn, 1) := by decide +kernel
theorem dX2_makeOver_31 : decode cX2_makeOver 31 = .ok (.aload_n 0, 1) := by decide +kernel
theorem dX2_makeOver_32 : decode cX2_makeOver 32 = .ok (.dup, 1) := by decide +kernel
theorem dX2_makeOver_33 : decode cX2_makeOver 33 = .ok (.getfield 21, 3) := by decide +kernel
theorem dX2_makeOver_36 : decode cX2_makeOver 36 = .ok (.bipush 32, 2) := by decide +kernel
theorem dX2_makeOver_38 : decode cX2_makeOver 38 = .ok (.ior, 1) := by decide +kernel
theorem dX2_makeOver_39 : decode cX2_makeOver 39 = .ok (.putfield 21, 3) := by decide +kernel
theorem dX2_makeOver_42 : decode cX2_makeOver 42 = .ok (.aload_n 0, 1) := by decide +kernel
theorem dX2_makeOver_43 : decode cX2_makeOver 43 = .ok (.invokevirtual 206, 3) := by decide +kernel
theorem dX2_makeOver_46 : decode cX2_makeOver 46 = .ok (.istore 5, 2) := by decide +kernel
theorem dX2_makeOver_48 : decode cX2_makeOver 48 = .ok (.iload 5, 2) := by decide +kernel
theorem dX2_makeOver_50 : decode cX2_makeOver 50 = .ok (.iconst 3, 1) := by decide +kernel
theorem dX2_makeOver_51 : decode cX2_makeOver 51 = .ok (.if_icmp .eq 17, 3) := by decide +kernel
theorem dX2_makeOver_54 : decode cX2_makeOver 54 = .ok (.iload 5, 2) := by decide +kernel
theorem dX2_makeOver_56 : decode cX2_makeOver 56 = .ok (.iload_n 1, 1) := by decide +kernel
theorem dX2_makeOver_57 : decode cX2_makeOver 57 = .ok (.ifCond .eq 7, 3) := by decide +kernel
theorem dX2_makeOver_60 : decode cX2_makeOver 60 = .ok (.iconst 2, 1) := by decide +kernel
theorem dX2_makeOver_61 : decode cX2_makeOver 61 = .ok (.goto 4, 3) := by decide +kernel
theorem dX2_makeOver_64 : decode cX2_makeOver 64 = .ok (.iconst 1, 1) := by decide +kernel
theorem dX2_makeOver_65 : decode cX2_makeOver 65 = .ok (.if_icmp .ne 14, 3) := by decide +kernel
theorem dX2_makeOver_68 : decode cX2_makeOver 68 = .ok (.iload_n 1, 1) := by decide +kernel
theorem dX2_makeOver_69 : decode cX2_makeOver 69 = .ok (.sipush 16383, 3) := by decide +kernel
theorem dX2_makeOver_72 : decode cX2_makeOver 72 = .ok (.ldc2_w 210, 3) := by decide +kernel
theorem dX2_makeOver_75 : decode cX2_makeOver 75 = .ok (.invokestatic 195, 3) := by decide +kernel
theorem dX2_makeOver_78 : decode cX2_makeOver 78 = .ok (.areturn, 1) := by decide +kernel
theorem dX2_makeOver_79 : decode cX2_makeOver 79 = .ok (.iload_n 1, 1) := by decide +kernel
theorem dX2_makeOver_80 : decode cX2_makeOver 80 = .ok (.invokestatic 212, 3) := by decide +kernel
theorem dX2_makeOver_83 : decode cX2_makeOver 83 = .ok (.areturn, 1) := by decide +kernel
theorem dX2_isCut_0 : decode cX2_isCut 0 = .ok (.iload_n 2, 1) := by decide +kernel
theorem dX2_isCut_1 : decode cX2_isCut 1 = .ok (.bipush 63, 2) := by decide +kernel
theorem dX2_isCut_3 : decode cX2_isCut 3 = .ok (.if_icmp .gt 14, 3) := by decide +kernel
theorem dX2_isCut_6 : decode cX2_isCut 6 = .ok (.lload_n 0, 1) := by decide +kernel
theorem dX2_isCut_7 : decode cX2_isCut 7 = .ok (.bipush 64, 2) := by decide +kernel
theorem dX2_isCut_9 : decode cX2_isCut 9 = .ok (.iload_n 2, 1) := by decide +kernel
theorem dX2_isCut_10 : decode cX2_isCut 10 = .ok (.isub, 1) := by decide +kernel
theorem dX2_isCut_11 : decode cX2_isCut 11 = .ok (.lshl, 1) := by decide +kernel
theorem dX2_isCut_12 : decode cX2_isCut 12 = .ok (.lconst 0, 1) := by decide +kernel
theorem dX2_isCut_13 : decode cX2_isCut 13 = .ok (.lcmp, 1) := by decide +kernel
theorem dX2_isCut_14 : decode cX2_isCut 14 = .ok (.ifCond .eq 7, 3) := by decide +kernel
theorem dX2_isCut_17 : decode cX2_isCut 17 = .ok (.iconst 1, 1) := by decide +kernel
theorem dX2_isCut_18 : decode cX2_isCut 18 = .ok (.goto 4, 3) := by decide +kernel
theorem dX2_isCut_21 : decode cX2_isCut 21 = .ok (.iconst 0, 1) := by decide +kernel
theorem dX2_isCut_22 : decode cX2_isCut 22 = .ok (.ireturn, 1) := by decide +kernel
set_option maxRecDepth 20000 in
theorem ggX2_rounded_X2_isCut : GoodIn wsX2_rounded wsX2_isCut := goodIn_r _ [4] (by decide +kernel) (by decide +kernel)
set_option maxRecDepth 20000 in
theorem gX2_rounded_X2_isCut : GoodIn wsX2_rounded (va_wsS RX2 198 yX2_isCut wsX2_isCut) := goodIn_app (goodIn_of _ (by decide +kernel)) ggX2_rounded_X2_isCut
set_option maxRecDepth 20000 in
theorem ggX2_rounded_X2_rounding : GoodIn wsX2_rounded wsX2_rounding := goodIn_r _ [8, 9, 21, 22, 23, 24, 25, 26, 27] (by decide +kernel) (by decide +kernel)
set_option maxRecDepth 20000 in
theorem gX2_rounded_X2_rounding : GoodIn wsX2_rounded (wsV RX2 206 RX2 yX2_rounding wsX2_rounding) := goodIn_app (goodIn_of _ (by decide +kernel)) ggX2_rounded_X2_rounding
set_option maxRecDepth 20000 in
theorem ggX2_rounded_X2_isNearerAbove : GoodIn wsX2_rounded wsX2_isNearerAbove := goodIn_r _ [12, 13, 14, 15, 16, 17, 18, 19, 20] (by decide +kernel) (by decide +kernel)
set_option maxRecDepth 20000 in
theorem gX2_rounded_X2_isNearerAbove : GoodIn wsX2_rounded (va_wsS RX2 215 yX2_isNearerAbove wsX2_isNearerAbove) := goodIn_app (goodIn_of _ (by decide +kernel)) ggX2_rounded_X2_isNearerAbove
theorem dX2_rounded_0 : decode cX2_rounded 0 = .ok (.iload 4, 2) := by decide +kernel
theorem dX2_rounded_2 : decode cX2_rounded 2 = .ok (.bipush 63, 2) := by decide +kernel
theorem dX2_rounded_4 : decode cX2_rounded 4 = .ok (.if_icmp .le 7, 3) := by decide +kernel
theorem dX2_rounded_7 : decode cX2_rounded 7 = .ok (.lconst 0, 1) := by decide +kernel
theorem dX2_rounded_8 : decode cX2_rounded 8 = .ok (.goto 7, 3) := by decide +kernel
theorem dX2_rounded_11 : decode cX2_rounded 11 = .ok (.lload_n 2, 1) := by decide +kernel
theorem dX2_rounded_12 : decode cX2_rounded 12 = .ok (.iload 4, 2) := by decide +kernel
theorem dX2_rounded_14 : decode cX2_rounded 14 = .ok (.lushr, 1) := by decide +kernel
theorem dX2_rounded_15 : decode cX2_rounded 15 = .ok (.lstore 5, 2) := by decide +kernel
theorem dX2_rounded_17 : decode cX2_rounded 17 = .ok (.lload_n 2, 1) := by decide +kernel
theorem dX2_rounded_18 : decode cX2_rounded 18 = .ok (.iload 4, 2) := by decide +kernel
theorem dX2_rounded_20 : decode cX2_rounded 20 = .ok (.invokestatic 198, 3) := by decide +kernel
theorem dX2_rounded_23 : decode cX2_rounded 23 = .ok (.ifCond .ne 6, 3) := by decide +kernel
theorem dX2_rounded_26 : decode cX2_rounded 26 = .ok (.lload 5, 2) := by decide +kernel
theorem dX2_rounded_28 : decode cX2_rounded 28 = .ok (.lreturn, 1) := by decide +kernel
theorem dX2_rounded_29 : decode cX2_rounded 29 = .ok (.aload_n 0, 1) := by decide +kernel
theorem dX2_rounded_30 : decode cX2_rounded 30 = .ok (.invokevirtual 206, 3) := by decide +kernel
theorem dX2_rounded_33 : decode cX2_rounded 33 = .ok (.tableswitch 53 1 3 #[27, 33, 47], 27) := by decide +kernel
theorem dX2_rounded_60 : decode cX2_rounded 60 = .ok (.iload_n 1, 1) := by decide +kernel
theorem dX2_rounded_61 : decode cX2_rounded 61 = .ok (.istore 7, 2) := by decide +kernel
theorem dX2_rounded_63 : decode cX2_rounded 63 = .ok (.goto 33, 3) := by decide +kernel
theorem dX2_rounded_66 : decode cX2_rounded 66 = .ok (.iload_n 1, 1) := by decide +kernel
theorem dX2_rounded_67 : decode cX2_rounded 67 = .ok (.ifCond .ne 7, 3) := by decide +kernel
theorem dX2_rounded_70 : decode cX2_rounded 70 = .ok (.iconst 1, 1) := by decide +kernel
theorem dX2_rounded_71 : decode cX2_rounded 71 = .ok (.goto 4, 3) := by decide +kernel
theorem dX2_rounded_74 : decode cX2_rounded 74 = .ok (.iconst 0, 1) := by decide +kernel
theorem dX2_rounded_75 : decode cX2_rounded 75 = .ok (.istore 7, 2) := by decide +kernel
theorem dX2_rounded_77 : decode cX2_rounded 77 = .ok (.goto 19, 3) := by decide +kernel
theorem dX2_rounded_80 : decode cX2_rounded 80 = .ok (.iconst 0, 1) := by decide +kernel
theorem dX2_rounded_81 : decode cX2_rounded 81 = .ok (.istore 7, 2) := by decide +kernel
theorem dX2_rounded_83 : decode cX2_rounded 83 = .ok (.goto 13, 3) := by decide +kernel
theorem dX2_rounded_86 : decode cX2_rounded 86 = .ok (.lload_n 2, 1) := by decide +kernel
theorem dX2_rounded_87 : decode cX2_rounded 87 = .ok (.iload 4, 2) := by decide +kernel
theorem dX2_rounded_89 : decode cX2_rounded 89 = .ok (.lload 5, 2) := by decide +kernel
theorem dX2_rounded_91 : decode cX2_rounded 91 = .ok (.invokestatic 215, 3) := by decide +kernel
theorem dX2_rounded_94 : decode cX2_rounded 94 = .ok (.istore 7, 2) := by decide +kernel
theorem dX2_rounded_96 : decode cX2_rounded 96 = .ok (.iload 7, 2) := by decide +kernel
theorem dX2_rounded_98 : decode cX2_rounded 98 = .ok (.ifCond .eq 10, 3) := by decide +kernel
theorem dX2_rounded_101 : decode cX2_rounded 101 = .ok (.lload 5, 2) := by decide +kernel
theorem dX2_rounded_103 : decode cX2_rounded 103 = .ok (.lconst 1, 1) := by decide +kernel
theorem dX2_rounded_104 : decode cX2_rounded 104 = .ok (.ladd, 1) := by decide +kernel
theorem dX2_rounded_105 : decode cX2_rounded 105 = .ok (.goto 5, 3) := by decide +kernel
theorem dX2_rounded_108 : decode cX2_rounded 108 = .ok (.lload 5, 2) := by decide +kernel
theorem dX2_rounded_110 : decode cX2_rounded 110 = .ok (.lreturn, 1) := by decide +kernel
set_option maxRecDepth 20000 in
theorem ggX2_isNearerAbove_J13_compareUnsigned_74951 : GoodIn wsX2_isNearerAbove wsJ13_compareUnsigned_74951 := goodIn_r _ [4, 5, 6, 7, 3, 8] (by decide +kernel) (by decide +kernel)
set_option maxRecDepth 20000 in
theorem gX2_isNearerAbove_J13_compareUnsigned_74951 : GoodIn wsX2_isNearerAbove (va_wsS RX2 172 yJ13_compareUnsigned_74951 wsJ13_compareUnsigned_74951) := goodIn_app (goodIn_of _ (by decide +kernel)) ggX2_isNearerAbove_J13_compareUnsigned_74951
theorem dX2_isNearerAbove_0 : decode cX2_isNearerAbove 0 = .ok (.iload_n 2, 1) := by decide +kernel
theorem dX2_isNearerAbove_1 : decode cX2_isNearerAbove 1 = .ok (.bipush 64, 2) := by decide +kernel
theorem dX2_isNearerAbove_3 : decode cX2_isNearerAbove 3 = .ok (.if_icmp .le 5, 3) := by decide +kernel
theorem dX2_isNearerAbove_6 : decode cX2_isNearerAbove 6 = .ok (.iconst 0, 1) := by decide +kernel
theorem dX2_isNearerAbove_7 : decode cX2_isNearerAbove 7 = .ok (.ireturn, 1) := by decide +kernel
theorem dX2_isNearerAbove_8 : decode cX2_isNearerAbove 8 = .ok (.iload_n 2, 1) := by decide +kernel
theorem dX2_isNearerAbove_9 : decode cX2_isNearerAbove 9 = .ok (.bipush 63, 2) := by decide +kernel
theorem dX2_isNearerAbove_11 : decode cX2_isNearerAbove 11 = .ok (.if_icmp .le 7, 3) := by decide +kernel
theorem dX2_isNearerAbove_14 : decode cX2_isNearerAbove 14 = .ok (.lload_n 0, 1) := by decide +kernel
theorem dX2_isNearerAbove_15 : decode cX2_isNearerAbove 15 = .ok (.goto 8, 3) := by decide +kernel
theorem dX2_isNearerAbove_18 : decode cX2_isNearerAbove 18 = .ok (.lload_n 0, 1) := by decide +kernel
theorem dX2_isNearerAbove_19 : decode cX2_isNearerAbove 19 = .ok (.lload_n 3, 1) := by decide +kernel
theorem dX2_isNearerAbove_20 : decode cX2_isNearerAbove 20 = .ok (.iload_n 2, 1) := by decide +kernel
theorem dX2_isNearerAbove_21 : decode cX2_isNearerAbove 21 = .ok (.lshl, 1) := by decide +kernel
theorem dX2_isNearerAbove_22 : decode cX2_isNearerAbove 22 = .ok (.lsub, 1) := by decide +kernel
theorem dX2_isNearerAbove_23 : decode cX2_isNearerAbove 23 = .ok (.lstore 5, 2) := by decide +kernel
theorem dX2_isNearerAbove_25 : decode cX2_isNearerAbove 25 = .ok (.lconst 1, 1) := by decide +kernel
theorem dX2_isNearerAbove_26 : decode cX2_isNearerAbove 26 = .ok (.iload_n 2, 1) := by decide +kernel
theorem dX2_isNearerAbove_27 : decode cX2_isNearerAbove 27 = .ok (.iconst 1, 1) := by decide +kernel
theorem dX2_isNearerAbove_28 : decode cX2_isNearerAbove 28 = .ok (.isub, 1) := by decide +kernel
theorem dX2_isNearerAbove_29 : decode cX2_isNearerAbove 29 = .ok (.lshl, 1) := by decide +kernel
theorem dX2_isNearerAbove_30 : decode cX2_isNearerAbove 30 = .ok (.lstore 7, 2) := by decide +kernel
theorem dX2_isNearerAbove_32 : decode cX2_isNearerAbove 32 = .ok (.lload 5, 2) := by decide +kernel
theorem dX2_isNearerAbove_34 : decode cX2_isNearerAbove 34 = .ok (.lload 7, 2) := by decide +kernel
theorem dX2_isNearerAbove_36 : decode cX2_isNearerAbove 36 = .ok (.lcmp, 1) := by decide +kernel
theorem dX2_isNearerAbove_37 : decode cX2_isNearerAbove 37 = .ok (.ifCond .ne 17, 3) := by decide +kernel
theorem dX2_isNearerAbove_40 : decode cX2_isNearerAbove 40 = .ok (.lload_n 3, 1) := by decide +kernel
theorem dX2_isNearerAbove_41 : decode cX2_isNearerAbove 41 = .ok (.lconst 1, 1) := by decide +kernel
theorem dX2_isNearerAbove_42 : decode cX2_isNearerAbove 42 = .ok (.land, 1) := by decide +kernel
theorem dX2_isNearerAbove_43 : decode cX2_isNearerAbove 43 = .ok (.lconst 0, 1) := by decide +kernel
theorem dX2_isNearerAbove_44 : decode cX2_isNearerAbove 44 = .ok (.lcmp, 1) := by decide +kernel
theorem dX2_isNearerAbove_45 : decode cX2_isNearerAbove 45 = .ok (.ifCond .eq 7, 3) := by decide +kernel
theorem dX2_isNearerAbove_48 : decode cX2_isNearerAbove 48 = .ok (.iconst 1, 1) := by decide +kernel
theorem dX2_isNearerAbove_49 : decode cX2_isNearerAbove 49 = .ok (.goto 4, 3) := by decide +kernel
theorem dX2_isNearerAbove_52 : decode cX2_isNearerAbove 52 = .ok (.iconst 0, 1) := by decide +kernel
theorem dX2_isNearerAbove_53 : decode cX2_isNearerAbove 53 = .ok (.ireturn, 1) := by decide +kernel
theorem dX2_isNearerAbove_54 : decode cX2_isNearerAbove 54 = .ok (.lload 5, 2) := by decide +kernel
theorem dX2_isNearerAbove_56 : decode cX2_isNearerAbove 56 = .ok (.lload 7, 2) := by decide +kernel
theorem dX2_isNearerAbove_58 : decode cX2_isNearerAbove 58 = .ok (.invokestatic 172, 3) := by decide +kernel
theorem dX2_isNearerAbove_61 : decode cX2_isNearerAbove 61 = .ok (.ifCond .le 7, 3) := by decide +kernel
theorem dX2_isNearerAbove_64 : decode cX2_isNearerAbove 64 = .ok (.iconst 1, 1) := by decide +kernel
theorem dX2_isNearerAbove_65 : decode cX2_isNearerAbove 65 = .ok (.goto 4, 3) := by decide +kernel
theorem dX2_isNearerAbove_68 : decode cX2_isNearerAbove 68 = .ok (.iconst 0, 1) := by decide +kernel
theorem dX2_isNearerAbove_69 : decode cX2_isNearerAbove 69 = .ok (.ireturn, 1) := by decide +kernel
set_option maxRecDepth 20000 in
theorem ggX2_wholeOf_X1_isOf : GoodIn wsX2_wholeOf wsX1_isOf := goodIn_r _ [6, 7, 8, 9, 4, 10, 11, 12, 13, 14, 15, 16, 17, 18, 19, 20, 21, 22, 115, 116] (by decide +kernel) (by decide +kernel)
set_option maxRecDepth 20000 in
theorem gX2_wholeOf_X1_isOf_n112 : GoodIn wsX2_wholeOf (wsX1_isOf) := ggX2_wholeOf_X1_isOf
set_option maxRecDepth 20000 in
theorem ggX2_wholeOf_X1_isNegative : GoodIn wsX2_wholeOf wsX1_isNegative := goodIn_r _ [25, 22, 26, 115, 116] (by decide +kernel) (by decide +kernel)
set_option maxRecDepth 20000 in
theorem gX2_wholeOf_X1_isNegative_n137 : GoodIn wsX2_wholeOf (wsX1_isNegative) := ggX2_wholeOf_X1_isNegative
set_option maxRecDepth 20000 in
theorem ggX2_wholeOf_X1_exponent : GoodIn wsX2_wholeOf wsX1_exponent := goodIn_r _ [29, 11, 30, 31, 32, 4, 33, 34, 35, 36, 37, 18, 19, 20, 21, 22, 38, 39, 40, 41, 42, 43, 44, 45, 46, 115, 116] (by decide +kernel) (by decide +kernel)
set_option maxRecDepth 20000 in
theorem gX2_wholeOf_X1_exponent_n219 : GoodIn wsX2_wholeOf (wsX1_exponent) := ggX2_wholeOf_X1_exponent
set_option maxRecDepth 20000 in
theorem ggX2_wholeOf_X1_isNought : GoodIn wsX2_wholeOf wsX1_isNought := goodIn_r _ [49, 11, 18, 19, 20, 4, 21, 22, 115, 116] (by decide +kernel) (by decide +kernel)
set_option maxRecDepth 20000 in
theorem gX2_wholeOf_X1_isNought_n96 : GoodIn wsX2_wholeOf (wsX1_isNought) := ggX2_wholeOf_X1_isNought
set_option maxRecDepth 20000 in
theorem ggX2_wholeOf_X1_unit : GoodIn wsX2_wholeOf wsX1_unit := goodIn_r _ [33, 34, 35, 36, 37, 18, 19, 20, 4, 21, 22, 115, 116] (by decide +kernel) (by decide +kernel)
set_option maxRecDepth 20000 in
theorem gX2_wholeOf_X1_unit_n222 : GoodIn wsX2_wholeOf (wsX1_unit) := ggX2_wholeOf_X1_unit
set_option maxRecDepth 20000 in
theorem ggX2_wholeOf_X2_make : GoodIn wsX2_wholeOf wsX2_make := goodIn_r _ [54, 55, 56, 53, 57, 58, 59, 4, 60, 61, 62, 63, 64, 65, 66, 67, 68, 22, 11, 69, 39, 40, 41, 42, 43, 44, 45, 46, 70, 71, 72, 73, 2, 74, 75, 76, 77, 78, 79, 80, 81, 82, 83, 84, 85, 86, 87, 88, 89, 90, 91, 92, 93, 94, 95, 96, 97, 98, 99, 100, 101, 102, 103, 104, 105, 106, 107, 108, 109, 110, 111, 115, 116, 117, 118, 119, 120, 121, 122, 123] (by decide +kernel) (by decide +kernel)
set_option maxRecDepth 20000 in
theorem gX2_wholeOf_X2_make : GoodIn wsX2_wholeOf (wsV RX2 225 RX2 yX2_make wsX2_make) := goodIn_app (goodIn_of _ (by decide +kernel)) ggX2_wholeOf_X2_make
set_option maxRecDepth 20000 in
theorem ggX2_wholeOf_X1_normalised : GoodIn wsX2_wholeOf wsX1_normalised := goodIn_r _ [114, 11, 38, 39, 40, 41, 42, 43, 44, 45, 46, 115, 116] (by decide +kernel) (by decide +kernel)
set_option maxRecDepth 20000 in
theorem gX2_wholeOf_X1_normalised_n229 : GoodIn wsX2_wholeOf (wsX1_normalised) := ggX2_wholeOf_X1_normalised
set_option maxRecDepth 20000 in
theorem ggX2_wholeOf_X2_isCut : GoodIn wsX2_wholeOf wsX2_isCut := goodIn_r _ [84] (by decide +kernel) (by decide +kernel)
set_option maxRecDepth 20000 in
theorem gX2_wholeOf_X2_isCut : GoodIn wsX2_wholeOf (va_wsS RX2 198 yX2_isCut wsX2_isCut) := goodIn_app (goodIn_of _ (by decide +kernel)) ggX2_wholeOf_X2_isCut
set_option maxRecDepth 20000 in
theorem ggX2_wholeOf_X2_rounded : GoodIn wsX2_wholeOf wsX2_rounded := goodIn_r _ [88, 82, 83, 53, 84, 89, 90, 91, 92, 78, 93, 94, 95, 96, 97, 40, 98, 99, 100, 101, 102, 117, 118, 119, 120, 121, 122, 123] (by decide +kernel) (by decide +kernel)
set_option maxRecDepth 20000 in
theorem gX2_wholeOf_X2_rounded : GoodIn wsX2_wholeOf (wsV RX2 202 RX2 yX2_rounded wsX2_rounded) := goodIn_app (goodIn_of _ (by decide +kernel)) ggX2_wholeOf_X2_rounded
theorem dX2_wholeOf_0 : decode cX2_wholeOf 0 = .ok (.aload_n 1, 1) := by decide +kernel
theorem dX2_wholeOf_1 : decode cX2_wholeOf 1 = .ok (.getstatic 106, 3) := by decide +kernel
theorem dX2_wholeOf_4 : decode cX2_wholeOf 4 = .ok (.invokevirtual 112, 3) := by decide +kernel
theorem dX2_wholeOf_7 : decode cX2_wholeOf 7 = .ok (.ifCond .eq 5, 3) := by decide +kernel
theorem dX2_wholeOf_10 : decode cX2_wholeOf 10 = .ok (.aload_n 1, 1) := by decide +kernel
theorem dX2_wholeOf_11 : decode cX2_wholeOf 11 = .ok (.areturn, 1) := by decide +kernel
theorem dX2_wholeOf_12 : decode cX2_wholeOf 12 = .ok (.aload_n 1, 1) := by decide +kernel
theorem dX2_wholeOf_13 : decode cX2_wholeOf 13 = .ok (.invokevirtual 137, 3) := by decide +kernel
theorem dX2_wholeOf_16 : decode cX2_wholeOf 16 = .ok (.istore_n 2, 1) := by decide +kernel
theorem dX2_wholeOf_17 : decode cX2_wholeOf 17 = .ok (.bipush 63, 2) := by decide +kernel
theorem dX2_wholeOf_19 : decode cX2_wholeOf 19 = .ok (.aload_n 1, 1) := by decide +kernel
theorem dX2_wholeOf_20 : decode cX2_wholeOf 20 = .ok (.invokevirtual 219, 3) := by decide +kernel
theorem dX2_wholeOf_23 : decode cX2_wholeOf 23 = .ok (.isub, 1) := by decide +kernel
theorem dX2_wholeOf_24 : decode cX2_wholeOf 24 = .ok (.istore_n 3, 1) := by decide +kernel
theorem dX2_wholeOf_25 : decode cX2_wholeOf 25 = .ok (.aload_n 1, 1) := by decide +kernel
theorem dX2_wholeOf_26 : decode cX2_wholeOf 26 = .ok (.invokevirtual 96, 3) := by decide +kernel
theorem dX2_wholeOf_29 : decode cX2_wholeOf 29 = .ok (.ifCond .ne 7, 3) := by decide +kernel
theorem dX2_wholeOf_32 : decode cX2_wholeOf 32 = .ok (.iload_n 3, 1) := by decide +kernel
theorem dX2_wholeOf_33 : decode cX2_wholeOf 33 = .ok (.ifCond .gt 17, 3) := by decide +kernel
theorem dX2_wholeOf_36 : decode cX2_wholeOf 36 = .ok (.aload_n 0, 1) := by decide +kernel
theorem dX2_wholeOf_37 : decode cX2_wholeOf 37 = .ok (.iload_n 2, 1) := by decide +kernel
theorem dX2_wholeOf_38 : decode cX2_wholeOf 38 = .ok (.aload_n 1, 1) := by decide +kernel
theorem dX2_wholeOf_39 : decode cX2_wholeOf 39 = .ok (.getfield 150, 3) := by decide +kernel
theorem dX2_wholeOf_42 : decode cX2_wholeOf 42 = .ok (.aload_n 1, 1) := by decide +kernel
theorem dX2_wholeOf_43 : decode cX2_wholeOf 43 = .ok (.invokevirtual 222, 3) := by decide +kernel
theorem dX2_wholeOf_46 : decode cX2_wholeOf 46 = .ok (.invokevirtual 225, 3) := by decide +kernel
theorem dX2_wholeOf_49 : decode cX2_wholeOf 49 = .ok (.areturn, 1) := by decide +kernel
theorem dX2_wholeOf_50 : decode cX2_wholeOf 50 = .ok (.aload_n 1, 1) := by decide +kernel
theorem dX2_wholeOf_51 : decode cX2_wholeOf 51 = .ok (.invokevirtual 229, 3) := by decide +kernel
theorem dX2_wholeOf_54 : decode cX2_wholeOf 54 = .ok (.lstore 4, 2) := by decide +kernel
theorem dX2_wholeOf_56 : decode cX2_wholeOf 56 = .ok (.lload 4, 2) := by decide +kernel
theorem dX2_wholeOf_58 : decode cX2_wholeOf 58 = .ok (.iload_n 3, 1) := by decide +kernel
theorem dX2_wholeOf_59 : decode cX2_wholeOf 59 = .ok (.invokestatic 198, 3) := by decide +kernel
theorem dX2_wholeOf_62 : decode cX2_wholeOf 62 = .ok (.ifCond .eq 14, 3) := by decide +kernel
theorem dX2_wholeOf_65 : decode cX2_wholeOf 65 = .ok (.aload_n 0, 1) := by decide +kernel
theorem dX2_wholeOf_66 : decode cX2_wholeOf 66 = .ok (.dup, 1) := by decide +kernel
theorem dX2_wholeOf_67 : decode cX2_wholeOf 67 = .ok (.getfield 21, 3) := by decide +kernel
theorem dX2_wholeOf_70 : decode cX2_wholeOf 70 = .ok (.bipush 32, 2) := by decide +kernel
theorem dX2_wholeOf_72 : decode cX2_wholeOf 72 = .ok (.ior, 1) := by decide +kernel
theorem dX2_wholeOf_73 : decode cX2_wholeOf 73 = .ok (.putfield 21, 3) := by decide +kernel
theorem dX2_wholeOf_76 : decode cX2_wholeOf 76 = .ok (.aload_n 0, 1) := by decide +kernel
theorem dX2_wholeOf_77 : decode cX2_wholeOf 77 = .ok (.iload_n 2, 1) := by decide +kernel
theorem dX2_wholeOf_78 : decode cX2_wholeOf 78 = .ok (.aload_n 0, 1) := by decide +kernel
theorem dX2_wholeOf_79 : decode cX2_wholeOf 79 = .ok (.iload_n 2, 1) := by decide +kernel
theorem dX2_wholeOf_80 : decode cX2_wholeOf 80 = .ok (.lload 4, 2) := by decide +kernel
theorem dX2_wholeOf_82 : decode cX2_wholeOf 82 = .ok (.iload_n 3, 1) := by decide +kernel
theorem dX2_wholeOf_83 : decode cX2_wholeOf 83 = .ok (.invokevirtual 202, 3) := by decide +kernel
theorem dX2_wholeOf_86 : decode cX2_wholeOf 86 = .ok (.iconst 0, 1) := by decide +kernel
theorem dX2_wholeOf_87 : decode cX2_wholeOf 87 = .ok (.invokevirtual 225, 3) := by decide +kernel
theorem dX2_wholeOf_90 : decode cX2_wholeOf 90 = .ok (.areturn, 1) := by decide +kernel
set_option maxRecDepth 20000 in
theorem ggX2_isBeyondScale_X1_isNought : GoodIn wsX2_isBeyondScale wsX1_isNought := goodIn_r _ [5, 6, 7, 8, 9, 3, 10, 11, 45, 46] (by decide +kernel) (by decide +kernel)
set_option maxRecDepth 20000 in
theorem gX2_isBeyondScale_X1_isNought_n96 : GoodIn wsX2_isBeyondScale (wsX1_isNought) := ggX2_isBeyondScale_X1_isNought
set_option maxRecDepth 20000 in
theorem ggX2_isBeyondScale_X1_isOf : GoodIn wsX2_isBeyondScale wsX1_isOf := goodIn_r _ [14, 15, 16, 17, 3, 18, 6, 19, 20, 21, 22, 23, 24, 7, 8, 9, 10, 11, 45, 46] (by decide +kernel) (by decide +kernel)
set_option maxRecDepth 20000 in
theorem gX2_isBeyondScale_X1_isOf_n112 : GoodIn wsX2_isBeyondScale (wsX1_isOf) := ggX2_isBeyondScale_X1_isOf
set_option maxRecDepth 20000 in
theorem ggX2_isBeyondScale_X1_exponent : GoodIn wsX2_isBeyondScale wsX1_exponent := goodIn_r _ [27, 6, 28, 29, 30, 3, 31, 32, 33, 34, 35, 7, 8, 9, 10, 11, 36, 37, 38, 39, 40, 41, 42, 43, 44, 45, 46] (by decide +kernel) (by decide +kernel)
set_option maxRecDepth 20000 in
theorem gX2_isBeyondScale_X1_exponent_n219 : GoodIn wsX2_isBeyondScale (wsX1_exponent) := ggX2_isBeyondScale_X1_exponent
theorem dX2_isBeyondScale_0 : decode cX2_isBeyondScale 0 = .ok (.aload_n 0, 1) := by decide +kernel
theorem dX2_isBeyondScale_1 : decode cX2_isBeyondScale 1 = .ok (.invokevirtual 96, 3) := by decide +kernel
theorem dX2_isBeyondScale_4 : decode cX2_isBeyondScale 4 = .ok (.ifCond .eq 5, 3) := by decide +kernel
theorem dX2_isBeyondScale_7 : decode cX2_isBeyondScale 7 = .ok (.iconst 0, 1) := by decide +kernel
theorem dX2_isBeyondScale_8 : decode cX2_isBeyondScale 8 = .ok (.ireturn, 1) := by decide +kernel
theorem dX2_isBeyondScale_9 : decode cX2_isBeyondScale 9 = .ok (.aload_n 0, 1) := by decide +kernel
theorem dX2_isBeyondScale_10 : decode cX2_isBeyondScale 10 = .ok (.getstatic 106, 3) := by decide +kernel
theorem dX2_isBeyondScale_13 : decode cX2_isBeyondScale 13 = .ok (.invokevirtual 112, 3) := by decide +kernel
theorem dX2_isBeyondScale_16 : decode cX2_isBeyondScale 16 = .ok (.ifCond .ne 12, 3) := by decide +kernel
theorem dX2_isBeyondScale_19 : decode cX2_isBeyondScale 19 = .ok (.aload_n 0, 1) := by decide +kernel
theorem dX2_isBeyondScale_20 : decode cX2_isBeyondScale 20 = .ok (.invokevirtual 219, 3) := by decide +kernel
theorem dX2_isBeyondScale_23 : decode cX2_isBeyondScale 23 = .ok (.bipush 14, 2) := by decide +kernel
theorem dX2_isBeyondScale_25 : decode cX2_isBeyondScale 25 = .ok (.if_icmp .lt 7, 3) := by decide +kernel
theorem dX2_isBeyondScale_28 : decode cX2_isBeyondScale 28 = .ok (.iconst 1, 1) := by decide +kernel
theorem dX2_isBeyondScale_29 : decode cX2_isBeyondScale 29 = .ok (.goto 4, 3) := by decide +kernel
theorem dX2_isBeyondScale_32 : decode cX2_isBeyondScale 32 = .ok (.iconst 0, 1) := by decide +kernel
theorem dX2_isBeyondScale_33 : decode cX2_isBeyondScale 33 = .ok (.ireturn, 1) := by decide +kernel
set_option maxRecDepth 20000 in
theorem ggX2_scaled_X1_isOf : GoodIn wsX2_scaled wsX1_isOf := goodIn_r _ [5, 6, 7, 8, 3, 9, 10, 11, 12, 13, 14, 15, 16, 17, 18, 19, 20, 21, 118, 119] (by decide +kernel) (by decide +kernel)
set_option maxRecDepth 20000 in
theorem gX2_scaled_X1_isOf_n112 : GoodIn wsX2_scaled (wsX1_isOf) := ggX2_scaled_X1_isOf
set_option maxRecDepth 20000 in
theorem ggX2_scaled_X1_isNegative : GoodIn wsX2_scaled wsX1_isNegative := goodIn_r _ [24, 21, 25, 118, 119] (by decide +kernel) (by decide +kernel)
set_option maxRecDepth 20000 in
theorem gX2_scaled_X1_isNegative_n137 : GoodIn wsX2_scaled (wsX1_isNegative) := ggX2_scaled_X1_isNegative
set_option maxRecDepth 20000 in
theorem ggX2_scaled_X1_unit : GoodIn wsX2_scaled wsX1_unit := goodIn_r _ [28, 29, 30, 31, 32, 17, 18, 19, 3, 20, 21, 118, 119] (by decide +kernel) (by decide +kernel)
set_option maxRecDepth 20000 in
theorem gX2_scaled_X1_unit_n222 : GoodIn wsX2_scaled (wsX1_unit) := ggX2_scaled_X1_unit
set_option maxRecDepth 20000 in
theorem ggX2_scaled_X2_cutOff : GoodIn wsX2_scaled wsX2_cutOff := goodIn_r _ [36, 37, 3, 38, 39, 10, 40, 26, 27, 28, 29, 30, 31, 32, 17, 18, 19, 20, 21, 41, 42, 43, 44, 45, 46, 47, 48, 49, 50, 51, 52, 53, 54, 55, 22, 23, 24, 25, 118, 119] (by decide +kernel) (by decide +kernel)
set_option maxRecDepth 20000 in
theorem gX2_scaled_X2_cutOff : GoodIn wsX2_scaled (va_wsS RX2 233 yX2_cutOff wsX2_cutOff) := goodIn_app (goodIn_of _ (by decide +kernel)) ggX2_scaled_X2_cutOff
set_option maxRecDepth 20000 in
theorem ggX2_scaled_X2_make : GoodIn wsX2_scaled wsX2_make := goodIn_r _ [59, 60, 61, 35, 62, 63, 64, 3, 65, 66, 67, 68, 69, 70, 71, 72, 73, 21, 10, 74, 42, 43, 44, 45, 46, 47, 48, 49, 75, 76, 77, 78, 79, 80, 81, 82, 83, 84, 85, 86, 87, 88, 89, 90, 91, 92, 93, 94, 95, 96, 97, 98, 99, 100, 101, 102, 103, 104, 105, 106, 107, 108, 109, 110, 111, 112, 113, 114, 115, 116, 117, 118, 119, 120, 121, 122, 123, 124, 125, 126] (by decide +kernel) (by decide +kernel)
set_option maxRecDepth 20000 in
theorem gX2_scaled_X2_make : GoodIn wsX2_scaled (wsV RX2 225 RX2 yX2_make wsX2_make) := goodIn_app (goodIn_of _ (by decide +kernel)) ggX2_scaled_X2_make
theorem dX2_scaled_0 : decode cX2_scaled 0 = .ok (.aload_n 1, 1) := by decide +kernel
theorem dX2_scaled_1 : decode cX2_scaled 1 = .ok (.getstatic 106, 3) := by decide +kernel
theorem dX2_scaled_4 : decode cX2_scaled 4 = .ok (.invokevirtual 112, 3) := by decide +kernel
theorem dX2_scaled_7 : decode cX2_scaled 7 = .ok (.ifCond .eq 5, 3) := by decide +kernel
theorem dX2_scaled_10 : decode cX2_scaled 10 = .ok (.aload_n 1, 1) := by decide +kernel
theorem dX2_scaled_11 : decode cX2_scaled 11 = .ok (.areturn, 1) := by decide +kernel
theorem dX2_scaled_12 : decode cX2_scaled 12 = .ok (.aload_n 0, 1) := by decide +kernel
theorem dX2_scaled_13 : decode cX2_scaled 13 = .ok (.aload_n 1, 1) := by decide +kernel
theorem dX2_scaled_14 : decode cX2_scaled 14 = .ok (.invokevirtual 137, 3) := by decide +kernel
theorem dX2_scaled_17 : decode cX2_scaled 17 = .ok (.aload_n 1, 1) := by decide +kernel
theorem dX2_scaled_18 : decode cX2_scaled 18 = .ok (.getfield 150, 3) := by decide +kernel
theorem dX2_scaled_21 : decode cX2_scaled 21 = .ok (.aload_n 1, 1) := by decide +kernel
theorem dX2_scaled_22 : decode cX2_scaled 22 = .ok (.invokevirtual 222, 3) := by decide +kernel
theorem dX2_scaled_25 : decode cX2_scaled 25 = .ok (.aload_n 2, 1) := by decide +kernel
theorem dX2_scaled_26 : decode cX2_scaled 26 = .ok (.invokestatic 233, 3) := by decide +kernel
theorem dX2_scaled_29 : decode cX2_scaled 29 = .ok (.iadd, 1) := by decide +kernel
theorem dX2_scaled_30 : decode cX2_scaled 30 = .ok (.invokevirtual 225, 3) := by decide +kernel
theorem dX2_scaled_33 : decode cX2_scaled 33 = .ok (.areturn, 1) := by decide +kernel
set_option maxRecDepth 20000 in
theorem ggX2_cutOff_X1_exponent : GoodIn wsX2_cutOff wsX1_exponent := goodIn_r _ [4, 5, 6, 7, 8, 2, 9, 10, 11, 12, 13, 14, 15, 16, 17, 18, 19, 20, 21, 22, 23, 24, 25, 26, 27, 38, 39] (by decide +kernel) (by decide +kernel)
set_option maxRecDepth 20000 in
theorem gX2_cutOff_X1_exponent_n219 : GoodIn wsX2_cutOff (wsX1_exponent) := ggX2_cutOff_X1_exponent
set_option maxRecDepth 20000 in
theorem ggX2_cutOff_X1_isNought : GoodIn wsX2_cutOff wsX1_isNought := goodIn_r _ [30, 5, 14, 15, 16, 2, 17, 18, 38, 39] (by decide +kernel) (by decide +kernel)
set_option maxRecDepth 20000 in
theorem gX2_cutOff_X1_isNought_n96 : GoodIn wsX2_cutOff (wsX1_isNought) := ggX2_cutOff_X1_isNought
set_option maxRecDepth 20000 in
theorem ggX2_cutOff_X1_normalised : GoodIn wsX2_cutOff wsX1_normalised := goodIn_r _ [33, 5, 19, 20, 21, 22, 23, 24, 25, 26, 27, 38, 39] (by decide +kernel) (by decide +kernel)
set_option maxRecDepth 20000 in
theorem gX2_cutOff_X1_normalised_n229 : GoodIn wsX2_cutOff (wsX1_normalised) := ggX2_cutOff_X1_normalised
set_option maxRecDepth 20000 in
theorem ggX2_cutOff_X1_isNegative : GoodIn wsX2_cutOff wsX1_isNegative := goodIn_r _ [36, 18, 37, 38, 39] (by decide +kernel) (by decide +kernel)
set_option maxRecDepth 20000 in
theorem gX2_cutOff_X1_isNegative_n137 : GoodIn wsX2_cutOff (wsX1_isNegative) := ggX2_cutOff_X1_isNegative
theorem dX2_cutOff_0 : decode cX2_cutOff 0 = .ok (.aload_n 0, 1) := by decide +kernel
theorem dX2_cutOff_1 : decode cX2_cutOff 1 = .ok (.invokevirtual 219, 3) := by decide +kernel
theorem dX2_cutOff_4 : decode cX2_cutOff 4 = .ok (.istore_n 1, 1) := by decide +kernel
theorem dX2_cutOff_5 : decode cX2_cutOff 5 = .ok (.aload_n 0, 1) := by decide +kernel
theorem dX2_cutOff_6 : decode cX2_cutOff 6 = .ok (.invokevirtual 96, 3) := by decide +kernel
theorem dX2_cutOff_9 : decode cX2_cutOff 9 = .ok (.ifCond .ne 7, 3) := by decide +kernel
theorem dX2_cutOff_12 : decode cX2_cutOff 12 = .ok (.iload_n 1, 1) := by decide +kernel
theorem dX2_cutOff_13 : decode cX2_cutOff 13 = .ok (.ifCond .ge 5, 3) := by decide +kernel
theorem dX2_cutOff_16 : decode cX2_cutOff 16 = .ok (.iconst 0, 1) := by decide +kernel
theorem dX2_cutOff_17 : decode cX2_cutOff 17 = .ok (.ireturn, 1) := by decide +kernel
theorem dX2_cutOff_18 : decode cX2_cutOff 18 = .ok (.aload_n 0, 1) := by decide +kernel
theorem dX2_cutOff_19 : decode cX2_cutOff 19 = .ok (.invokevirtual 229, 3) := by decide +kernel
theorem dX2_cutOff_22 : decode cX2_cutOff 22 = .ok (.bipush 63, 2) := by decide +kernel
theorem dX2_cutOff_24 : decode cX2_cutOff 24 = .ok (.iload_n 1, 1) := by decide +kernel
theorem dX2_cutOff_25 : decode cX2_cutOff 25 = .ok (.isub, 1) := by decide +kernel
theorem dX2_cutOff_26 : decode cX2_cutOff 26 = .ok (.lushr, 1) := by decide +kernel
theorem dX2_cutOff_27 : decode cX2_cutOff 27 = .ok (.l2i, 1) := by decide +kernel
theorem dX2_cutOff_28 : decode cX2_cutOff 28 = .ok (.istore_n 2, 1) := by decide +kernel
theorem dX2_cutOff_29 : decode cX2_cutOff 29 = .ok (.aload_n 0, 1) := by decide +kernel
theorem dX2_cutOff_30 : decode cX2_cutOff 30 = .ok (.invokevirtual 137, 3) := by decide +kernel
theorem dX2_cutOff_33 : decode cX2_cutOff 33 = .ok (.ifCond .eq 8, 3) := by decide +kernel
theorem dX2_cutOff_36 : decode cX2_cutOff 36 = .ok (.iload_n 2, 1) := by decide +kernel
theorem dX2_cutOff_37 : decode cX2_cutOff 37 = .ok (.ineg, 1) := by decide +kernel
theorem dX2_cutOff_38 : decode cX2_cutOff 38 = .ok (.goto 4, 3) := by decide +kernel
theorem dX2_cutOff_41 : decode cX2_cutOff 41 = .ok (.iload_n 2, 1) := by decide +kernel
theorem dX2_cutOff_42 : decode cX2_cutOff 42 = .ok (.ireturn, 1) := by decide +kernel
set_option maxRecDepth 20000 in
theorem ggX2_powerOf_X1_isOf : GoodIn wsX2_powerOf wsX1_isOf := goodIn_r _ [9, 10, 11, 12, 7, 13, 14, 15, 16, 17, 18, 19, 20, 21, 22, 23, 24, 25, 111, 112] (by decide +kernel) (by decide +kernel)
set_option maxRecDepth 20000 in
theorem gX2_powerOf_X1_isOf_n112 : GoodIn wsX2_powerOf (wsX1_isOf) := ggX2_powerOf_X1_isOf
set_option maxRecDepth 20000 in
theorem ggX2_powerOf_X2_infinite : GoodIn wsX2_powerOf wsX2_infinite := goodIn_r _ [29, 30, 31, 7, 32, 33, 34, 28, 35, 36, 37, 38, 39, 40, 41, 25, 14, 111, 112] (by decide +kernel) (by decide +kernel)
set_option maxRecDepth 20000 in
theorem gX2_powerOf_X2_infinite : GoodIn wsX2_powerOf (va_wsS RX2 212 yX2_infinite wsX2_infinite) := goodIn_app (goodIn_of _ (by decide +kernel)) ggX2_powerOf_X2_infinite
set_option maxRecDepth 20000 in
theorem ggX2_powerOf_X1_isNought : GoodIn wsX2_powerOf wsX1_isNought := goodIn_r _ [44, 14, 21, 22, 23, 7, 24, 25, 111, 112] (by decide +kernel) (by decide +kernel)
set_option maxRecDepth 20000 in
theorem gX2_powerOf_X1_isNought_n96 : GoodIn wsX2_powerOf (wsX1_isNought) := ggX2_powerOf_X1_isNought
set_option maxRecDepth 20000 in
theorem ggX2_powerOf_X1_exponent : GoodIn wsX2_powerOf wsX1_exponent := goodIn_r _ [47, 14, 48, 49, 50, 7, 51, 52, 53, 4, 54, 21, 22, 23, 24, 25, 55, 56, 57, 58, 59, 60, 61, 62, 63, 111, 112] (by decide +kernel) (by decide +kernel)
set_option maxRecDepth 20000 in
theorem gX2_powerOf_X1_exponent_n219 : GoodIn wsX2_powerOf (wsX1_exponent) := ggX2_powerOf_X1_exponent
set_option maxRecDepth 20000 in
theorem ggX2_powerOf_X2_make : GoodIn wsX2_powerOf wsX2_make := goodIn_r _ [67, 68, 69, 28, 70, 30, 31, 7, 33, 34, 35, 36, 37, 38, 39, 40, 41, 25, 14, 71, 56, 57, 58, 59, 60, 61, 62, 63, 72, 73, 74, 75, 76, 77, 78, 79, 80, 81, 82, 83, 84, 85, 86, 87, 88, 89, 90, 91, 92, 93, 94, 95, 96, 97, 98, 99, 100, 101, 102, 103, 104, 105, 106, 107, 108, 109, 110, 26, 27, 29, 32, 111, 112, 113, 114, 115, 116, 117, 118, 119] (by decide +kernel) (by decide +kernel)
set_option maxRecDepth 20000 in
theorem gX2_powerOf_X2_make : GoodIn wsX2_powerOf (wsV RX2 225 RX2 yX2_make wsX2_make) := goodIn_app (goodIn_of _ (by decide +kernel)) ggX2_powerOf_X2_make
theorem dX2_powerOf_0 : decode cX2_powerOf 0 = .ok (.aload_n 1, 1) := by decide +kernel
theorem dX2_powerOf_1 : decode cX2_powerOf 1 = .ok (.getstatic 106, 3) := by decide +kernel
theorem dX2_powerOf_4 : decode cX2_powerOf 4 = .ok (.invokevirtual 112, 3) := by decide +kernel
theorem dX2_powerOf_7 : decode cX2_powerOf 7 = .ok (.ifCond .eq 8, 3) := by decide +kernel
theorem dX2_powerOf_10 : decode cX2_powerOf 10 = .ok (.iconst 0, 1) := by decide +kernel
theorem dX2_powerOf_11 : decode cX2_powerOf 11 = .ok (.invokestatic 212, 3) := by decide +kernel
theorem dX2_powerOf_14 : decode cX2_powerOf 14 = .ok (.areturn, 1) := by decide +kernel
theorem dX2_powerOf_15 : decode cX2_powerOf 15 = .ok (.aload_n 1, 1) := by decide +kernel
theorem dX2_powerOf_16 : decode cX2_powerOf 16 = .ok (.invokevirtual 96, 3) := by decide +kernel
theorem dX2_powerOf_19 : decode cX2_powerOf 19 = .ok (.ifCond .eq 8, 3) := by decide +kernel
theorem dX2_powerOf_22 : decode cX2_powerOf 22 = .ok (.iconst 1, 1) := by decide +kernel
theorem dX2_powerOf_23 : decode cX2_powerOf 23 = .ok (.invokestatic 212, 3) := by decide +kernel
theorem dX2_powerOf_26 : decode cX2_powerOf 26 = .ok (.areturn, 1) := by decide +kernel
theorem dX2_powerOf_27 : decode cX2_powerOf 27 = .ok (.aload_n 1, 1) := by decide +kernel
theorem dX2_powerOf_28 : decode cX2_powerOf 28 = .ok (.invokevirtual 219, 3) := by decide +kernel
theorem dX2_powerOf_31 : decode cX2_powerOf 31 = .ok (.istore_n 2, 1) := by decide +kernel
theorem dX2_powerOf_32 : decode cX2_powerOf 32 = .ok (.aload_n 0, 1) := by decide +kernel
theorem dX2_powerOf_33 : decode cX2_powerOf 33 = .ok (.iload_n 2, 1) := by decide +kernel
theorem dX2_powerOf_34 : decode cX2_powerOf 34 = .ok (.ifCond .ge 7, 3) := by decide +kernel
theorem dX2_powerOf_37 : decode cX2_powerOf 37 = .ok (.iconst 1, 1) := by decide +kernel
theorem dX2_powerOf_38 : decode cX2_powerOf 38 = .ok (.goto 4, 3) := by decide +kernel
theorem dX2_powerOf_41 : decode cX2_powerOf 41 = .ok (.iconst 0, 1) := by decide +kernel
theorem dX2_powerOf_42 : decode cX2_powerOf 42 = .ok (.iload_n 2, 1) := by decide +kernel
theorem dX2_powerOf_43 : decode cX2_powerOf 43 = .ok (.invokestatic 237, 3) := by decide +kernel
theorem dX2_powerOf_46 : decode cX2_powerOf 46 = .ok (.i2l, 1) := by decide +kernel
theorem dX2_powerOf_47 : decode cX2_powerOf 47 = .ok (.iconst 0, 1) := by decide +kernel
theorem dX2_powerOf_48 : decode cX2_powerOf 48 = .ok (.invokevirtual 225, 3) := by decide +kernel
theorem dX2_powerOf_51 : decode cX2_powerOf 51 = .ok (.areturn, 1) := by decide +kernel
set_option maxRecDepth 20000 in
theorem ggX2_fractionOf_X1_isOf : GoodIn wsX2_fractionOf wsX1_isOf := goodIn_r _ [5, 6, 7, 8, 3, 9, 10, 11, 12, 13, 14, 15, 16, 17, 18, 19, 20, 21, 101, 102] (by decide +kernel) (by decide +kernel)
set_option maxRecDepth 20000 in
theorem gX2_fractionOf_X1_isOf_n112 : GoodIn wsX2_fractionOf (wsX1_isOf) := ggX2_fractionOf_X1_isOf
set_option maxRecDepth 20000 in
theorem ggX2_fractionOf_X1_isNegative : GoodIn wsX2_fractionOf wsX1_isNegative := goodIn_r _ [24, 21, 25, 101, 102] (by decide +kernel) (by decide +kernel)
set_option maxRecDepth 20000 in
theorem gX2_fractionOf_X1_isNegative_n137 : GoodIn wsX2_fractionOf (wsX1_isNegative) := ggX2_fractionOf_X1_isNegative
set_option maxRecDepth 20000 in
theorem ggX2_fractionOf_X1_normalised : GoodIn wsX2_fractionOf wsX1_normalised := goodIn_r _ [28, 10, 29, 30, 31, 32, 33, 34, 35, 36, 37, 101, 102] (by decide +kernel) (by decide +kernel)
set_option maxRecDepth 20000 in
theorem gX2_fractionOf_X1_normalised_n229 : GoodIn wsX2_fractionOf (wsX1_normalised) := ggX2_fractionOf_X1_normalised
set_option maxRecDepth 20000 in
theorem ggX2_fractionOf_X2_make : GoodIn wsX2_fractionOf wsX2_make := goodIn_r _ [42, 43, 44, 41, 45, 46, 47, 3, 48, 49, 50, 51, 52, 53, 54, 55, 56, 21, 10, 57, 30, 31, 32, 33, 34, 35, 36, 37, 58, 59, 60, 61, 62, 63, 64, 65, 66, 67, 68, 69, 70, 71, 72, 73, 74, 75, 76, 77, 78, 79, 80, 81, 82, 83, 84, 85, 86, 87, 88, 89, 90, 91, 92, 93, 94, 95, 96, 97, 98, 99, 100, 101, 102, 103, 104, 105, 106, 107, 108, 109] (by decide +kernel) (by decide +kernel)
set_option maxRecDepth 20000 in
theorem gX2_fractionOf_X2_make : GoodIn wsX2_fractionOf (wsV RX2 225 RX2 yX2_make wsX2_make) := goodIn_app (goodIn_of _ (by decide +kernel)) ggX2_fractionOf_X2_make
theorem dX2_fractionOf_0 : decode cX2_fractionOf 0 = .ok (.aload_n 1, 1) := by decide +kernel
theorem dX2_fractionOf_1 : decode cX2_fractionOf 1 = .ok (.getstatic 106, 3) := by decide +kernel
theorem dX2_fractionOf_4 : decode cX2_fractionOf 4 = .ok (.invokevirtual 112, 3) := by decide +kernel
theorem dX2_fractionOf_7 : decode cX2_fractionOf 7 = .ok (.ifCond .eq 5, 3) := by decide +kernel
theorem dX2_fractionOf_10 : decode cX2_fractionOf 10 = .ok (.aload_n 1, 1) := by decide +kernel
theorem dX2_fractionOf_11 : decode cX2_fractionOf 11 = .ok (.areturn, 1) := by decide +kernel
theorem dX2_fractionOf_12 : decode cX2_fractionOf 12 = .ok (.aload_n 0, 1) := by decide +kernel
theorem dX2_fractionOf_13 : decode cX2_fractionOf 13 = .ok (.aload_n 1, 1) := by decide +kernel
theorem dX2_fractionOf_14 : decode cX2_fractionOf 14 = .ok (.invokevirtual 137, 3) := by decide +kernel
theorem dX2_fractionOf_17 : decode cX2_fractionOf 17 = .ok (.aload_n 1, 1) := by decide +kernel
theorem dX2_fractionOf_18 : decode cX2_fractionOf 18 = .ok (.invokevirtual 229, 3) := by decide +kernel
theorem dX2_fractionOf_21 : decode cX2_fractionOf 21 = .ok (.bipush (-63), 2) := by decide +kernel
theorem dX2_fractionOf_23 : decode cX2_fractionOf 23 = .ok (.invokevirtual 225, 3) := by decide +kernel
theorem dX2_fractionOf_26 : decode cX2_fractionOf 26 = .ok (.areturn, 1) := by decide +kernel
set_option maxRecDepth 20000 in
theorem ggX2_leftOver_X1_isNegative : GoodIn wsX2_leftOver wsX1_isNegative := goodIn_r _ [7, 8, 9, 128, 129] (by decide +kernel) (by decide +kernel)
set_option maxRecDepth 20000 in
theorem gX2_leftOver_X1_isNegative_n137 : GoodIn wsX2_leftOver (wsX1_isNegative) := ggX2_leftOver_X1_isNegative
set_option maxRecDepth 20000 in
theorem ggX2_leftOver_X1_exponent : GoodIn wsX2_leftOver wsX1_exponent := goodIn_r _ [12, 13, 14, 15, 16, 5, 17, 18, 19, 20, 21, 22, 23, 24, 25, 8, 26, 27, 28, 29, 30, 31, 32, 33, 34, 128, 129] (by decide +kernel) (by decide +kernel)
set_option maxRecDepth 20000 in
theorem gX2_leftOver_X1_exponent_n219 : GoodIn wsX2_leftOver (wsX1_exponent) := ggX2_leftOver_X1_exponent
set_option maxRecDepth 20000 in
theorem ggX2_leftOver_X1_isOf : GoodIn wsX2_leftOver wsX1_isOf := goodIn_r _ [37, 38, 39, 40, 5, 41, 13, 42, 43, 44, 45, 46, 47, 22, 23, 24, 25, 8, 128, 129] (by decide +kernel) (by decide +kernel)
set_option maxRecDepth 20000 in
theorem gX2_leftOver_X1_isOf_n112 : GoodIn wsX2_leftOver (wsX1_isOf) := ggX2_leftOver_X1_isOf
set_option maxRecDepth 20000 in
theorem ggX2_leftOver_X1_isNought : GoodIn wsX2_leftOver wsX1_isNought := goodIn_r _ [50, 13, 22, 23, 24, 5, 25, 8, 128, 129] (by decide +kernel) (by decide +kernel)
set_option maxRecDepth 20000 in
theorem gX2_leftOver_X1_isNought_n96 : GoodIn wsX2_leftOver (wsX1_isNought) := ggX2_leftOver_X1_isNought
set_option maxRecDepth 20000 in
theorem ggX2_leftOver_X1_unit : GoodIn wsX2_leftOver wsX1_unit := goodIn_r _ [17, 18, 19, 20, 21, 22, 23, 24, 5, 25, 8, 128, 129] (by decide +kernel) (by decide +kernel)
set_option maxRecDepth 20000 in
theorem gX2_leftOver_X1_unit_n222 : GoodIn wsX2_leftOver (wsX1_unit) := ggX2_leftOver_X1_unit
set_option maxRecDepth 20000 in
theorem ggX2_leftOver_X2_make : GoodIn wsX2_leftOver wsX2_make := goodIn_r _ [55, 56, 57, 54, 58, 59, 60, 5, 61, 62, 63, 64, 65, 66, 67, 68, 69, 8, 13, 70, 27, 28, 29, 30, 31, 32, 33, 34, 71, 72, 73, 74, 75, 76, 77, 78, 79, 80, 81, 82, 83, 84, 85, 86, 87, 88, 89, 90, 91, 92, 93, 94, 95, 96, 97, 98, 99, 100, 101, 102, 103, 104, 105, 106, 107, 108, 109, 110, 111, 112, 113, 128, 129, 121, 122, 123, 124, 125, 126, 127] (by decide +kernel) (by decide +kernel)
set_option maxRecDepth 20000 in
theorem gX2_leftOver_X2_make : GoodIn wsX2_leftOver (wsV RX2 225 RX2 yX2_make wsX2_make) := goodIn_app (goodIn_of _ (by decide +kernel)) ggX2_leftOver_X2_make
set_option maxRecDepth 20000 in
theorem ggX2_leftOver_X1_normalised : GoodIn wsX2_leftOver wsX1_normalised := goodIn_r _ [116, 13, 26, 27, 28, 29, 30, 31, 32, 33, 34, 128, 129] (by decide +kernel) (by decide +kernel)
set_option maxRecDepth 20000 in
theorem gX2_leftOver_X1_normalised_n229 : GoodIn wsX2_leftOver (wsX1_normalised) := ggX2_leftOver_X1_normalised
set_option maxRecDepth 20000 in
theorem ggX2_leftOver_X2_divide : GoodIn wsX2_leftOver wsX2_divide := goodIn_r _ [120, 1, 98, 99, 28, 100, 101, 102, 103, 104, 121, 122, 123, 124, 125, 126, 127] (by decide +kernel) (by decide +kernel)
set_option maxRecDepth 20000 in
theorem gX2_leftOver_X2_divide : GoodIn wsX2_leftOver (wsV RX2 243 RX2 yX2_divide wsX2_divide) := goodIn_app (goodIn_of _ (by decide +kernel)) ggX2_leftOver_X2_divide
theorem dX2_leftOver_0 : decode cX2_leftOver 0 = .ok (.aload_n 0, 1) := by decide +kernel
theorem dX2_leftOver_1 : decode cX2_leftOver 1 = .ok (.iconst 0, 1) := by decide +kernel
theorem dX2_leftOver_2 : decode cX2_leftOver 2 = .ok (.putfield 28, 3) := by decide +kernel
theorem dX2_leftOver_5 : decode cX2_leftOver 5 = .ok (.aload_n 0, 1) := by decide +kernel
theorem dX2_leftOver_6 : decode cX2_leftOver 6 = .ok (.iconst 0, 1) := by decide +kernel
theorem dX2_leftOver_7 : decode cX2_leftOver 7 = .ok (.putfield 31, 3) := by decide +kernel
theorem dX2_leftOver_10 : decode cX2_leftOver 10 = .ok (.aload_n 1, 1) := by decide +kernel
theorem dX2_leftOver_11 : decode cX2_leftOver 11 = .ok (.invokevirtual 137, 3) := by decide +kernel
theorem dX2_leftOver_14 : decode cX2_leftOver 14 = .ok (.istore_n 3, 1) := by decide +kernel
theorem dX2_leftOver_15 : decode cX2_leftOver 15 = .ok (.aload_n 1, 1) := by decide +kernel
theorem dX2_leftOver_16 : decode cX2_leftOver 16 = .ok (.invokevirtual 219, 3) := by decide +kernel
theorem dX2_leftOver_19 : decode cX2_leftOver 19 = .ok (.aload_n 2, 1) := by decide +kernel
theorem dX2_leftOver_20 : decode cX2_leftOver 20 = .ok (.invokevirtual 219, 3) := by decide +kernel
theorem dX2_leftOver_23 : decode cX2_leftOver 23 = .ok (.isub, 1) := by decide +kernel
theorem dX2_leftOver_24 : decode cX2_leftOver 24 = .ok (.istore 4, 2) := by decide +kernel
theorem dX2_leftOver_26 : decode cX2_leftOver 26 = .ok (.aload_n 2, 1) := by decide +kernel
theorem dX2_leftOver_27 : decode cX2_leftOver 27 = .ok (.getstatic 106, 3) := by decide +kernel
theorem dX2_leftOver_30 : decode cX2_leftOver 30 = .ok (.invokevirtual 112, 3) := by decide +kernel
theorem dX2_leftOver_33 : decode cX2_leftOver 33 = .ok (.ifCond .ne 15, 3) := by decide +kernel
theorem dX2_leftOver_36 : decode cX2_leftOver 36 = .ok (.aload_n 1, 1) := by decide +kernel
theorem dX2_leftOver_37 : decode cX2_leftOver 37 = .ok (.invokevirtual 96, 3) := by decide +kernel
theorem dX2_leftOver_40 : decode cX2_leftOver 40 = .ok (.ifCond .ne 8, 3) := by decide +kernel
theorem dX2_leftOver_43 : decode cX2_leftOver 43 = .ok (.iload 4, 2) := by decide +kernel
theorem dX2_leftOver_45 : decode cX2_leftOver 45 = .ok (.ifCond .ge 17, 3) := by decide +kernel
theorem dX2_leftOver_48 : decode cX2_leftOver 48 = .ok (.aload_n 0, 1) := by decide +kernel
theorem dX2_leftOver_49 : decode cX2_leftOver 49 = .ok (.iload_n 3, 1) := by decide +kernel
theorem dX2_leftOver_50 : decode cX2_leftOver 50 = .ok (.aload_n 1, 1) := by decide +kernel
theorem dX2_leftOver_51 : decode cX2_leftOver 51 = .ok (.getfield 150, 3) := by decide +kernel
theorem dX2_leftOver_54 : decode cX2_leftOver 54 = .ok (.aload_n 1, 1) := by decide +kernel
theorem dX2_leftOver_55 : decode cX2_leftOver 55 = .ok (.invokevirtual 222, 3) := by decide +kernel
theorem dX2_leftOver_58 : decode cX2_leftOver 58 = .ok (.invokevirtual 225, 3) := by decide +kernel
theorem dX2_leftOver_61 : decode cX2_leftOver 61 = .ok (.areturn, 1) := by decide +kernel
theorem dX2_leftOver_62 : decode cX2_leftOver 62 = .ok (.aload_n 0, 1) := by decide +kernel
theorem dX2_leftOver_63 : decode cX2_leftOver 63 = .ok (.iload 4, 2) := by decide +kernel
theorem dX2_leftOver_65 : decode cX2_leftOver 65 = .ok (.bipush 63, 2) := by decide +kernel
theorem dX2_leftOver_67 : decode cX2_leftOver 67 = .ok (.if_icmp .le 7, 3) := by decide +kernel
theorem dX2_leftOver_70 : decode cX2_leftOver 70 = .ok (.iconst 1, 1) := by decide +kernel
theorem dX2_leftOver_71 : decode cX2_leftOver 71 = .ok (.goto 4, 3) := by decide +kernel
theorem dX2_leftOver_74 : decode cX2_leftOver 74 = .ok (.iconst 0, 1) := by decide +kernel
theorem dX2_leftOver_75 : decode cX2_leftOver 75 = .ok (.putfield 31, 3) := by decide +kernel
theorem dX2_leftOver_78 : decode cX2_leftOver 78 = .ok (.aload_n 0, 1) := by decide +kernel
theorem dX2_leftOver_79 : decode cX2_leftOver 79 = .ok (.getfield 31, 3) := by decide +kernel
theorem dX2_leftOver_82 : decode cX2_leftOver 82 = .ok (.ifCond .eq 8, 3) := by decide +kernel
theorem dX2_leftOver_85 : decode cX2_leftOver 85 = .ok (.bipush 63, 2) := by decide +kernel
theorem dX2_leftOver_87 : decode cX2_leftOver 87 = .ok (.goto 5, 3) := by decide +kernel
theorem dX2_leftOver_90 : decode cX2_leftOver 90 = .ok (.iload 4, 2) := by decide +kernel
theorem dX2_leftOver_92 : decode cX2_leftOver 92 = .ok (.istore 5, 2) := by decide +kernel
theorem dX2_leftOver_94 : decode cX2_leftOver 94 = .ok (.aload_n 0, 1) := by decide +kernel
theorem dX2_leftOver_95 : decode cX2_leftOver 95 = .ok (.aload_n 1, 1) := by decide +kernel
theorem dX2_leftOver_96 : decode cX2_leftOver 96 = .ok (.invokevirtual 229, 3) := by decide +kernel
theorem dX2_leftOver_99 : decode cX2_leftOver 99 = .ok (.aload_n 2, 1) := by decide +kernel
theorem dX2_leftOver_100 : decode cX2_leftOver 100 = .ok (.invokevirtual 229, 3) := by decide +kernel
theorem dX2_leftOver_103 : decode cX2_leftOver 103 = .ok (.iload 5, 2) := by decide +kernel
theorem dX2_leftOver_105 : decode cX2_leftOver 105 = .ok (.invokevirtual 243, 3) := by decide +kernel
theorem dX2_leftOver_108 : decode cX2_leftOver 108 = .ok (.lstore 6, 2) := by decide +kernel
theorem dX2_leftOver_110 : decode cX2_leftOver 110 = .ok (.aload_n 0, 1) := by decide +kernel
theorem dX2_leftOver_111 : decode cX2_leftOver 111 = .ok (.iload_n 3, 1) := by decide +kernel
theorem dX2_leftOver_112 : decode cX2_leftOver 112 = .ok (.lload 6, 2) := by decide +kernel
theorem dX2_leftOver_114 : decode cX2_leftOver 114 = .ok (.aload_n 1, 1) := by decide +kernel
theorem dX2_leftOver_115 : decode cX2_leftOver 115 = .ok (.invokevirtual 219, 3) := by decide +kernel
theorem dX2_leftOver_118 : decode cX2_leftOver 118 = .ok (.bipush 63, 2) := by decide +kernel
theorem dX2_leftOver_120 : decode cX2_leftOver 120 = .ok (.isub, 1) := by decide +kernel
theorem dX2_leftOver_121 : decode cX2_leftOver 121 = .ok (.iload 5, 2) := by decide +kernel
theorem dX2_leftOver_123 : decode cX2_leftOver 123 = .ok (.isub, 1) := by decide +kernel
theorem dX2_leftOver_124 : decode cX2_leftOver 124 = .ok (.invokevirtual 225, 3) := by decide +kernel
theorem dX2_leftOver_127 : decode cX2_leftOver 127 = .ok (.areturn, 1) := by decide +kernel
set_option maxRecDepth 20000 in
theorem ggX2_divide_J13_compareUnsigned_74951 : GoodIn wsX2_divide wsJ13_compareUnsigned_74951 := goodIn_r _ [5, 6, 7, 8, 4, 9] (by decide +kernel) (by decide +kernel)
set_option maxRecDepth 20000 in
theorem gX2_divide_J13_compareUnsigned_74951 : GoodIn wsX2_divide (va_wsS RX2 172 yJ13_compareUnsigned_74951 wsJ13_compareUnsigned_74951) := goodIn_app (goodIn_of _ (by decide +kernel)) ggX2_divide_J13_compareUnsigned_74951
theorem dX2_divide_0 : decode cX2_divide 0 = .ok (.lload_n 1, 1) := by decide +kernel
theorem dX2_divide_1 : decode cX2_divide 1 = .ok (.lstore 6, 2) := by decide +kernel
theorem dX2_divide_3 : decode cX2_divide 3 = .ok (.iconst 0, 1) := by decide +kernel
theorem dX2_divide_4 : decode cX2_divide 4 = .ok (.istore 8, 2) := by decide +kernel
theorem dX2_divide_6 : decode cX2_divide 6 = .ok (.lload 6, 2) := by decide +kernel
theorem dX2_divide_8 : decode cX2_divide 8 = .ok (.lload_n 3, 1) := by decide +kernel
theorem dX2_divide_9 : decode cX2_divide 9 = .ok (.invokestatic 172, 3) := by decide +kernel
theorem dX2_divide_12 : decode cX2_divide 12 = .ok (.ifCond .lt 12, 3) := by decide +kernel
theorem dX2_divide_15 : decode cX2_divide 15 = .ok (.lload 6, 2) := by decide +kernel
theorem dX2_divide_17 : decode cX2_divide 17 = .ok (.lload_n 3, 1) := by decide +kernel
theorem dX2_divide_18 : decode cX2_divide 18 = .ok (.lsub, 1) := by decide +kernel
theorem dX2_divide_19 : decode cX2_divide 19 = .ok (.lstore 6, 2) := by decide +kernel
theorem dX2_divide_21 : decode cX2_divide 21 = .ok (.iconst 1, 1) := by decide +kernel
theorem dX2_divide_22 : decode cX2_divide 22 = .ok (.istore 8, 2) := by decide +kernel
theorem dX2_divide_24 : decode cX2_divide 24 = .ok (.iconst 0, 1) := by decide +kernel
theorem dX2_divide_25 : decode cX2_divide 25 = .ok (.istore 9, 2) := by decide +kernel
theorem dX2_divide_27 : decode cX2_divide 27 = .ok (.iload 9, 2) := by decide +kernel
theorem dX2_divide_29 : decode cX2_divide 29 = .ok (.iload 5, 2) := by decide +kernel
theorem dX2_divide_31 : decode cX2_divide 31 = .ok (.if_icmp .ge 64, 3) := by decide +kernel
theorem dX2_divide_34 : decode cX2_divide 34 = .ok (.lload 6, 2) := by decide +kernel
theorem dX2_divide_36 : decode cX2_divide 36 = .ok (.lconst 0, 1) := by decide +kernel
theorem dX2_divide_37 : decode cX2_divide 37 = .ok (.lcmp, 1) := by decide +kernel
theorem dX2_divide_38 : decode cX2_divide 38 = .ok (.ifCond .ge 7, 3) := by decide +kernel
theorem dX2_divide_41 : decode cX2_divide 41 = .ok (.iconst 1, 1) := by decide +kernel
theorem dX2_divide_42 : decode cX2_divide 42 = .ok (.goto 4, 3) := by decide +kernel
theorem dX2_divide_45 : decode cX2_divide 45 = .ok (.iconst 0, 1) := by decide +kernel
theorem dX2_divide_46 : decode cX2_divide 46 = .ok (.istore 10, 2) := by decide +kernel
theorem dX2_divide_48 : decode cX2_divide 48 = .ok (.lload 6, 2) := by decide +kernel
theorem dX2_divide_50 : decode cX2_divide 50 = .ok (.iconst 1, 1) := by decide +kernel
theorem dX2_divide_51 : decode cX2_divide 51 = .ok (.lshl, 1) := by decide +kernel
theorem dX2_divide_52 : decode cX2_divide 52 = .ok (.lstore 6, 2) := by decide +kernel
theorem dX2_divide_54 : decode cX2_divide 54 = .ok (.iload 8, 2) := by decide +kernel
theorem dX2_divide_56 : decode cX2_divide 56 = .ok (.iconst 1, 1) := by decide +kernel
theorem dX2_divide_57 : decode cX2_divide 57 = .ok (.ishl, 1) := by decide +kernel
theorem dX2_divide_58 : decode cX2_divide 58 = .ok (.bipush 7, 2) := by decide +kernel
theorem dX2_divide_60 : decode cX2_divide 60 = .ok (.iand, 1) := by decide +kernel
theorem dX2_divide_61 : decode cX2_divide 61 = .ok (.istore 8, 2) := by decide +kernel
theorem dX2_divide_63 : decode cX2_divide 63 = .ok (.iload 10, 2) := by decide +kernel
theorem dX2_divide_65 : decode cX2_divide 65 = .ok (.ifCond .ne 12, 3) := by decide +kernel
theorem dX2_divide_68 : decode cX2_divide 68 = .ok (.lload 6, 2) := by decide +kernel
theorem dX2_divide_70 : decode cX2_divide 70 = .ok (.lload_n 3, 1) := by decide +kernel
theorem dX2_divide_71 : decode cX2_divide 71 = .ok (.invokestatic 172, 3) := by decide +kernel
theorem dX2_divide_74 : decode cX2_divide 74 = .ok (.ifCond .lt 15, 3) := by decide +kernel
theorem dX2_divide_77 : decode cX2_divide 77 = .ok (.lload 6, 2) := by decide +kernel
theorem dX2_divide_79 : decode cX2_divide 79 = .ok (.lload_n 3, 1) := by decide +kernel
theorem dX2_divide_80 : decode cX2_divide 80 = .ok (.lsub, 1) := by decide +kernel
theorem dX2_divide_81 : decode cX2_divide 81 = .ok (.lstore 6, 2) := by decide +kernel
theorem dX2_divide_83 : decode cX2_divide 83 = .ok (.iload 8, 2) := by decide +kernel
theorem dX2_divide_85 : decode cX2_divide 85 = .ok (.iconst 1, 1) := by decide +kernel
theorem dX2_divide_86 : decode cX2_divide 86 = .ok (.ior, 1) := by decide +kernel
theorem dX2_divide_87 : decode cX2_divide 87 = .ok (.istore 8, 2) := by decide +kernel
theorem dX2_divide_89 : decode cX2_divide 89 = .ok (.iinc 9 1, 3) := by decide +kernel
theorem dX2_divide_92 : decode cX2_divide 92 = .ok (.goto (-65), 3) := by decide +kernel
theorem dX2_divide_95 : decode cX2_divide 95 = .ok (.aload_n 0, 1) := by decide +kernel
theorem dX2_divide_96 : decode cX2_divide 96 = .ok (.iload 8, 2) := by decide +kernel
theorem dX2_divide_98 : decode cX2_divide 98 = .ok (.putfield 28, 3) := by decide +kernel
theorem dX2_divide_101 : decode cX2_divide 101 = .ok (.lload 6, 2) := by decide +kernel
theorem dX2_divide_103 : decode cX2_divide 103 = .ok (.lreturn, 1) := by decide +kernel
set_option maxRecDepth 20000 in
theorem ggX2_order_X1_isOf : GoodIn wsX2_order wsX1_isOf := goodIn_r _ [7, 8, 9, 10, 5, 11, 12, 13, 14, 15, 16, 17, 18, 19, 20, 21, 22, 23, 92, 93] (by decide +kernel) (by decide +kernel)
set_option maxRecDepth 20000 in
theorem gX2_order_X1_isOf_n112 : GoodIn wsX2_order (wsX1_isOf) := ggX2_order_X1_isOf
set_option maxRecDepth 20000 in
theorem ggX2_order_X2_goesOn : GoodIn wsX2_order wsX2_goesOn := goodIn_r _ [28, 29, 3, 30, 31, 4, 5, 6, 7, 8, 9, 10, 11, 12, 13, 14, 15, 16, 17, 18, 19, 20, 21, 22, 23, 32, 33, 34, 27, 35, 36, 37, 38, 39, 1, 85, 86, 87, 88, 89, 90, 91, 92, 93] (by decide +kernel) (by decide +kernel)
set_option maxRecDepth 20000 in
theorem gX2_order_X2_goesOn : GoodIn wsX2_order (wsV RX2 75 RX2 yX2_goesOn wsX2_goesOn) := goodIn_app (goodIn_of _ (by decide +kernel)) ggX2_order_X2_goesOn
set_option maxRecDepth 20000 in
theorem ggX2_order_X1_side : GoodIn wsX2_order wsX1_side := goodIn_r _ [42, 43, 44, 45, 5, 46, 12, 19, 20, 21, 22, 23, 47, 48, 49, 50, 51, 92, 93] (by decide +kernel) (by decide +kernel)
set_option maxRecDepth 20000 in
theorem gX2_order_X1_side_n247 : GoodIn wsX2_order (wsX1_side) := ggX2_order_X1_side
set_option maxRecDepth 20000 in
theorem ggX2_order_X2_orderOfSizes : GoodIn wsX2_order wsX2_orderOfSizes := goodIn_r _ [54, 2, 4, 5, 6, 7, 8, 9, 10, 11, 12, 13, 14, 15, 16, 17, 18, 19, 20, 21, 22, 23, 55, 56, 57, 58, 59, 60, 61, 62, 63, 64, 65, 66, 67, 68, 69, 70, 71, 72, 73, 74, 75, 76, 77, 78, 79, 80, 81, 82, 83, 84, 92, 93] (by decide +kernel) (by decide +kernel)
set_option maxRecDepth 20000 in
theorem gX2_order_X2_orderOfSizes : GoodIn wsX2_order (va_wsS RX2 250 yX2_orderOfSizes wsX2_orderOfSizes) := goodIn_app (goodIn_of _ (by decide +kernel)) ggX2_order_X2_orderOfSizes
theorem dX2_order_0 : decode cX2_order 0 = .ok (.aload_n 0, 1) := by decide +kernel
theorem dX2_order_1 : decode cX2_order 1 = .ok (.getfield 17, 3) := by decide +kernel
theorem dX2_order_4 : decode cX2_order 4 = .ok (.sipush 4096, 3) := by decide +kernel
theorem dX2_order_7 : decode cX2_order 7 = .ok (.iand, 1) := by decide +kernel
theorem dX2_order_8 : decode cX2_order 8 = .ok (.ifCond .ne 7, 3) := by decide +kernel
theorem dX2_order_11 : decode cX2_order 11 = .ok (.iconst 1, 1) := by decide +kernel
theorem dX2_order_12 : decode cX2_order 12 = .ok (.goto 4, 3) := by decide +kernel
theorem dX2_order_15 : decode cX2_order 15 = .ok (.iconst 0, 1) := by decide +kernel
theorem dX2_order_16 : decode cX2_order 16 = .ok (.istore_n 3, 1) := by decide +kernel
theorem dX2_order_17 : decode cX2_order 17 = .ok (.aload_n 1, 1) := by decide +kernel
theorem dX2_order_18 : decode cX2_order 18 = .ok (.getstatic 106, 3) := by decide +kernel
theorem dX2_order_21 : decode cX2_order 21 = .ok (.invokevirtual 112, 3) := by decide +kernel
theorem dX2_order_24 : decode cX2_order 24 = .ok (.istore 4, 2) := by decide +kernel
theorem dX2_order_26 : decode cX2_order 26 = .ok (.iload_n 3, 1) := by decide +kernel
theorem dX2_order_27 : decode cX2_order 27 = .ok (.ifCond .eq 19, 3) := by decide +kernel
theorem dX2_order_30 : decode cX2_order 30 = .ok (.iload 4, 2) := by decide +kernel
theorem dX2_order_32 : decode cX2_order 32 = .ok (.aload_n 2, 1) := by decide +kernel
theorem dX2_order_33 : decode cX2_order 33 = .ok (.getstatic 106, 3) := by decide +kernel
theorem dX2_order_36 : decode cX2_order 36 = .ok (.invokevirtual 112, 3) := by decide +kernel
theorem dX2_order_39 : decode cX2_order 39 = .ok (.if_icmp .eq 7, 3) := by decide +kernel
theorem dX2_order_42 : decode cX2_order 42 = .ok (.iconst 1, 1) := by decide +kernel
theorem dX2_order_43 : decode cX2_order 43 = .ok (.goto 4, 3) := by decide +kernel
theorem dX2_order_46 : decode cX2_order 46 = .ok (.iconst 0, 1) := by decide +kernel
theorem dX2_order_47 : decode cX2_order 47 = .ok (.istore 5, 2) := by decide +kernel
theorem dX2_order_49 : decode cX2_order 49 = .ok (.aload_n 0, 1) := by decide +kernel
theorem dX2_order_50 : decode cX2_order 50 = .ok (.aload_n 1, 1) := by decide +kernel
theorem dX2_order_51 : decode cX2_order 51 = .ok (.aload_n 2, 1) := by decide +kernel
theorem dX2_order_52 : decode cX2_order 52 = .ok (.iload 5, 2) := by decide +kernel
theorem dX2_order_54 : decode cX2_order 54 = .ok (.iconst 0, 1) := by decide +kernel
theorem dX2_order_55 : decode cX2_order 55 = .ok (.invokevirtual 75, 3) := by decide +kernel
theorem dX2_order_58 : decode cX2_order 58 = .ok (.ifCond .ne 16, 3) := by decide +kernel
theorem dX2_order_61 : decode cX2_order 61 = .ok (.aload_n 0, 1) := by decide +kernel
theorem dX2_order_62 : decode cX2_order 62 = .ok (.getfield 24, 3) := by decide +kernel
theorem dX2_order_65 : decode cX2_order 65 = .ok (.ifCond .eq 7, 3) := by decide +kernel
theorem dX2_order_68 : decode cX2_order 68 = .ok (.iconst 2, 1) := by decide +kernel
theorem dX2_order_69 : decode cX2_order 69 = .ok (.goto 4, 3) := by decide +kernel
theorem dX2_order_72 : decode cX2_order 72 = .ok (.iconst 3, 1) := by decide +kernel
theorem dX2_order_73 : decode cX2_order 73 = .ok (.ireturn, 1) := by decide +kernel
theorem dX2_order_74 : decode cX2_order 74 = .ok (.iload_n 3, 1) := by decide +kernel
theorem dX2_order_75 : decode cX2_order 75 = .ok (.ifCond .eq 10, 3) := by decide +kernel
theorem dX2_order_78 : decode cX2_order 78 = .ok (.iload 4, 2) := by decide +kernel
theorem dX2_order_80 : decode cX2_order 80 = .ok (.ifCond .eq 5, 3) := by decide +kernel
theorem dX2_order_83 : decode cX2_order 83 = .ok (.iconst 0, 1) := by decide +kernel
theorem dX2_order_84 : decode cX2_order 84 = .ok (.ireturn, 1) := by decide +kernel
theorem dX2_order_85 : decode cX2_order 85 = .ok (.aload_n 1, 1) := by decide +kernel
theorem dX2_order_86 : decode cX2_order 86 = .ok (.invokevirtual 247, 3) := by decide +kernel
theorem dX2_order_89 : decode cX2_order 89 = .ok (.istore 6, 2) := by decide +kernel
theorem dX2_order_91 : decode cX2_order 91 = .ok (.iload 6, 2) := by decide +kernel
theorem dX2_order_93 : decode cX2_order 93 = .ok (.aload_n 2, 1) := by decide +kernel
theorem dX2_order_94 : decode cX2_order 94 = .ok (.invokevirtual 247, 3) := by decide +kernel
theorem dX2_order_97 : decode cX2_order 97 = .ok (.if_icmp .eq 18, 3) := by decide +kernel
theorem dX2_order_100 : decode cX2_order 100 = .ok (.iload 6, 2) := by decide +kernel
theorem dX2_order_102 : decode cX2_order 102 = .ok (.aload_n 2, 1) := by decide +kernel
theorem dX2_order_103 : decode cX2_order 103 = .ok (.invokevirtual 247, 3) := by decide +kernel
theorem dX2_order_106 : decode cX2_order 106 = .ok (.if_icmp .ge 7, 3) := by decide +kernel
theorem dX2_order_109 : decode cX2_order 109 = .ok (.iconst (-1), 1) := by decide +kernel
theorem dX2_order_110 : decode cX2_order 110 = .ok (.goto 4, 3) := by decide +kernel
theorem dX2_order_113 : decode cX2_order 113 = .ok (.iconst 1, 1) := by decide +kernel
theorem dX2_order_114 : decode cX2_order 114 = .ok (.ireturn, 1) := by decide +kernel
theorem dX2_order_115 : decode cX2_order 115 = .ok (.iload 6, 2) := by decide +kernel
theorem dX2_order_117 : decode cX2_order 117 = .ok (.aload_n 1, 1) := by decide +kernel
theorem dX2_order_118 : decode cX2_order 118 = .ok (.aload_n 2, 1) := by decide +kernel
theorem dX2_order_119 : decode cX2_order 119 = .ok (.invokestatic 250, 3) := by decide +kernel
theorem dX2_order_122 : decode cX2_order 122 = .ok (.imul, 1) := by decide +kernel
theorem dX2_order_123 : decode cX2_order 123 = .ok (.ireturn, 1) := by decide +kernel
set_option maxRecDepth 20000 in
theorem ggX2_orderOfSizes_X1_isOf : GoodIn wsX2_orderOfSizes wsX1_isOf := goodIn_r _ [5, 6, 7, 8, 3, 9, 10, 11, 12, 13, 14, 15, 16, 17, 18, 19, 20, 21, 52, 53] (by decide +kernel) (by decide +kernel)
set_option maxRecDepth 20000 in
theorem gX2_orderOfSizes_X1_isOf_n112 : GoodIn wsX2_orderOfSizes (wsX1_isOf) := ggX2_orderOfSizes_X1_isOf
set_option maxRecDepth 20000 in
theorem ggX2_orderOfSizes_X1_exponent : GoodIn wsX2_orderOfSizes wsX1_exponent := goodIn_r _ [24, 10, 25, 26, 27, 3, 28, 29, 30, 31, 32, 17, 18, 19, 20, 21, 33, 34, 35, 36, 37, 38, 39, 40, 41, 52, 53] (by decide +kernel) (by decide +kernel)
set_option maxRecDepth 20000 in
theorem gX2_orderOfSizes_X1_exponent_n219 : GoodIn wsX2_orderOfSizes (wsX1_exponent) := ggX2_orderOfSizes_X1_exponent
set_option maxRecDepth 20000 in
theorem ggX2_orderOfSizes_X1_normalised : GoodIn wsX2_orderOfSizes wsX1_normalised := goodIn_r _ [44, 10, 33, 34, 35, 36, 37, 38, 39, 40, 41, 52, 53] (by decide +kernel) (by decide +kernel)
set_option maxRecDepth 20000 in
theorem gX2_orderOfSizes_X1_normalised_n229 : GoodIn wsX2_orderOfSizes (wsX1_normalised) := ggX2_orderOfSizes_X1_normalised
set_option maxRecDepth 20000 in
theorem ggX2_orderOfSizes_J13_compareUnsigned_74951 : GoodIn wsX2_orderOfSizes wsJ13_compareUnsigned_74951 := goodIn_r _ [47, 48, 49, 50, 35, 51] (by decide +kernel) (by decide +kernel)
set_option maxRecDepth 20000 in
theorem gX2_orderOfSizes_J13_compareUnsigned_74951 : GoodIn wsX2_orderOfSizes (va_wsS RX2 172 yJ13_compareUnsigned_74951 wsJ13_compareUnsigned_74951) := goodIn_app (goodIn_of _ (by decide +kernel)) ggX2_orderOfSizes_J13_compareUnsigned_74951
theorem dX2_orderOfSizes_0 : decode cX2_orderOfSizes 0 = .ok (.aload_n 0, 1) := by decide +kernel
theorem dX2_orderOfSizes_1 : decode cX2_orderOfSizes 1 = .ok (.getstatic 106, 3) := by decide +kernel
theorem dX2_orderOfSizes_4 : decode cX2_orderOfSizes 4 = .ok (.invokevirtual 112, 3) := by decide +kernel
theorem dX2_orderOfSizes_7 : decode cX2_orderOfSizes 7 = .ok (.istore_n 2, 1) := by decide +kernel
theorem dX2_orderOfSizes_8 : decode cX2_orderOfSizes 8 = .ok (.iload_n 2, 1) := by decide +kernel
theorem dX2_orderOfSizes_9 : decode cX2_orderOfSizes 9 = .ok (.aload_n 1, 1) := by decide +kernel
theorem dX2_orderOfSizes_10 : decode cX2_orderOfSizes 10 = .ok (.getstatic 106, 3) := by decide +kernel
theorem dX2_orderOfSizes_13 : decode cX2_orderOfSizes 13 = .ok (.invokevirtual 112, 3) := by decide +kernel
theorem dX2_orderOfSizes_16 : decode cX2_orderOfSizes 16 = .ok (.if_icmp .eq 13, 3) := by decide +kernel
theorem dX2_orderOfSizes_19 : decode cX2_orderOfSizes 19 = .ok (.iload_n 2, 1) := by decide +kernel
theorem dX2_orderOfSizes_20 : decode cX2_orderOfSizes 20 = .ok (.ifCond .eq 7, 3) := by decide +kernel
theorem dX2_orderOfSizes_23 : decode cX2_orderOfSizes 23 = .ok (.iconst 1, 1) := by decide +kernel
theorem dX2_orderOfSizes_24 : decode cX2_orderOfSizes 24 = .ok (.goto 4, 3) := by decide +kernel
theorem dX2_orderOfSizes_27 : decode cX2_orderOfSizes 27 = .ok (.iconst (-1), 1) := by decide +kernel
theorem dX2_orderOfSizes_28 : decode cX2_orderOfSizes 28 = .ok (.ireturn, 1) := by decide +kernel
theorem dX2_orderOfSizes_29 : decode cX2_orderOfSizes 29 = .ok (.iload_n 2, 1) := by decide +kernel
theorem dX2_orderOfSizes_30 : decode cX2_orderOfSizes 30 = .ok (.ifCond .eq 5, 3) := by decide +kernel
theorem dX2_orderOfSizes_33 : decode cX2_orderOfSizes 33 = .ok (.iconst 0, 1) := by decide +kernel
theorem dX2_orderOfSizes_34 : decode cX2_orderOfSizes 34 = .ok (.ireturn, 1) := by decide +kernel
theorem dX2_orderOfSizes_35 : decode cX2_orderOfSizes 35 = .ok (.aload_n 0, 1) := by decide +kernel
theorem dX2_orderOfSizes_36 : decode cX2_orderOfSizes 36 = .ok (.invokevirtual 219, 3) := by decide +kernel
theorem dX2_orderOfSizes_39 : decode cX2_orderOfSizes 39 = .ok (.aload_n 1, 1) := by decide +kernel
theorem dX2_orderOfSizes_40 : decode cX2_orderOfSizes 40 = .ok (.invokevirtual 219, 3) := by decide +kernel
theorem dX2_orderOfSizes_43 : decode cX2_orderOfSizes 43 = .ok (.if_icmp .eq 20, 3) := by decide +kernel
theorem dX2_orderOfSizes_46 : decode cX2_orderOfSizes 46 = .ok (.aload_n 0, 1) := by decide +kernel
theorem dX2_orderOfSizes_47 : decode cX2_orderOfSizes 47 = .ok (.invokevirtual 219, 3) := by decide +kernel
theorem dX2_orderOfSizes_50 : decode cX2_orderOfSizes 50 = .ok (.aload_n 1, 1) := by decide +kernel
theorem dX2_orderOfSizes_51 : decode cX2_orderOfSizes 51 = .ok (.invokevirtual 219, 3) := by decide +kernel
theorem dX2_orderOfSizes_54 : decode cX2_orderOfSizes 54 = .ok (.if_icmp .ge 7, 3) := by decide +kernel
theorem dX2_orderOfSizes_57 : decode cX2_orderOfSizes 57 = .ok (.iconst (-1), 1) := by decide +kernel
theorem dX2_orderOfSizes_58 : decode cX2_orderOfSizes 58 = .ok (.goto 4, 3) := by decide +kernel
theorem dX2_orderOfSizes_61 : decode cX2_orderOfSizes 61 = .ok (.iconst 1, 1) := by decide +kernel
theorem dX2_orderOfSizes_62 : decode cX2_orderOfSizes 62 = .ok (.ireturn, 1) := by decide +kernel
theorem dX2_orderOfSizes_63 : decode cX2_orderOfSizes 63 = .ok (.aload_n 0, 1) := by decide +kernel
theorem dX2_orderOfSizes_64 : decode cX2_orderOfSizes 64 = .ok (.invokevirtual 229, 3) := by decide +kernel
theorem dX2_orderOfSizes_67 : decode cX2_orderOfSizes 67 = .ok (.aload_n 1, 1) := by decide +kernel
theorem dX2_orderOfSizes_68 : decode cX2_orderOfSizes 68 = .ok (.invokevirtual 229, 3) := by decide +kernel
theorem dX2_orderOfSizes_71 : decode cX2_orderOfSizes 71 = .ok (.lcmp, 1) := by decide +kernel
theorem dX2_orderOfSizes_72 : decode cX2_orderOfSizes 72 = .ok (.ifCond .ne 5, 3) := by decide +kernel
theorem dX2_orderOfSizes_75 : decode cX2_orderOfSizes 75 = .ok (.iconst 0, 1) := by decide +kernel
theorem dX2_orderOfSizes_76 : decode cX2_orderOfSizes 76 = .ok (.ireturn, 1) := by decide +kernel
theorem dX2_orderOfSizes_77 : decode cX2_orderOfSizes 77 = .ok (.aload_n 0, 1) := by decide +kernel
theorem dX2_orderOfSizes_78 : decode cX2_orderOfSizes 78 = .ok (.invokevirtual 229, 3) := by decide +kernel
theorem dX2_orderOfSizes_81 : decode cX2_orderOfSizes 81 = .ok (.aload_n 1, 1) := by decide +kernel
theorem dX2_orderOfSizes_82 : decode cX2_orderOfSizes 82 = .ok (.invokevirtual 229, 3) := by decide +kernel
theorem dX2_orderOfSizes_85 : decode cX2_orderOfSizes 85 = .ok (.invokestatic 172, 3) := by decide +kernel
theorem dX2_orderOfSizes_88 : decode cX2_orderOfSizes 88 = .ok (.ifCond .ge 7, 3) := by decide +kernel
theorem dX2_orderOfSizes_91 : decode cX2_orderOfSizes 91 = .ok (.iconst (-1), 1) := by decide +kernel
theorem dX2_orderOfSizes_92 : decode cX2_orderOfSizes 92 = .ok (.goto 4, 3) := by decide +kernel
theorem dX2_orderOfSizes_95 : decode cX2_orderOfSizes 95 = .ok (.iconst 1, 1) := by decide +kernel
theorem dX2_orderOfSizes_96 : decode cX2_orderOfSizes 96 = .ok (.ireturn, 1) := by decide +kernel
