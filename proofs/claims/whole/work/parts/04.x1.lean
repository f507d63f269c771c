theorem dX1_init_0 : decode cX1_init 0 = .ok (.aload_n 0, 1) := by decide +kernel
theorem dX1_init_1 : decode cX1_init 1 = .ok (.invokespecial 3, 3) := by decide +kernel
theorem dX1_init_4 : decode cX1_init 4 = .ok (.aload_n 0, 1) := by decide +kernel
theorem dX1_init_5 : decode cX1_init 5 = .ok (.iload_n 1, 1) := by decide +kernel
theorem dX1_init_6 : decode cX1_init 6 = .ok (.putfield 9, 3) := by decide +kernel
theorem dX1_init_9 : decode cX1_init 9 = .ok (.aload_n 0, 1) := by decide +kernel
theorem dX1_init_10 : decode cX1_init 10 = .ok (.lload_n 2, 1) := by decide +kernel
theorem dX1_init_11 : decode cX1_init 11 = .ok (.putfield 15, 3) := by decide +kernel
theorem dX1_init_14 : decode cX1_init 14 = .ok (.return_, 1) := by decide +kernel
theorem dX1_isNegative_0 : decode cX1_isNegative 0 = .ok (.aload_n 0, 1) := by decide +kernel
theorem dX1_isNegative_1 : decode cX1_isNegative 1 = .ok (.getfield 9, 3) := by decide +kernel
theorem dX1_isNegative_4 : decode cX1_isNegative 4 = .ok (.ldc 19, 2) := by decide +kernel
theorem dX1_isNegative_6 : decode cX1_isNegative 6 = .ok (.iand, 1) := by decide +kernel
theorem dX1_isNegative_7 : decode cX1_isNegative 7 = .ok (.ifCond .eq 7, 3) := by decide +kernel
theorem dX1_isNegative_10 : decode cX1_isNegative 10 = .ok (.iconst 1, 1) := by decide +kernel
theorem dX1_isNegative_11 : decode cX1_isNegative 11 = .ok (.goto 4, 3) := by decide +kernel
theorem dX1_isNegative_14 : decode cX1_isNegative 14 = .ok (.iconst 0, 1) := by decide +kernel
theorem dX1_isNegative_15 : decode cX1_isNegative 15 = .ok (.ireturn, 1) := by decide +kernel
theorem dX1_power_0 : decode cX1_power 0 = .ok (.aload_n 0, 1) := by decide +kernel
theorem dX1_power_1 : decode cX1_power 1 = .ok (.getfield 9, 3) := by decide +kernel
theorem dX1_power_4 : decode cX1_power 4 = .ok (.sipush 32767, 3) := by decide +kernel
theorem dX1_power_7 : decode cX1_power 7 = .ok (.iand, 1) := by decide +kernel
theorem dX1_power_8 : decode cX1_power 8 = .ok (.ireturn, 1) := by decide +kernel
set_option maxRecDepth 20000 in
theorem ggX1_kind_X1_power : GoodIn wsX1_kind wsX1_power := goodIn_r _ [12, 13, 14, 15] (by decide +kernel) (by decide +kernel)
set_option maxRecDepth 20000 in
theorem gX1_kind_X1_power : GoodIn wsX1_kind (wsV RX1 20 RX1 yX1_power wsX1_power) := goodIn_app (goodIn_of _ (by decide +kernel)) ggX1_kind_X1_power
theorem dX1_kind_0 : decode cX1_kind 0 = .ok (.aload_n 0, 1) := by decide +kernel
theorem dX1_kind_1 : decode cX1_kind 1 = .ok (.invokevirtual 20, 3) := by decide +kernel
theorem dX1_kind_4 : decode cX1_kind 4 = .ok (.istore_n 1, 1) := by decide +kernel
theorem dX1_kind_5 : decode cX1_kind 5 = .ok (.iload_n 1, 1) := by decide +kernel
theorem dX1_kind_6 : decode cX1_kind 6 = .ok (.ifCond .ne 22, 3) := by decide +kernel
theorem dX1_kind_9 : decode cX1_kind 9 = .ok (.aload_n 0, 1) := by decide +kernel
theorem dX1_kind_10 : decode cX1_kind 10 = .ok (.getfield 15, 3) := by decide +kernel
theorem dX1_kind_13 : decode cX1_kind 13 = .ok (.lconst 0, 1) := by decide +kernel
theorem dX1_kind_14 : decode cX1_kind 14 = .ok (.lcmp, 1) := by decide +kernel
theorem dX1_kind_15 : decode cX1_kind 15 = .ok (.ifCond .ne 9, 3) := by decide +kernel
theorem dX1_kind_18 : decode cX1_kind 18 = .ok (.getstatic 24, 3) := by decide +kernel
theorem dX1_kind_21 : decode cX1_kind 21 = .ok (.goto 6, 3) := by decide +kernel
theorem dX1_kind_24 : decode cX1_kind 24 = .ok (.getstatic 30, 3) := by decide +kernel
theorem dX1_kind_27 : decode cX1_kind 27 = .ok (.areturn, 1) := by decide +kernel
theorem dX1_kind_28 : decode cX1_kind 28 = .ok (.iload_n 1, 1) := by decide +kernel
theorem dX1_kind_29 : decode cX1_kind 29 = .ok (.sipush 32767, 3) := by decide +kernel
theorem dX1_kind_32 : decode cX1_kind 32 = .ok (.if_icmp .ne 24, 3) := by decide +kernel
theorem dX1_kind_35 : decode cX1_kind 35 = .ok (.aload_n 0, 1) := by decide +kernel
theorem dX1_kind_36 : decode cX1_kind 36 = .ok (.getfield 15, 3) := by decide +kernel
theorem dX1_kind_39 : decode cX1_kind 39 = .ok (.iconst 1, 1) := by decide +kernel
theorem dX1_kind_40 : decode cX1_kind 40 = .ok (.lshl, 1) := by decide +kernel
theorem dX1_kind_41 : decode cX1_kind 41 = .ok (.lconst 0, 1) := by decide +kernel
theorem dX1_kind_42 : decode cX1_kind 42 = .ok (.lcmp, 1) := by decide +kernel
theorem dX1_kind_43 : decode cX1_kind 43 = .ok (.ifCond .ne 9, 3) := by decide +kernel
theorem dX1_kind_46 : decode cX1_kind 46 = .ok (.getstatic 33, 3) := by decide +kernel
theorem dX1_kind_49 : decode cX1_kind 49 = .ok (.goto 6, 3) := by decide +kernel
theorem dX1_kind_52 : decode cX1_kind 52 = .ok (.getstatic 36, 3) := by decide +kernel
theorem dX1_kind_55 : decode cX1_kind 55 = .ok (.areturn, 1) := by decide +kernel
theorem dX1_kind_56 : decode cX1_kind 56 = .ok (.aload_n 0, 1) := by decide +kernel
theorem dX1_kind_57 : decode cX1_kind 57 = .ok (.getfield 15, 3) := by decide +kernel
theorem dX1_kind_60 : decode cX1_kind 60 = .ok (.lconst 0, 1) := by decide +kernel
theorem dX1_kind_61 : decode cX1_kind 61 = .ok (.lcmp, 1) := by decide +kernel
theorem dX1_kind_62 : decode cX1_kind 62 = .ok (.ifCond .ge 9, 3) := by decide +kernel
theorem dX1_kind_65 : decode cX1_kind 65 = .ok (.getstatic 39, 3) := by decide +kernel
theorem dX1_kind_68 : decode cX1_kind 68 = .ok (.goto 6, 3) := by decide +kernel
theorem dX1_kind_71 : decode cX1_kind 71 = .ok (.getstatic 42, 3) := by decide +kernel
theorem dX1_kind_74 : decode cX1_kind 74 = .ok (.areturn, 1) := by decide +kernel
set_option maxRecDepth 20000 in
theorem ggX1_isOf_X1_kind : GoodIn wsX1_isOf wsX1_kind := goodIn_r _ [5, 6, 7, 8, 9, 10, 11, 12, 13, 14, 15, 4, 16, 17, 18, 19] (by decide +kernel) (by decide +kernel)
set_option maxRecDepth 20000 in
theorem gX1_isOf_X1_kind : GoodIn wsX1_isOf (wsV RX1 45 RX1 yX1_kind wsX1_kind) := goodIn_app (goodIn_of _ (by decide +kernel)) ggX1_isOf_X1_kind
theorem dX1_isOf_0 : decode cX1_isOf 0 = .ok (.aload_n 0, 1) := by decide +kernel
theorem dX1_isOf_1 : decode cX1_isOf 1 = .ok (.invokevirtual 45, 3) := by decide +kernel
theorem dX1_isOf_4 : decode cX1_isOf 4 = .ok (.aload_n 1, 1) := by decide +kernel
theorem dX1_isOf_5 : decode cX1_isOf 5 = .ok (.if_acmp .ne 7, 3) := by decide +kernel
theorem dX1_isOf_8 : decode cX1_isOf 8 = .ok (.iconst 1, 1) := by decide +kernel
theorem dX1_isOf_9 : decode cX1_isOf 9 = .ok (.goto 4, 3) := by decide +kernel
theorem dX1_isOf_12 : decode cX1_isOf 12 = .ok (.iconst 0, 1) := by decide +kernel
theorem dX1_isOf_13 : decode cX1_isOf 13 = .ok (.ireturn, 1) := by decide +kernel
set_option maxRecDepth 20000 in
theorem ggX1_isNought_X1_power : GoodIn wsX1_isNought wsX1_power := goodIn_r _ [6, 7, 8, 9] (by decide +kernel) (by decide +kernel)
set_option maxRecDepth 20000 in
theorem gX1_isNought_X1_power : GoodIn wsX1_isNought (wsV RX1 20 RX1 yX1_power wsX1_power) := goodIn_app (goodIn_of _ (by decide +kernel)) ggX1_isNought_X1_power
theorem dX1_isNought_0 : decode cX1_isNought 0 = .ok (.aload_n 0, 1) := by decide +kernel
theorem dX1_isNought_1 : decode cX1_isNought 1 = .ok (.getfield 15, 3) := by decide +kernel
theorem dX1_isNought_4 : decode cX1_isNought 4 = .ok (.lconst 0, 1) := by decide +kernel
theorem dX1_isNought_5 : decode cX1_isNought 5 = .ok (.lcmp, 1) := by decide +kernel
theorem dX1_isNought_6 : decode cX1_isNought 6 = .ok (.ifCond .ne 17, 3) := by decide +kernel
theorem dX1_isNought_9 : decode cX1_isNought 9 = .ok (.aload_n 0, 1) := by decide +kernel
theorem dX1_isNought_10 : decode cX1_isNought 10 = .ok (.invokevirtual 20, 3) := by decide +kernel
theorem dX1_isNought_13 : decode cX1_isNought 13 = .ok (.sipush 32767, 3) := by decide +kernel
theorem dX1_isNought_16 : decode cX1_isNought 16 = .ok (.if_icmp .eq 7, 3) := by decide +kernel
theorem dX1_isNought_19 : decode cX1_isNought 19 = .ok (.iconst 1, 1) := by decide +kernel
theorem dX1_isNought_20 : decode cX1_isNought 20 = .ok (.goto 4, 3) := by decide +kernel
theorem dX1_isNought_23 : decode cX1_isNought 23 = .ok (.iconst 0, 1) := by decide +kernel
theorem dX1_isNought_24 : decode cX1_isNought 24 = .ok (.ireturn, 1) := by decide +kernel
set_option maxRecDepth 20000 in
theorem ggX1_side_X1_isNought : GoodIn wsX1_side wsX1_isNought := goodIn_r _ [5, 6, 7, 8, 9, 4, 10, 11, 17, 18] (by decide +kernel) (by decide +kernel)
set_option maxRecDepth 20000 in
theorem gX1_side_X1_isNought : GoodIn wsX1_side (wsV RX1 49 RX1 yX1_isNought wsX1_isNought) := goodIn_app (goodIn_of _ (by decide +kernel)) ggX1_side_X1_isNought
set_option maxRecDepth 20000 in
theorem ggX1_side_X1_isNegative : GoodIn wsX1_side wsX1_isNegative := goodIn_r _ [15, 11, 16, 17, 18] (by decide +kernel) (by decide +kernel)
set_option maxRecDepth 20000 in
theorem gX1_side_X1_isNegative : GoodIn wsX1_side (wsV RX1 53 RX1 yX1_isNegative wsX1_isNegative) := goodIn_app (goodIn_of _ (by decide +kernel)) ggX1_side_X1_isNegative
theorem dX1_side_0 : decode cX1_side 0 = .ok (.aload_n 0, 1) := by decide +kernel
theorem dX1_side_1 : decode cX1_side 1 = .ok (.invokevirtual 49, 3) := by decide +kernel
theorem dX1_side_4 : decode cX1_side 4 = .ok (.ifCond .eq 5, 3) := by decide +kernel
theorem dX1_side_7 : decode cX1_side 7 = .ok (.iconst 0, 1) := by decide +kernel
theorem dX1_side_8 : decode cX1_side 8 = .ok (.ireturn, 1) := by decide +kernel
theorem dX1_side_9 : decode cX1_side 9 = .ok (.aload_n 0, 1) := by decide +kernel
theorem dX1_side_10 : decode cX1_side 10 = .ok (.invokevirtual 53, 3) := by decide +kernel
theorem dX1_side_13 : decode cX1_side 13 = .ok (.ifCond .eq 7, 3) := by decide +kernel
theorem dX1_side_16 : decode cX1_side 16 = .ok (.iconst (-1), 1) := by decide +kernel
theorem dX1_side_17 : decode cX1_side 17 = .ok (.goto 4, 3) := by decide +kernel
theorem dX1_side_20 : decode cX1_side 20 = .ok (.iconst 1, 1) := by decide +kernel
theorem dX1_side_21 : decode cX1_side 21 = .ok (.ireturn, 1) := by decide +kernel
set_option maxRecDepth 20000 in
theorem ggX1_unit_X1_power : GoodIn wsX1_unit wsX1_power := goodIn_r _ [9, 10, 11, 12] (by decide +kernel) (by decide +kernel)
set_option maxRecDepth 20000 in
theorem gX1_unit_X1_power : GoodIn wsX1_unit (wsV RX1 20 RX1 yX1_power wsX1_power) := goodIn_app (goodIn_of _ (by decide +kernel)) ggX1_unit_X1_power
theorem dX1_unit_0 : decode cX1_unit 0 = .ok (.aload_n 0, 1) := by decide +kernel
theorem dX1_unit_1 : decode cX1_unit 1 = .ok (.invokevirtual 20, 3) := by decide +kernel
theorem dX1_unit_4 : decode cX1_unit 4 = .ok (.iconst 1, 1) := by decide +kernel
theorem dX1_unit_5 : decode cX1_unit 5 = .ok (.invokestatic 56, 3) := by decide +kernel
theorem dX1_unit_8 : decode cX1_unit 8 = .ok (.sipush 16446, 3) := by decide +kernel
theorem dX1_unit_11 : decode cX1_unit 11 = .ok (.isub, 1) := by decide +kernel
theorem dX1_unit_12 : decode cX1_unit 12 = .ok (.ireturn, 1) := by decide +kernel
set_option maxRecDepth 20000 in
theorem ggX1_exponent_X1_unit : GoodIn wsX1_exponent wsX1_unit := goodIn_r _ [6, 7, 8, 9, 10, 11, 12, 13, 5, 14, 15, 25, 26] (by decide +kernel) (by decide +kernel)
set_option maxRecDepth 20000 in
theorem gX1_exponent_X1_unit : GoodIn wsX1_exponent (wsV RX1 62 RX1 yX1_unit wsX1_unit) := goodIn_app (goodIn_of _ (by decide +kernel)) ggX1_exponent_X1_unit
set_option maxRecDepth 20000 in
theorem ggX1_exponent_J13_numberOfLeadingZeros_95d88 : GoodIn wsX1_exponent wsJ13_numberOfLeadingZeros_95d88 := goodIn_r _ [19, 20, 21, 22, 23, 24] (by decide +kernel) (by decide +kernel)
set_option maxRecDepth 20000 in
theorem gX1_exponent_J13_numberOfLeadingZeros_95d88 : GoodIn wsX1_exponent (va_wsS RX1 65 yJ13_numberOfLeadingZeros_95d88 wsJ13_numberOfLeadingZeros_95d88) := goodIn_app (goodIn_of _ (by decide +kernel)) ggX1_exponent_J13_numberOfLeadingZeros_95d88
theorem dX1_exponent_0 : decode cX1_exponent 0 = .ok (.aload_n 0, 1) := by decide +kernel
theorem dX1_exponent_1 : decode cX1_exponent 1 = .ok (.invokevirtual 62, 3) := by decide +kernel
theorem dX1_exponent_4 : decode cX1_exponent 4 = .ok (.bipush 63, 2) := by decide +kernel
theorem dX1_exponent_6 : decode cX1_exponent 6 = .ok (.iadd, 1) := by decide +kernel
theorem dX1_exponent_7 : decode cX1_exponent 7 = .ok (.aload_n 0, 1) := by decide +kernel
theorem dX1_exponent_8 : decode cX1_exponent 8 = .ok (.getfield 15, 3) := by decide +kernel
theorem dX1_exponent_11 : decode cX1_exponent 11 = .ok (.invokestatic 65, 3) := by decide +kernel
theorem dX1_exponent_14 : decode cX1_exponent 14 = .ok (.isub, 1) := by decide +kernel
theorem dX1_exponent_15 : decode cX1_exponent 15 = .ok (.ireturn, 1) := by decide +kernel
set_option maxRecDepth 20000 in
theorem ggX1_normalised_J13_numberOfLeadingZeros_95d88 : GoodIn wsX1_normalised wsJ13_numberOfLeadingZeros_95d88 := goodIn_r _ [5, 6, 7, 8, 9, 10] (by decide +kernel) (by decide +kernel)
set_option maxRecDepth 20000 in
theorem gX1_normalised_J13_numberOfLeadingZeros_95d88 : GoodIn wsX1_normalised (va_wsS RX1 65 yJ13_numberOfLeadingZeros_95d88 wsJ13_numberOfLeadingZeros_95d88) := goodIn_app (goodIn_of _ (by decide +kernel)) ggX1_normalised_J13_numberOfLeadingZeros_95d88
theorem dX1_normalised_0 : decode cX1_normalised 0 = .ok (.aload_n 0, 1) := by decide +kernel
theorem dX1_normalised_1 : decode cX1_normalised 1 = .ok (.getfield 15, 3) := by decide +kernel
theorem dX1_normalised_4 : decode cX1_normalised 4 = .ok (.aload_n 0, 1) := by decide +kernel
theorem dX1_normalised_5 : decode cX1_normalised 5 = .ok (.getfield 15, 3) := by decide +kernel
theorem dX1_normalised_8 : decode cX1_normalised 8 = .ok (.invokestatic 65, 3) := by decide +kernel
theorem dX1_normalised_11 : decode cX1_normalised 11 = .ok (.lshl, 1) := by decide +kernel
theorem dX1_normalised_12 : decode cX1_normalised 12 = .ok (.lreturn, 1) := by decide +kernel
theorem dJ6_numberOfLeadingZeros_0f7a4_0 : decode cJ6_numberOfLeadingZeros_0f7a4 0 = .ok (.iload_n 0, 1) := by decide +kernel
theorem dJ6_numberOfLeadingZeros_0f7a4_1 : decode cJ6_numberOfLeadingZeros_0f7a4 1 = .ok (.ifCond .gt 14, 3) := by decide +kernel
theorem dJ6_numberOfLeadingZeros_0f7a4_4 : decode cJ6_numberOfLeadingZeros_0f7a4 4 = .ok (.iload_n 0, 1) := by decide +kernel
theorem dJ6_numberOfLeadingZeros_0f7a4_5 : decode cJ6_numberOfLeadingZeros_0f7a4 5 = .ok (.ifCond .ne 8, 3) := by decide +kernel
theorem dJ6_numberOfLeadingZeros_0f7a4_8 : decode cJ6_numberOfLeadingZeros_0f7a4 8 = .ok (.bipush 32, 2) := by decide +kernel
theorem dJ6_numberOfLeadingZeros_0f7a4_10 : decode cJ6_numberOfLeadingZeros_0f7a4 10 = .ok (.goto 4, 3) := by decide +kernel
theorem dJ6_numberOfLeadingZeros_0f7a4_13 : decode cJ6_numberOfLeadingZeros_0f7a4 13 = .ok (.iconst 0, 1) := by decide +kernel
theorem dJ6_numberOfLeadingZeros_0f7a4_14 : decode cJ6_numberOfLeadingZeros_0f7a4 14 = .ok (.ireturn, 1) := by decide +kernel
theorem dJ6_numberOfLeadingZeros_0f7a4_15 : decode cJ6_numberOfLeadingZeros_0f7a4 15 = .ok (.bipush 31, 2) := by decide +kernel
theorem dJ6_numberOfLeadingZeros_0f7a4_17 : decode cJ6_numberOfLeadingZeros_0f7a4 17 = .ok (.istore_n 1, 1) := by decide +kernel
theorem dJ6_numberOfLeadingZeros_0f7a4_18 : decode cJ6_numberOfLeadingZeros_0f7a4 18 = .ok (.iload_n 0, 1) := by decide +kernel
theorem dJ6_numberOfLeadingZeros_0f7a4_19 : decode cJ6_numberOfLeadingZeros_0f7a4 19 = .ok (.ldc_w 264, 3) := by decide +kernel
theorem dJ6_numberOfLeadingZeros_0f7a4_22 : decode cJ6_numberOfLeadingZeros_0f7a4 22 = .ok (.if_icmp .lt 11, 3) := by decide +kernel
theorem dJ6_numberOfLeadingZeros_0f7a4_25 : decode cJ6_numberOfLeadingZeros_0f7a4 25 = .ok (.iinc 1 (-16), 3) := by decide +kernel
theorem dJ6_numberOfLeadingZeros_0f7a4_28 : decode cJ6_numberOfLeadingZeros_0f7a4 28 = .ok (.iload_n 0, 1) := by decide +kernel
theorem dJ6_numberOfLeadingZeros_0f7a4_29 : decode cJ6_numberOfLeadingZeros_0f7a4 29 = .ok (.bipush 16, 2) := by decide +kernel
theorem dJ6_numberOfLeadingZeros_0f7a4_31 : decode cJ6_numberOfLeadingZeros_0f7a4 31 = .ok (.iushr, 1) := by decide +kernel
theorem dJ6_numberOfLeadingZeros_0f7a4_32 : decode cJ6_numberOfLeadingZeros_0f7a4 32 = .ok (.istore_n 0, 1) := by decide +kernel
theorem dJ6_numberOfLeadingZeros_0f7a4_33 : decode cJ6_numberOfLeadingZeros_0f7a4 33 = .ok (.iload_n 0, 1) := by decide +kernel
theorem dJ6_numberOfLeadingZeros_0f7a4_34 : decode cJ6_numberOfLeadingZeros_0f7a4 34 = .ok (.sipush 256, 3) := by decide +kernel
theorem dJ6_numberOfLeadingZeros_0f7a4_37 : decode cJ6_numberOfLeadingZeros_0f7a4 37 = .ok (.if_icmp .lt 11, 3) := by decide +kernel
theorem dJ6_numberOfLeadingZeros_0f7a4_40 : decode cJ6_numberOfLeadingZeros_0f7a4 40 = .ok (.iinc 1 (-8), 3) := by decide +kernel
theorem dJ6_numberOfLeadingZeros_0f7a4_43 : decode cJ6_numberOfLeadingZeros_0f7a4 43 = .ok (.iload_n 0, 1) := by decide +kernel
theorem dJ6_numberOfLeadingZeros_0f7a4_44 : decode cJ6_numberOfLeadingZeros_0f7a4 44 = .ok (.bipush 8, 2) := by decide +kernel
theorem dJ6_numberOfLeadingZeros_0f7a4_46 : decode cJ6_numberOfLeadingZeros_0f7a4 46 = .ok (.iushr, 1) := by decide +kernel
theorem dJ6_numberOfLeadingZeros_0f7a4_47 : decode cJ6_numberOfLeadingZeros_0f7a4 47 = .ok (.istore_n 0, 1) := by decide +kernel
theorem dJ6_numberOfLeadingZeros_0f7a4_48 : decode cJ6_numberOfLeadingZeros_0f7a4 48 = .ok (.iload_n 0, 1) := by decide +kernel
theorem dJ6_numberOfLeadingZeros_0f7a4_49 : decode cJ6_numberOfLeadingZeros_0f7a4 49 = .ok (.bipush 16, 2) := by decide +kernel
theorem dJ6_numberOfLeadingZeros_0f7a4_51 : decode cJ6_numberOfLeadingZeros_0f7a4 51 = .ok (.if_icmp .lt 10, 3) := by decide +kernel
theorem dJ6_numberOfLeadingZeros_0f7a4_54 : decode cJ6_numberOfLeadingZeros_0f7a4 54 = .ok (.iinc 1 (-4), 3) := by decide +kernel
theorem dJ6_numberOfLeadingZeros_0f7a4_57 : decode cJ6_numberOfLeadingZeros_0f7a4 57 = .ok (.iload_n 0, 1) := by decide +kernel
theorem dJ6_numberOfLeadingZeros_0f7a4_58 : decode cJ6_numberOfLeadingZeros_0f7a4 58 = .ok (.iconst 4, 1) := by decide +kernel
theorem dJ6_numberOfLeadingZeros_0f7a4_59 : decode cJ6_numberOfLeadingZeros_0f7a4 59 = .ok (.iushr, 1) := by decide +kernel
theorem dJ6_numberOfLeadingZeros_0f7a4_60 : decode cJ6_numberOfLeadingZeros_0f7a4 60 = .ok (.istore_n 0, 1) := by decide +kernel
theorem dJ6_numberOfLeadingZeros_0f7a4_61 : decode cJ6_numberOfLeadingZeros_0f7a4 61 = .ok (.iload_n 0, 1) := by decide +kernel
theorem dJ6_numberOfLeadingZeros_0f7a4_62 : decode cJ6_numberOfLeadingZeros_0f7a4 62 = .ok (.iconst 4, 1) := by decide +kernel
theorem dJ6_numberOfLeadingZeros_0f7a4_63 : decode cJ6_numberOfLeadingZeros_0f7a4 63 = .ok (.if_icmp .lt 10, 3) := by decide +kernel
theorem dJ6_numberOfLeadingZeros_0f7a4_66 : decode cJ6_numberOfLeadingZeros_0f7a4 66 = .ok (.iinc 1 (-2), 3) := by decide +kernel
theorem dJ6_numberOfLeadingZeros_0f7a4_69 : decode cJ6_numberOfLeadingZeros_0f7a4 69 = .ok (.iload_n 0, 1) := by decide +kernel
theorem dJ6_numberOfLeadingZeros_0f7a4_70 : decode cJ6_numberOfLeadingZeros_0f7a4 70 = .ok (.iconst 2, 1) := by decide +kernel
theorem dJ6_numberOfLeadingZeros_0f7a4_71 : decode cJ6_numberOfLeadingZeros_0f7a4 71 = .ok (.iushr, 1) := by decide +kernel
theorem dJ6_numberOfLeadingZeros_0f7a4_72 : decode cJ6_numberOfLeadingZeros_0f7a4 72 = .ok (.istore_n 0, 1) := by decide +kernel
theorem dJ6_numberOfLeadingZeros_0f7a4_73 : decode cJ6_numberOfLeadingZeros_0f7a4 73 = .ok (.iload_n 1, 1) := by decide +kernel
theorem dJ6_numberOfLeadingZeros_0f7a4_74 : decode cJ6_numberOfLeadingZeros_0f7a4 74 = .ok (.iload_n 0, 1) := by decide +kernel
theorem dJ6_numberOfLeadingZeros_0f7a4_75 : decode cJ6_numberOfLeadingZeros_0f7a4 75 = .ok (.iconst 1, 1) := by decide +kernel
theorem dJ6_numberOfLeadingZeros_0f7a4_76 : decode cJ6_numberOfLeadingZeros_0f7a4 76 = .ok (.iushr, 1) := by decide +kernel
theorem dJ6_numberOfLeadingZeros_0f7a4_77 : decode cJ6_numberOfLeadingZeros_0f7a4 77 = .ok (.isub, 1) := by decide +kernel
theorem dJ6_numberOfLeadingZeros_0f7a4_78 : decode cJ6_numberOfLeadingZeros_0f7a4 78 = .ok (.ireturn, 1) := by decide +kernel
theorem dJ13_compare_74951_0 : decode cJ13_compare_74951 0 = .ok (.lload_n 0, 1) := by decide +kernel
theorem dJ13_compare_74951_1 : decode cJ13_compare_74951 1 = .ok (.lload_n 2, 1) := by decide +kernel
theorem dJ13_compare_74951_2 : decode cJ13_compare_74951 2 = .ok (.lcmp, 1) := by decide +kernel
theorem dJ13_compare_74951_3 : decode cJ13_compare_74951 3 = .ok (.ifCond .ge 7, 3) := by decide +kernel
theorem dJ13_compare_74951_6 : decode cJ13_compare_74951 6 = .ok (.iconst (-1), 1) := by decide +kernel
theorem dJ13_compare_74951_7 : decode cJ13_compare_74951 7 = .ok (.goto 14, 3) := by decide +kernel
theorem dJ13_compare_74951_10 : decode cJ13_compare_74951 10 = .ok (.lload_n 0, 1) := by decide +kernel
theorem dJ13_compare_74951_11 : decode cJ13_compare_74951 11 = .ok (.lload_n 2, 1) := by decide +kernel
theorem dJ13_compare_74951_12 : decode cJ13_compare_74951 12 = .ok (.lcmp, 1) := by decide +kernel
theorem dJ13_compare_74951_13 : decode cJ13_compare_74951 13 = .ok (.ifCond .ne 7, 3) := by decide +kernel
theorem dJ13_compare_74951_16 : decode cJ13_compare_74951 16 = .ok (.iconst 0, 1) := by decide +kernel
theorem dJ13_compare_74951_17 : decode cJ13_compare_74951 17 = .ok (.goto 4, 3) := by decide +kernel
theorem dJ13_compare_74951_20 : decode cJ13_compare_74951 20 = .ok (.iconst 1, 1) := by decide +kernel
theorem dJ13_compare_74951_21 : decode cJ13_compare_74951 21 = .ok (.ireturn, 1) := by decide +kernel
set_option maxRecDepth 20000 in
theorem ggJ13_compareUnsigned_74951_J13_compare_74951 : GoodIn wsJ13_compareUnsigned_74951 wsJ13_compare_74951 := goodIn_r _ [5] (by decide +kernel) (by decide +kernel)
set_option maxRecDepth 20000 in
theorem gJ13_compareUnsigned_74951_J13_compare_74951 : GoodIn wsJ13_compareUnsigned_74951 (va_wsS RJ13 302 yJ13_compare_74951 wsJ13_compare_74951) := goodIn_app (goodIn_of _ (by decide +kernel)) ggJ13_compareUnsigned_74951_J13_compare_74951
theorem dJ13_compareUnsigned_74951_0 : decode cJ13_compareUnsigned_74951 0 = .ok (.lload_n 0, 1) := by decide +kernel
theorem dJ13_compareUnsigned_74951_1 : decode cJ13_compareUnsigned_74951 1 = .ok (.ldc2_w 168, 3) := by decide +kernel
theorem dJ13_compareUnsigned_74951_4 : decode cJ13_compareUnsigned_74951 4 = .ok (.ladd, 1) := by decide +kernel
theorem dJ13_compareUnsigned_74951_5 : decode cJ13_compareUnsigned_74951 5 = .ok (.lload_n 2, 1) := by decide +kernel
theorem dJ13_compareUnsigned_74951_6 : decode cJ13_compareUnsigned_74951 6 = .ok (.ldc2_w 168, 3) := by decide +kernel
theorem dJ13_compareUnsigned_74951_9 : decode cJ13_compareUnsigned_74951 9 = .ok (.ladd, 1) := by decide +kernel
theorem dJ13_compareUnsigned_74951_10 : decode cJ13_compareUnsigned_74951 10 = .ok (.invokestatic 302, 3) := by decide +kernel
theorem dJ13_compareUnsigned_74951_13 : decode cJ13_compareUnsigned_74951 13 = .ok (.ireturn, 1) := by decide +kernel
set_option maxRecDepth 20000 in
theorem ggJ13_numberOfLeadingZeros_95d88_J6_numberOfLeadingZeros_0f7a4 : GoodIn wsJ13_numberOfLeadingZeros_95d88 wsJ6_numberOfLeadingZeros_0f7a4 := goodIn_r _ [4, 5] (by decide +kernel) (by decide +kernel)
set_option maxRecDepth 20000 in
theorem gJ13_numberOfLeadingZeros_95d88_J6_numberOfLeadingZeros_0f7a4 : GoodIn wsJ13_numberOfLeadingZeros_95d88 (va_wsS RJ13 308 yJ6_numberOfLeadingZeros_0f7a4 wsJ6_numberOfLeadingZeros_0f7a4) := goodIn_app (goodIn_of _ (by decide +kernel)) ggJ13_numberOfLeadingZeros_95d88_J6_numberOfLeadingZeros_0f7a4
theorem dJ13_numberOfLeadingZeros_95d88_0 : decode cJ13_numberOfLeadingZeros_95d88 0 = .ok (.lload_n 0, 1) := by decide +kernel
theorem dJ13_numberOfLeadingZeros_95d88_1 : decode cJ13_numberOfLeadingZeros_95d88 1 = .ok (.bipush 32, 2) := by decide +kernel
theorem dJ13_numberOfLeadingZeros_95d88_3 : decode cJ13_numberOfLeadingZeros_95d88 3 = .ok (.lushr, 1) := by decide +kernel
theorem dJ13_numberOfLeadingZeros_95d88_4 : decode cJ13_numberOfLeadingZeros_95d88 4 = .ok (.l2i, 1) := by decide +kernel
theorem dJ13_numberOfLeadingZeros_95d88_5 : decode cJ13_numberOfLeadingZeros_95d88 5 = .ok (.istore_n 2, 1) := by decide +kernel
theorem dJ13_numberOfLeadingZeros_95d88_6 : decode cJ13_numberOfLeadingZeros_95d88 6 = .ok (.iload_n 2, 1) := by decide +kernel
theorem dJ13_numberOfLeadingZeros_95d88_7 : decode cJ13_numberOfLeadingZeros_95d88 7 = .ok (.ifCond .ne 14, 3) := by decide +kernel
theorem dJ13_numberOfLeadingZeros_95d88_10 : decode cJ13_numberOfLeadingZeros_95d88 10 = .ok (.bipush 32, 2) := by decide +kernel
theorem dJ13_numberOfLeadingZeros_95d88_12 : decode cJ13_numberOfLeadingZeros_95d88 12 = .ok (.lload_n 0, 1) := by decide +kernel
theorem dJ13_numberOfLeadingZeros_95d88_13 : decode cJ13_numberOfLeadingZeros_95d88 13 = .ok (.l2i, 1) := by decide +kernel
theorem dJ13_numberOfLeadingZeros_95d88_14 : decode cJ13_numberOfLeadingZeros_95d88 14 = .ok (.invokestatic 308, 3) := by decide +kernel
theorem dJ13_numberOfLeadingZeros_95d88_17 : decode cJ13_numberOfLeadingZeros_95d88 17 = .ok (.iadd, 1) := by decide +kernel
theorem dJ13_numberOfLeadingZeros_95d88_18 : decode cJ13_numberOfLeadingZeros_95d88 18 = .ok (.goto 7, 3) := by decide +kernel
theorem dJ13_numberOfLeadingZeros_95d88_21 : decode cJ13_numberOfLeadingZeros_95d88 21 = .ok (.iload_n 2, 1) := by decide +kernel
theorem dJ13_numberOfLeadingZeros_95d88_22 : decode cJ13_numberOfLeadingZeros_95d88 22 = .ok (.invokestatic 308, 3) := by decide +kernel
theorem dJ13_numberOfLeadingZeros_95d88_25 : decode cJ13_numberOfLeadingZeros_95d88 25 = .ok (.ireturn, 1) := by decide +kernel
theorem dJ9_abs_0f7a4_0 : decode cJ9_abs_0f7a4 0 = .ok (.iload_n 0, 1) := by decide +kernel
theorem dJ9_abs_0f7a4_1 : decode cJ9_abs_0f7a4 1 = .ok (.ifCond .ge 8, 3) := by decide +kernel
theorem dJ9_abs_0f7a4_4 : decode cJ9_abs_0f7a4 4 = .ok (.iload_n 0, 1) := by decide +kernel
theorem dJ9_abs_0f7a4_5 : decode cJ9_abs_0f7a4 5 = .ok (.ineg, 1) := by decide +kernel
theorem dJ9_abs_0f7a4_6 : decode cJ9_abs_0f7a4 6 = .ok (.goto 4, 3) := by decide +kernel
theorem dJ9_abs_0f7a4_9 : decode cJ9_abs_0f7a4 9 = .ok (.iload_n 0, 1) := by decide +kernel
theorem dJ9_abs_0f7a4_10 : decode cJ9_abs_0f7a4 10 = .ok (.ireturn, 1) := by decide +kernel
theorem dJ9_max_7cf53_0 : decode cJ9_max_7cf53 0 = .ok (.iload_n 0, 1) := by decide +kernel
theorem dJ9_max_7cf53_1 : decode cJ9_max_7cf53 1 = .ok (.iload_n 1, 1) := by decide +kernel
theorem dJ9_max_7cf53_2 : decode cJ9_max_7cf53 2 = .ok (.if_icmp .lt 7, 3) := by decide +kernel
theorem dJ9_max_7cf53_5 : decode cJ9_max_7cf53 5 = .ok (.iload_n 0, 1) := by decide +kernel
theorem dJ9_max_7cf53_6 : decode cJ9_max_7cf53 6 = .ok (.goto 4, 3) := by decide +kernel
theorem dJ9_max_7cf53_9 : decode cJ9_max_7cf53 9 = .ok (.iload_n 1, 1) := by decide +kernel
theorem dJ9_max_7cf53_10 : decode cJ9_max_7cf53 10 = .ok (.ireturn, 1) := by decide +kernel
