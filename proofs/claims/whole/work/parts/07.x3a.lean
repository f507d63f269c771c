theorem dX3_init_0 : decode cX3_init 0 = .ok (.aload_n 0, 1) := by decide +kernel
theorem dX3_init_1 : decode cX3_init 1 = .ok (.invokespecial 1, 3) := by decide +kernel
theorem dX3_init_4 : decode cX3_init 4 = .ok (.aload_n 0, 1) := by decide +kernel
theorem dX3_init_5 : decode cX3_init 5 = .ok (.sipush 1023, 3) := by decide +kernel
theorem dX3_init_8 : decode cX3_init 8 = .ok (.putfield 7, 3) := by decide +kernel
theorem dX3_init_11 : decode cX3_init 11 = .ok (.aload_n 0, 1) := by decide +kernel
theorem dX3_init_12 : decode cX3_init 12 = .ok (.bipush 8, 2) := by decide +kernel
theorem dX3_init_14 : decode cX3_init 14 = .ok (.newarray .int, 2) := by decide +kernel
theorem dX3_init_16 : decode cX3_init 16 = .ok (.putfield 13, 3) := by decide +kernel
theorem dX3_init_19 : decode cX3_init 19 = .ok (.aload_n 0, 1) := by decide +kernel
theorem dX3_init_20 : decode cX3_init 20 = .ok (.bipush 8, 2) := by decide +kernel
theorem dX3_init_22 : decode cX3_init 22 = .ok (.newarray .long, 2) := by decide +kernel
theorem dX3_init_24 : decode cX3_init 24 = .ok (.putfield 17, 3) := by decide +kernel
theorem dX3_init_27 : decode cX3_init 27 = .ok (.return_, 1) := by decide +kernel
theorem dX3_thrown_0 : decode cX3_thrown 0 = .ok (.aload_n 0, 1) := by decide +kernel
theorem dX3_thrown_1 : decode cX3_thrown 1 = .ok (.getfield 21, 3) := by decide +kernel
theorem dX3_thrown_4 : decode cX3_thrown 4 = .ok (.ireturn, 1) := by decide +kernel
theorem dX3_none_0 : decode cX3_none 0 = .ok (.iload_n 0, 1) := by decide +kernel
theorem dX3_none_1 : decode cX3_none 1 = .ok (.ifCond .lt 9, 3) := by decide +kernel
theorem dX3_none_4 : decode cX3_none 4 = .ok (.iload_n 0, 1) := by decide +kernel
theorem dX3_none_5 : decode cX3_none 5 = .ok (.bipush 7, 2) := by decide +kernel
theorem dX3_none_7 : decode cX3_none 7 = .ok (.if_icmp .le 7, 3) := by decide +kernel
theorem dX3_none_10 : decode cX3_none 10 = .ok (.iconst 1, 1) := by decide +kernel
theorem dX3_none_11 : decode cX3_none 11 = .ok (.goto 4, 3) := by decide +kernel
theorem dX3_none_14 : decode cX3_none 14 = .ok (.iconst 0, 1) := by decide +kernel
theorem dX3_none_15 : decode cX3_none 15 = .ok (.ireturn, 1) := by decide +kernel
theorem dX3_masked_0 : decode cX3_masked 0 = .ok (.aload_n 0, 1) := by decide +kernel
theorem dX3_masked_1 : decode cX3_masked 1 = .ok (.getfield 7, 3) := by decide +kernel
theorem dX3_masked_4 : decode cX3_masked 4 = .ok (.iload_n 1, 1) := by decide +kernel
theorem dX3_masked_5 : decode cX3_masked 5 = .ok (.idiv, 1) := by decide +kernel
theorem dX3_masked_6 : decode cX3_masked 6 = .ok (.iconst 2, 1) := by decide +kernel
theorem dX3_masked_7 : decode cX3_masked 7 = .ok (.irem, 1) := by decide +kernel
theorem dX3_masked_8 : decode cX3_masked 8 = .ok (.iconst 1, 1) := by decide +kernel
theorem dX3_masked_9 : decode cX3_masked 9 = .ok (.if_icmp .ne 7, 3) := by decide +kernel
theorem dX3_masked_12 : decode cX3_masked 12 = .ok (.iconst 1, 1) := by decide +kernel
theorem dX3_masked_13 : decode cX3_masked 13 = .ok (.goto 4, 3) := by decide +kernel
theorem dX3_masked_16 : decode cX3_masked 16 = .ok (.iconst 0, 1) := by decide +kernel
theorem dX3_masked_17 : decode cX3_masked 17 = .ok (.ireturn, 1) := by decide +kernel
theorem dX3_way_0 : decode cX3_way 0 = .ok (.aload_n 0, 1) := by decide +kernel
theorem dX3_way_1 : decode cX3_way 1 = .ok (.getfield 7, 3) := by decide +kernel
theorem dX3_way_4 : decode cX3_way 4 = .ok (.sipush 1024, 3) := by decide +kernel
theorem dX3_way_7 : decode cX3_way 7 = .ok (.idiv, 1) := by decide +kernel
theorem dX3_way_8 : decode cX3_way 8 = .ok (.iconst 4, 1) := by decide +kernel
theorem dX3_way_9 : decode cX3_way 9 = .ok (.irem, 1) := by decide +kernel
theorem dX3_way_10 : decode cX3_way 10 = .ok (.ireturn, 1) := by decide +kernel
theorem dX3_control_0 : decode cX3_control 0 = .ok (.aload_n 0, 1) := by decide +kernel
theorem dX3_control_1 : decode cX3_control 1 = .ok (.iload_n 1, 1) := by decide +kernel
theorem dX3_control_2 : decode cX3_control 2 = .ok (.ifCond .lt 9, 3) := by decide +kernel
theorem dX3_control_5 : decode cX3_control 5 = .ok (.iload_n 1, 1) := by decide +kernel
theorem dX3_control_6 : decode cX3_control 6 = .ok (.ldc 24, 2) := by decide +kernel
theorem dX3_control_8 : decode cX3_control 8 = .ok (.if_icmp .le 7, 3) := by decide +kernel
theorem dX3_control_11 : decode cX3_control 11 = .ok (.iconst 1, 1) := by decide +kernel
theorem dX3_control_12 : decode cX3_control 12 = .ok (.goto 4, 3) := by decide +kernel
theorem dX3_control_15 : decode cX3_control 15 = .ok (.iconst 0, 1) := by decide +kernel
theorem dX3_control_16 : decode cX3_control 16 = .ok (.putfield 21, 3) := by decide +kernel
theorem dX3_control_19 : decode cX3_control 19 = .ok (.aload_n 0, 1) := by decide +kernel
theorem dX3_control_20 : decode cX3_control 20 = .ok (.getfield 21, 3) := by decide +kernel
theorem dX3_control_23 : decode cX3_control 23 = .ok (.ifCond .ne 8, 3) := by decide +kernel
theorem dX3_control_26 : decode cX3_control 26 = .ok (.aload_n 0, 1) := by decide +kernel
theorem dX3_control_27 : decode cX3_control 27 = .ok (.iload_n 1, 1) := by decide +kernel
theorem dX3_control_28 : decode cX3_control 28 = .ok (.putfield 7, 3) := by decide +kernel
theorem dX3_control_31 : decode cX3_control 31 = .ok (.return_, 1) := by decide +kernel
set_option maxRecDepth 20000 in
theorem ggX3_set_X3_none : GoodIn wsX3_set wsX3_none := goodIn_r _ [10] (by decide +kernel) (by decide +kernel)
set_option maxRecDepth 20000 in
theorem gX3_set_X3_none : GoodIn wsX3_set (va_wsS RX3 25 yX3_none wsX3_none) := goodIn_app (goodIn_of _ (by decide +kernel)) ggX3_set_X3_none
theorem dX3_set_0 : decode cX3_set 0 = .ok (.aload_n 0, 1) := by decide +kernel
theorem dX3_set_1 : decode cX3_set 1 = .ok (.iload_n 1, 1) := by decide +kernel
theorem dX3_set_2 : decode cX3_set 2 = .ok (.invokestatic 25, 3) := by decide +kernel
theorem dX3_set_5 : decode cX3_set 5 = .ok (.ifCond .eq 7, 3) := by decide +kernel
theorem dX3_set_8 : decode cX3_set 8 = .ok (.iconst 1, 1) := by decide +kernel
theorem dX3_set_9 : decode cX3_set 9 = .ok (.goto 18, 3) := by decide +kernel
theorem dX3_set_12 : decode cX3_set 12 = .ok (.iload_n 2, 1) := by decide +kernel
theorem dX3_set_13 : decode cX3_set 13 = .ok (.ifCond .lt 9, 3) := by decide +kernel
theorem dX3_set_16 : decode cX3_set 16 = .ok (.iload_n 2, 1) := by decide +kernel
theorem dX3_set_17 : decode cX3_set 17 = .ok (.ldc 24, 2) := by decide +kernel
theorem dX3_set_19 : decode cX3_set 19 = .ok (.if_icmp .le 7, 3) := by decide +kernel
theorem dX3_set_22 : decode cX3_set 22 = .ok (.iconst 2, 1) := by decide +kernel
theorem dX3_set_23 : decode cX3_set 23 = .ok (.goto 4, 3) := by decide +kernel
theorem dX3_set_26 : decode cX3_set 26 = .ok (.iconst 0, 1) := by decide +kernel
theorem dX3_set_27 : decode cX3_set 27 = .ok (.putfield 21, 3) := by decide +kernel
theorem dX3_set_30 : decode cX3_set 30 = .ok (.aload_n 0, 1) := by decide +kernel
theorem dX3_set_31 : decode cX3_set 31 = .ok (.getfield 21, 3) := by decide +kernel
theorem dX3_set_34 : decode cX3_set 34 = .ok (.ifCond .le 4, 3) := by decide +kernel
theorem dX3_set_37 : decode cX3_set 37 = .ok (.return_, 1) := by decide +kernel
theorem dX3_set_38 : decode cX3_set 38 = .ok (.aload_n 0, 1) := by decide +kernel
theorem dX3_set_39 : decode cX3_set 39 = .ok (.getfield 13, 3) := by decide +kernel
theorem dX3_set_42 : decode cX3_set 42 = .ok (.iload_n 1, 1) := by decide +kernel
theorem dX3_set_43 : decode cX3_set 43 = .ok (.iload_n 2, 1) := by decide +kernel
theorem dX3_set_44 : decode cX3_set 44 = .ok (.iastore, 1) := by decide +kernel
theorem dX3_set_45 : decode cX3_set 45 = .ok (.aload_n 0, 1) := by decide +kernel
theorem dX3_set_46 : decode cX3_set 46 = .ok (.getfield 17, 3) := by decide +kernel
theorem dX3_set_49 : decode cX3_set 49 = .ok (.iload_n 1, 1) := by decide +kernel
theorem dX3_set_50 : decode cX3_set 50 = .ok (.iload_n 3, 1) := by decide +kernel
theorem dX3_set_51 : decode cX3_set 51 = .ok (.i2l, 1) := by decide +kernel
theorem dX3_set_52 : decode cX3_set 52 = .ok (.ldc2_w 29, 3) := by decide +kernel
theorem dX3_set_55 : decode cX3_set 55 = .ok (.lmul, 1) := by decide +kernel
theorem dX3_set_56 : decode cX3_set 56 = .ok (.iload 4, 2) := by decide +kernel
theorem dX3_set_58 : decode cX3_set 58 = .ok (.i2l, 1) := by decide +kernel
theorem dX3_set_59 : decode cX3_set 59 = .ok (.ldc2_w 31, 3) := by decide +kernel
theorem dX3_set_62 : decode cX3_set 62 = .ok (.land, 1) := by decide +kernel
theorem dX3_set_63 : decode cX3_set 63 = .ok (.ladd, 1) := by decide +kernel
theorem dX3_set_64 : decode cX3_set 64 = .ok (.lastore, 1) := by decide +kernel
theorem dX3_set_65 : decode cX3_set 65 = .ok (.return_, 1) := by decide +kernel
set_option maxRecDepth 20000 in
theorem ggX3_part_X3_none : GoodIn wsX3_part wsX3_none := goodIn_r _ [7] (by decide +kernel) (by decide +kernel)
set_option maxRecDepth 20000 in
theorem gX3_part_X3_none : GoodIn wsX3_part (va_wsS RX3 25 yX3_none wsX3_none) := goodIn_app (goodIn_of _ (by decide +kernel)) ggX3_part_X3_none
theorem dX3_part_0 : decode cX3_part 0 = .ok (.aload_n 0, 1) := by decide +kernel
theorem dX3_part_1 : decode cX3_part 1 = .ok (.iload_n 1, 1) := by decide +kernel
theorem dX3_part_2 : decode cX3_part 2 = .ok (.invokestatic 25, 3) := by decide +kernel
theorem dX3_part_5 : decode cX3_part 5 = .ok (.ifCond .eq 7, 3) := by decide +kernel
theorem dX3_part_8 : decode cX3_part 8 = .ok (.iconst 1, 1) := by decide +kernel
theorem dX3_part_9 : decode cX3_part 9 = .ok (.goto 17, 3) := by decide +kernel
theorem dX3_part_12 : decode cX3_part 12 = .ok (.iload_n 2, 1) := by decide +kernel
theorem dX3_part_13 : decode cX3_part 13 = .ok (.ifCond .lt 8, 3) := by decide +kernel
theorem dX3_part_16 : decode cX3_part 16 = .ok (.iload_n 2, 1) := by decide +kernel
theorem dX3_part_17 : decode cX3_part 17 = .ok (.iconst 2, 1) := by decide +kernel
theorem dX3_part_18 : decode cX3_part 18 = .ok (.if_icmp .le 7, 3) := by decide +kernel
theorem dX3_part_21 : decode cX3_part 21 = .ok (.iconst 2, 1) := by decide +kernel
theorem dX3_part_22 : decode cX3_part 22 = .ok (.goto 4, 3) := by decide +kernel
theorem dX3_part_25 : decode cX3_part 25 = .ok (.iconst 0, 1) := by decide +kernel
theorem dX3_part_26 : decode cX3_part 26 = .ok (.putfield 21, 3) := by decide +kernel
theorem dX3_part_29 : decode cX3_part 29 = .ok (.aload_n 0, 1) := by decide +kernel
theorem dX3_part_30 : decode cX3_part 30 = .ok (.getfield 21, 3) := by decide +kernel
theorem dX3_part_33 : decode cX3_part 33 = .ok (.ifCond .le 5, 3) := by decide +kernel
theorem dX3_part_36 : decode cX3_part 36 = .ok (.iconst 0, 1) := by decide +kernel
theorem dX3_part_37 : decode cX3_part 37 = .ok (.ireturn, 1) := by decide +kernel
theorem dX3_part_38 : decode cX3_part 38 = .ok (.iload_n 2, 1) := by decide +kernel
theorem dX3_part_39 : decode cX3_part 39 = .ok (.ifCond .ne 12, 3) := by decide +kernel
theorem dX3_part_42 : decode cX3_part 42 = .ok (.aload_n 0, 1) := by decide +kernel
theorem dX3_part_43 : decode cX3_part 43 = .ok (.getfield 13, 3) := by decide +kernel
theorem dX3_part_46 : decode cX3_part 46 = .ok (.iload_n 1, 1) := by decide +kernel
theorem dX3_part_47 : decode cX3_part 47 = .ok (.iaload, 1) := by decide +kernel
theorem dX3_part_48 : decode cX3_part 48 = .ok (.goto 28, 3) := by decide +kernel
theorem dX3_part_51 : decode cX3_part 51 = .ok (.iload_n 2, 1) := by decide +kernel
theorem dX3_part_52 : decode cX3_part 52 = .ok (.iconst 1, 1) := by decide +kernel
theorem dX3_part_53 : decode cX3_part 53 = .ok (.if_icmp .ne 16, 3) := by decide +kernel
theorem dX3_part_56 : decode cX3_part 56 = .ok (.aload_n 0, 1) := by decide +kernel
theorem dX3_part_57 : decode cX3_part 57 = .ok (.getfield 17, 3) := by decide +kernel
theorem dX3_part_60 : decode cX3_part 60 = .ok (.iload_n 1, 1) := by decide +kernel
theorem dX3_part_61 : decode cX3_part 61 = .ok (.laload, 1) := by decide +kernel
theorem dX3_part_62 : decode cX3_part 62 = .ok (.bipush 32, 2) := by decide +kernel
theorem dX3_part_64 : decode cX3_part 64 = .ok (.lshr, 1) := by decide +kernel
theorem dX3_part_65 : decode cX3_part 65 = .ok (.l2i, 1) := by decide +kernel
theorem dX3_part_66 : decode cX3_part 66 = .ok (.goto 10, 3) := by decide +kernel
theorem dX3_part_69 : decode cX3_part 69 = .ok (.aload_n 0, 1) := by decide +kernel
theorem dX3_part_70 : decode cX3_part 70 = .ok (.getfield 17, 3) := by decide +kernel
theorem dX3_part_73 : decode cX3_part 73 = .ok (.iload_n 1, 1) := by decide +kernel
theorem dX3_part_74 : decode cX3_part 74 = .ok (.laload, 1) := by decide +kernel
theorem dX3_part_75 : decode cX3_part 75 = .ok (.l2i, 1) := by decide +kernel
theorem dX3_part_76 : decode cX3_part 76 = .ok (.ireturn, 1) := by decide +kernel
set_option maxRecDepth 20000 in
theorem ggX3_turn_X3_none : GoodIn wsX3_turn wsX3_none := goodIn_r _ [7] (by decide +kernel) (by decide +kernel)
set_option maxRecDepth 20000 in
theorem gX3_turn_X3_none : GoodIn wsX3_turn (va_wsS RX3 25 yX3_none wsX3_none) := goodIn_app (goodIn_of _ (by decide +kernel)) ggX3_turn_X3_none
theorem dX3_turn_0 : decode cX3_turn 0 = .ok (.aload_n 0, 1) := by decide +kernel
theorem dX3_turn_1 : decode cX3_turn 1 = .ok (.iload_n 1, 1) := by decide +kernel
theorem dX3_turn_2 : decode cX3_turn 2 = .ok (.invokestatic 25, 3) := by decide +kernel
theorem dX3_turn_5 : decode cX3_turn 5 = .ok (.ifCond .eq 7, 3) := by decide +kernel
theorem dX3_turn_8 : decode cX3_turn 8 = .ok (.iconst 1, 1) := by decide +kernel
theorem dX3_turn_9 : decode cX3_turn 9 = .ok (.goto 4, 3) := by decide +kernel
theorem dX3_turn_12 : decode cX3_turn 12 = .ok (.iconst 0, 1) := by decide +kernel
theorem dX3_turn_13 : decode cX3_turn 13 = .ok (.putfield 21, 3) := by decide +kernel
theorem dX3_turn_16 : decode cX3_turn 16 = .ok (.aload_n 0, 1) := by decide +kernel
theorem dX3_turn_17 : decode cX3_turn 17 = .ok (.getfield 21, 3) := by decide +kernel
theorem dX3_turn_20 : decode cX3_turn 20 = .ok (.ifCond .ne 55, 3) := by decide +kernel
theorem dX3_turn_23 : decode cX3_turn 23 = .ok (.aload_n 0, 1) := by decide +kernel
theorem dX3_turn_24 : decode cX3_turn 24 = .ok (.getfield 13, 3) := by decide +kernel
theorem dX3_turn_27 : decode cX3_turn 27 = .ok (.iload_n 1, 1) := by decide +kernel
theorem dX3_turn_28 : decode cX3_turn 28 = .ok (.aload_n 0, 1) := by decide +kernel
theorem dX3_turn_29 : decode cX3_turn 29 = .ok (.getfield 13, 3) := by decide +kernel
theorem dX3_turn_32 : decode cX3_turn 32 = .ok (.iload_n 1, 1) := by decide +kernel
theorem dX3_turn_33 : decode cX3_turn 33 = .ok (.iaload, 1) := by decide +kernel
theorem dX3_turn_34 : decode cX3_turn 34 = .ok (.sipush 32767, 3) := by decide +kernel
theorem dX3_turn_37 : decode cX3_turn 37 = .ok (.if_icmp .le 15, 3) := by decide +kernel
theorem dX3_turn_40 : decode cX3_turn 40 = .ok (.aload_n 0, 1) := by decide +kernel
theorem dX3_turn_41 : decode cX3_turn 41 = .ok (.getfield 13, 3) := by decide +kernel
theorem dX3_turn_44 : decode cX3_turn 44 = .ok (.iload_n 1, 1) := by decide +kernel
theorem dX3_turn_45 : decode cX3_turn 45 = .ok (.iaload, 1) := by decide +kernel
theorem dX3_turn_46 : decode cX3_turn 46 = .ok (.ldc 33, 2) := by decide +kernel
theorem dX3_turn_48 : decode cX3_turn 48 = .ok (.isub, 1) := by decide +kernel
theorem dX3_turn_49 : decode cX3_turn 49 = .ok (.goto 25, 3) := by decide +kernel
theorem dX3_turn_52 : decode cX3_turn 52 = .ok (.iload_n 2, 1) := by decide +kernel
theorem dX3_turn_53 : decode cX3_turn 53 = .ok (.ifCond .eq 12, 3) := by decide +kernel
theorem dX3_turn_56 : decode cX3_turn 56 = .ok (.aload_n 0, 1) := by decide +kernel
theorem dX3_turn_57 : decode cX3_turn 57 = .ok (.getfield 13, 3) := by decide +kernel
theorem dX3_turn_60 : decode cX3_turn 60 = .ok (.iload_n 1, 1) := by decide +kernel
theorem dX3_turn_61 : decode cX3_turn 61 = .ok (.iaload, 1) := by decide +kernel
theorem dX3_turn_62 : decode cX3_turn 62 = .ok (.goto 12, 3) := by decide +kernel
theorem dX3_turn_65 : decode cX3_turn 65 = .ok (.aload_n 0, 1) := by decide +kernel
theorem dX3_turn_66 : decode cX3_turn 66 = .ok (.getfield 13, 3) := by decide +kernel
theorem dX3_turn_69 : decode cX3_turn 69 = .ok (.iload_n 1, 1) := by decide +kernel
theorem dX3_turn_70 : decode cX3_turn 70 = .ok (.iaload, 1) := by decide +kernel
theorem dX3_turn_71 : decode cX3_turn 71 = .ok (.ldc 33, 2) := by decide +kernel
theorem dX3_turn_73 : decode cX3_turn 73 = .ok (.iadd, 1) := by decide +kernel
theorem dX3_turn_74 : decode cX3_turn 74 = .ok (.iastore, 1) := by decide +kernel
theorem dX3_turn_75 : decode cX3_turn 75 = .ok (.return_, 1) := by decide +kernel
set_option maxRecDepth 20000 in
theorem ggX3_constant_X3_none : GoodIn wsX3_constant wsX3_none := goodIn_r _ [13] (by decide +kernel) (by decide +kernel)
set_option maxRecDepth 20000 in
theorem gX3_constant_X3_none : GoodIn wsX3_constant (va_wsS RX3 25 yX3_none wsX3_none) := goodIn_app (goodIn_of _ (by decide +kernel)) ggX3_constant_X3_none
theorem dX3_constant_0 : decode cX3_constant 0 = .ok (.aload_n 0, 1) := by decide +kernel
theorem dX3_constant_1 : decode cX3_constant 1 = .ok (.iload_n 2, 1) := by decide +kernel
theorem dX3_constant_2 : decode cX3_constant 2 = .ok (.invokestatic 25, 3) := by decide +kernel
theorem dX3_constant_5 : decode cX3_constant 5 = .ok (.ifCond .eq 7, 3) := by decide +kernel
theorem dX3_constant_8 : decode cX3_constant 8 = .ok (.iconst 1, 1) := by decide +kernel
theorem dX3_constant_9 : decode cX3_constant 9 = .ok (.goto 18, 3) := by decide +kernel
theorem dX3_constant_12 : decode cX3_constant 12 = .ok (.iload_n 1, 1) := by decide +kernel
theorem dX3_constant_13 : decode cX3_constant 13 = .ok (.ifCond .lt 9, 3) := by decide +kernel
theorem dX3_constant_16 : decode cX3_constant 16 = .ok (.iload_n 1, 1) := by decide +kernel
theorem dX3_constant_17 : decode cX3_constant 17 = .ok (.bipush 6, 2) := by decide +kernel
theorem dX3_constant_19 : decode cX3_constant 19 = .ok (.if_icmp .le 7, 3) := by decide +kernel
theorem dX3_constant_22 : decode cX3_constant 22 = .ok (.iconst 2, 1) := by decide +kernel
theorem dX3_constant_23 : decode cX3_constant 23 = .ok (.goto 4, 3) := by decide +kernel
theorem dX3_constant_26 : decode cX3_constant 26 = .ok (.iconst 0, 1) := by decide +kernel
theorem dX3_constant_27 : decode cX3_constant 27 = .ok (.putfield 21, 3) := by decide +kernel
theorem dX3_constant_30 : decode cX3_constant 30 = .ok (.aload_n 0, 1) := by decide +kernel
theorem dX3_constant_31 : decode cX3_constant 31 = .ok (.getfield 21, 3) := by decide +kernel
theorem dX3_constant_34 : decode cX3_constant 34 = .ok (.ifCond .le 4, 3) := by decide +kernel
theorem dX3_constant_37 : decode cX3_constant 37 = .ok (.return_, 1) := by decide +kernel
theorem dX3_constant_38 : decode cX3_constant 38 = .ok (.aload_n 0, 1) := by decide +kernel
theorem dX3_constant_39 : decode cX3_constant 39 = .ok (.getfield 13, 3) := by decide +kernel
theorem dX3_constant_42 : decode cX3_constant 42 = .ok (.iload_n 2, 1) := by decide +kernel
theorem dX3_constant_43 : decode cX3_constant 43 = .ok (.iload_n 1, 1) := by decide +kernel
theorem dX3_constant_44 : decode cX3_constant 44 = .ok (.ifCond .ne 7, 3) := by decide +kernel
theorem dX3_constant_47 : decode cX3_constant 47 = .ok (.iconst 0, 1) := by decide +kernel
theorem dX3_constant_48 : decode cX3_constant 48 = .ok (.goto 42, 3) := by decide +kernel
theorem dX3_constant_51 : decode cX3_constant 51 = .ok (.sipush 16383, 3) := by decide +kernel
theorem dX3_constant_54 : decode cX3_constant 54 = .ok (.iload_n 1, 1) := by decide +kernel
theorem dX3_constant_55 : decode cX3_constant 55 = .ok (.iconst 2, 1) := by decide +kernel
theorem dX3_constant_56 : decode cX3_constant 56 = .ok (.if_icmp .eq 8, 3) := by decide +kernel
theorem dX3_constant_59 : decode cX3_constant 59 = .ok (.iload_n 1, 1) := by decide +kernel
theorem dX3_constant_60 : decode cX3_constant 60 = .ok (.iconst 4, 1) := by decide +kernel
theorem dX3_constant_61 : decode cX3_constant 61 = .ok (.if_icmp .ne 7, 3) := by decide +kernel
theorem dX3_constant_64 : decode cX3_constant 64 = .ok (.iconst 1, 1) := by decide +kernel
theorem dX3_constant_65 : decode cX3_constant 65 = .ok (.goto 24, 3) := by decide +kernel
theorem dX3_constant_68 : decode cX3_constant 68 = .ok (.iload_n 1, 1) := by decide +kernel
theorem dX3_constant_69 : decode cX3_constant 69 = .ok (.iconst 5, 1) := by decide +kernel
theorem dX3_constant_70 : decode cX3_constant 70 = .ok (.if_icmp .ne 8, 3) := by decide +kernel
theorem dX3_constant_73 : decode cX3_constant 73 = .ok (.bipush (-2), 2) := by decide +kernel
theorem dX3_constant_75 : decode cX3_constant 75 = .ok (.goto 14, 3) := by decide +kernel
theorem dX3_constant_78 : decode cX3_constant 78 = .ok (.iload_n 1, 1) := by decide +kernel
theorem dX3_constant_79 : decode cX3_constant 79 = .ok (.bipush 6, 2) := by decide +kernel
theorem dX3_constant_81 : decode cX3_constant 81 = .ok (.if_icmp .ne 7, 3) := by decide +kernel
theorem dX3_constant_84 : decode cX3_constant 84 = .ok (.iconst (-1), 1) := by decide +kernel
theorem dX3_constant_85 : decode cX3_constant 85 = .ok (.goto 4, 3) := by decide +kernel
theorem dX3_constant_88 : decode cX3_constant 88 = .ok (.iconst 0, 1) := by decide +kernel
theorem dX3_constant_89 : decode cX3_constant 89 = .ok (.iadd, 1) := by decide +kernel
theorem dX3_constant_90 : decode cX3_constant 90 = .ok (.iastore, 1) := by decide +kernel
theorem dX3_constant_91 : decode cX3_constant 91 = .ok (.aload_n 0, 1) := by decide +kernel
theorem dX3_constant_92 : decode cX3_constant 92 = .ok (.getfield 17, 3) := by decide +kernel
theorem dX3_constant_95 : decode cX3_constant 95 = .ok (.iload_n 2, 1) := by decide +kernel
theorem dX3_constant_96 : decode cX3_constant 96 = .ok (.iload_n 1, 1) := by decide +kernel
theorem dX3_constant_97 : decode cX3_constant 97 = .ok (.ifCond .ne 7, 3) := by decide +kernel
theorem dX3_constant_100 : decode cX3_constant 100 = .ok (.lconst 0, 1) := by decide +kernel
theorem dX3_constant_101 : decode cX3_constant 101 = .ok (.goto 61, 3) := by decide +kernel
theorem dX3_constant_104 : decode cX3_constant 104 = .ok (.iload_n 1, 1) := by decide +kernel
theorem dX3_constant_105 : decode cX3_constant 105 = .ok (.iconst 1, 1) := by decide +kernel
theorem dX3_constant_106 : decode cX3_constant 106 = .ok (.if_icmp .ne 9, 3) := by decide +kernel
theorem dX3_constant_109 : decode cX3_constant 109 = .ok (.ldc2_w 34, 3) := by decide +kernel
theorem dX3_constant_112 : decode cX3_constant 112 = .ok (.goto 50, 3) := by decide +kernel
theorem dX3_constant_115 : decode cX3_constant 115 = .ok (.iload_n 1, 1) := by decide +kernel
theorem dX3_constant_116 : decode cX3_constant 116 = .ok (.iconst 2, 1) := by decide +kernel
theorem dX3_constant_117 : decode cX3_constant 117 = .ok (.if_icmp .ne 9, 3) := by decide +kernel
theorem dX3_constant_120 : decode cX3_constant 120 = .ok (.ldc2_w 36, 3) := by decide +kernel
theorem dX3_constant_123 : decode cX3_constant 123 = .ok (.goto 39, 3) := by decide +kernel
theorem dX3_constant_126 : decode cX3_constant 126 = .ok (.iload_n 1, 1) := by decide +kernel
theorem dX3_constant_127 : decode cX3_constant 127 = .ok (.iconst 3, 1) := by decide +kernel
theorem dX3_constant_128 : decode cX3_constant 128 = .ok (.if_icmp .ne 9, 3) := by decide +kernel
theorem dX3_constant_131 : decode cX3_constant 131 = .ok (.ldc2_w 38, 3) := by decide +kernel
theorem dX3_constant_134 : decode cX3_constant 134 = .ok (.goto 28, 3) := by decide +kernel
theorem dX3_constant_137 : decode cX3_constant 137 = .ok (.iload_n 1, 1) := by decide +kernel
theorem dX3_constant_138 : decode cX3_constant 138 = .ok (.iconst 4, 1) := by decide +kernel
theorem dX3_constant_139 : decode cX3_constant 139 = .ok (.if_icmp .ne 9, 3) := by decide +kernel
theorem dX3_constant_142 : decode cX3_constant 142 = .ok (.ldc2_w 40, 3) := by decide +kernel
theorem dX3_constant_145 : decode cX3_constant 145 = .ok (.goto 17, 3) := by decide +kernel
theorem dX3_constant_148 : decode cX3_constant 148 = .ok (.iload_n 1, 1) := by decide +kernel
theorem dX3_constant_149 : decode cX3_constant 149 = .ok (.iconst 5, 1) := by decide +kernel
theorem dX3_constant_150 : decode cX3_constant 150 = .ok (.if_icmp .ne 9, 3) := by decide +kernel
theorem dX3_constant_153 : decode cX3_constant 153 = .ok (.ldc2_w 42, 3) := by decide +kernel
theorem dX3_constant_156 : decode cX3_constant 156 = .ok (.goto 6, 3) := by decide +kernel
theorem dX3_constant_159 : decode cX3_constant 159 = .ok (.ldc2_w 44, 3) := by decide +kernel
theorem dX3_constant_162 : decode cX3_constant 162 = .ok (.lastore, 1) := by decide +kernel
theorem dX3_constant_163 : decode cX3_constant 163 = .ok (.return_, 1) := by decide +kernel
theorem dX3_kind_0 : decode cX3_kind 0 = .ok (.aload_n 0, 1) := by decide +kernel
theorem dX3_kind_1 : decode cX3_kind 1 = .ok (.getfield 13, 3) := by decide +kernel
theorem dX3_kind_4 : decode cX3_kind 4 = .ok (.iload_n 1, 1) := by decide +kernel
theorem dX3_kind_5 : decode cX3_kind 5 = .ok (.iaload, 1) := by decide +kernel
theorem dX3_kind_6 : decode cX3_kind 6 = .ok (.ldc 33, 2) := by decide +kernel
theorem dX3_kind_8 : decode cX3_kind 8 = .ok (.irem, 1) := by decide +kernel
theorem dX3_kind_9 : decode cX3_kind 9 = .ok (.istore_n 2, 1) := by decide +kernel
theorem dX3_kind_10 : decode cX3_kind 10 = .ok (.aload_n 0, 1) := by decide +kernel
theorem dX3_kind_11 : decode cX3_kind 11 = .ok (.getfield 17, 3) := by decide +kernel
theorem dX3_kind_14 : decode cX3_kind 14 = .ok (.iload_n 1, 1) := by decide +kernel
theorem dX3_kind_15 : decode cX3_kind 15 = .ok (.laload, 1) := by decide +kernel
theorem dX3_kind_16 : decode cX3_kind 16 = .ok (.lconst 0, 1) := by decide +kernel
theorem dX3_kind_17 : decode cX3_kind 17 = .ok (.lcmp, 1) := by decide +kernel
theorem dX3_kind_18 : decode cX3_kind 18 = .ok (.ifCond .eq 16, 3) := by decide +kernel
theorem dX3_kind_21 : decode cX3_kind 21 = .ok (.aload_n 0, 1) := by decide +kernel
theorem dX3_kind_22 : decode cX3_kind 22 = .ok (.getfield 17, 3) := by decide +kernel
theorem dX3_kind_25 : decode cX3_kind 25 = .ok (.iload_n 1, 1) := by decide +kernel
theorem dX3_kind_26 : decode cX3_kind 26 = .ok (.laload, 1) := by decide +kernel
theorem dX3_kind_27 : decode cX3_kind 27 = .ok (.ldc2_w 34, 3) := by decide +kernel
theorem dX3_kind_30 : decode cX3_kind 30 = .ok (.lcmp, 1) := by decide +kernel
theorem dX3_kind_31 : decode cX3_kind 31 = .ok (.ifCond .ne 7, 3) := by decide +kernel
theorem dX3_kind_34 : decode cX3_kind 34 = .ok (.iconst 1, 1) := by decide +kernel
theorem dX3_kind_35 : decode cX3_kind 35 = .ok (.goto 4, 3) := by decide +kernel
theorem dX3_kind_38 : decode cX3_kind 38 = .ok (.iconst 0, 1) := by decide +kernel
theorem dX3_kind_39 : decode cX3_kind 39 = .ok (.istore_n 3, 1) := by decide +kernel
theorem dX3_kind_40 : decode cX3_kind 40 = .ok (.iload_n 2, 1) := by decide +kernel
theorem dX3_kind_41 : decode cX3_kind 41 = .ok (.sipush 32767, 3) := by decide +kernel
theorem dX3_kind_44 : decode cX3_kind 44 = .ok (.if_icmp .ne 13, 3) := by decide +kernel
theorem dX3_kind_47 : decode cX3_kind 47 = .ok (.iload_n 3, 1) := by decide +kernel
theorem dX3_kind_48 : decode cX3_kind 48 = .ok (.ifCond .eq 7, 3) := by decide +kernel
theorem dX3_kind_51 : decode cX3_kind 51 = .ok (.iconst 4, 1) := by decide +kernel
theorem dX3_kind_52 : decode cX3_kind 52 = .ok (.goto 4, 3) := by decide +kernel
theorem dX3_kind_55 : decode cX3_kind 55 = .ok (.iconst 5, 1) := by decide +kernel
theorem dX3_kind_56 : decode cX3_kind 56 = .ok (.ireturn, 1) := by decide +kernel
theorem dX3_kind_57 : decode cX3_kind 57 = .ok (.iload_n 2, 1) := by decide +kernel
theorem dX3_kind_58 : decode cX3_kind 58 = .ok (.ifCond .ne 20, 3) := by decide +kernel
theorem dX3_kind_61 : decode cX3_kind 61 = .ok (.aload_n 0, 1) := by decide +kernel
theorem dX3_kind_62 : decode cX3_kind 62 = .ok (.getfield 17, 3) := by decide +kernel
theorem dX3_kind_65 : decode cX3_kind 65 = .ok (.iload_n 1, 1) := by decide +kernel
theorem dX3_kind_66 : decode cX3_kind 66 = .ok (.laload, 1) := by decide +kernel
theorem dX3_kind_67 : decode cX3_kind 67 = .ok (.lconst 0, 1) := by decide +kernel
theorem dX3_kind_68 : decode cX3_kind 68 = .ok (.lcmp, 1) := by decide +kernel
theorem dX3_kind_69 : decode cX3_kind 69 = .ok (.ifCond .ne 7, 3) := by decide +kernel
theorem dX3_kind_72 : decode cX3_kind 72 = .ok (.iconst 0, 1) := by decide +kernel
theorem dX3_kind_73 : decode cX3_kind 73 = .ok (.goto 4, 3) := by decide +kernel
theorem dX3_kind_76 : decode cX3_kind 76 = .ok (.iconst 1, 1) := by decide +kernel
theorem dX3_kind_77 : decode cX3_kind 77 = .ok (.ireturn, 1) := by decide +kernel
theorem dX3_kind_78 : decode cX3_kind 78 = .ok (.aload_n 0, 1) := by decide +kernel
theorem dX3_kind_79 : decode cX3_kind 79 = .ok (.getfield 17, 3) := by decide +kernel
theorem dX3_kind_82 : decode cX3_kind 82 = .ok (.iload_n 1, 1) := by decide +kernel
theorem dX3_kind_83 : decode cX3_kind 83 = .ok (.laload, 1) := by decide +kernel
theorem dX3_kind_84 : decode cX3_kind 84 = .ok (.lconst 0, 1) := by decide +kernel
theorem dX3_kind_85 : decode cX3_kind 85 = .ok (.lcmp, 1) := by decide +kernel
theorem dX3_kind_86 : decode cX3_kind 86 = .ok (.ifCond .ge 7, 3) := by decide +kernel
theorem dX3_kind_89 : decode cX3_kind 89 = .ok (.iconst 3, 1) := by decide +kernel
theorem dX3_kind_90 : decode cX3_kind 90 = .ok (.goto 4, 3) := by decide +kernel
theorem dX3_kind_93 : decode cX3_kind 93 = .ok (.iconst 2, 1) := by decide +kernel
theorem dX3_kind_94 : decode cX3_kind 94 = .ok (.ireturn, 1) := by decide +kernel
theorem dX3_minus_0 : decode cX3_minus 0 = .ok (.aload_n 0, 1) := by decide +kernel
theorem dX3_minus_1 : decode cX3_minus 1 = .ok (.getfield 13, 3) := by decide +kernel
theorem dX3_minus_4 : decode cX3_minus 4 = .ok (.iload_n 1, 1) := by decide +kernel
theorem dX3_minus_5 : decode cX3_minus 5 = .ok (.iaload, 1) := by decide +kernel
theorem dX3_minus_6 : decode cX3_minus 6 = .ok (.sipush 32767, 3) := by decide +kernel
theorem dX3_minus_9 : decode cX3_minus 9 = .ok (.if_icmp .le 7, 3) := by decide +kernel
theorem dX3_minus_12 : decode cX3_minus 12 = .ok (.iconst 1, 1) := by decide +kernel
theorem dX3_minus_13 : decode cX3_minus 13 = .ok (.goto 4, 3) := by decide +kernel
theorem dX3_minus_16 : decode cX3_minus 16 = .ok (.iconst 0, 1) := by decide +kernel
theorem dX3_minus_17 : decode cX3_minus 17 = .ok (.ireturn, 1) := by decide +kernel
set_option maxRecDepth 20000 in
theorem ggX3_nothing_X3_kind : GoodIn wsX3_nothing wsX3_kind := goodIn_r _ [6, 7, 8, 1, 9, 10, 11, 12, 13, 14, 15, 16, 17, 18, 19, 20, 21, 22] (by decide +kernel) (by decide +kernel)
set_option maxRecDepth 20000 in
theorem gX3_nothing_X3_kind : GoodIn wsX3_nothing (wsV RX3 46 RX3 yX3_kind wsX3_kind) := goodIn_app (goodIn_of _ (by decide +kernel)) ggX3_nothing_X3_kind
theorem dX3_nothing_0 : decode cX3_nothing 0 = .ok (.aload_n 0, 1) := by decide +kernel
theorem dX3_nothing_1 : decode cX3_nothing 1 = .ok (.iload_n 1, 1) := by decide +kernel
theorem dX3_nothing_2 : decode cX3_nothing 2 = .ok (.invokevirtual 46, 3) := by decide +kernel
theorem dX3_nothing_5 : decode cX3_nothing 5 = .ok (.iconst 3, 1) := by decide +kernel
theorem dX3_nothing_6 : decode cX3_nothing 6 = .ok (.if_icmp .ge 18, 3) := by decide +kernel
theorem dX3_nothing_9 : decode cX3_nothing 9 = .ok (.aload_n 0, 1) := by decide +kernel
theorem dX3_nothing_10 : decode cX3_nothing 10 = .ok (.getfield 17, 3) := by decide +kernel
theorem dX3_nothing_13 : decode cX3_nothing 13 = .ok (.iload_n 1, 1) := by decide +kernel
theorem dX3_nothing_14 : decode cX3_nothing 14 = .ok (.laload, 1) := by decide +kernel
theorem dX3_nothing_15 : decode cX3_nothing 15 = .ok (.lconst 0, 1) := by decide +kernel
theorem dX3_nothing_16 : decode cX3_nothing 16 = .ok (.lcmp, 1) := by decide +kernel
theorem dX3_nothing_17 : decode cX3_nothing 17 = .ok (.ifCond .ne 7, 3) := by decide +kernel
theorem dX3_nothing_20 : decode cX3_nothing 20 = .ok (.iconst 1, 1) := by decide +kernel
theorem dX3_nothing_21 : decode cX3_nothing 21 = .ok (.goto 4, 3) := by decide +kernel
theorem dX3_nothing_24 : decode cX3_nothing 24 = .ok (.iconst 0, 1) := by decide +kernel
theorem dX3_nothing_25 : decode cX3_nothing 25 = .ok (.ireturn, 1) := by decide +kernel
theorem dX3_unit_0 : decode cX3_unit 0 = .ok (.aload_n 0, 1) := by decide +kernel
theorem dX3_unit_1 : decode cX3_unit 1 = .ok (.getfield 13, 3) := by decide +kernel
theorem dX3_unit_4 : decode cX3_unit 4 = .ok (.iload_n 1, 1) := by decide +kernel
theorem dX3_unit_5 : decode cX3_unit 5 = .ok (.iaload, 1) := by decide +kernel
theorem dX3_unit_6 : decode cX3_unit 6 = .ok (.ldc 33, 2) := by decide +kernel
theorem dX3_unit_8 : decode cX3_unit 8 = .ok (.irem, 1) := by decide +kernel
theorem dX3_unit_9 : decode cX3_unit 9 = .ok (.ifCond .ne 7, 3) := by decide +kernel
theorem dX3_unit_12 : decode cX3_unit 12 = .ok (.iconst 1, 1) := by decide +kernel
theorem dX3_unit_13 : decode cX3_unit 13 = .ok (.goto 12, 3) := by decide +kernel
theorem dX3_unit_16 : decode cX3_unit 16 = .ok (.aload_n 0, 1) := by decide +kernel
theorem dX3_unit_17 : decode cX3_unit 17 = .ok (.getfield 13, 3) := by decide +kernel
theorem dX3_unit_20 : decode cX3_unit 20 = .ok (.iload_n 1, 1) := by decide +kernel
theorem dX3_unit_21 : decode cX3_unit 21 = .ok (.iaload, 1) := by decide +kernel
theorem dX3_unit_22 : decode cX3_unit 22 = .ok (.ldc 33, 2) := by decide +kernel
theorem dX3_unit_24 : decode cX3_unit 24 = .ok (.irem, 1) := by decide +kernel
theorem dX3_unit_25 : decode cX3_unit 25 = .ok (.sipush 16446, 3) := by decide +kernel
theorem dX3_unit_28 : decode cX3_unit 28 = .ok (.isub, 1) := by decide +kernel
theorem dX3_unit_29 : decode cX3_unit 29 = .ok (.ireturn, 1) := by decide +kernel
set_option maxRecDepth 20000 in
theorem ggX3_apart_X3_unit : GoodIn wsX3_apart wsX3_unit := goodIn_r _ [9, 10, 11, 12, 13, 14, 15, 16, 17, 18, 19, 20, 21, 22, 23, 24] (by decide +kernel) (by decide +kernel)
set_option maxRecDepth 20000 in
theorem gX3_apart_X3_unit : GoodIn wsX3_apart (wsV RX3 54 RX3 yX3_unit wsX3_unit) := goodIn_app (goodIn_of _ (by decide +kernel)) ggX3_apart_X3_unit
theorem dX3_apart_0 : decode cX3_apart 0 = .ok (.aload_n 0, 1) := by decide +kernel
theorem dX3_apart_1 : decode cX3_apart 1 = .ok (.aload_n 0, 1) := by decide +kernel
theorem dX3_apart_2 : decode cX3_apart 2 = .ok (.getfield 17, 3) := by decide +kernel
theorem dX3_apart_5 : decode cX3_apart 5 = .ok (.iload_n 1, 1) := by decide +kernel
theorem dX3_apart_6 : decode cX3_apart 6 = .ok (.laload, 1) := by decide +kernel
theorem dX3_apart_7 : decode cX3_apart 7 = .ok (.putfield 50, 3) := by decide +kernel
theorem dX3_apart_10 : decode cX3_apart 10 = .ok (.aload_n 0, 1) := by decide +kernel
theorem dX3_apart_11 : decode cX3_apart 11 = .ok (.aload_n 0, 1) := by decide +kernel
theorem dX3_apart_12 : decode cX3_apart 12 = .ok (.iload_n 1, 1) := by decide +kernel
theorem dX3_apart_13 : decode cX3_apart 13 = .ok (.invokevirtual 54, 3) := by decide +kernel
theorem dX3_apart_16 : decode cX3_apart 16 = .ok (.bipush 63, 2) := by decide +kernel
theorem dX3_apart_18 : decode cX3_apart 18 = .ok (.iadd, 1) := by decide +kernel
theorem dX3_apart_19 : decode cX3_apart 19 = .ok (.putfield 57, 3) := by decide +kernel
theorem dX3_apart_22 : decode cX3_apart 22 = .ok (.aload_n 0, 1) := by decide +kernel
theorem dX3_apart_23 : decode cX3_apart 23 = .ok (.getfield 50, 3) := by decide +kernel
theorem dX3_apart_26 : decode cX3_apart 26 = .ok (.lconst 0, 1) := by decide +kernel
theorem dX3_apart_27 : decode cX3_apart 27 = .ok (.lcmp, 1) := by decide +kernel
theorem dX3_apart_28 : decode cX3_apart 28 = .ok (.ifCond .le 28, 3) := by decide +kernel
theorem dX3_apart_31 : decode cX3_apart 31 = .ok (.aload_n 0, 1) := by decide +kernel
theorem dX3_apart_32 : decode cX3_apart 32 = .ok (.ldc2_w 60, 3) := by decide +kernel
theorem dX3_apart_35 : decode cX3_apart 35 = .ok (.aload_n 0, 1) := by decide +kernel
theorem dX3_apart_36 : decode cX3_apart 36 = .ok (.getfield 50, 3) := by decide +kernel
theorem dX3_apart_39 : decode cX3_apart 39 = .ok (.lmul, 1) := by decide +kernel
theorem dX3_apart_40 : decode cX3_apart 40 = .ok (.putfield 50, 3) := by decide +kernel
theorem dX3_apart_43 : decode cX3_apart 43 = .ok (.aload_n 0, 1) := by decide +kernel
theorem dX3_apart_44 : decode cX3_apart 44 = .ok (.dup, 1) := by decide +kernel
theorem dX3_apart_45 : decode cX3_apart 45 = .ok (.getfield 57, 3) := by decide +kernel
theorem dX3_apart_48 : decode cX3_apart 48 = .ok (.iconst 1, 1) := by decide +kernel
theorem dX3_apart_49 : decode cX3_apart 49 = .ok (.isub, 1) := by decide +kernel
theorem dX3_apart_50 : decode cX3_apart 50 = .ok (.putfield 57, 3) := by decide +kernel
theorem dX3_apart_53 : decode cX3_apart 53 = .ok (.goto (-31), 3) := by decide +kernel
theorem dX3_apart_56 : decode cX3_apart 56 = .ok (.return_, 1) := by decide +kernel
theorem dX3_lessSize_0 : decode cX3_lessSize 0 = .ok (.lload_n 0, 1) := by decide +kernel
theorem dX3_lessSize_1 : decode cX3_lessSize 1 = .ok (.ldc2_w 34, 3) := by decide +kernel
theorem dX3_lessSize_4 : decode cX3_lessSize 4 = .ok (.ladd, 1) := by decide +kernel
theorem dX3_lessSize_5 : decode cX3_lessSize 5 = .ok (.lload_n 2, 1) := by decide +kernel
theorem dX3_lessSize_6 : decode cX3_lessSize 6 = .ok (.ldc2_w 34, 3) := by decide +kernel
theorem dX3_lessSize_9 : decode cX3_lessSize 9 = .ok (.ladd, 1) := by decide +kernel
theorem dX3_lessSize_10 : decode cX3_lessSize 10 = .ok (.lcmp, 1) := by decide +kernel
theorem dX3_lessSize_11 : decode cX3_lessSize 11 = .ok (.ifCond .ge 7, 3) := by decide +kernel
theorem dX3_lessSize_14 : decode cX3_lessSize 14 = .ok (.iconst 1, 1) := by decide +kernel
theorem dX3_lessSize_15 : decode cX3_lessSize 15 = .ok (.goto 4, 3) := by decide +kernel
theorem dX3_lessSize_18 : decode cX3_lessSize 18 = .ok (.iconst 0, 1) := by decide +kernel
theorem dX3_lessSize_19 : decode cX3_lessSize 19 = .ok (.ireturn, 1) := by decide +kernel
theorem dX3_answer_0 : decode cX3_answer 0 = .ok (.aload_n 0, 1) := by decide +kernel
theorem dX3_answer_1 : decode cX3_answer 1 = .ok (.iload_n 1, 1) := by decide +kernel
theorem dX3_answer_2 : decode cX3_answer 2 = .ok (.putfield 62, 3) := by decide +kernel
theorem dX3_answer_5 : decode cX3_answer 5 = .ok (.aload_n 0, 1) := by decide +kernel
theorem dX3_answer_6 : decode cX3_answer 6 = .ok (.lload_n 2, 1) := by decide +kernel
theorem dX3_answer_7 : decode cX3_answer 7 = .ok (.putfield 65, 3) := by decide +kernel
theorem dX3_answer_10 : decode cX3_answer 10 = .ok (.aload_n 0, 1) := by decide +kernel
theorem dX3_answer_11 : decode cX3_answer 11 = .ok (.iconst 1, 1) := by decide +kernel
theorem dX3_answer_12 : decode cX3_answer 12 = .ok (.putfield 68, 3) := by decide +kernel
theorem dX3_answer_15 : decode cX3_answer 15 = .ok (.return_, 1) := by decide +kernel
set_option maxRecDepth 20000 in
theorem ggX3_tell_X3_masked : GoodIn wsX3_tell wsX3_masked := goodIn_r _ [6, 7, 8, 9, 10, 11, 12, 13, 14, 15, 16, 17, 18, 19, 20] (by decide +kernel) (by decide +kernel)
set_option maxRecDepth 20000 in
theorem gX3_tell_X3_masked : GoodIn wsX3_tell (wsV RX3 75 RX3 yX3_masked wsX3_masked) := goodIn_app (goodIn_of _ (by decide +kernel)) ggX3_tell_X3_masked
theorem dX3_tell_0 : decode cX3_tell 0 = .ok (.aload_n 0, 1) := by decide +kernel
theorem dX3_tell_1 : decode cX3_tell 1 = .ok (.aload_n 0, 1) := by decide +kernel
theorem dX3_tell_2 : decode cX3_tell 2 = .ok (.getfield 72, 3) := by decide +kernel
theorem dX3_tell_5 : decode cX3_tell 5 = .ok (.iload_n 1, 1) := by decide +kernel
theorem dX3_tell_6 : decode cX3_tell 6 = .ok (.idiv, 1) := by decide +kernel
theorem dX3_tell_7 : decode cX3_tell 7 = .ok (.iconst 2, 1) := by decide +kernel
theorem dX3_tell_8 : decode cX3_tell 8 = .ok (.irem, 1) := by decide +kernel
theorem dX3_tell_9 : decode cX3_tell 9 = .ok (.iconst 1, 1) := by decide +kernel
theorem dX3_tell_10 : decode cX3_tell 10 = .ok (.if_icmp .ne 10, 3) := by decide +kernel
theorem dX3_tell_13 : decode cX3_tell 13 = .ok (.aload_n 0, 1) := by decide +kernel
theorem dX3_tell_14 : decode cX3_tell 14 = .ok (.getfield 72, 3) := by decide +kernel
theorem dX3_tell_17 : decode cX3_tell 17 = .ok (.goto 9, 3) := by decide +kernel
theorem dX3_tell_20 : decode cX3_tell 20 = .ok (.aload_n 0, 1) := by decide +kernel
theorem dX3_tell_21 : decode cX3_tell 21 = .ok (.getfield 72, 3) := by decide +kernel
theorem dX3_tell_24 : decode cX3_tell 24 = .ok (.iload_n 1, 1) := by decide +kernel
theorem dX3_tell_25 : decode cX3_tell 25 = .ok (.iadd, 1) := by decide +kernel
theorem dX3_tell_26 : decode cX3_tell 26 = .ok (.putfield 72, 3) := by decide +kernel
theorem dX3_tell_29 : decode cX3_tell 29 = .ok (.aload_n 0, 1) := by decide +kernel
theorem dX3_tell_30 : decode cX3_tell 30 = .ok (.iload_n 1, 1) := by decide +kernel
theorem dX3_tell_31 : decode cX3_tell 31 = .ok (.invokevirtual 75, 3) := by decide +kernel
theorem dX3_tell_34 : decode cX3_tell 34 = .ok (.ireturn, 1) := by decide +kernel
theorem dX3_begin_0 : decode cX3_begin 0 = .ok (.aload_n 0, 1) := by decide +kernel
theorem dX3_begin_1 : decode cX3_begin 1 = .ok (.iconst 0, 1) := by decide +kernel
theorem dX3_begin_2 : decode cX3_begin 2 = .ok (.putfield 72, 3) := by decide +kernel
theorem dX3_begin_5 : decode cX3_begin 5 = .ok (.aload_n 0, 1) := by decide +kernel
theorem dX3_begin_6 : decode cX3_begin 6 = .ok (.iconst 0, 1) := by decide +kernel
theorem dX3_begin_7 : decode cX3_begin 7 = .ok (.putfield 68, 3) := by decide +kernel
theorem dX3_begin_10 : decode cX3_begin 10 = .ok (.return_, 1) := by decide +kernel
set_option maxRecDepth 20000 in
theorem ggX3_goesOn_X3_kind : GoodIn wsX3_goesOn wsX3_kind := goodIn_r _ [9, 2, 10, 1, 11, 36, 37, 38, 39, 40, 41, 42, 43, 44, 45, 46, 47, 48] (by decide +kernel) (by decide +kernel)
set_option maxRecDepth 20000 in
theorem gX3_goesOn_X3_kind : GoodIn wsX3_goesOn (wsV RX3 46 RX3 yX3_kind wsX3_kind) := goodIn_app (goodIn_of _ (by decide +kernel)) ggX3_goesOn_X3_kind
set_option maxRecDepth 20000 in
theorem ggX3_goesOn_X3_lessSize : GoodIn wsX3_goesOn wsX3_lessSize := goodIn_r _ [14, 11] (by decide +kernel) (by decide +kernel)
set_option maxRecDepth 20000 in
theorem gX3_goesOn_X3_lessSize : GoodIn wsX3_goesOn (va_wsS RX3 78 yX3_lessSize wsX3_lessSize) := goodIn_app (goodIn_of _ (by decide +kernel)) ggX3_goesOn_X3_lessSize
set_option maxRecDepth 20000 in
theorem ggX3_goesOn_X3_minus : GoodIn wsX3_goesOn wsX3_minus := goodIn_r _ [18, 2, 36, 37, 38, 39, 40, 41, 42, 43, 44, 45, 46, 47, 48] (by decide +kernel) (by decide +kernel)
set_option maxRecDepth 20000 in
theorem gX3_goesOn_X3_minus : GoodIn wsX3_goesOn (wsV RX3 82 RX3 yX3_minus wsX3_minus) := goodIn_app (goodIn_of _ (by decide +kernel)) ggX3_goesOn_X3_minus
set_option maxRecDepth 20000 in
theorem ggX3_goesOn_X3_tell : GoodIn wsX3_goesOn wsX3_tell := goodIn_r _ [22, 23, 24, 25, 26, 8, 27, 28, 36, 37, 38, 39, 40, 41, 42, 43, 44, 45, 46, 47, 48] (by decide +kernel) (by decide +kernel)
set_option maxRecDepth 20000 in
theorem gX3_goesOn_X3_tell : GoodIn wsX3_goesOn (wsV RX3 85 RX3 yX3_tell wsX3_tell) := goodIn_app (goodIn_of _ (by decide +kernel)) ggX3_goesOn_X3_tell
set_option maxRecDepth 20000 in
theorem ggX3_goesOn_X3_answer : GoodIn wsX3_goesOn wsX3_answer := goodIn_r _ [32, 33, 34, 35, 36, 37, 38, 39, 40, 41, 42, 43, 44, 45, 46, 47, 48] (by decide +kernel) (by decide +kernel)
set_option maxRecDepth 20000 in
theorem gX3_goesOn_X3_answer : GoodIn wsX3_goesOn (wsV RX3 88 RX3 yX3_answer wsX3_answer) := goodIn_app (goodIn_of _ (by decide +kernel)) ggX3_goesOn_X3_answer
theorem dX3_goesOn_0 : decode cX3_goesOn 0 = .ok (.aload_n 0, 1) := by decide +kernel
theorem dX3_goesOn_1 : decode cX3_goesOn 1 = .ok (.iload_n 1, 1) := by decide +kernel
theorem dX3_goesOn_2 : decode cX3_goesOn 2 = .ok (.invokevirtual 46, 3) := by decide +kernel
theorem dX3_goesOn_5 : decode cX3_goesOn 5 = .ok (.iconst 5, 1) := by decide +kernel
theorem dX3_goesOn_6 : decode cX3_goesOn 6 = .ok (.if_icmp .ne 7, 3) := by decide +kernel
theorem dX3_goesOn_9 : decode cX3_goesOn 9 = .ok (.iconst 1, 1) := by decide +kernel
theorem dX3_goesOn_10 : decode cX3_goesOn 10 = .ok (.goto 4, 3) := by decide +kernel
theorem dX3_goesOn_13 : decode cX3_goesOn 13 = .ok (.iconst 0, 1) := by decide +kernel
theorem dX3_goesOn_14 : decode cX3_goesOn 14 = .ok (.istore 4, 2) := by decide +kernel
theorem dX3_goesOn_16 : decode cX3_goesOn 16 = .ok (.iload_n 2, 1) := by decide +kernel
theorem dX3_goesOn_17 : decode cX3_goesOn 17 = .ok (.ifCond .lt 16, 3) := by decide +kernel
theorem dX3_goesOn_20 : decode cX3_goesOn 20 = .ok (.aload_n 0, 1) := by decide +kernel
theorem dX3_goesOn_21 : decode cX3_goesOn 21 = .ok (.iload_n 2, 1) := by decide +kernel
theorem dX3_goesOn_22 : decode cX3_goesOn 22 = .ok (.invokevirtual 46, 3) := by decide +kernel
theorem dX3_goesOn_25 : decode cX3_goesOn 25 = .ok (.iconst 5, 1) := by decide +kernel
theorem dX3_goesOn_26 : decode cX3_goesOn 26 = .ok (.if_icmp .ne 7, 3) := by decide +kernel
theorem dX3_goesOn_29 : decode cX3_goesOn 29 = .ok (.iconst 1, 1) := by decide +kernel
theorem dX3_goesOn_30 : decode cX3_goesOn 30 = .ok (.goto 4, 3) := by decide +kernel
theorem dX3_goesOn_33 : decode cX3_goesOn 33 = .ok (.iconst 0, 1) := by decide +kernel
theorem dX3_goesOn_34 : decode cX3_goesOn 34 = .ok (.istore 5, 2) := by decide +kernel
theorem dX3_goesOn_36 : decode cX3_goesOn 36 = .ok (.iload 4, 2) := by decide +kernel
theorem dX3_goesOn_38 : decode cX3_goesOn 38 = .ok (.ifCond .ne 8, 3) := by decide +kernel
theorem dX3_goesOn_41 : decode cX3_goesOn 41 = .ok (.iload 5, 2) := by decide +kernel
theorem dX3_goesOn_43 : decode cX3_goesOn 43 = .ok (.ifCond .eq 126, 3) := by decide +kernel
theorem dX3_goesOn_46 : decode cX3_goesOn 46 = .ok (.iload 4, 2) := by decide +kernel
theorem dX3_goesOn_48 : decode cX3_goesOn 48 = .ok (.ifCond .ne 7, 3) := by decide +kernel
theorem dX3_goesOn_51 : decode cX3_goesOn 51 = .ok (.iconst 1, 1) := by decide +kernel
theorem dX3_goesOn_52 : decode cX3_goesOn 52 = .ok (.goto 4, 3) := by decide +kernel
theorem dX3_goesOn_55 : decode cX3_goesOn 55 = .ok (.iconst 0, 1) := by decide +kernel
theorem dX3_goesOn_56 : decode cX3_goesOn 56 = .ok (.istore 6, 2) := by decide +kernel
theorem dX3_goesOn_58 : decode cX3_goesOn 58 = .ok (.iload 4, 2) := by decide +kernel
theorem dX3_goesOn_60 : decode cX3_goesOn 60 = .ok (.ifCond .eq 65, 3) := by decide +kernel
theorem dX3_goesOn_63 : decode cX3_goesOn 63 = .ok (.iload 5, 2) := by decide +kernel
theorem dX3_goesOn_65 : decode cX3_goesOn 65 = .ok (.ifCond .eq 60, 3) := by decide +kernel
theorem dX3_goesOn_68 : decode cX3_goesOn 68 = .ok (.aload_n 0, 1) := by decide +kernel
theorem dX3_goesOn_69 : decode cX3_goesOn 69 = .ok (.getfield 17, 3) := by decide +kernel
theorem dX3_goesOn_72 : decode cX3_goesOn 72 = .ok (.iload_n 1, 1) := by decide +kernel
theorem dX3_goesOn_73 : decode cX3_goesOn 73 = .ok (.laload, 1) := by decide +kernel
theorem dX3_goesOn_74 : decode cX3_goesOn 74 = .ok (.aload_n 0, 1) := by decide +kernel
theorem dX3_goesOn_75 : decode cX3_goesOn 75 = .ok (.getfield 17, 3) := by decide +kernel
theorem dX3_goesOn_78 : decode cX3_goesOn 78 = .ok (.iload_n 2, 1) := by decide +kernel
theorem dX3_goesOn_79 : decode cX3_goesOn 79 = .ok (.laload, 1) := by decide +kernel
theorem dX3_goesOn_80 : decode cX3_goesOn 80 = .ok (.invokestatic 78, 3) := by decide +kernel
theorem dX3_goesOn_83 : decode cX3_goesOn 83 = .ok (.ifCond .ne 35, 3) := by decide +kernel
theorem dX3_goesOn_86 : decode cX3_goesOn 86 = .ok (.aload_n 0, 1) := by decide +kernel
theorem dX3_goesOn_87 : decode cX3_goesOn 87 = .ok (.getfield 17, 3) := by decide +kernel
theorem dX3_goesOn_90 : decode cX3_goesOn 90 = .ok (.iload_n 1, 1) := by decide +kernel
theorem dX3_goesOn_91 : decode cX3_goesOn 91 = .ok (.laload, 1) := by decide +kernel
theorem dX3_goesOn_92 : decode cX3_goesOn 92 = .ok (.aload_n 0, 1) := by decide +kernel
theorem dX3_goesOn_93 : decode cX3_goesOn 93 = .ok (.getfield 17, 3) := by decide +kernel
theorem dX3_goesOn_96 : decode cX3_goesOn 96 = .ok (.iload_n 2, 1) := by decide +kernel
theorem dX3_goesOn_97 : decode cX3_goesOn 97 = .ok (.laload, 1) := by decide +kernel
theorem dX3_goesOn_98 : decode cX3_goesOn 98 = .ok (.lcmp, 1) := by decide +kernel
theorem dX3_goesOn_99 : decode cX3_goesOn 99 = .ok (.ifCond .ne 23, 3) := by decide +kernel
theorem dX3_goesOn_102 : decode cX3_goesOn 102 = .ok (.aload_n 0, 1) := by decide +kernel
theorem dX3_goesOn_103 : decode cX3_goesOn 103 = .ok (.iload_n 1, 1) := by decide +kernel
theorem dX3_goesOn_104 : decode cX3_goesOn 104 = .ok (.invokevirtual 82, 3) := by decide +kernel
theorem dX3_goesOn_107 : decode cX3_goesOn 107 = .ok (.ifCond .eq 15, 3) := by decide +kernel
theorem dX3_goesOn_110 : decode cX3_goesOn 110 = .ok (.aload_n 0, 1) := by decide +kernel
theorem dX3_goesOn_111 : decode cX3_goesOn 111 = .ok (.iload_n 2, 1) := by decide +kernel
theorem dX3_goesOn_112 : decode cX3_goesOn 112 = .ok (.invokevirtual 82, 3) := by decide +kernel
theorem dX3_goesOn_115 : decode cX3_goesOn 115 = .ok (.ifCond .ne 7, 3) := by decide +kernel
theorem dX3_goesOn_118 : decode cX3_goesOn 118 = .ok (.iconst 1, 1) := by decide +kernel
theorem dX3_goesOn_119 : decode cX3_goesOn 119 = .ok (.goto 4, 3) := by decide +kernel
theorem dX3_goesOn_122 : decode cX3_goesOn 122 = .ok (.iconst 0, 1) := by decide +kernel
theorem dX3_goesOn_123 : decode cX3_goesOn 123 = .ok (.istore 6, 2) := by decide +kernel
theorem dX3_goesOn_125 : decode cX3_goesOn 125 = .ok (.aload_n 0, 1) := by decide +kernel
theorem dX3_goesOn_126 : decode cX3_goesOn 126 = .ok (.iconst 1, 1) := by decide +kernel
theorem dX3_goesOn_127 : decode cX3_goesOn 127 = .ok (.invokevirtual 85, 3) := by decide +kernel
theorem dX3_goesOn_130 : decode cX3_goesOn 130 = .ok (.ifCond .eq 37, 3) := by decide +kernel
theorem dX3_goesOn_133 : decode cX3_goesOn 133 = .ok (.aload_n 0, 1) := by decide +kernel
theorem dX3_goesOn_134 : decode cX3_goesOn 134 = .ok (.aload_n 0, 1) := by decide +kernel
theorem dX3_goesOn_135 : decode cX3_goesOn 135 = .ok (.getfield 13, 3) := by decide +kernel
theorem dX3_goesOn_138 : decode cX3_goesOn 138 = .ok (.iload 6, 2) := by decide +kernel
theorem dX3_goesOn_140 : decode cX3_goesOn 140 = .ok (.ifCond .eq 7, 3) := by decide +kernel
theorem dX3_goesOn_143 : decode cX3_goesOn 143 = .ok (.iload_n 2, 1) := by decide +kernel
theorem dX3_goesOn_144 : decode cX3_goesOn 144 = .ok (.goto 4, 3) := by decide +kernel
theorem dX3_goesOn_147 : decode cX3_goesOn 147 = .ok (.iload_n 1, 1) := by decide +kernel
theorem dX3_goesOn_148 : decode cX3_goesOn 148 = .ok (.iaload, 1) := by decide +kernel
theorem dX3_goesOn_149 : decode cX3_goesOn 149 = .ok (.aload_n 0, 1) := by decide +kernel
theorem dX3_goesOn_150 : decode cX3_goesOn 150 = .ok (.getfield 17, 3) := by decide +kernel
theorem dX3_goesOn_153 : decode cX3_goesOn 153 = .ok (.iload 6, 2) := by decide +kernel
theorem dX3_goesOn_155 : decode cX3_goesOn 155 = .ok (.ifCond .eq 7, 3) := by decide +kernel
theorem dX3_goesOn_158 : decode cX3_goesOn 158 = .ok (.iload_n 2, 1) := by decide +kernel
theorem dX3_goesOn_159 : decode cX3_goesOn 159 = .ok (.goto 4, 3) := by decide +kernel
theorem dX3_goesOn_162 : decode cX3_goesOn 162 = .ok (.iload_n 1, 1) := by decide +kernel
theorem dX3_goesOn_163 : decode cX3_goesOn 163 = .ok (.laload, 1) := by decide +kernel
theorem dX3_goesOn_164 : decode cX3_goesOn 164 = .ok (.invokevirtual 88, 3) := by decide +kernel
theorem dX3_goesOn_167 : decode cX3_goesOn 167 = .ok (.iconst 0, 1) := by decide +kernel
theorem dX3_goesOn_168 : decode cX3_goesOn 168 = .ok (.ireturn, 1) := by decide +kernel
theorem dX3_goesOn_169 : decode cX3_goesOn 169 = .ok (.iload_n 3, 1) := by decide +kernel
theorem dX3_goesOn_170 : decode cX3_goesOn 170 = .ok (.ifCond .ne 22, 3) := by decide +kernel
theorem dX3_goesOn_173 : decode cX3_goesOn 173 = .ok (.aload_n 0, 1) := by decide +kernel
theorem dX3_goesOn_174 : decode cX3_goesOn 174 = .ok (.iconst 1, 1) := by decide +kernel
theorem dX3_goesOn_175 : decode cX3_goesOn 175 = .ok (.invokevirtual 85, 3) := by decide +kernel
theorem dX3_goesOn_178 : decode cX3_goesOn 178 = .ok (.ifCond .eq 12, 3) := by decide +kernel
theorem dX3_goesOn_181 : decode cX3_goesOn 181 = .ok (.aload_n 0, 1) := by decide +kernel
theorem dX3_goesOn_182 : decode cX3_goesOn 182 = .ok (.ldc 24, 2) := by decide +kernel
theorem dX3_goesOn_184 : decode cX3_goesOn 184 = .ok (.ldc2_w 92, 3) := by decide +kernel
theorem dX3_goesOn_187 : decode cX3_goesOn 187 = .ok (.invokevirtual 88, 3) := by decide +kernel
theorem dX3_goesOn_190 : decode cX3_goesOn 190 = .ok (.iconst 0, 1) := by decide +kernel
theorem dX3_goesOn_191 : decode cX3_goesOn 191 = .ok (.ireturn, 1) := by decide +kernel
theorem dX3_goesOn_192 : decode cX3_goesOn 192 = .ok (.aload_n 0, 1) := by decide +kernel
theorem dX3_goesOn_193 : decode cX3_goesOn 193 = .ok (.iload_n 1, 1) := by decide +kernel
theorem dX3_goesOn_194 : decode cX3_goesOn 194 = .ok (.invokevirtual 46, 3) := by decide +kernel
theorem dX3_goesOn_197 : decode cX3_goesOn 197 = .ok (.iconst 1, 1) := by decide +kernel
theorem dX3_goesOn_198 : decode cX3_goesOn 198 = .ok (.if_icmp .eq 16, 3) := by decide +kernel
theorem dX3_goesOn_201 : decode cX3_goesOn 201 = .ok (.iload_n 2, 1) := by decide +kernel
theorem dX3_goesOn_202 : decode cX3_goesOn 202 = .ok (.ifCond .lt 16, 3) := by decide +kernel
theorem dX3_goesOn_205 : decode cX3_goesOn 205 = .ok (.aload_n 0, 1) := by decide +kernel
theorem dX3_goesOn_206 : decode cX3_goesOn 206 = .ok (.iload_n 2, 1) := by decide +kernel
theorem dX3_goesOn_207 : decode cX3_goesOn 207 = .ok (.invokevirtual 46, 3) := by decide +kernel
theorem dX3_goesOn_210 : decode cX3_goesOn 210 = .ok (.iconst 1, 1) := by decide +kernel
theorem dX3_goesOn_211 : decode cX3_goesOn 211 = .ok (.if_icmp .ne 7, 3) := by decide +kernel
theorem dX3_goesOn_214 : decode cX3_goesOn 214 = .ok (.iconst 1, 1) := by decide +kernel
theorem dX3_goesOn_215 : decode cX3_goesOn 215 = .ok (.goto 4, 3) := by decide +kernel
theorem dX3_goesOn_218 : decode cX3_goesOn 218 = .ok (.iconst 0, 1) := by decide +kernel
theorem dX3_goesOn_219 : decode cX3_goesOn 219 = .ok (.istore 6, 2) := by decide +kernel
theorem dX3_goesOn_221 : decode cX3_goesOn 221 = .ok (.iload 6, 2) := by decide +kernel
theorem dX3_goesOn_223 : decode cX3_goesOn 223 = .ok (.ifCond .eq 11, 3) := by decide +kernel
theorem dX3_goesOn_226 : decode cX3_goesOn 226 = .ok (.aload_n 0, 1) := by decide +kernel
theorem dX3_goesOn_227 : decode cX3_goesOn 227 = .ok (.iconst 2, 1) := by decide +kernel
theorem dX3_goesOn_228 : decode cX3_goesOn 228 = .ok (.invokevirtual 85, 3) := by decide +kernel
theorem dX3_goesOn_231 : decode cX3_goesOn 231 = .ok (.ifCond .eq 7, 3) := by decide +kernel
theorem dX3_goesOn_234 : decode cX3_goesOn 234 = .ok (.iconst 1, 1) := by decide +kernel
theorem dX3_goesOn_235 : decode cX3_goesOn 235 = .ok (.goto 4, 3) := by decide +kernel
theorem dX3_goesOn_238 : decode cX3_goesOn 238 = .ok (.iconst 0, 1) := by decide +kernel
theorem dX3_goesOn_239 : decode cX3_goesOn 239 = .ok (.ireturn, 1) := by decide +kernel
set_option maxRecDepth 20000 in
theorem ggX3_rounded_X3_way : GoodIn wsX3_rounded wsX3_way := goodIn_r _ [8, 9, 10, 11, 12, 13, 14, 15, 16, 17, 18, 19, 20, 21, 22] (by decide +kernel) (by decide +kernel)
set_option maxRecDepth 20000 in
theorem gX3_rounded_X3_way : GoodIn wsX3_rounded (wsV RX3 101 RX3 yX3_way wsX3_way) := goodIn_app (goodIn_of _ (by decide +kernel)) ggX3_rounded_X3_way
theorem dX3_rounded_0 : decode cX3_rounded 0 = .ok (.lload_n 1, 1) := by decide +kernel
theorem dX3_rounded_1 : decode cX3_rounded 1 = .ok (.lstore 5, 2) := by decide +kernel
theorem dX3_rounded_3 : decode cX3_rounded 3 = .ok (.iconst 0, 1) := by decide +kernel
theorem dX3_rounded_4 : decode cX3_rounded 4 = .ok (.istore 7, 2) := by decide +kernel
theorem dX3_rounded_6 : decode cX3_rounded 6 = .ok (.iconst 0, 1) := by decide +kernel
theorem dX3_rounded_7 : decode cX3_rounded 7 = .ok (.istore 8, 2) := by decide +kernel
theorem dX3_rounded_9 : decode cX3_rounded 9 = .ok (.iconst 0, 1) := by decide +kernel
theorem dX3_rounded_10 : decode cX3_rounded 10 = .ok (.istore 9, 2) := by decide +kernel
theorem dX3_rounded_12 : decode cX3_rounded 12 = .ok (.iload 9, 2) := by decide +kernel
theorem dX3_rounded_14 : decode cX3_rounded 14 = .ok (.iload_n 3, 1) := by decide +kernel
theorem dX3_rounded_15 : decode cX3_rounded 15 = .ok (.if_icmp .ge 61, 3) := by decide +kernel
theorem dX3_rounded_18 : decode cX3_rounded 18 = .ok (.iload 9, 2) := by decide +kernel
theorem dX3_rounded_20 : decode cX3_rounded 20 = .ok (.bipush 70, 2) := by decide +kernel
theorem dX3_rounded_22 : decode cX3_rounded 22 = .ok (.if_icmp .ge 54, 3) := by decide +kernel
theorem dX3_rounded_25 : decode cX3_rounded 25 = .ok (.iload 8, 2) := by decide +kernel
theorem dX3_rounded_27 : decode cX3_rounded 27 = .ok (.ifCond .ne 8, 3) := by decide +kernel
theorem dX3_rounded_30 : decode cX3_rounded 30 = .ok (.iload 7, 2) := by decide +kernel
theorem dX3_rounded_32 : decode cX3_rounded 32 = .ok (.ifCond .eq 7, 3) := by decide +kernel
theorem dX3_rounded_35 : decode cX3_rounded 35 = .ok (.iconst 1, 1) := by decide +kernel
theorem dX3_rounded_36 : decode cX3_rounded 36 = .ok (.goto 4, 3) := by decide +kernel
theorem dX3_rounded_39 : decode cX3_rounded 39 = .ok (.iconst 0, 1) := by decide +kernel
theorem dX3_rounded_40 : decode cX3_rounded 40 = .ok (.istore 8, 2) := by decide +kernel
theorem dX3_rounded_42 : decode cX3_rounded 42 = .ok (.lload 5, 2) := by decide +kernel
theorem dX3_rounded_44 : decode cX3_rounded 44 = .ok (.ldc2_w 60, 3) := by decide +kernel
theorem dX3_rounded_47 : decode cX3_rounded 47 = .ok (.lrem, 1) := by decide +kernel
theorem dX3_rounded_48 : decode cX3_rounded 48 = .ok (.lconst 0, 1) := by decide +kernel
theorem dX3_rounded_49 : decode cX3_rounded 49 = .ok (.lcmp, 1) := by decide +kernel
theorem dX3_rounded_50 : decode cX3_rounded 50 = .ok (.ifCond .eq 7, 3) := by decide +kernel
theorem dX3_rounded_53 : decode cX3_rounded 53 = .ok (.iconst 1, 1) := by decide +kernel
theorem dX3_rounded_54 : decode cX3_rounded 54 = .ok (.goto 4, 3) := by decide +kernel
theorem dX3_rounded_57 : decode cX3_rounded 57 = .ok (.iconst 0, 1) := by decide +kernel
theorem dX3_rounded_58 : decode cX3_rounded 58 = .ok (.istore 7, 2) := by decide +kernel
theorem dX3_rounded_60 : decode cX3_rounded 60 = .ok (.lload 5, 2) := by decide +kernel
theorem dX3_rounded_62 : decode cX3_rounded 62 = .ok (.iconst 1, 1) := by decide +kernel
theorem dX3_rounded_63 : decode cX3_rounded 63 = .ok (.lshr, 1) := by decide +kernel
theorem dX3_rounded_64 : decode cX3_rounded 64 = .ok (.ldc2_w 96, 3) := by decide +kernel
theorem dX3_rounded_67 : decode cX3_rounded 67 = .ok (.land, 1) := by decide +kernel
theorem dX3_rounded_68 : decode cX3_rounded 68 = .ok (.lstore 5, 2) := by decide +kernel
theorem dX3_rounded_70 : decode cX3_rounded 70 = .ok (.iinc 9 1, 3) := by decide +kernel
theorem dX3_rounded_73 : decode cX3_rounded 73 = .ok (.goto (-61), 3) := by decide +kernel
theorem dX3_rounded_76 : decode cX3_rounded 76 = .ok (.iload 8, 2) := by decide +kernel
theorem dX3_rounded_78 : decode cX3_rounded 78 = .ok (.ifCond .ne 14, 3) := by decide +kernel
theorem dX3_rounded_81 : decode cX3_rounded 81 = .ok (.iload_n 3, 1) := by decide +kernel
theorem dX3_rounded_82 : decode cX3_rounded 82 = .ok (.bipush 70, 2) := by decide +kernel
theorem dX3_rounded_84 : decode cX3_rounded 84 = .ok (.if_icmp .le 12, 3) := by decide +kernel
theorem dX3_rounded_87 : decode cX3_rounded 87 = .ok (.iload 7, 2) := by decide +kernel
theorem dX3_rounded_89 : decode cX3_rounded 89 = .ok (.ifCond .eq 7, 3) := by decide +kernel
theorem dX3_rounded_92 : decode cX3_rounded 92 = .ok (.iconst 1, 1) := by decide +kernel
theorem dX3_rounded_93 : decode cX3_rounded 93 = .ok (.goto 4, 3) := by decide +kernel
theorem dX3_rounded_96 : decode cX3_rounded 96 = .ok (.iconst 0, 1) := by decide +kernel
theorem dX3_rounded_97 : decode cX3_rounded 97 = .ok (.istore 8, 2) := by decide +kernel
theorem dX3_rounded_99 : decode cX3_rounded 99 = .ok (.iload 7, 2) := by decide +kernel
theorem dX3_rounded_101 : decode cX3_rounded 101 = .ok (.ifCond .eq 13, 3) := by decide +kernel
theorem dX3_rounded_104 : decode cX3_rounded 104 = .ok (.iload_n 3, 1) := by decide +kernel
theorem dX3_rounded_105 : decode cX3_rounded 105 = .ok (.bipush 70, 2) := by decide +kernel
theorem dX3_rounded_107 : decode cX3_rounded 107 = .ok (.if_icmp .gt 7, 3) := by decide +kernel
theorem dX3_rounded_110 : decode cX3_rounded 110 = .ok (.iconst 1, 1) := by decide +kernel
theorem dX3_rounded_111 : decode cX3_rounded 111 = .ok (.goto 4, 3) := by decide +kernel
theorem dX3_rounded_114 : decode cX3_rounded 114 = .ok (.iconst 0, 1) := by decide +kernel
theorem dX3_rounded_115 : decode cX3_rounded 115 = .ok (.istore 7, 2) := by decide +kernel
theorem dX3_rounded_117 : decode cX3_rounded 117 = .ok (.aload_n 0, 1) := by decide +kernel
theorem dX3_rounded_118 : decode cX3_rounded 118 = .ok (.iload 7, 2) := by decide +kernel
theorem dX3_rounded_120 : decode cX3_rounded 120 = .ok (.ifCond .ne 8, 3) := by decide +kernel
theorem dX3_rounded_123 : decode cX3_rounded 123 = .ok (.iload 8, 2) := by decide +kernel
theorem dX3_rounded_125 : decode cX3_rounded 125 = .ok (.ifCond .eq 7, 3) := by decide +kernel
theorem dX3_rounded_128 : decode cX3_rounded 128 = .ok (.iconst 1, 1) := by decide +kernel
theorem dX3_rounded_129 : decode cX3_rounded 129 = .ok (.goto 4, 3) := by decide +kernel
theorem dX3_rounded_132 : decode cX3_rounded 132 = .ok (.iconst 0, 1) := by decide +kernel
theorem dX3_rounded_133 : decode cX3_rounded 133 = .ok (.putfield 98, 3) := by decide +kernel
theorem dX3_rounded_136 : decode cX3_rounded 136 = .ok (.aload_n 0, 1) := by decide +kernel
theorem dX3_rounded_137 : decode cX3_rounded 137 = .ok (.invokevirtual 101, 3) := by decide +kernel
theorem dX3_rounded_140 : decode cX3_rounded 140 = .ok (.ifCond .ne 32, 3) := by decide +kernel
theorem dX3_rounded_143 : decode cX3_rounded 143 = .ok (.iload 7, 2) := by decide +kernel
theorem dX3_rounded_145 : decode cX3_rounded 145 = .ok (.ifCond .eq 23, 3) := by decide +kernel
theorem dX3_rounded_148 : decode cX3_rounded 148 = .ok (.iload 8, 2) := by decide +kernel
theorem dX3_rounded_150 : decode cX3_rounded 150 = .ok (.ifCond .ne 14, 3) := by decide +kernel
theorem dX3_rounded_153 : decode cX3_rounded 153 = .ok (.lload 5, 2) := by decide +kernel
theorem dX3_rounded_155 : decode cX3_rounded 155 = .ok (.ldc2_w 60, 3) := by decide +kernel
theorem dX3_rounded_158 : decode cX3_rounded 158 = .ok (.lrem, 1) := by decide +kernel
theorem dX3_rounded_159 : decode cX3_rounded 159 = .ok (.lconst 1, 1) := by decide +kernel
theorem dX3_rounded_160 : decode cX3_rounded 160 = .ok (.lcmp, 1) := by decide +kernel
theorem dX3_rounded_161 : decode cX3_rounded 161 = .ok (.ifCond .ne 7, 3) := by decide +kernel
theorem dX3_rounded_164 : decode cX3_rounded 164 = .ok (.iconst 1, 1) := by decide +kernel
theorem dX3_rounded_165 : decode cX3_rounded 165 = .ok (.goto 36, 3) := by decide +kernel
theorem dX3_rounded_168 : decode cX3_rounded 168 = .ok (.iconst 0, 1) := by decide +kernel
theorem dX3_rounded_169 : decode cX3_rounded 169 = .ok (.goto 32, 3) := by decide +kernel
theorem dX3_rounded_172 : decode cX3_rounded 172 = .ok (.aload_n 0, 1) := by decide +kernel
theorem dX3_rounded_173 : decode cX3_rounded 173 = .ok (.getfield 98, 3) := by decide +kernel
theorem dX3_rounded_176 : decode cX3_rounded 176 = .ok (.ifCond .eq 24, 3) := by decide +kernel
theorem dX3_rounded_179 : decode cX3_rounded 179 = .ok (.aload_n 0, 1) := by decide +kernel
theorem dX3_rounded_180 : decode cX3_rounded 180 = .ok (.invokevirtual 101, 3) := by decide +kernel
theorem dX3_rounded_183 : decode cX3_rounded 183 = .ok (.iload 4, 2) := by decide +kernel
theorem dX3_rounded_185 : decode cX3_rounded 185 = .ok (.ifCond .eq 7, 3) := by decide +kernel
theorem dX3_rounded_188 : decode cX3_rounded 188 = .ok (.iconst 1, 1) := by decide +kernel
theorem dX3_rounded_189 : decode cX3_rounded 189 = .ok (.goto 4, 3) := by decide +kernel
theorem dX3_rounded_192 : decode cX3_rounded 192 = .ok (.iconst 2, 1) := by decide +kernel
theorem dX3_rounded_193 : decode cX3_rounded 193 = .ok (.if_icmp .ne 7, 3) := by decide +kernel
theorem dX3_rounded_196 : decode cX3_rounded 196 = .ok (.iconst 1, 1) := by decide +kernel
theorem dX3_rounded_197 : decode cX3_rounded 197 = .ok (.goto 4, 3) := by decide +kernel
theorem dX3_rounded_200 : decode cX3_rounded 200 = .ok (.iconst 0, 1) := by decide +kernel
theorem dX3_rounded_201 : decode cX3_rounded 201 = .ok (.istore 9, 2) := by decide +kernel
theorem dX3_rounded_203 : decode cX3_rounded 203 = .ok (.iload 9, 2) := by decide +kernel
theorem dX3_rounded_205 : decode cX3_rounded 205 = .ok (.ifCond .eq 10, 3) := by decide +kernel
theorem dX3_rounded_208 : decode cX3_rounded 208 = .ok (.lload 5, 2) := by decide +kernel
theorem dX3_rounded_210 : decode cX3_rounded 210 = .ok (.lconst 1, 1) := by decide +kernel
theorem dX3_rounded_211 : decode cX3_rounded 211 = .ok (.ladd, 1) := by decide +kernel
theorem dX3_rounded_212 : decode cX3_rounded 212 = .ok (.goto 5, 3) := by decide +kernel
theorem dX3_rounded_215 : decode cX3_rounded 215 = .ok (.lload 5, 2) := by decide +kernel
theorem dX3_rounded_217 : decode cX3_rounded 217 = .ok (.lreturn, 1) := by decide +kernel
set_option maxRecDepth 20000 in
theorem ggX3_make_X3_answer : GoodIn wsX3_make wsX3_answer := goodIn_r _ [10, 11, 12, 13, 33, 34, 35, 36, 37, 38, 39, 40, 41, 42, 43, 44, 45] (by decide +kernel) (by decide +kernel)
set_option maxRecDepth 20000 in
theorem gX3_make_X3_answer : GoodIn wsX3_make (wsV RX3 88 RX3 yX3_answer wsX3_answer) := goodIn_app (goodIn_of _ (by decide +kernel)) ggX3_make_X3_answer
set_option maxRecDepth 20000 in
theorem ggX3_make_X3_masked : GoodIn wsX3_make wsX3_masked := goodIn_r _ [17, 18, 33, 34, 35, 36, 37, 38, 39, 40, 41, 42, 43, 44, 45] (by decide +kernel) (by decide +kernel)
set_option maxRecDepth 20000 in
theorem gX3_make_X3_masked : GoodIn wsX3_make (wsV RX3 75 RX3 yX3_masked wsX3_masked) := goodIn_app (goodIn_of _ (by decide +kernel)) ggX3_make_X3_masked
set_option maxRecDepth 20000 in
theorem ggX3_make_X3_rounded : GoodIn wsX3_make wsX3_rounded := goodIn_r _ [22, 2, 23, 3, 24, 25, 26, 9, 27, 18, 33, 34, 35, 36, 37, 38, 39, 40, 41, 42, 43, 44, 45] (by decide +kernel) (by decide +kernel)
set_option maxRecDepth 20000 in
theorem gX3_make_X3_rounded : GoodIn wsX3_make (wsV RX3 105 RX3 yX3_rounded wsX3_rounded) := goodIn_app (goodIn_of _ (by decide +kernel)) ggX3_make_X3_rounded
set_option maxRecDepth 20000 in
theorem ggX3_make_X3_tell : GoodIn wsX3_make wsX3_tell := goodIn_r _ [31, 32, 14, 15, 16, 9, 17, 18, 33, 34, 35, 36, 37, 38, 39, 40, 41, 42, 43, 44, 45] (by decide +kernel) (by decide +kernel)
set_option maxRecDepth 20000 in
theorem gX3_make_X3_tell : GoodIn wsX3_make (wsV RX3 85 RX3 yX3_tell wsX3_tell) := goodIn_app (goodIn_of _ (by decide +kernel)) ggX3_make_X3_tell
set_option maxRecDepth 20000 in
theorem ggX3_make_X3_way : GoodIn wsX3_make wsX3_way := goodIn_r _ [27, 18, 33, 34, 35, 36, 37, 38, 39, 40, 41, 42, 43, 44, 45] (by decide +kernel) (by decide +kernel)
set_option maxRecDepth 20000 in
theorem gX3_make_X3_way : GoodIn wsX3_make (wsV RX3 101 RX3 yX3_way wsX3_way) := goodIn_app (goodIn_of _ (by decide +kernel)) ggX3_make_X3_way
theorem dX3_make_0 : decode cX3_make 0 = .ok (.iload_n 1, 1) := by decide +kernel
theorem dX3_make_1 : decode cX3_make 1 = .ok (.ifCond .eq 8, 3) := by decide +kernel
theorem dX3_make_4 : decode cX3_make 4 = .ok (.ldc 33, 2) := by decide +kernel
theorem dX3_make_6 : decode cX3_make 6 = .ok (.goto 4, 3) := by decide +kernel
theorem dX3_make_9 : decode cX3_make 9 = .ok (.iconst 0, 1) := by decide +kernel
theorem dX3_make_10 : decode cX3_make 10 = .ok (.istore 5, 2) := by decide +kernel
theorem dX3_make_12 : decode cX3_make 12 = .ok (.lload_n 2, 1) := by decide +kernel
theorem dX3_make_13 : decode cX3_make 13 = .ok (.lconst 0, 1) := by decide +kernel
theorem dX3_make_14 : decode cX3_make 14 = .ok (.lcmp, 1) := by decide +kernel
theorem dX3_make_15 : decode cX3_make 15 = .ok (.ifCond .ne 11, 3) := by decide +kernel
theorem dX3_make_18 : decode cX3_make 18 = .ok (.aload_n 0, 1) := by decide +kernel
theorem dX3_make_19 : decode cX3_make 19 = .ok (.iload 5, 2) := by decide +kernel
theorem dX3_make_21 : decode cX3_make 21 = .ok (.lconst 0, 1) := by decide +kernel
theorem dX3_make_22 : decode cX3_make 22 = .ok (.invokevirtual 88, 3) := by decide +kernel
theorem dX3_make_25 : decode cX3_make 25 = .ok (.return_, 1) := by decide +kernel
theorem dX3_make_26 : decode cX3_make 26 = .ok (.lload_n 2, 1) := by decide +kernel
theorem dX3_make_27 : decode cX3_make 27 = .ok (.lstore 6, 2) := by decide +kernel
theorem dX3_make_29 : decode cX3_make 29 = .ok (.iload 4, 2) := by decide +kernel
theorem dX3_make_31 : decode cX3_make 31 = .ok (.bipush 63, 2) := by decide +kernel
theorem dX3_make_33 : decode cX3_make 33 = .ok (.iadd, 1) := by decide +kernel
theorem dX3_make_34 : decode cX3_make 34 = .ok (.istore 8, 2) := by decide +kernel
theorem dX3_make_36 : decode cX3_make 36 = .ok (.lload 6, 2) := by decide +kernel
theorem dX3_make_38 : decode cX3_make 38 = .ok (.lconst 0, 1) := by decide +kernel
theorem dX3_make_39 : decode cX3_make 39 = .ok (.lcmp, 1) := by decide +kernel
theorem dX3_make_40 : decode cX3_make 40 = .ok (.ifCond .le 17, 3) := by decide +kernel
theorem dX3_make_43 : decode cX3_make 43 = .ok (.ldc2_w 60, 3) := by decide +kernel
theorem dX3_make_46 : decode cX3_make 46 = .ok (.lload 6, 2) := by decide +kernel
theorem dX3_make_48 : decode cX3_make 48 = .ok (.lmul, 1) := by decide +kernel
theorem dX3_make_49 : decode cX3_make 49 = .ok (.lstore 6, 2) := by decide +kernel
theorem dX3_make_51 : decode cX3_make 51 = .ok (.iinc 8 (-1), 3) := by decide +kernel
theorem dX3_make_54 : decode cX3_make 54 = .ok (.goto (-18), 3) := by decide +kernel
theorem dX3_make_57 : decode cX3_make 57 = .ok (.iload 8, 2) := by decide +kernel
theorem dX3_make_59 : decode cX3_make 59 = .ok (.sipush (-16382), 3) := by decide +kernel
theorem dX3_make_62 : decode cX3_make 62 = .ok (.if_icmp .ge 111, 3) := by decide +kernel
theorem dX3_make_65 : decode cX3_make 65 = .ok (.aload_n 0, 1) := by decide +kernel
theorem dX3_make_66 : decode cX3_make 66 = .ok (.bipush 16, 2) := by decide +kernel
theorem dX3_make_68 : decode cX3_make 68 = .ok (.invokevirtual 75, 3) := by decide +kernel
theorem dX3_make_71 : decode cX3_make 71 = .ok (.ifCond .eq 102, 3) := by decide +kernel
theorem dX3_make_74 : decode cX3_make 74 = .ok (.sipush (-16445), 3) := by decide +kernel
theorem dX3_make_77 : decode cX3_make 77 = .ok (.iload 4, 2) := by decide +kernel
theorem dX3_make_79 : decode cX3_make 79 = .ok (.isub, 1) := by decide +kernel
theorem dX3_make_80 : decode cX3_make 80 = .ok (.istore 9, 2) := by decide +kernel
theorem dX3_make_82 : decode cX3_make 82 = .ok (.lload_n 2, 1) := by decide +kernel
theorem dX3_make_83 : decode cX3_make 83 = .ok (.lstore 10, 2) := by decide +kernel
theorem dX3_make_85 : decode cX3_make 85 = .ok (.aload_n 0, 1) := by decide +kernel
theorem dX3_make_86 : decode cX3_make 86 = .ok (.iconst 0, 1) := by decide +kernel
theorem dX3_make_87 : decode cX3_make 87 = .ok (.putfield 98, 3) := by decide +kernel
theorem dX3_make_90 : decode cX3_make 90 = .ok (.iload 9, 2) := by decide +kernel
theorem dX3_make_92 : decode cX3_make 92 = .ok (.ifCond .le 13, 3) := by decide +kernel
theorem dX3_make_95 : decode cX3_make 95 = .ok (.aload_n 0, 1) := by decide +kernel
theorem dX3_make_96 : decode cX3_make 96 = .ok (.lload_n 2, 1) := by decide +kernel
theorem dX3_make_97 : decode cX3_make 97 = .ok (.iload 9, 2) := by decide +kernel
theorem dX3_make_99 : decode cX3_make 99 = .ok (.iload_n 1, 1) := by decide +kernel
theorem dX3_make_100 : decode cX3_make 100 = .ok (.invokevirtual 105, 3) := by decide +kernel
theorem dX3_make_103 : decode cX3_make 103 = .ok (.lstore 10, 2) := by decide +kernel
theorem dX3_make_105 : decode cX3_make 105 = .ok (.iload 9, 2) := by decide +kernel
theorem dX3_make_107 : decode cX3_make 107 = .ok (.istore 12, 2) := by decide +kernel
theorem dX3_make_109 : decode cX3_make 109 = .ok (.iload 12, 2) := by decide +kernel
theorem dX3_make_111 : decode cX3_make 111 = .ok (.ifCond .ge 17, 3) := by decide +kernel
theorem dX3_make_114 : decode cX3_make 114 = .ok (.ldc2_w 60, 3) := by decide +kernel
theorem dX3_make_117 : decode cX3_make 117 = .ok (.lload 10, 2) := by decide +kernel
theorem dX3_make_119 : decode cX3_make 119 = .ok (.lmul, 1) := by decide +kernel
theorem dX3_make_120 : decode cX3_make 120 = .ok (.lstore 10, 2) := by decide +kernel
theorem dX3_make_122 : decode cX3_make 122 = .ok (.iinc 12 1, 3) := by decide +kernel
theorem dX3_make_125 : decode cX3_make 125 = .ok (.goto (-16), 3) := by decide +kernel
theorem dX3_make_128 : decode cX3_make 128 = .ok (.aload_n 0, 1) := by decide +kernel
theorem dX3_make_129 : decode cX3_make 129 = .ok (.getfield 98, 3) := by decide +kernel
theorem dX3_make_132 : decode cX3_make 132 = .ok (.ifCond .eq 17, 3) := by decide +kernel
theorem dX3_make_135 : decode cX3_make 135 = .ok (.aload_n 0, 1) := by decide +kernel
theorem dX3_make_136 : decode cX3_make 136 = .ok (.bipush 16, 2) := by decide +kernel
theorem dX3_make_138 : decode cX3_make 138 = .ok (.invokevirtual 85, 3) := by decide +kernel
theorem dX3_make_141 : decode cX3_make 141 = .ok (.pop, 1) := by decide +kernel
theorem dX3_make_142 : decode cX3_make 142 = .ok (.aload_n 0, 1) := by decide +kernel
theorem dX3_make_143 : decode cX3_make 143 = .ok (.bipush 32, 2) := by decide +kernel
theorem dX3_make_145 : decode cX3_make 145 = .ok (.invokevirtual 85, 3) := by decide +kernel
theorem dX3_make_148 : decode cX3_make 148 = .ok (.pop, 1) := by decide +kernel
theorem dX3_make_149 : decode cX3_make 149 = .ok (.aload_n 0, 1) := by decide +kernel
theorem dX3_make_150 : decode cX3_make 150 = .ok (.iload 5, 2) := by decide +kernel
theorem dX3_make_152 : decode cX3_make 152 = .ok (.lload 10, 2) := by decide +kernel
theorem dX3_make_154 : decode cX3_make 154 = .ok (.lconst 0, 1) := by decide +kernel
theorem dX3_make_155 : decode cX3_make 155 = .ok (.lcmp, 1) := by decide +kernel
theorem dX3_make_156 : decode cX3_make 156 = .ok (.ifCond .ge 7, 3) := by decide +kernel
theorem dX3_make_159 : decode cX3_make 159 = .ok (.iconst 1, 1) := by decide +kernel
theorem dX3_make_160 : decode cX3_make 160 = .ok (.goto 4, 3) := by decide +kernel
theorem dX3_make_163 : decode cX3_make 163 = .ok (.iconst 0, 1) := by decide +kernel
theorem dX3_make_164 : decode cX3_make 164 = .ok (.iadd, 1) := by decide +kernel
theorem dX3_make_165 : decode cX3_make 165 = .ok (.lload 10, 2) := by decide +kernel
theorem dX3_make_167 : decode cX3_make 167 = .ok (.invokevirtual 88, 3) := by decide +kernel
theorem dX3_make_170 : decode cX3_make 170 = .ok (.goto 183, 3) := by decide +kernel
theorem dX3_make_173 : decode cX3_make 173 = .ok (.iload 8, 2) := by decide +kernel
theorem dX3_make_175 : decode cX3_make 175 = .ok (.sipush (-16382), 3) := by decide +kernel
theorem dX3_make_178 : decode cX3_make 178 = .ok (.if_icmp .ge 32, 3) := by decide +kernel
theorem dX3_make_181 : decode cX3_make 181 = .ok (.aload_n 0, 1) := by decide +kernel
theorem dX3_make_182 : decode cX3_make 182 = .ok (.bipush 16, 2) := by decide +kernel
theorem dX3_make_184 : decode cX3_make 184 = .ok (.invokevirtual 85, 3) := by decide +kernel
theorem dX3_make_187 : decode cX3_make 187 = .ok (.pop, 1) := by decide +kernel
theorem dX3_make_188 : decode cX3_make 188 = .ok (.aload_n 0, 1) := by decide +kernel
theorem dX3_make_189 : decode cX3_make 189 = .ok (.iload 5, 2) := by decide +kernel
theorem dX3_make_191 : decode cX3_make 191 = .ok (.iload 8, 2) := by decide +kernel
theorem dX3_make_193 : decode cX3_make 193 = .ok (.iadd, 1) := by decide +kernel
theorem dX3_make_194 : decode cX3_make 194 = .ok (.sipush 16383, 3) := by decide +kernel
theorem dX3_make_197 : decode cX3_make 197 = .ok (.iadd, 1) := by decide +kernel
theorem dX3_make_198 : decode cX3_make 198 = .ok (.sipush 24576, 3) := by decide +kernel
theorem dX3_make_201 : decode cX3_make 201 = .ok (.iadd, 1) := by decide +kernel
theorem dX3_make_202 : decode cX3_make 202 = .ok (.lload 6, 2) := by decide +kernel
theorem dX3_make_204 : decode cX3_make 204 = .ok (.invokevirtual 88, 3) := by decide +kernel
theorem dX3_make_207 : decode cX3_make 207 = .ok (.goto 146, 3) := by decide +kernel
theorem dX3_make_210 : decode cX3_make 210 = .ok (.iload 8, 2) := by decide +kernel
theorem dX3_make_212 : decode cX3_make 212 = .ok (.sipush 16384, 3) := by decide +kernel
theorem dX3_make_215 : decode cX3_make 215 = .ok (.if_icmp .ge 21, 3) := by decide +kernel
theorem dX3_make_218 : decode cX3_make 218 = .ok (.aload_n 0, 1) := by decide +kernel
theorem dX3_make_219 : decode cX3_make 219 = .ok (.iload 5, 2) := by decide +kernel
theorem dX3_make_221 : decode cX3_make 221 = .ok (.iload 8, 2) := by decide +kernel
theorem dX3_make_223 : decode cX3_make 223 = .ok (.iadd, 1) := by decide +kernel
theorem dX3_make_224 : decode cX3_make 224 = .ok (.sipush 16383, 3) := by decide +kernel
theorem dX3_make_227 : decode cX3_make 227 = .ok (.iadd, 1) := by decide +kernel
theorem dX3_make_228 : decode cX3_make 228 = .ok (.lload 6, 2) := by decide +kernel
theorem dX3_make_230 : decode cX3_make 230 = .ok (.invokevirtual 88, 3) := by decide +kernel
theorem dX3_make_233 : decode cX3_make 233 = .ok (.goto 120, 3) := by decide +kernel
theorem dX3_make_236 : decode cX3_make 236 = .ok (.aload_n 0, 1) := by decide +kernel
theorem dX3_make_237 : decode cX3_make 237 = .ok (.bipush 8, 2) := by decide +kernel
theorem dX3_make_239 : decode cX3_make 239 = .ok (.invokevirtual 75, 3) := by decide +kernel
theorem dX3_make_242 : decode cX3_make 242 = .ok (.ifCond .ne 32, 3) := by decide +kernel
theorem dX3_make_245 : decode cX3_make 245 = .ok (.aload_n 0, 1) := by decide +kernel
theorem dX3_make_246 : decode cX3_make 246 = .ok (.bipush 8, 2) := by decide +kernel
theorem dX3_make_248 : decode cX3_make 248 = .ok (.invokevirtual 85, 3) := by decide +kernel
theorem dX3_make_251 : decode cX3_make 251 = .ok (.pop, 1) := by decide +kernel
theorem dX3_make_252 : decode cX3_make 252 = .ok (.aload_n 0, 1) := by decide +kernel
theorem dX3_make_253 : decode cX3_make 253 = .ok (.iload 5, 2) := by decide +kernel
theorem dX3_make_255 : decode cX3_make 255 = .ok (.iload 8, 2) := by decide +kernel
theorem dX3_make_257 : decode cX3_make 257 = .ok (.iadd, 1) := by decide +kernel
theorem dX3_make_258 : decode cX3_make 258 = .ok (.sipush 16383, 3) := by decide +kernel
theorem dX3_make_261 : decode cX3_make 261 = .ok (.iadd, 1) := by decide +kernel
theorem dX3_make_262 : decode cX3_make 262 = .ok (.sipush 24576, 3) := by decide +kernel
theorem dX3_make_265 : decode cX3_make 265 = .ok (.isub, 1) := by decide +kernel
theorem dX3_make_266 : decode cX3_make 266 = .ok (.lload 6, 2) := by decide +kernel
theorem dX3_make_268 : decode cX3_make 268 = .ok (.invokevirtual 88, 3) := by decide +kernel
theorem dX3_make_271 : decode cX3_make 271 = .ok (.goto 82, 3) := by decide +kernel
theorem dX3_make_274 : decode cX3_make 274 = .ok (.aload_n 0, 1) := by decide +kernel
theorem dX3_make_275 : decode cX3_make 275 = .ok (.bipush 8, 2) := by decide +kernel
theorem dX3_make_277 : decode cX3_make 277 = .ok (.invokevirtual 85, 3) := by decide +kernel
theorem dX3_make_280 : decode cX3_make 280 = .ok (.pop, 1) := by decide +kernel
theorem dX3_make_281 : decode cX3_make 281 = .ok (.aload_n 0, 1) := by decide +kernel
theorem dX3_make_282 : decode cX3_make 282 = .ok (.bipush 32, 2) := by decide +kernel
theorem dX3_make_284 : decode cX3_make 284 = .ok (.invokevirtual 85, 3) := by decide +kernel
theorem dX3_make_287 : decode cX3_make 287 = .ok (.pop, 1) := by decide +kernel
theorem dX3_make_288 : decode cX3_make 288 = .ok (.aload_n 0, 1) := by decide +kernel
theorem dX3_make_289 : decode cX3_make 289 = .ok (.invokevirtual 101, 3) := by decide +kernel
theorem dX3_make_292 : decode cX3_make 292 = .ok (.ifCond .eq 19, 3) := by decide +kernel
theorem dX3_make_295 : decode cX3_make 295 = .ok (.aload_n 0, 1) := by decide +kernel
theorem dX3_make_296 : decode cX3_make 296 = .ok (.invokevirtual 101, 3) := by decide +kernel
theorem dX3_make_299 : decode cX3_make 299 = .ok (.iload_n 1, 1) := by decide +kernel
theorem dX3_make_300 : decode cX3_make 300 = .ok (.ifCond .eq 7, 3) := by decide +kernel
theorem dX3_make_303 : decode cX3_make 303 = .ok (.iconst 1, 1) := by decide +kernel
theorem dX3_make_304 : decode cX3_make 304 = .ok (.goto 4, 3) := by decide +kernel
theorem dX3_make_307 : decode cX3_make 307 = .ok (.iconst 2, 1) := by decide +kernel
theorem dX3_make_308 : decode cX3_make 308 = .ok (.if_icmp .ne 7, 3) := by decide +kernel
theorem dX3_make_311 : decode cX3_make 311 = .ok (.iconst 1, 1) := by decide +kernel
theorem dX3_make_312 : decode cX3_make 312 = .ok (.goto 4, 3) := by decide +kernel
theorem dX3_make_315 : decode cX3_make 315 = .ok (.iconst 0, 1) := by decide +kernel
theorem dX3_make_316 : decode cX3_make 316 = .ok (.istore 9, 2) := by decide +kernel
theorem dX3_make_318 : decode cX3_make 318 = .ok (.aload_n 0, 1) := by decide +kernel
theorem dX3_make_319 : decode cX3_make 319 = .ok (.iload 5, 2) := by decide +kernel
theorem dX3_make_321 : decode cX3_make 321 = .ok (.iload 9, 2) := by decide +kernel
theorem dX3_make_323 : decode cX3_make 323 = .ok (.ifCond .eq 9, 3) := by decide +kernel
theorem dX3_make_326 : decode cX3_make 326 = .ok (.sipush 32767, 3) := by decide +kernel
theorem dX3_make_329 : decode cX3_make 329 = .ok (.goto 6, 3) := by decide +kernel
theorem dX3_make_332 : decode cX3_make 332 = .ok (.sipush 32766, 3) := by decide +kernel
theorem dX3_make_335 : decode cX3_make 335 = .ok (.iadd, 1) := by decide +kernel
theorem dX3_make_336 : decode cX3_make 336 = .ok (.iload 9, 2) := by decide +kernel
theorem dX3_make_338 : decode cX3_make 338 = .ok (.ifCond .eq 9, 3) := by decide +kernel
theorem dX3_make_341 : decode cX3_make 341 = .ok (.ldc2_w 34, 3) := by decide +kernel
theorem dX3_make_344 : decode cX3_make 344 = .ok (.goto 6, 3) := by decide +kernel
theorem dX3_make_347 : decode cX3_make 347 = .ok (.ldc2_w 109, 3) := by decide +kernel
theorem dX3_make_350 : decode cX3_make 350 = .ok (.invokevirtual 88, 3) := by decide +kernel
theorem dX3_make_353 : decode cX3_make 353 = .ok (.return_, 1) := by decide +kernel
theorem dX3_keep_0 : decode cX3_keep 0 = .ok (.aload_n 0, 1) := by decide +kernel
theorem dX3_keep_1 : decode cX3_keep 1 = .ok (.getfield 68, 3) := by decide +kernel
theorem dX3_keep_4 : decode cX3_keep 4 = .ok (.ifCond .ne 4, 3) := by decide +kernel
theorem dX3_keep_7 : decode cX3_keep 7 = .ok (.return_, 1) := by decide +kernel
theorem dX3_keep_8 : decode cX3_keep 8 = .ok (.aload_n 0, 1) := by decide +kernel
theorem dX3_keep_9 : decode cX3_keep 9 = .ok (.getfield 13, 3) := by decide +kernel
theorem dX3_keep_12 : decode cX3_keep 12 = .ok (.iload_n 1, 1) := by decide +kernel
theorem dX3_keep_13 : decode cX3_keep 13 = .ok (.aload_n 0, 1) := by decide +kernel
theorem dX3_keep_14 : decode cX3_keep 14 = .ok (.getfield 62, 3) := by decide +kernel
theorem dX3_keep_17 : decode cX3_keep 17 = .ok (.iastore, 1) := by decide +kernel
theorem dX3_keep_18 : decode cX3_keep 18 = .ok (.aload_n 0, 1) := by decide +kernel
theorem dX3_keep_19 : decode cX3_keep 19 = .ok (.getfield 17, 3) := by decide +kernel
theorem dX3_keep_22 : decode cX3_keep 22 = .ok (.iload_n 1, 1) := by decide +kernel
theorem dX3_keep_23 : decode cX3_keep 23 = .ok (.aload_n 0, 1) := by decide +kernel
theorem dX3_keep_24 : decode cX3_keep 24 = .ok (.getfield 65, 3) := by decide +kernel
theorem dX3_keep_27 : decode cX3_keep 27 = .ok (.lastore, 1) := by decide +kernel
theorem dX3_keep_28 : decode cX3_keep 28 = .ok (.return_, 1) := by decide +kernel
set_option maxRecDepth 20000 in
theorem ggX3_whole_X3_none : GoodIn wsX3_whole wsX3_none := goodIn_r _ [9] (by decide +kernel) (by decide +kernel)
set_option maxRecDepth 20000 in
theorem gX3_whole_X3_none : GoodIn wsX3_whole (va_wsS RX3 25 yX3_none wsX3_none) := goodIn_app (goodIn_of _ (by decide +kernel)) ggX3_whole_X3_none
set_option maxRecDepth 20000 in
theorem ggX3_whole_X3_begin : GoodIn wsX3_whole wsX3_begin := goodIn_r _ [13, 5, 14, 72, 73, 74, 75, 76, 77, 78, 79, 80, 81, 82, 83, 84] (by decide +kernel) (by decide +kernel)
set_option maxRecDepth 20000 in
theorem gX3_whole_X3_begin : GoodIn wsX3_whole (wsV RX3 111 RX3 yX3_begin wsX3_begin) := goodIn_app (goodIn_of _ (by decide +kernel)) ggX3_whole_X3_begin
set_option maxRecDepth 20000 in
theorem ggX3_whole_X3_goesOn : GoodIn wsX3_whole wsX3_goesOn := goodIn_r _ [18, 3, 2, 19, 20, 21, 22, 23, 8, 24, 25, 26, 27, 28, 29, 30, 31, 32, 33, 34, 35, 36, 37, 5, 38, 39, 40, 41, 42, 43, 44, 45, 46, 47, 48, 14, 72, 73, 74, 75, 76, 77, 78, 79, 80, 81, 82, 83, 84] (by decide +kernel) (by decide +kernel)
set_option maxRecDepth 20000 in
theorem gX3_whole_X3_goesOn : GoodIn wsX3_whole (wsV RX3 114 RX3 yX3_goesOn wsX3_goesOn) := goodIn_app (goodIn_of _ (by decide +kernel)) ggX3_whole_X3_goesOn
set_option maxRecDepth 20000 in
theorem ggX3_whole_X3_kind : GoodIn wsX3_whole wsX3_kind := goodIn_r _ [24, 2, 25, 3, 26, 72, 73, 74, 75, 76, 77, 78, 79, 80, 81, 82, 83, 84] (by decide +kernel) (by decide +kernel)
set_option maxRecDepth 20000 in
theorem gX3_whole_X3_kind : GoodIn wsX3_whole (wsV RX3 46 RX3 yX3_kind wsX3_kind) := goodIn_app (goodIn_of _ (by decide +kernel)) ggX3_whole_X3_kind
set_option maxRecDepth 20000 in
theorem ggX3_whole_X3_answer : GoodIn wsX3_whole wsX3_answer := goodIn_r _ [46, 47, 48, 14, 72, 73, 74, 75, 76, 77, 78, 79, 80, 81, 82, 83, 84] (by decide +kernel) (by decide +kernel)
set_option maxRecDepth 20000 in
theorem gX3_whole_X3_answer : GoodIn wsX3_whole (wsV RX3 88 RX3 yX3_answer wsX3_answer) := goodIn_app (goodIn_of _ (by decide +kernel)) ggX3_whole_X3_answer
set_option maxRecDepth 20000 in
theorem ggX3_whole_X3_unit : GoodIn wsX3_whole wsX3_unit := goodIn_r _ [52, 2, 25, 72, 73, 74, 75, 76, 77, 78, 79, 80, 81, 82, 83, 84] (by decide +kernel) (by decide +kernel)
set_option maxRecDepth 20000 in
theorem gX3_whole_X3_unit : GoodIn wsX3_whole (wsV RX3 54 RX3 yX3_unit wsX3_unit) := goodIn_app (goodIn_of _ (by decide +kernel)) ggX3_whole_X3_unit
set_option maxRecDepth 20000 in
theorem ggX3_whole_X3_minus : GoodIn wsX3_whole wsX3_minus := goodIn_r _ [33, 2, 72, 73, 74, 75, 76, 77, 78, 79, 80, 81, 82, 83, 84] (by decide +kernel) (by decide +kernel)
set_option maxRecDepth 20000 in
theorem gX3_whole_X3_minus : GoodIn wsX3_whole (wsV RX3 82 RX3 yX3_minus wsX3_minus) := goodIn_app (goodIn_of _ (by decide +kernel)) ggX3_whole_X3_minus
set_option maxRecDepth 20000 in
theorem ggX3_whole_X3_make : GoodIn wsX3_whole wsX3_make := goodIn_r _ [56, 25, 57, 4, 26, 58, 43, 44, 45, 8, 46, 47, 48, 14, 38, 39, 40, 41, 42, 59, 60, 61, 62, 63, 64, 65, 66, 67, 34, 35, 36, 37, 5, 72, 73, 74, 75, 76, 77, 78, 79, 80, 81, 82, 83, 84] (by decide +kernel) (by decide +kernel)
set_option maxRecDepth 20000 in
theorem gX3_whole_X3_make : GoodIn wsX3_whole (wsV RX3 118 RX3 yX3_make wsX3_make) := goodIn_app (goodIn_of _ (by decide +kernel)) ggX3_whole_X3_make
set_option maxRecDepth 20000 in
theorem ggX3_whole_X3_rounded : GoodIn wsX3_whole wsX3_rounded := goodIn_r _ [62, 57, 63, 4, 64, 65, 66, 8, 67, 42, 72, 73, 74, 75, 76, 77, 78, 79, 80, 81, 82, 83, 84] (by decide +kernel) (by decide +kernel)
set_option maxRecDepth 20000 in
theorem gX3_whole_X3_rounded : GoodIn wsX3_whole (wsV RX3 105 RX3 yX3_rounded wsX3_rounded) := goodIn_app (goodIn_of _ (by decide +kernel)) ggX3_whole_X3_rounded
set_option maxRecDepth 20000 in
theorem ggX3_whole_X3_tell : GoodIn wsX3_whole wsX3_tell := goodIn_r _ [37, 5, 38, 39, 40, 8, 41, 42, 72, 73, 74, 75, 76, 77, 78, 79, 80, 81, 82, 83, 84] (by decide +kernel) (by decide +kernel)
set_option maxRecDepth 20000 in
theorem gX3_whole_X3_tell : GoodIn wsX3_whole (wsV RX3 85 RX3 yX3_tell wsX3_tell) := goodIn_app (goodIn_of _ (by decide +kernel)) ggX3_whole_X3_tell
set_option maxRecDepth 20000 in
theorem ggX3_whole_X3_keep : GoodIn wsX3_whole wsX3_keep := goodIn_r _ [71, 14, 2, 47, 3, 48, 72, 73, 74, 75, 76, 77, 78, 79, 80, 81, 82, 83, 84] (by decide +kernel) (by decide +kernel)
set_option maxRecDepth 20000 in
theorem gX3_whole_X3_keep : GoodIn wsX3_whole (wsV RX3 122 RX3 yX3_keep wsX3_keep) := goodIn_app (goodIn_of _ (by decide +kernel)) ggX3_whole_X3_keep
theorem dX3_whole_0 : decode cX3_whole 0 = .ok (.aload_n 0, 1) := by decide +kernel
theorem dX3_whole_1 : decode cX3_whole 1 = .ok (.iload_n 1, 1) := by decide +kernel
theorem dX3_whole_2 : decode cX3_whole 2 = .ok (.invokestatic 25, 3) := by decide +kernel
theorem dX3_whole_5 : decode cX3_whole 5 = .ok (.ifCond .ne 10, 3) := by decide +kernel
theorem dX3_whole_8 : decode cX3_whole 8 = .ok (.iload_n 2, 1) := by decide +kernel
theorem dX3_whole_9 : decode cX3_whole 9 = .ok (.invokestatic 25, 3) := by decide +kernel
theorem dX3_whole_12 : decode cX3_whole 12 = .ok (.ifCond .eq 7, 3) := by decide +kernel
theorem dX3_whole_15 : decode cX3_whole 15 = .ok (.iconst 1, 1) := by decide +kernel
theorem dX3_whole_16 : decode cX3_whole 16 = .ok (.goto 4, 3) := by decide +kernel
theorem dX3_whole_19 : decode cX3_whole 19 = .ok (.iconst 0, 1) := by decide +kernel
theorem dX3_whole_20 : decode cX3_whole 20 = .ok (.putfield 21, 3) := by decide +kernel
theorem dX3_whole_23 : decode cX3_whole 23 = .ok (.aload_n 0, 1) := by decide +kernel
theorem dX3_whole_24 : decode cX3_whole 24 = .ok (.getfield 21, 3) := by decide +kernel
theorem dX3_whole_27 : decode cX3_whole 27 = .ok (.ifCond .le 5, 3) := by decide +kernel
theorem dX3_whole_30 : decode cX3_whole 30 = .ok (.iconst 0, 1) := by decide +kernel
theorem dX3_whole_31 : decode cX3_whole 31 = .ok (.ireturn, 1) := by decide +kernel
theorem dX3_whole_32 : decode cX3_whole 32 = .ok (.aload_n 0, 1) := by decide +kernel
theorem dX3_whole_33 : decode cX3_whole 33 = .ok (.invokevirtual 111, 3) := by decide +kernel
theorem dX3_whole_36 : decode cX3_whole 36 = .ok (.aload_n 0, 1) := by decide +kernel
theorem dX3_whole_37 : decode cX3_whole 37 = .ok (.iload_n 1, 1) := by decide +kernel
theorem dX3_whole_38 : decode cX3_whole 38 = .ok (.iconst (-1), 1) := by decide +kernel
theorem dX3_whole_39 : decode cX3_whole 39 = .ok (.iconst 1, 1) := by decide +kernel
theorem dX3_whole_40 : decode cX3_whole 40 = .ok (.invokevirtual 114, 3) := by decide +kernel
theorem dX3_whole_43 : decode cX3_whole 43 = .ok (.ifCond .eq 109, 3) := by decide +kernel
theorem dX3_whole_46 : decode cX3_whole 46 = .ok (.aload_n 0, 1) := by decide +kernel
theorem dX3_whole_47 : decode cX3_whole 47 = .ok (.iload_n 1, 1) := by decide +kernel
theorem dX3_whole_48 : decode cX3_whole 48 = .ok (.invokevirtual 46, 3) := by decide +kernel
theorem dX3_whole_51 : decode cX3_whole 51 = .ok (.iconst 4, 1) := by decide +kernel
theorem dX3_whole_52 : decode cX3_whole 52 = .ok (.if_icmp .ne 22, 3) := by decide +kernel
