theorem dX2_init_0 : decode cX2_init 0 = .ok (.aload_n 0, 1) := by decide +kernel
theorem dX2_init_1 : decode cX2_init 1 = .ok (.invokespecial 3, 3) := by decide +kernel
theorem dX2_init_4 : decode cX2_init 4 = .ok (.aload_n 0, 1) := by decide +kernel
theorem dX2_init_5 : decode cX2_init 5 = .ok (.bipush 8, 2) := by decide +kernel
theorem dX2_init_7 : decode cX2_init 7 = .ok (.newarray .int, 2) := by decide +kernel
theorem dX2_init_9 : decode cX2_init 9 = .ok (.putfield 9, 3) := by decide +kernel
theorem dX2_init_12 : decode cX2_init 12 = .ok (.aload_n 0, 1) := by decide +kernel
theorem dX2_init_13 : decode cX2_init 13 = .ok (.bipush 8, 2) := by decide +kernel
theorem dX2_init_15 : decode cX2_init 15 = .ok (.newarray .long, 2) := by decide +kernel
theorem dX2_init_17 : decode cX2_init 17 = .ok (.putfield 13, 3) := by decide +kernel
theorem dX2_init_20 : decode cX2_init 20 = .ok (.aload_n 0, 1) := by decide +kernel
theorem dX2_init_21 : decode cX2_init 21 = .ok (.sipush 1023, 3) := by decide +kernel
theorem dX2_init_24 : decode cX2_init 24 = .ok (.putfield 17, 3) := by decide +kernel
theorem dX2_init_27 : decode cX2_init 27 = .ok (.aload_n 0, 1) := by decide +kernel
theorem dX2_init_28 : decode cX2_init 28 = .ok (.iconst 0, 1) := by decide +kernel
theorem dX2_init_29 : decode cX2_init 29 = .ok (.putfield 21, 3) := by decide +kernel
theorem dX2_init_32 : decode cX2_init 32 = .ok (.aload_n 0, 1) := by decide +kernel
theorem dX2_init_33 : decode cX2_init 33 = .ok (.iconst 0, 1) := by decide +kernel
theorem dX2_init_34 : decode cX2_init 34 = .ok (.putfield 24, 3) := by decide +kernel
theorem dX2_init_37 : decode cX2_init 37 = .ok (.aload_n 0, 1) := by decide +kernel
theorem dX2_init_38 : decode cX2_init 38 = .ok (.iconst 0, 1) := by decide +kernel
theorem dX2_init_39 : decode cX2_init 39 = .ok (.putfield 28, 3) := by decide +kernel
theorem dX2_init_42 : decode cX2_init 42 = .ok (.aload_n 0, 1) := by decide +kernel
theorem dX2_init_43 : decode cX2_init 43 = .ok (.iconst 0, 1) := by decide +kernel
theorem dX2_init_44 : decode cX2_init 44 = .ok (.putfield 31, 3) := by decide +kernel
theorem dX2_init_47 : decode cX2_init 47 = .ok (.return_, 1) := by decide +kernel
theorem dX2_control_0 : decode cX2_control 0 = .ok (.iload_n 1, 1) := by decide +kernel
theorem dX2_control_1 : decode cX2_control 1 = .ok (.ifCond .lt 9, 3) := by decide +kernel
theorem dX2_control_4 : decode cX2_control 4 = .ok (.iload_n 1, 1) := by decide +kernel
theorem dX2_control_5 : decode cX2_control 5 = .ok (.ldc 34, 2) := by decide +kernel
theorem dX2_control_7 : decode cX2_control 7 = .ok (.if_icmp .le 13, 3) := by decide +kernel
theorem dX2_control_10 : decode cX2_control 10 = .ok (.new 35, 3) := by decide +kernel
theorem dX2_control_13 : decode cX2_control 13 = .ok (.dup, 1) := by decide +kernel
theorem dX2_control_14 : decode cX2_control 14 = .ok (.ldc 37, 2) := by decide +kernel
theorem dX2_control_16 : decode cX2_control 16 = .ok (.invokespecial 39, 3) := by decide +kernel
theorem dX2_control_19 : decode cX2_control 19 = .ok (.athrow, 1) := by decide +kernel
theorem dX2_control_20 : decode cX2_control 20 = .ok (.aload_n 0, 1) := by decide +kernel
theorem dX2_control_21 : decode cX2_control 21 = .ok (.iload_n 1, 1) := by decide +kernel
theorem dX2_control_22 : decode cX2_control 22 = .ok (.putfield 17, 3) := by decide +kernel
theorem dX2_control_25 : decode cX2_control 25 = .ok (.return_, 1) := by decide +kernel
set_option maxRecDepth 20000 in
theorem ggX2_set_X2_needRegister : GoodIn wsX2_set wsX2_needRegister := goodIn_ca (goodIn_r _ [11, 12, 13] (by decide +kernel) (by decide +kernel)) (goodIn_sub (fun _ h => List.mem_cons_of_mem _ (List.mem_append_right _ h)) (by decide +kernel))
set_option maxRecDepth 20000 in
theorem gX2_set_X2_needRegister : GoodIn wsX2_set (va_wsS RX2 42 yX2_needRegister wsX2_needRegister) := goodIn_app (goodIn_of _ (by decide +kernel)) ggX2_set_X2_needRegister
set_option maxRecDepth 20000 in
theorem ggX2_set_X1_init : GoodIn wsX2_set wsX1_init := goodIn_r _ [15, 16, 17, 18, 19, 20, 27, 28] (by decide +kernel) (by decide +kernel)
set_option maxRecDepth 20000 in
theorem gX2_set_X1_init_n52 : GoodIn wsX2_set (wsX1_init) := ggX2_set_X1_init
set_option maxRecDepth 20000 in
theorem ggX2_set_X2_write : GoodIn wsX2_set wsX2_write := goodIn_r _ [24, 25, 26, 29, 30, 31, 32, 33, 34, 35, 27, 28] (by decide +kernel) (by decide +kernel)
set_option maxRecDepth 20000 in
theorem gX2_set_X2_write : GoodIn wsX2_set (wsV RX2 55 RX2 yX2_write wsX2_write) := goodIn_app (goodIn_of _ (by decide +kernel)) ggX2_set_X2_write
theorem dX2_set_0 : decode cX2_set 0 = .ok (.iload_n 1, 1) := by decide +kernel
theorem dX2_set_1 : decode cX2_set 1 = .ok (.invokestatic 42, 3) := by decide +kernel
theorem dX2_set_4 : decode cX2_set 4 = .ok (.iload_n 2, 1) := by decide +kernel
theorem dX2_set_5 : decode cX2_set 5 = .ok (.ifCond .lt 9, 3) := by decide +kernel
theorem dX2_set_8 : decode cX2_set 8 = .ok (.iload_n 2, 1) := by decide +kernel
theorem dX2_set_9 : decode cX2_set 9 = .ok (.ldc 34, 2) := by decide +kernel
theorem dX2_set_11 : decode cX2_set 11 = .ok (.if_icmp .le 13, 3) := by decide +kernel
theorem dX2_set_14 : decode cX2_set 14 = .ok (.new 35, 3) := by decide +kernel
theorem dX2_set_17 : decode cX2_set 17 = .ok (.dup, 1) := by decide +kernel
theorem dX2_set_18 : decode cX2_set 18 = .ok (.ldc 46, 2) := by decide +kernel
theorem dX2_set_20 : decode cX2_set 20 = .ok (.invokespecial 39, 3) := by decide +kernel
theorem dX2_set_23 : decode cX2_set 23 = .ok (.athrow, 1) := by decide +kernel
theorem dX2_set_24 : decode cX2_set 24 = .ok (.aload_n 0, 1) := by decide +kernel
theorem dX2_set_25 : decode cX2_set 25 = .ok (.iload_n 1, 1) := by decide +kernel
theorem dX2_set_26 : decode cX2_set 26 = .ok (.new 48, 3) := by decide +kernel
theorem dX2_set_29 : decode cX2_set 29 = .ok (.dup, 1) := by decide +kernel
theorem dX2_set_30 : decode cX2_set 30 = .ok (.iload_n 2, 1) := by decide +kernel
theorem dX2_set_31 : decode cX2_set 31 = .ok (.iload_n 3, 1) := by decide +kernel
theorem dX2_set_32 : decode cX2_set 32 = .ok (.i2l, 1) := by decide +kernel
theorem dX2_set_33 : decode cX2_set 33 = .ok (.bipush 32, 2) := by decide +kernel
theorem dX2_set_35 : decode cX2_set 35 = .ok (.lshl, 1) := by decide +kernel
theorem dX2_set_36 : decode cX2_set 36 = .ok (.iload 4, 2) := by decide +kernel
theorem dX2_set_38 : decode cX2_set 38 = .ok (.i2l, 1) := by decide +kernel
theorem dX2_set_39 : decode cX2_set 39 = .ok (.ldc2_w 50, 3) := by decide +kernel
theorem dX2_set_42 : decode cX2_set 42 = .ok (.land, 1) := by decide +kernel
theorem dX2_set_43 : decode cX2_set 43 = .ok (.lor, 1) := by decide +kernel
theorem dX2_set_44 : decode cX2_set 44 = .ok (.invokespecial 52, 3) := by decide +kernel
theorem dX2_set_47 : decode cX2_set 47 = .ok (.invokevirtual 55, 3) := by decide +kernel
theorem dX2_set_50 : decode cX2_set 50 = .ok (.return_, 1) := by decide +kernel
set_option maxRecDepth 20000 in
theorem ggX2_part_X2_needRegister : GoodIn wsX2_part wsX2_needRegister := goodIn_ca (goodIn_r _ [8, 9, 10] (by decide +kernel) (by decide +kernel)) (goodIn_sub (fun _ h => List.mem_cons_of_mem _ (List.mem_append_right _ h)) (by decide +kernel))
set_option maxRecDepth 20000 in
theorem gX2_part_X2_needRegister : GoodIn wsX2_part (va_wsS RX2 42 yX2_needRegister wsX2_needRegister) := goodIn_app (goodIn_of _ (by decide +kernel)) ggX2_part_X2_needRegister
theorem dX2_part_0 : decode cX2_part 0 = .ok (.iload_n 1, 1) := by decide +kernel
theorem dX2_part_1 : decode cX2_part 1 = .ok (.invokestatic 42, 3) := by decide +kernel
theorem dX2_part_4 : decode cX2_part 4 = .ok (.iload_n 2, 1) := by decide +kernel
theorem dX2_part_5 : decode cX2_part 5 = .ok (.tableswitch 53 0 2 #[27, 34, 45], 27) := by decide +kernel
theorem dX2_part_32 : decode cX2_part 32 = .ok (.aload_n 0, 1) := by decide +kernel
theorem dX2_part_33 : decode cX2_part 33 = .ok (.getfield 9, 3) := by decide +kernel
theorem dX2_part_36 : decode cX2_part 36 = .ok (.iload_n 1, 1) := by decide +kernel
theorem dX2_part_37 : decode cX2_part 37 = .ok (.iaload, 1) := by decide +kernel
theorem dX2_part_38 : decode cX2_part 38 = .ok (.ireturn, 1) := by decide +kernel
theorem dX2_part_39 : decode cX2_part 39 = .ok (.aload_n 0, 1) := by decide +kernel
theorem dX2_part_40 : decode cX2_part 40 = .ok (.getfield 13, 3) := by decide +kernel
theorem dX2_part_43 : decode cX2_part 43 = .ok (.iload_n 1, 1) := by decide +kernel
theorem dX2_part_44 : decode cX2_part 44 = .ok (.laload, 1) := by decide +kernel
theorem dX2_part_45 : decode cX2_part 45 = .ok (.bipush 32, 2) := by decide +kernel
theorem dX2_part_47 : decode cX2_part 47 = .ok (.lushr, 1) := by decide +kernel
theorem dX2_part_48 : decode cX2_part 48 = .ok (.l2i, 1) := by decide +kernel
theorem dX2_part_49 : decode cX2_part 49 = .ok (.ireturn, 1) := by decide +kernel
theorem dX2_part_50 : decode cX2_part 50 = .ok (.aload_n 0, 1) := by decide +kernel
theorem dX2_part_51 : decode cX2_part 51 = .ok (.getfield 13, 3) := by decide +kernel
theorem dX2_part_54 : decode cX2_part 54 = .ok (.iload_n 1, 1) := by decide +kernel
theorem dX2_part_55 : decode cX2_part 55 = .ok (.laload, 1) := by decide +kernel
theorem dX2_part_56 : decode cX2_part 56 = .ok (.l2i, 1) := by decide +kernel
theorem dX2_part_57 : decode cX2_part 57 = .ok (.ireturn, 1) := by decide +kernel
theorem dX2_part_58 : decode cX2_part 58 = .ok (.new 35, 3) := by decide +kernel
theorem dX2_part_61 : decode cX2_part 61 = .ok (.dup, 1) := by decide +kernel
theorem dX2_part_62 : decode cX2_part 62 = .ok (.ldc 59, 2) := by decide +kernel
theorem dX2_part_64 : decode cX2_part 64 = .ok (.invokespecial 39, 3) := by decide +kernel
theorem dX2_part_67 : decode cX2_part 67 = .ok (.athrow, 1) := by decide +kernel
set_option maxRecDepth 20000 in
theorem ggX2_turn_X2_needRegister : GoodIn wsX2_turn wsX2_needRegister := goodIn_ca (goodIn_r _ [7, 8, 9] (by decide +kernel) (by decide +kernel)) (goodIn_sub (fun _ h => List.mem_cons_of_mem _ (List.mem_append_right _ h)) (by decide +kernel))
set_option maxRecDepth 20000 in
theorem gX2_turn_X2_needRegister : GoodIn wsX2_turn (va_wsS RX2 42 yX2_needRegister wsX2_needRegister) := goodIn_app (goodIn_of _ (by decide +kernel)) ggX2_turn_X2_needRegister
theorem dX2_turn_0 : decode cX2_turn 0 = .ok (.iload_n 1, 1) := by decide +kernel
theorem dX2_turn_1 : decode cX2_turn 1 = .ok (.invokestatic 42, 3) := by decide +kernel
theorem dX2_turn_4 : decode cX2_turn 4 = .ok (.aload_n 0, 1) := by decide +kernel
theorem dX2_turn_5 : decode cX2_turn 5 = .ok (.getfield 9, 3) := by decide +kernel
theorem dX2_turn_8 : decode cX2_turn 8 = .ok (.iload_n 1, 1) := by decide +kernel
theorem dX2_turn_9 : decode cX2_turn 9 = .ok (.iload_n 2, 1) := by decide +kernel
theorem dX2_turn_10 : decode cX2_turn 10 = .ok (.ifCond .eq 15, 3) := by decide +kernel
theorem dX2_turn_13 : decode cX2_turn 13 = .ok (.aload_n 0, 1) := by decide +kernel
theorem dX2_turn_14 : decode cX2_turn 14 = .ok (.getfield 9, 3) := by decide +kernel
theorem dX2_turn_17 : decode cX2_turn 17 = .ok (.iload_n 1, 1) := by decide +kernel
theorem dX2_turn_18 : decode cX2_turn 18 = .ok (.iaload, 1) := by decide +kernel
theorem dX2_turn_19 : decode cX2_turn 19 = .ok (.ldc 61, 2) := by decide +kernel
theorem dX2_turn_21 : decode cX2_turn 21 = .ok (.iand, 1) := by decide +kernel
theorem dX2_turn_22 : decode cX2_turn 22 = .ok (.goto 12, 3) := by decide +kernel
theorem dX2_turn_25 : decode cX2_turn 25 = .ok (.aload_n 0, 1) := by decide +kernel
theorem dX2_turn_26 : decode cX2_turn 26 = .ok (.getfield 9, 3) := by decide +kernel
theorem dX2_turn_29 : decode cX2_turn 29 = .ok (.iload_n 1, 1) := by decide +kernel
theorem dX2_turn_30 : decode cX2_turn 30 = .ok (.iaload, 1) := by decide +kernel
theorem dX2_turn_31 : decode cX2_turn 31 = .ok (.ldc 62, 2) := by decide +kernel
theorem dX2_turn_33 : decode cX2_turn 33 = .ok (.ixor, 1) := by decide +kernel
theorem dX2_turn_34 : decode cX2_turn 34 = .ok (.iastore, 1) := by decide +kernel
theorem dX2_turn_35 : decode cX2_turn 35 = .ok (.return_, 1) := by decide +kernel
set_option maxRecDepth 20000 in
theorem ggX2_constant_X2_needRegister : GoodIn wsX2_constant wsX2_needRegister := goodIn_ca (goodIn_r _ [11, 12, 13] (by decide +kernel) (by decide +kernel)) (goodIn_sub (fun _ h => List.mem_cons_of_mem _ (List.mem_append_right _ h)) (by decide +kernel))
set_option maxRecDepth 20000 in
theorem gX2_constant_X2_needRegister : GoodIn wsX2_constant (va_wsS RX2 42 yX2_needRegister wsX2_needRegister) := goodIn_app (goodIn_of _ (by decide +kernel)) ggX2_constant_X2_needRegister
set_option maxRecDepth 20000 in
theorem ggX2_constant_X1_init : GoodIn wsX2_constant wsX1_init := goodIn_r _ [15, 16, 17, 18, 19, 20, 27, 28] (by decide +kernel) (by decide +kernel)
set_option maxRecDepth 20000 in
theorem gX2_constant_X1_init_n52 : GoodIn wsX2_constant (wsX1_init) := ggX2_constant_X1_init
set_option maxRecDepth 20000 in
theorem ggX2_constant_X2_write : GoodIn wsX2_constant wsX2_write := goodIn_r _ [24, 25, 26, 29, 30, 31, 32, 33, 34, 35, 27, 28] (by decide +kernel) (by decide +kernel)
set_option maxRecDepth 20000 in
theorem gX2_constant_X2_write : GoodIn wsX2_constant (wsV RX2 55 RX2 yX2_write wsX2_write) := goodIn_app (goodIn_of _ (by decide +kernel)) ggX2_constant_X2_write
theorem dX2_constant_0 : decode cX2_constant 0 = .ok (.iload_n 2, 1) := by decide +kernel
theorem dX2_constant_1 : decode cX2_constant 1 = .ok (.invokestatic 42, 3) := by decide +kernel
theorem dX2_constant_4 : decode cX2_constant 4 = .ok (.iload_n 1, 1) := by decide +kernel
theorem dX2_constant_5 : decode cX2_constant 5 = .ok (.ifCond .lt 19, 3) := by decide +kernel
theorem dX2_constant_8 : decode cX2_constant 8 = .ok (.iload_n 1, 1) := by decide +kernel
theorem dX2_constant_9 : decode cX2_constant 9 = .ok (.getstatic 63, 3) := by decide +kernel
theorem dX2_constant_12 : decode cX2_constant 12 = .ok (.arraylength, 1) := by decide +kernel
theorem dX2_constant_13 : decode cX2_constant 13 = .ok (.if_icmp .ge 11, 3) := by decide +kernel
theorem dX2_constant_16 : decode cX2_constant 16 = .ok (.iload_n 1, 1) := by decide +kernel
theorem dX2_constant_17 : decode cX2_constant 17 = .ok (.getstatic 66, 3) := by decide +kernel
theorem dX2_constant_20 : decode cX2_constant 20 = .ok (.arraylength, 1) := by decide +kernel
theorem dX2_constant_21 : decode cX2_constant 21 = .ok (.if_icmp .lt 13, 3) := by decide +kernel
theorem dX2_constant_24 : decode cX2_constant 24 = .ok (.new 35, 3) := by decide +kernel
theorem dX2_constant_27 : decode cX2_constant 27 = .ok (.dup, 1) := by decide +kernel
theorem dX2_constant_28 : decode cX2_constant 28 = .ok (.ldc 69, 2) := by decide +kernel
theorem dX2_constant_30 : decode cX2_constant 30 = .ok (.invokespecial 39, 3) := by decide +kernel
theorem dX2_constant_33 : decode cX2_constant 33 = .ok (.athrow, 1) := by decide +kernel
theorem dX2_constant_34 : decode cX2_constant 34 = .ok (.aload_n 0, 1) := by decide +kernel
theorem dX2_constant_35 : decode cX2_constant 35 = .ok (.iload_n 2, 1) := by decide +kernel
theorem dX2_constant_36 : decode cX2_constant 36 = .ok (.new 48, 3) := by decide +kernel
theorem dX2_constant_39 : decode cX2_constant 39 = .ok (.dup, 1) := by decide +kernel
theorem dX2_constant_40 : decode cX2_constant 40 = .ok (.getstatic 63, 3) := by decide +kernel
theorem dX2_constant_43 : decode cX2_constant 43 = .ok (.iload_n 1, 1) := by decide +kernel
theorem dX2_constant_44 : decode cX2_constant 44 = .ok (.iaload, 1) := by decide +kernel
theorem dX2_constant_45 : decode cX2_constant 45 = .ok (.getstatic 66, 3) := by decide +kernel
theorem dX2_constant_48 : decode cX2_constant 48 = .ok (.iload_n 1, 1) := by decide +kernel
theorem dX2_constant_49 : decode cX2_constant 49 = .ok (.laload, 1) := by decide +kernel
theorem dX2_constant_50 : decode cX2_constant 50 = .ok (.invokespecial 52, 3) := by decide +kernel
theorem dX2_constant_53 : decode cX2_constant 53 = .ok (.invokevirtual 55, 3) := by decide +kernel
theorem dX2_constant_56 : decode cX2_constant 56 = .ok (.return_, 1) := by decide +kernel
set_option maxRecDepth 20000 in
theorem ggX2_whole_X2_needRegister : GoodIn wsX2_whole wsX2_needRegister := goodIn_ca (goodIn_r _ [6, 7, 8] (by decide +kernel) (by decide +kernel)) (goodIn_sub (fun _ h => List.mem_cons_of_mem _ (List.mem_append_right _ h)) (by decide +kernel))
set_option maxRecDepth 20000 in
theorem gX2_whole_X2_needRegister : GoodIn wsX2_whole (va_wsS RX2 42 yX2_needRegister wsX2_needRegister) := goodIn_app (goodIn_of _ (by decide +kernel)) ggX2_whole_X2_needRegister
set_option maxRecDepth 20000 in
theorem ggX2_whole_X2_read : GoodIn wsX2_whole wsX2_read := goodIn_r _ [12, 13, 14, 15, 16, 17, 18, 19, 20, 21, 22, 23, 24, 160, 161, 153, 154, 155, 156, 157, 158, 159] (by decide +kernel) (by decide +kernel)
set_option maxRecDepth 20000 in
theorem gX2_whole_X2_read : GoodIn wsX2_whole (wsV RX2 71 RX2 yX2_read wsX2_read) := goodIn_app (goodIn_of _ (by decide +kernel)) ggX2_whole_X2_read
set_option maxRecDepth 20000 in
theorem ggX2_whole_X2_goesOn : GoodIn wsX2_whole wsX2_goesOn := goodIn_r _ [28, 2, 1, 29, 30, 31, 15, 32, 33, 34, 35, 36, 37, 24, 38, 39, 40, 41, 42, 43, 44, 45, 46, 47, 23, 48, 49, 50, 5, 51, 52, 53, 54, 55, 56, 153, 154, 155, 156, 157, 158, 159, 160, 161] (by decide +kernel) (by decide +kernel)
set_option maxRecDepth 20000 in
theorem gX2_whole_X2_goesOn : GoodIn wsX2_whole (wsV RX2 75 RX2 yX2_goesOn wsX2_goesOn) := goodIn_app (goodIn_of _ (by decide +kernel)) ggX2_whole_X2_goesOn
set_option maxRecDepth 20000 in
theorem ggX2_whole_X2_wholeOf : GoodIn wsX2_whole wsX2_wholeOf := goodIn_r _ [60, 61, 2, 31, 15, 32, 33, 34, 35, 36, 37, 24, 38, 39, 40, 41, 42, 43, 44, 45, 46, 47, 23, 62, 63, 64, 65, 66, 67, 68, 69, 70, 71, 72, 73, 74, 75, 76, 77, 78, 79, 80, 81, 82, 83, 84, 85, 86, 87, 88, 89, 90, 91, 5, 92, 93, 94, 95, 13, 14, 96, 97, 98, 99, 18, 19, 20, 21, 22, 100, 101, 102, 103, 104, 52, 53, 54, 55, 56, 105, 106, 107, 108, 109, 110, 111, 112, 113, 114, 115, 116, 117, 118, 119, 120, 121, 122, 123, 124, 125, 126, 127, 128, 129, 130, 131, 132, 133, 134, 135, 136, 137, 138, 139, 140, 160, 161, 153, 154, 155, 156, 157, 158, 159] (by decide +kernel) (by decide +kernel)
set_option maxRecDepth 20000 in
theorem gX2_whole_X2_wholeOf : GoodIn wsX2_whole (wsV RX2 79 RX2 yX2_wholeOf wsX2_wholeOf) := goodIn_app (goodIn_of _ (by decide +kernel)) ggX2_whole_X2_wholeOf
set_option maxRecDepth 20000 in
theorem ggX2_whole_X2_write : GoodIn wsX2_whole wsX2_write := goodIn_r _ [144, 16, 17, 153, 154, 155, 156, 157, 158, 159, 160, 161] (by decide +kernel) (by decide +kernel)
set_option maxRecDepth 20000 in
theorem gX2_whole_X2_write : GoodIn wsX2_whole (wsV RX2 55 RX2 yX2_write wsX2_write) := goodIn_app (goodIn_of _ (by decide +kernel)) ggX2_whole_X2_write
set_option maxRecDepth 20000 in
theorem ggX2_whole_X2_substitute : GoodIn wsX2_whole wsX2_substitute := goodIn_r _ [147, 29, 13, 14, 15, 148, 149, 31, 32, 33, 34, 35, 36, 37, 24, 38, 39, 40, 41, 42, 43, 44, 45, 46, 47, 23, 150, 151, 5, 152, 62, 63, 64, 65, 122, 123, 79, 124, 125, 126, 127, 128, 18, 19, 20, 21, 22, 160, 161] (by decide +kernel) (by decide +kernel)
set_option maxRecDepth 20000 in
theorem gX2_whole_X2_substitute : GoodIn wsX2_whole (va_wsS RX2 83 yX2_substitute wsX2_substitute) := goodIn_app (goodIn_of _ (by decide +kernel)) ggX2_whole_X2_substitute
theorem dX2_whole_0 : decode cX2_whole 0 = .ok (.iload_n 1, 1) := by decide +kernel
theorem dX2_whole_1 : decode cX2_whole 1 = .ok (.invokestatic 42, 3) := by decide +kernel
theorem dX2_whole_4 : decode cX2_whole 4 = .ok (.iload_n 2, 1) := by decide +kernel
theorem dX2_whole_5 : decode cX2_whole 5 = .ok (.invokestatic 42, 3) := by decide +kernel
theorem dX2_whole_8 : decode cX2_whole 8 = .ok (.aload_n 0, 1) := by decide +kernel
theorem dX2_whole_9 : decode cX2_whole 9 = .ok (.iload_n 1, 1) := by decide +kernel
theorem dX2_whole_10 : decode cX2_whole 10 = .ok (.invokevirtual 71, 3) := by decide +kernel
theorem dX2_whole_13 : decode cX2_whole 13 = .ok (.astore_n 3, 1) := by decide +kernel
theorem dX2_whole_14 : decode cX2_whole 14 = .ok (.aload_n 0, 1) := by decide +kernel
theorem dX2_whole_15 : decode cX2_whole 15 = .ok (.aload_n 3, 1) := by decide +kernel
theorem dX2_whole_16 : decode cX2_whole 16 = .ok (.aload_n 3, 1) := by decide +kernel
theorem dX2_whole_17 : decode cX2_whole 17 = .ok (.iconst 0, 1) := by decide +kernel
theorem dX2_whole_18 : decode cX2_whole 18 = .ok (.iconst 0, 1) := by decide +kernel
theorem dX2_whole_19 : decode cX2_whole 19 = .ok (.invokevirtual 75, 3) := by decide +kernel
theorem dX2_whole_22 : decode cX2_whole 22 = .ok (.ifCond .eq 16, 3) := by decide +kernel
theorem dX2_whole_25 : decode cX2_whole 25 = .ok (.aload_n 0, 1) := by decide +kernel
theorem dX2_whole_26 : decode cX2_whole 26 = .ok (.iload_n 2, 1) := by decide +kernel
theorem dX2_whole_27 : decode cX2_whole 27 = .ok (.aload_n 0, 1) := by decide +kernel
theorem dX2_whole_28 : decode cX2_whole 28 = .ok (.aload_n 3, 1) := by decide +kernel
theorem dX2_whole_29 : decode cX2_whole 29 = .ok (.invokevirtual 79, 3) := by decide +kernel
theorem dX2_whole_32 : decode cX2_whole 32 = .ok (.invokevirtual 55, 3) := by decide +kernel
theorem dX2_whole_35 : decode cX2_whole 35 = .ok (.goto 20, 3) := by decide +kernel
theorem dX2_whole_38 : decode cX2_whole 38 = .ok (.aload_n 0, 1) := by decide +kernel
theorem dX2_whole_39 : decode cX2_whole 39 = .ok (.getfield 24, 3) := by decide +kernel
theorem dX2_whole_42 : decode cX2_whole 42 = .ok (.ifCond .eq 13, 3) := by decide +kernel
theorem dX2_whole_45 : decode cX2_whole 45 = .ok (.aload_n 0, 1) := by decide +kernel
theorem dX2_whole_46 : decode cX2_whole 46 = .ok (.iload_n 2, 1) := by decide +kernel
theorem dX2_whole_47 : decode cX2_whole 47 = .ok (.aload_n 3, 1) := by decide +kernel
theorem dX2_whole_48 : decode cX2_whole 48 = .ok (.aload_n 3, 1) := by decide +kernel
theorem dX2_whole_49 : decode cX2_whole 49 = .ok (.invokestatic 83, 3) := by decide +kernel
theorem dX2_whole_52 : decode cX2_whole 52 = .ok (.invokevirtual 55, 3) := by decide +kernel
theorem dX2_whole_55 : decode cX2_whole 55 = .ok (.aload_n 0, 1) := by decide +kernel
theorem dX2_whole_56 : decode cX2_whole 56 = .ok (.getfield 21, 3) := by decide +kernel
theorem dX2_whole_59 : decode cX2_whole 59 = .ok (.ireturn, 1) := by decide +kernel
set_option maxRecDepth 20000 in
theorem ggX2_scale_X2_needRegister : GoodIn wsX2_scale wsX2_needRegister := goodIn_ca (goodIn_r _ [6, 7, 8] (by decide +kernel) (by decide +kernel)) (goodIn_sub (fun _ h => List.mem_cons_of_mem _ (List.mem_append_right _ h)) (by decide +kernel))
set_option maxRecDepth 20000 in
theorem gX2_scale_X2_needRegister : GoodIn wsX2_scale (va_wsS RX2 42 yX2_needRegister wsX2_needRegister) := goodIn_app (goodIn_of _ (by decide +kernel)) ggX2_scale_X2_needRegister
set_option maxRecDepth 20000 in
theorem ggX2_scale_X2_read : GoodIn wsX2_scale wsX2_read := goodIn_r _ [12, 13, 14, 15, 16, 17, 18, 19, 20, 21, 22, 23, 24, 166, 167, 159, 160, 161, 162, 163, 164, 165] (by decide +kernel) (by decide +kernel)
set_option maxRecDepth 20000 in
theorem gX2_scale_X2_read : GoodIn wsX2_scale (wsV RX2 71 RX2 yX2_read wsX2_read) := goodIn_app (goodIn_of _ (by decide +kernel)) ggX2_scale_X2_read
set_option maxRecDepth 20000 in
theorem ggX2_scale_X2_isBeyondScale : GoodIn wsX2_scale wsX2_isBeyondScale := goodIn_r _ [27, 28, 29, 15, 30, 31, 24, 32, 33, 34, 35, 23, 36, 37, 38, 39, 40, 41, 42, 43, 44, 45, 46, 47, 48, 49, 50, 51, 52, 53, 54, 55, 56, 57, 58, 59, 60, 61, 62, 63, 64, 65, 66, 67, 68, 166, 167] (by decide +kernel) (by decide +kernel)
set_option maxRecDepth 20000 in
theorem gX2_scale_X2_isBeyondScale : GoodIn wsX2_scale (va_wsS RX2 87 yX2_isBeyondScale wsX2_isBeyondScale) := goodIn_app (goodIn_of _ (by decide +kernel)) ggX2_scale_X2_isBeyondScale
set_option maxRecDepth 20000 in
theorem ggX2_scale_X2_goesOn : GoodIn wsX2_scale wsX2_goesOn := goodIn_r _ [72, 2, 1, 73, 74, 36, 15, 37, 38, 39, 40, 41, 42, 24, 43, 44, 45, 46, 47, 48, 32, 33, 34, 35, 23, 75, 76, 77, 5, 78, 79, 80, 81, 82, 83, 159, 160, 161, 162, 163, 164, 165, 166, 167] (by decide +kernel) (by decide +kernel)
set_option maxRecDepth 20000 in
theorem gX2_scale_X2_goesOn : GoodIn wsX2_scale (wsV RX2 75 RX2 yX2_goesOn wsX2_goesOn) := goodIn_app (goodIn_of _ (by decide +kernel)) ggX2_scale_X2_goesOn
set_option maxRecDepth 20000 in
theorem ggX2_scale_X2_scaled : GoodIn wsX2_scale wsX2_scaled := goodIn_r _ [87, 28, 36, 15, 37, 38, 39, 40, 41, 42, 24, 43, 44, 45, 46, 47, 48, 32, 33, 34, 35, 23, 88, 89, 90, 91, 53, 54, 55, 56, 57, 58, 59, 92, 93, 5, 94, 49, 50, 51, 52, 60, 61, 62, 63, 64, 65, 66, 67, 68, 29, 30, 31, 95, 96, 97, 98, 99, 100, 101, 102, 103, 104, 13, 14, 105, 106, 107, 108, 18, 19, 20, 21, 22, 109, 110, 111, 112, 113, 2, 79, 80, 81, 82, 83, 114, 115, 116, 117, 118, 119, 120, 121, 122, 123, 124, 125, 126, 127, 128, 129, 130, 131, 132, 133, 134, 135, 136, 137, 138, 139, 140, 141, 142, 143, 144, 145, 146, 166, 167, 159, 160, 161, 162, 163, 164, 165] (by decide +kernel) (by decide +kernel)
set_option maxRecDepth 20000 in
theorem gX2_scale_X2_scaled : GoodIn wsX2_scale (wsV RX2 91 RX2 yX2_scaled wsX2_scaled) := goodIn_app (goodIn_of _ (by decide +kernel)) ggX2_scale_X2_scaled
set_option maxRecDepth 20000 in
theorem ggX2_scale_X2_write : GoodIn wsX2_scale wsX2_write := goodIn_r _ [150, 16, 17, 159, 160, 161, 162, 163, 164, 165, 166, 167] (by decide +kernel) (by decide +kernel)
set_option maxRecDepth 20000 in
theorem gX2_scale_X2_write : GoodIn wsX2_scale (wsV RX2 55 RX2 yX2_write wsX2_write) := goodIn_app (goodIn_of _ (by decide +kernel)) ggX2_scale_X2_write
set_option maxRecDepth 20000 in
theorem ggX2_scale_X2_substitute : GoodIn wsX2_scale wsX2_substitute := goodIn_r _ [153, 73, 13, 14, 15, 154, 155, 36, 37, 38, 39, 40, 41, 42, 24, 43, 44, 45, 46, 47, 48, 32, 33, 34, 35, 23, 156, 157, 5, 158, 88, 89, 90, 91, 131, 132, 62, 133, 134, 135, 136, 137, 18, 19, 20, 21, 22, 166, 167] (by decide +kernel) (by decide +kernel)
set_option maxRecDepth 20000 in
theorem gX2_scale_X2_substitute : GoodIn wsX2_scale (va_wsS RX2 83 yX2_substitute wsX2_substitute) := goodIn_app (goodIn_of _ (by decide +kernel)) ggX2_scale_X2_substitute
theorem dX2_scale_0 : decode cX2_scale 0 = .ok (.iload_n 1, 1) := by decide +kernel
theorem dX2_scale_1 : decode cX2_scale 1 = .ok (.invokestatic 42, 3) := by decide +kernel
theorem dX2_scale_4 : decode cX2_scale 4 = .ok (.iload_n 2, 1) := by decide +kernel
theorem dX2_scale_5 : decode cX2_scale 5 = .ok (.invokestatic 42, 3) := by decide +kernel
theorem dX2_scale_8 : decode cX2_scale 8 = .ok (.iload_n 3, 1) := by decide +kernel
theorem dX2_scale_9 : decode cX2_scale 9 = .ok (.invokestatic 42, 3) := by decide +kernel
theorem dX2_scale_12 : decode cX2_scale 12 = .ok (.aload_n 0, 1) := by decide +kernel
theorem dX2_scale_13 : decode cX2_scale 13 = .ok (.iload_n 1, 1) := by decide +kernel
theorem dX2_scale_14 : decode cX2_scale 14 = .ok (.invokevirtual 71, 3) := by decide +kernel
theorem dX2_scale_17 : decode cX2_scale 17 = .ok (.astore 4, 2) := by decide +kernel
theorem dX2_scale_19 : decode cX2_scale 19 = .ok (.aload_n 0, 1) := by decide +kernel
theorem dX2_scale_20 : decode cX2_scale 20 = .ok (.iload_n 2, 1) := by decide +kernel
theorem dX2_scale_21 : decode cX2_scale 21 = .ok (.invokevirtual 71, 3) := by decide +kernel
theorem dX2_scale_24 : decode cX2_scale 24 = .ok (.astore 5, 2) := by decide +kernel
theorem dX2_scale_26 : decode cX2_scale 26 = .ok (.aload_n 0, 1) := by decide +kernel
theorem dX2_scale_27 : decode cX2_scale 27 = .ok (.aload 4, 2) := by decide +kernel
theorem dX2_scale_29 : decode cX2_scale 29 = .ok (.aload 5, 2) := by decide +kernel
theorem dX2_scale_31 : decode cX2_scale 31 = .ok (.aload 5, 2) := by decide +kernel
theorem dX2_scale_33 : decode cX2_scale 33 = .ok (.invokestatic 87, 3) := by decide +kernel
theorem dX2_scale_36 : decode cX2_scale 36 = .ok (.iconst 0, 1) := by decide +kernel
theorem dX2_scale_37 : decode cX2_scale 37 = .ok (.invokevirtual 75, 3) := by decide +kernel
theorem dX2_scale_40 : decode cX2_scale 40 = .ok (.ifCond .eq 19, 3) := by decide +kernel
theorem dX2_scale_43 : decode cX2_scale 43 = .ok (.aload_n 0, 1) := by decide +kernel
theorem dX2_scale_44 : decode cX2_scale 44 = .ok (.iload_n 3, 1) := by decide +kernel
theorem dX2_scale_45 : decode cX2_scale 45 = .ok (.aload_n 0, 1) := by decide +kernel
theorem dX2_scale_46 : decode cX2_scale 46 = .ok (.aload 4, 2) := by decide +kernel
theorem dX2_scale_48 : decode cX2_scale 48 = .ok (.aload 5, 2) := by decide +kernel
theorem dX2_scale_50 : decode cX2_scale 50 = .ok (.invokevirtual 91, 3) := by decide +kernel
theorem dX2_scale_53 : decode cX2_scale 53 = .ok (.invokevirtual 55, 3) := by decide +kernel
theorem dX2_scale_56 : decode cX2_scale 56 = .ok (.goto 22, 3) := by decide +kernel
theorem dX2_scale_59 : decode cX2_scale 59 = .ok (.aload_n 0, 1) := by decide +kernel
theorem dX2_scale_60 : decode cX2_scale 60 = .ok (.getfield 24, 3) := by decide +kernel
theorem dX2_scale_63 : decode cX2_scale 63 = .ok (.ifCond .eq 15, 3) := by decide +kernel
theorem dX2_scale_66 : decode cX2_scale 66 = .ok (.aload_n 0, 1) := by decide +kernel
theorem dX2_scale_67 : decode cX2_scale 67 = .ok (.iload_n 3, 1) := by decide +kernel
theorem dX2_scale_68 : decode cX2_scale 68 = .ok (.aload 4, 2) := by decide +kernel
theorem dX2_scale_70 : decode cX2_scale 70 = .ok (.aload 5, 2) := by decide +kernel
theorem dX2_scale_72 : decode cX2_scale 72 = .ok (.invokestatic 83, 3) := by decide +kernel
theorem dX2_scale_75 : decode cX2_scale 75 = .ok (.invokevirtual 55, 3) := by decide +kernel
theorem dX2_scale_78 : decode cX2_scale 78 = .ok (.aload_n 0, 1) := by decide +kernel
theorem dX2_scale_79 : decode cX2_scale 79 = .ok (.getfield 21, 3) := by decide +kernel
theorem dX2_scale_82 : decode cX2_scale 82 = .ok (.ireturn, 1) := by decide +kernel
set_option maxRecDepth 20000 in
theorem ggX2_extract_X2_needRegister : GoodIn wsX2_extract wsX2_needRegister := goodIn_ca (goodIn_r _ [8, 9, 10] (by decide +kernel) (by decide +kernel)) (goodIn_sub (fun _ h => List.mem_cons_of_mem _ (List.mem_append_right _ h)) (by decide +kernel))
set_option maxRecDepth 20000 in
theorem gX2_extract_X2_needRegister : GoodIn wsX2_extract (va_wsS RX2 42 yX2_needRegister wsX2_needRegister) := goodIn_app (goodIn_of _ (by decide +kernel)) ggX2_extract_X2_needRegister
set_option maxRecDepth 20000 in
theorem ggX2_extract_X2_read : GoodIn wsX2_extract wsX2_read := goodIn_r _ [14, 15, 16, 17, 18, 19, 20, 21, 22, 23, 24, 25, 26, 169, 170, 162, 163, 164, 165, 166, 167, 168] (by decide +kernel) (by decide +kernel)
set_option maxRecDepth 20000 in
theorem gX2_extract_X2_read : GoodIn wsX2_extract (wsV RX2 71 RX2 yX2_read wsX2_read) := goodIn_app (goodIn_of _ (by decide +kernel)) ggX2_extract_X2_read
set_option maxRecDepth 20000 in
theorem ggX2_extract_X1_isNought : GoodIn wsX2_extract wsX1_isNought := goodIn_r _ [29, 26, 30, 31, 32, 17, 33, 25, 169, 170] (by decide +kernel) (by decide +kernel)
set_option maxRecDepth 20000 in
theorem gX2_extract_X1_isNought_n96 : GoodIn wsX2_extract (wsX1_isNought) := ggX2_extract_X1_isNought
set_option maxRecDepth 20000 in
theorem ggX2_extract_X2_goesOn : GoodIn wsX2_extract wsX2_goesOn := goodIn_r _ [37, 4, 3, 38, 39, 40, 17, 41, 42, 43, 44, 45, 46, 26, 47, 48, 49, 50, 51, 52, 30, 31, 32, 33, 25, 53, 54, 55, 7, 56, 57, 58, 59, 60, 61, 162, 163, 164, 165, 166, 167, 168, 169, 170] (by decide +kernel) (by decide +kernel)
set_option maxRecDepth 20000 in
theorem gX2_extract_X2_goesOn : GoodIn wsX2_extract (wsV RX2 75 RX2 yX2_goesOn wsX2_goesOn) := goodIn_app (goodIn_of _ (by decide +kernel)) ggX2_extract_X2_goesOn
set_option maxRecDepth 20000 in
theorem ggX2_extract_X2_powerOf : GoodIn wsX2_extract wsX2_powerOf := goodIn_r _ [65, 66, 67, 68, 69, 70, 40, 17, 41, 42, 43, 44, 45, 46, 26, 47, 48, 49, 50, 51, 52, 30, 31, 32, 33, 25, 71, 72, 7, 73, 15, 16, 74, 75, 76, 77, 78, 20, 21, 22, 23, 24, 27, 28, 29, 79, 80, 81, 82, 83, 84, 85, 86, 87, 88, 89, 90, 91, 92, 93, 94, 95, 96, 97, 98, 99, 100, 101, 102, 103, 104, 105, 106, 107, 108, 109, 4, 57, 58, 59, 60, 61, 110, 111, 112, 113, 114, 115, 116, 117, 118, 119, 120, 121, 122, 123, 124, 125, 126, 127, 128, 129, 130, 131, 132, 133, 134, 135, 136, 137, 138, 169, 170, 162, 163, 164, 165, 166, 167, 168] (by decide +kernel) (by decide +kernel)
set_option maxRecDepth 20000 in
theorem gX2_extract_X2_powerOf : GoodIn wsX2_extract (wsV RX2 100 RX2 yX2_powerOf wsX2_powerOf) := goodIn_app (goodIn_of _ (by decide +kernel)) ggX2_extract_X2_powerOf
set_option maxRecDepth 20000 in
theorem ggX2_extract_X2_write : GoodIn wsX2_extract wsX2_write := goodIn_r _ [142, 18, 19, 162, 163, 164, 165, 166, 167, 168, 169, 170] (by decide +kernel) (by decide +kernel)
set_option maxRecDepth 20000 in
theorem gX2_extract_X2_write : GoodIn wsX2_extract (wsV RX2 55 RX2 yX2_write wsX2_write) := goodIn_app (goodIn_of _ (by decide +kernel)) ggX2_extract_X2_write
set_option maxRecDepth 20000 in
theorem ggX2_extract_X2_fractionOf : GoodIn wsX2_extract wsX2_fractionOf := goodIn_r _ [146, 66, 40, 17, 41, 42, 43, 44, 45, 46, 26, 47, 48, 49, 50, 51, 52, 30, 31, 32, 33, 25, 147, 148, 149, 150, 151, 152, 153, 89, 90, 91, 92, 93, 94, 95, 96, 97, 98, 99, 100, 7, 101, 102, 103, 104, 15, 16, 75, 76, 77, 78, 20, 21, 22, 23, 24, 105, 106, 107, 108, 109, 4, 57, 58, 59, 60, 61, 110, 111, 112, 113, 114, 115, 116, 117, 118, 119, 120, 121, 122, 123, 124, 125, 126, 127, 128, 129, 130, 131, 132, 133, 134, 135, 136, 137, 138, 71, 72, 73, 74, 169, 170, 162, 163, 164, 165, 166, 167, 168] (by decide +kernel) (by decide +kernel)
set_option maxRecDepth 20000 in
theorem gX2_extract_X2_fractionOf : GoodIn wsX2_extract (wsV RX2 103 RX2 yX2_fractionOf wsX2_fractionOf) := goodIn_app (goodIn_of _ (by decide +kernel)) ggX2_extract_X2_fractionOf
set_option maxRecDepth 20000 in
theorem ggX2_extract_X2_substitute : GoodIn wsX2_extract wsX2_substitute := goodIn_r _ [156, 38, 15, 16, 17, 157, 158, 40, 41, 42, 43, 44, 45, 46, 26, 47, 48, 49, 50, 51, 52, 30, 31, 32, 33, 25, 159, 160, 7, 161, 147, 148, 149, 150, 127, 128, 91, 129, 130, 131, 132, 133, 20, 21, 22, 23, 24, 169, 170] (by decide +kernel) (by decide +kernel)
set_option maxRecDepth 20000 in
theorem gX2_extract_X2_substitute : GoodIn wsX2_extract (va_wsS RX2 83 yX2_substitute wsX2_substitute) := goodIn_app (goodIn_of _ (by decide +kernel)) ggX2_extract_X2_substitute
theorem dX2_extract_0 : decode cX2_extract 0 = .ok (.iload_n 1, 1) := by decide +kernel
theorem dX2_extract_1 : decode cX2_extract 1 = .ok (.invokestatic 42, 3) := by decide +kernel
theorem dX2_extract_4 : decode cX2_extract 4 = .ok (.iload_n 2, 1) := by decide +kernel
theorem dX2_extract_5 : decode cX2_extract 5 = .ok (.invokestatic 42, 3) := by decide +kernel
theorem dX2_extract_8 : decode cX2_extract 8 = .ok (.iload_n 3, 1) := by decide +kernel
theorem dX2_extract_9 : decode cX2_extract 9 = .ok (.invokestatic 42, 3) := by decide +kernel
theorem dX2_extract_12 : decode cX2_extract 12 = .ok (.iload_n 2, 1) := by decide +kernel
theorem dX2_extract_13 : decode cX2_extract 13 = .ok (.iload_n 3, 1) := by decide +kernel
theorem dX2_extract_14 : decode cX2_extract 14 = .ok (.if_icmp .ne 13, 3) := by decide +kernel
theorem dX2_extract_17 : decode cX2_extract 17 = .ok (.new 35, 3) := by decide +kernel
theorem dX2_extract_20 : decode cX2_extract 20 = .ok (.dup, 1) := by decide +kernel
theorem dX2_extract_21 : decode cX2_extract 21 = .ok (.ldc 94, 2) := by decide +kernel
theorem dX2_extract_23 : decode cX2_extract 23 = .ok (.invokespecial 39, 3) := by decide +kernel
theorem dX2_extract_26 : decode cX2_extract 26 = .ok (.athrow, 1) := by decide +kernel
theorem dX2_extract_27 : decode cX2_extract 27 = .ok (.aload_n 0, 1) := by decide +kernel
theorem dX2_extract_28 : decode cX2_extract 28 = .ok (.iload_n 1, 1) := by decide +kernel
theorem dX2_extract_29 : decode cX2_extract 29 = .ok (.invokevirtual 71, 3) := by decide +kernel
theorem dX2_extract_32 : decode cX2_extract 32 = .ok (.astore 4, 2) := by decide +kernel
theorem dX2_extract_34 : decode cX2_extract 34 = .ok (.aload_n 0, 1) := by decide +kernel
theorem dX2_extract_35 : decode cX2_extract 35 = .ok (.aload 4, 2) := by decide +kernel
theorem dX2_extract_37 : decode cX2_extract 37 = .ok (.aload 4, 2) := by decide +kernel
theorem dX2_extract_39 : decode cX2_extract 39 = .ok (.iconst 0, 1) := by decide +kernel
theorem dX2_extract_40 : decode cX2_extract 40 = .ok (.aload 4, 2) := by decide +kernel
theorem dX2_extract_42 : decode cX2_extract 42 = .ok (.invokevirtual 96, 3) := by decide +kernel
theorem dX2_extract_45 : decode cX2_extract 45 = .ok (.invokevirtual 75, 3) := by decide +kernel
theorem dX2_extract_48 : decode cX2_extract 48 = .ok (.ifCond .eq 28, 3) := by decide +kernel
theorem dX2_extract_51 : decode cX2_extract 51 = .ok (.aload_n 0, 1) := by decide +kernel
theorem dX2_extract_52 : decode cX2_extract 52 = .ok (.iload_n 2, 1) := by decide +kernel
theorem dX2_extract_53 : decode cX2_extract 53 = .ok (.aload_n 0, 1) := by decide +kernel
theorem dX2_extract_54 : decode cX2_extract 54 = .ok (.aload 4, 2) := by decide +kernel
theorem dX2_extract_56 : decode cX2_extract 56 = .ok (.invokevirtual 100, 3) := by decide +kernel
theorem dX2_extract_59 : decode cX2_extract 59 = .ok (.invokevirtual 55, 3) := by decide +kernel
theorem dX2_extract_62 : decode cX2_extract 62 = .ok (.aload_n 0, 1) := by decide +kernel
theorem dX2_extract_63 : decode cX2_extract 63 = .ok (.iload_n 3, 1) := by decide +kernel
theorem dX2_extract_64 : decode cX2_extract 64 = .ok (.aload_n 0, 1) := by decide +kernel
theorem dX2_extract_65 : decode cX2_extract 65 = .ok (.aload 4, 2) := by decide +kernel
theorem dX2_extract_67 : decode cX2_extract 67 = .ok (.invokevirtual 103, 3) := by decide +kernel
theorem dX2_extract_70 : decode cX2_extract 70 = .ok (.invokevirtual 55, 3) := by decide +kernel
theorem dX2_extract_73 : decode cX2_extract 73 = .ok (.goto 34, 3) := by decide +kernel
theorem dX2_extract_76 : decode cX2_extract 76 = .ok (.aload_n 0, 1) := by decide +kernel
theorem dX2_extract_77 : decode cX2_extract 77 = .ok (.getfield 24, 3) := by decide +kernel
theorem dX2_extract_80 : decode cX2_extract 80 = .ok (.ifCond .eq 27, 3) := by decide +kernel
theorem dX2_extract_83 : decode cX2_extract 83 = .ok (.aload_n 0, 1) := by decide +kernel
theorem dX2_extract_84 : decode cX2_extract 84 = .ok (.iload_n 2, 1) := by decide +kernel
theorem dX2_extract_85 : decode cX2_extract 85 = .ok (.aload 4, 2) := by decide +kernel
theorem dX2_extract_87 : decode cX2_extract 87 = .ok (.aload 4, 2) := by decide +kernel
theorem dX2_extract_89 : decode cX2_extract 89 = .ok (.invokestatic 83, 3) := by decide +kernel
theorem dX2_extract_92 : decode cX2_extract 92 = .ok (.invokevirtual 55, 3) := by decide +kernel
theorem dX2_extract_95 : decode cX2_extract 95 = .ok (.aload_n 0, 1) := by decide +kernel
theorem dX2_extract_96 : decode cX2_extract 96 = .ok (.iload_n 3, 1) := by decide +kernel
theorem dX2_extract_97 : decode cX2_extract 97 = .ok (.aload 4, 2) := by decide +kernel
theorem dX2_extract_99 : decode cX2_extract 99 = .ok (.aload 4, 2) := by decide +kernel
theorem dX2_extract_101 : decode cX2_extract 101 = .ok (.invokestatic 83, 3) := by decide +kernel
theorem dX2_extract_104 : decode cX2_extract 104 = .ok (.invokevirtual 55, 3) := by decide +kernel
theorem dX2_extract_107 : decode cX2_extract 107 = .ok (.aload_n 0, 1) := by decide +kernel
theorem dX2_extract_108 : decode cX2_extract 108 = .ok (.getfield 21, 3) := by decide +kernel
theorem dX2_extract_111 : decode cX2_extract 111 = .ok (.ireturn, 1) := by decide +kernel
set_option maxRecDepth 20000 in
theorem ggX2_remainder_X2_needRegister : GoodIn wsX2_remainder wsX2_needRegister := goodIn_ca (goodIn_r _ [8, 9, 10] (by decide +kernel) (by decide +kernel)) (goodIn_sub (fun _ h => List.mem_cons_of_mem _ (List.mem_append_right _ h)) (by decide +kernel))
set_option maxRecDepth 20000 in
theorem gX2_remainder_X2_needRegister : GoodIn wsX2_remainder (va_wsS RX2 42 yX2_needRegister wsX2_needRegister) := goodIn_app (goodIn_of _ (by decide +kernel)) ggX2_remainder_X2_needRegister
set_option maxRecDepth 20000 in
theorem ggX2_remainder_X2_read : GoodIn wsX2_remainder wsX2_read := goodIn_r _ [14, 15, 16, 17, 18, 19, 20, 21, 22, 23, 24, 25, 26, 167, 168, 160, 161, 162, 163, 164, 165, 166] (by decide +kernel) (by decide +kernel)
set_option maxRecDepth 20000 in
theorem gX2_remainder_X2_read : GoodIn wsX2_remainder (wsV RX2 71 RX2 yX2_read wsX2_read) := goodIn_app (goodIn_of _ (by decide +kernel)) ggX2_remainder_X2_read
set_option maxRecDepth 20000 in
theorem ggX2_remainder_X1_isOf : GoodIn wsX2_remainder wsX1_isOf := goodIn_r _ [29, 30, 31, 32, 17, 33, 26, 34, 35, 36, 37, 38, 39, 40, 41, 42, 43, 25, 167, 168] (by decide +kernel) (by decide +kernel)
set_option maxRecDepth 20000 in
theorem gX2_remainder_X1_isOf_n112 : GoodIn wsX2_remainder (wsX1_isOf) := ggX2_remainder_X1_isOf
set_option maxRecDepth 20000 in
theorem ggX2_remainder_X1_isNought : GoodIn wsX2_remainder wsX1_isNought := goodIn_r _ [46, 26, 40, 41, 42, 17, 43, 25, 167, 168] (by decide +kernel) (by decide +kernel)
set_option maxRecDepth 20000 in
theorem gX2_remainder_X1_isNought_n96 : GoodIn wsX2_remainder (wsX1_isNought) := ggX2_remainder_X1_isNought
set_option maxRecDepth 20000 in
theorem ggX2_remainder_X2_goesOn : GoodIn wsX2_remainder wsX2_goesOn := goodIn_r _ [50, 4, 3, 51, 52, 27, 17, 28, 29, 30, 31, 32, 33, 26, 34, 35, 36, 37, 38, 39, 40, 41, 42, 43, 25, 53, 54, 55, 7, 56, 57, 58, 59, 60, 61, 160, 161, 162, 163, 164, 165, 166, 167, 168] (by decide +kernel) (by decide +kernel)
set_option maxRecDepth 20000 in
theorem gX2_remainder_X2_goesOn : GoodIn wsX2_remainder (wsV RX2 75 RX2 yX2_goesOn wsX2_goesOn) := goodIn_app (goodIn_of _ (by decide +kernel)) ggX2_remainder_X2_goesOn
set_option maxRecDepth 20000 in
theorem ggX2_remainder_X2_leftOver : GoodIn wsX2_remainder wsX2_leftOver := goodIn_r _ [65, 66, 67, 1, 68, 17, 69, 70, 25, 71, 72, 73, 74, 26, 75, 76, 77, 78, 79, 80, 81, 82, 40, 41, 42, 43, 83, 84, 85, 86, 87, 88, 89, 90, 91, 27, 28, 29, 30, 31, 32, 33, 34, 35, 36, 37, 38, 39, 44, 45, 46, 92, 93, 94, 7, 95, 96, 97, 98, 15, 16, 99, 100, 101, 102, 20, 21, 22, 23, 24, 103, 104, 105, 106, 107, 4, 57, 58, 59, 60, 61, 108, 109, 110, 111, 112, 113, 114, 115, 116, 117, 118, 119, 120, 121, 122, 123, 124, 125, 126, 127, 128, 129, 130, 131, 132, 133, 134, 135, 136, 137, 138, 139, 140, 141, 142, 143, 144, 145, 146, 147, 160, 161, 162, 163, 164, 165, 166, 167, 168] (by decide +kernel) (by decide +kernel)
set_option maxRecDepth 20000 in
theorem gX2_remainder_X2_leftOver : GoodIn wsX2_remainder (wsV RX2 119 RX2 yX2_leftOver wsX2_leftOver) := goodIn_app (goodIn_of _ (by decide +kernel)) ggX2_remainder_X2_leftOver
set_option maxRecDepth 20000 in
theorem ggX2_remainder_X2_write : GoodIn wsX2_remainder wsX2_write := goodIn_r _ [151, 18, 19, 160, 161, 162, 163, 164, 165, 166, 167, 168] (by decide +kernel) (by decide +kernel)
set_option maxRecDepth 20000 in
theorem gX2_remainder_X2_write : GoodIn wsX2_remainder (wsV RX2 55 RX2 yX2_write wsX2_write) := goodIn_app (goodIn_of _ (by decide +kernel)) ggX2_remainder_X2_write
set_option maxRecDepth 20000 in
theorem ggX2_remainder_X2_substitute : GoodIn wsX2_remainder wsX2_substitute := goodIn_r _ [154, 51, 15, 16, 17, 155, 156, 27, 28, 29, 30, 31, 32, 33, 26, 34, 35, 36, 37, 38, 39, 40, 41, 42, 43, 25, 157, 158, 7, 159, 68, 69, 70, 71, 125, 126, 85, 127, 128, 129, 130, 131, 20, 21, 22, 23, 24, 167, 168] (by decide +kernel) (by decide +kernel)
set_option maxRecDepth 20000 in
theorem gX2_remainder_X2_substitute : GoodIn wsX2_remainder (va_wsS RX2 83 yX2_substitute wsX2_substitute) := goodIn_app (goodIn_of _ (by decide +kernel)) ggX2_remainder_X2_substitute
theorem dX2_remainder_0 : decode cX2_remainder 0 = .ok (.iload_n 1, 1) := by decide +kernel
theorem dX2_remainder_1 : decode cX2_remainder 1 = .ok (.invokestatic 42, 3) := by decide +kernel
theorem dX2_remainder_4 : decode cX2_remainder 4 = .ok (.iload_n 2, 1) := by decide +kernel
theorem dX2_remainder_5 : decode cX2_remainder 5 = .ok (.invokestatic 42, 3) := by decide +kernel
theorem dX2_remainder_8 : decode cX2_remainder 8 = .ok (.iload_n 3, 1) := by decide +kernel
theorem dX2_remainder_9 : decode cX2_remainder 9 = .ok (.invokestatic 42, 3) := by decide +kernel
theorem dX2_remainder_12 : decode cX2_remainder 12 = .ok (.aload_n 0, 1) := by decide +kernel
theorem dX2_remainder_13 : decode cX2_remainder 13 = .ok (.iload_n 1, 1) := by decide +kernel
theorem dX2_remainder_14 : decode cX2_remainder 14 = .ok (.invokevirtual 71, 3) := by decide +kernel
theorem dX2_remainder_17 : decode cX2_remainder 17 = .ok (.astore 4, 2) := by decide +kernel
theorem dX2_remainder_19 : decode cX2_remainder 19 = .ok (.aload_n 0, 1) := by decide +kernel
theorem dX2_remainder_20 : decode cX2_remainder 20 = .ok (.iload_n 2, 1) := by decide +kernel
theorem dX2_remainder_21 : decode cX2_remainder 21 = .ok (.invokevirtual 71, 3) := by decide +kernel
theorem dX2_remainder_24 : decode cX2_remainder 24 = .ok (.astore 5, 2) := by decide +kernel
theorem dX2_remainder_26 : decode cX2_remainder 26 = .ok (.aload 4, 2) := by decide +kernel
theorem dX2_remainder_28 : decode cX2_remainder 28 = .ok (.getstatic 106, 3) := by decide +kernel
theorem dX2_remainder_31 : decode cX2_remainder 31 = .ok (.invokevirtual 112, 3) := by decide +kernel
theorem dX2_remainder_34 : decode cX2_remainder 34 = .ok (.ifCond .ne 22, 3) := by decide +kernel
theorem dX2_remainder_37 : decode cX2_remainder 37 = .ok (.aload 5, 2) := by decide +kernel
theorem dX2_remainder_39 : decode cX2_remainder 39 = .ok (.invokevirtual 96, 3) := by decide +kernel
theorem dX2_remainder_42 : decode cX2_remainder 42 = .ok (.ifCond .ne 14, 3) := by decide +kernel
theorem dX2_remainder_45 : decode cX2_remainder 45 = .ok (.aload 5, 2) := by decide +kernel
theorem dX2_remainder_47 : decode cX2_remainder 47 = .ok (.getstatic 116, 3) := by decide +kernel
theorem dX2_remainder_50 : decode cX2_remainder 50 = .ok (.invokevirtual 112, 3) := by decide +kernel
theorem dX2_remainder_53 : decode cX2_remainder 53 = .ok (.ifCond .eq 7, 3) := by decide +kernel
theorem dX2_remainder_56 : decode cX2_remainder 56 = .ok (.iconst 1, 1) := by decide +kernel
theorem dX2_remainder_57 : decode cX2_remainder 57 = .ok (.goto 4, 3) := by decide +kernel
theorem dX2_remainder_60 : decode cX2_remainder 60 = .ok (.iconst 0, 1) := by decide +kernel
theorem dX2_remainder_61 : decode cX2_remainder 61 = .ok (.istore 6, 2) := by decide +kernel
theorem dX2_remainder_63 : decode cX2_remainder 63 = .ok (.aload_n 0, 1) := by decide +kernel
theorem dX2_remainder_64 : decode cX2_remainder 64 = .ok (.aload 4, 2) := by decide +kernel
theorem dX2_remainder_66 : decode cX2_remainder 66 = .ok (.aload 5, 2) := by decide +kernel
theorem dX2_remainder_68 : decode cX2_remainder 68 = .ok (.iload 6, 2) := by decide +kernel
theorem dX2_remainder_70 : decode cX2_remainder 70 = .ok (.iconst 0, 1) := by decide +kernel
theorem dX2_remainder_71 : decode cX2_remainder 71 = .ok (.invokevirtual 75, 3) := by decide +kernel
theorem dX2_remainder_74 : decode cX2_remainder 74 = .ok (.ifCond .eq 19, 3) := by decide +kernel
theorem dX2_remainder_77 : decode cX2_remainder 77 = .ok (.aload_n 0, 1) := by decide +kernel
theorem dX2_remainder_78 : decode cX2_remainder 78 = .ok (.iload_n 3, 1) := by decide +kernel
theorem dX2_remainder_79 : decode cX2_remainder 79 = .ok (.aload_n 0, 1) := by decide +kernel
theorem dX2_remainder_80 : decode cX2_remainder 80 = .ok (.aload 4, 2) := by decide +kernel
theorem dX2_remainder_82 : decode cX2_remainder 82 = .ok (.aload 5, 2) := by decide +kernel
theorem dX2_remainder_84 : decode cX2_remainder 84 = .ok (.invokevirtual 119, 3) := by decide +kernel
theorem dX2_remainder_87 : decode cX2_remainder 87 = .ok (.invokevirtual 55, 3) := by decide +kernel
theorem dX2_remainder_90 : decode cX2_remainder 90 = .ok (.goto 22, 3) := by decide +kernel
theorem dX2_remainder_93 : decode cX2_remainder 93 = .ok (.aload_n 0, 1) := by decide +kernel
theorem dX2_remainder_94 : decode cX2_remainder 94 = .ok (.getfield 24, 3) := by decide +kernel
theorem dX2_remainder_97 : decode cX2_remainder 97 = .ok (.ifCond .eq 15, 3) := by decide +kernel
theorem dX2_remainder_100 : decode cX2_remainder 100 = .ok (.aload_n 0, 1) := by decide +kernel
theorem dX2_remainder_101 : decode cX2_remainder 101 = .ok (.iload_n 3, 1) := by decide +kernel
theorem dX2_remainder_102 : decode cX2_remainder 102 = .ok (.aload 4, 2) := by decide +kernel
theorem dX2_remainder_104 : decode cX2_remainder 104 = .ok (.aload 5, 2) := by decide +kernel
theorem dX2_remainder_106 : decode cX2_remainder 106 = .ok (.invokestatic 83, 3) := by decide +kernel
theorem dX2_remainder_109 : decode cX2_remainder 109 = .ok (.invokevirtual 55, 3) := by decide +kernel
theorem dX2_remainder_112 : decode cX2_remainder 112 = .ok (.aload_n 0, 1) := by decide +kernel
theorem dX2_remainder_113 : decode cX2_remainder 113 = .ok (.getfield 21, 3) := by decide +kernel
theorem dX2_remainder_116 : decode cX2_remainder 116 = .ok (.ireturn, 1) := by decide +kernel
set_option maxRecDepth 20000 in
theorem ggX2_compare_X2_needRegister : GoodIn wsX2_compare wsX2_needRegister := goodIn_ca (goodIn_r _ [4, 5, 6] (by decide +kernel) (by decide +kernel)) (goodIn_sub (fun _ h => List.mem_cons_of_mem _ (List.mem_append_right _ h)) (by decide +kernel))
set_option maxRecDepth 20000 in
theorem gX2_compare_X2_needRegister : GoodIn wsX2_compare (va_wsS RX2 42 yX2_needRegister wsX2_needRegister) := goodIn_app (goodIn_of _ (by decide +kernel)) ggX2_compare_X2_needRegister
set_option maxRecDepth 20000 in
theorem ggX2_compare_X2_read : GoodIn wsX2_compare wsX2_read := goodIn_r _ [10, 11, 12, 13, 14, 15, 16, 17, 18, 19, 20, 21, 22, 107, 108, 109, 110, 111, 112, 113, 114, 115] (by decide +kernel) (by decide +kernel)
set_option maxRecDepth 20000 in
theorem gX2_compare_X2_read : GoodIn wsX2_compare (wsV RX2 71 RX2 yX2_read wsX2_read) := goodIn_app (goodIn_of _ (by decide +kernel)) ggX2_compare_X2_read
set_option maxRecDepth 20000 in
theorem ggX2_compare_X2_order : GoodIn wsX2_compare wsX2_order := goodIn_r _ [26, 27, 28, 29, 30, 13, 31, 32, 33, 34, 35, 36, 22, 37, 38, 39, 40, 41, 42, 43, 44, 45, 46, 21, 47, 48, 49, 3, 50, 51, 52, 53, 54, 55, 56, 57, 58, 59, 60, 61, 62, 63, 64, 65, 66, 67, 68, 69, 70, 71, 72, 73, 74, 75, 76, 77, 78, 79, 80, 81, 82, 83, 84, 85, 86, 87, 88, 89, 90, 91, 92, 93, 94, 95, 96, 97, 98, 99, 100, 101, 102, 103, 104, 105, 106, 109, 110, 111, 112, 113, 114, 115, 107, 108] (by decide +kernel) (by decide +kernel)
set_option maxRecDepth 20000 in
theorem gX2_compare_X2_order : GoodIn wsX2_compare (wsV RX2 122 RX2 yX2_order wsX2_order) := goodIn_app (goodIn_of _ (by decide +kernel)) ggX2_compare_X2_order
theorem dX2_compare_0 : decode cX2_compare 0 = .ok (.iload_n 1, 1) := by decide +kernel
theorem dX2_compare_1 : decode cX2_compare 1 = .ok (.invokestatic 42, 3) := by decide +kernel
theorem dX2_compare_4 : decode cX2_compare 4 = .ok (.iload_n 2, 1) := by decide +kernel
theorem dX2_compare_5 : decode cX2_compare 5 = .ok (.invokestatic 42, 3) := by decide +kernel
theorem dX2_compare_8 : decode cX2_compare 8 = .ok (.aload_n 0, 1) := by decide +kernel
theorem dX2_compare_9 : decode cX2_compare 9 = .ok (.aload_n 0, 1) := by decide +kernel
theorem dX2_compare_10 : decode cX2_compare 10 = .ok (.iload_n 1, 1) := by decide +kernel
theorem dX2_compare_11 : decode cX2_compare 11 = .ok (.invokevirtual 71, 3) := by decide +kernel
theorem dX2_compare_14 : decode cX2_compare 14 = .ok (.aload_n 0, 1) := by decide +kernel
theorem dX2_compare_15 : decode cX2_compare 15 = .ok (.iload_n 2, 1) := by decide +kernel
theorem dX2_compare_16 : decode cX2_compare 16 = .ok (.invokevirtual 71, 3) := by decide +kernel
theorem dX2_compare_19 : decode cX2_compare 19 = .ok (.invokevirtual 122, 3) := by decide +kernel
theorem dX2_compare_22 : decode cX2_compare 22 = .ok (.ireturn, 1) := by decide +kernel
set_option maxRecDepth 20000 in
theorem ggX2_test_X2_needRegister : GoodIn wsX2_test wsX2_needRegister := goodIn_ca (goodIn_r _ [4, 5, 6] (by decide +kernel) (by decide +kernel)) (goodIn_sub (fun _ h => List.mem_cons_of_mem _ (List.mem_append_right _ h)) (by decide +kernel))
set_option maxRecDepth 20000 in
theorem gX2_test_X2_needRegister : GoodIn wsX2_test (va_wsS RX2 42 yX2_needRegister wsX2_needRegister) := goodIn_app (goodIn_of _ (by decide +kernel)) ggX2_test_X2_needRegister
set_option maxRecDepth 20000 in
theorem ggX2_test_X2_read : GoodIn wsX2_test wsX2_read := goodIn_r _ [10, 11, 12, 13, 14, 15, 16, 17, 18, 19, 20, 21, 22, 114, 115, 116, 117, 118, 119, 120, 121, 122] (by decide +kernel) (by decide +kernel)
set_option maxRecDepth 20000 in
theorem gX2_test_X2_read : GoodIn wsX2_test (wsV RX2 71 RX2 yX2_read wsX2_read) := goodIn_app (goodIn_of _ (by decide +kernel)) ggX2_test_X2_read
set_option maxRecDepth 20000 in
theorem ggX2_test_X2_zero : GoodIn wsX2_test wsX2_zero := goodIn_r _ [25, 11, 12, 13, 26, 27, 3, 28, 29, 16, 17, 18, 19, 20, 21, 22, 114, 115] (by decide +kernel) (by decide +kernel)
set_option maxRecDepth 20000 in
theorem gX2_test_X2_zero : GoodIn wsX2_test (va_wsS RX2 126 yX2_zero wsX2_zero) := goodIn_app (goodIn_of _ (by decide +kernel)) ggX2_test_X2_zero
set_option maxRecDepth 20000 in
theorem ggX2_test_X2_order : GoodIn wsX2_test wsX2_order := goodIn_r _ [33, 34, 35, 36, 37, 13, 38, 39, 40, 41, 42, 43, 22, 44, 45, 46, 47, 48, 49, 50, 51, 52, 53, 21, 54, 55, 56, 3, 57, 58, 59, 60, 61, 62, 63, 64, 65, 66, 67, 68, 69, 70, 71, 72, 73, 74, 75, 76, 77, 78, 79, 80, 81, 82, 83, 84, 85, 86, 87, 88, 89, 90, 91, 92, 93, 94, 95, 96, 97, 98, 99, 100, 101, 102, 103, 104, 105, 106, 107, 108, 109, 110, 111, 112, 113, 116, 117, 118, 119, 120, 121, 122, 114, 115] (by decide +kernel) (by decide +kernel)
set_option maxRecDepth 20000 in
theorem gX2_test_X2_order : GoodIn wsX2_test (wsV RX2 122 RX2 yX2_order wsX2_order) := goodIn_app (goodIn_of _ (by decide +kernel)) ggX2_test_X2_order
theorem dX2_test_0 : decode cX2_test 0 = .ok (.iload_n 1, 1) := by decide +kernel
theorem dX2_test_1 : decode cX2_test 1 = .ok (.invokestatic 42, 3) := by decide +kernel
theorem dX2_test_4 : decode cX2_test 4 = .ok (.aload_n 0, 1) := by decide +kernel
theorem dX2_test_5 : decode cX2_test 5 = .ok (.aload_n 0, 1) := by decide +kernel
theorem dX2_test_6 : decode cX2_test 6 = .ok (.iload_n 1, 1) := by decide +kernel
theorem dX2_test_7 : decode cX2_test 7 = .ok (.invokevirtual 71, 3) := by decide +kernel
theorem dX2_test_10 : decode cX2_test 10 = .ok (.iconst 0, 1) := by decide +kernel
theorem dX2_test_11 : decode cX2_test 11 = .ok (.invokestatic 126, 3) := by decide +kernel
theorem dX2_test_14 : decode cX2_test 14 = .ok (.invokevirtual 122, 3) := by decide +kernel
theorem dX2_test_17 : decode cX2_test 17 = .ok (.ireturn, 1) := by decide +kernel
set_option maxRecDepth 20000 in
theorem ggX2_examine_X2_needRegister : GoodIn wsX2_examine wsX2_needRegister := goodIn_ca (goodIn_r _ [4, 5, 6] (by decide +kernel) (by decide +kernel)) (goodIn_sub (fun _ h => List.mem_cons_of_mem _ (List.mem_append_right _ h)) (by decide +kernel))
set_option maxRecDepth 20000 in
theorem gX2_examine_X2_needRegister : GoodIn wsX2_examine (va_wsS RX2 42 yX2_needRegister wsX2_needRegister) := goodIn_app (goodIn_of _ (by decide +kernel)) ggX2_examine_X2_needRegister
set_option maxRecDepth 20000 in
theorem ggX2_examine_X2_read : GoodIn wsX2_examine wsX2_read := goodIn_r _ [10, 11, 12, 13, 14, 15, 16, 17, 18, 19, 20, 21, 22, 40, 41, 42, 43, 44, 45, 46, 47, 48] (by decide +kernel) (by decide +kernel)
set_option maxRecDepth 20000 in
theorem gX2_examine_X2_read : GoodIn wsX2_examine (wsV RX2 71 RX2 yX2_read wsX2_read) := goodIn_app (goodIn_of _ (by decide +kernel)) ggX2_examine_X2_read
set_option maxRecDepth 20000 in
theorem ggX2_examine_X1_kind : GoodIn wsX2_examine wsX1_kind := goodIn_r _ [25, 22, 26, 27, 28, 29, 30, 31, 32, 33, 34, 13, 35, 21, 40, 41] (by decide +kernel) (by decide +kernel)
set_option maxRecDepth 20000 in
theorem gX2_examine_X1_kind_n130 : GoodIn wsX2_examine (wsX1_kind) := ggX2_examine_X1_kind
set_option maxRecDepth 20000 in
theorem ggX2_examine_X1_isNegative : GoodIn wsX2_examine wsX1_isNegative := goodIn_r _ [38, 21, 39, 40, 41] (by decide +kernel) (by decide +kernel)
set_option maxRecDepth 20000 in
theorem gX2_examine_X1_isNegative_n137 : GoodIn wsX2_examine (wsX1_isNegative) := ggX2_examine_X1_isNegative
theorem dX2_examine_0 : decode cX2_examine 0 = .ok (.iload_n 1, 1) := by decide +kernel
theorem dX2_examine_1 : decode cX2_examine 1 = .ok (.invokestatic 42, 3) := by decide +kernel
theorem dX2_examine_4 : decode cX2_examine 4 = .ok (.aload_n 0, 1) := by decide +kernel
theorem dX2_examine_5 : decode cX2_examine 5 = .ok (.iload_n 1, 1) := by decide +kernel
theorem dX2_examine_6 : decode cX2_examine 6 = .ok (.invokevirtual 71, 3) := by decide +kernel
theorem dX2_examine_9 : decode cX2_examine 9 = .ok (.astore_n 2, 1) := by decide +kernel
theorem dX2_examine_10 : decode cX2_examine 10 = .ok (.aload_n 2, 1) := by decide +kernel
theorem dX2_examine_11 : decode cX2_examine 11 = .ok (.invokevirtual 130, 3) := by decide +kernel
theorem dX2_examine_14 : decode cX2_examine 14 = .ok (.getfield 134, 3) := by decide +kernel
theorem dX2_examine_17 : decode cX2_examine 17 = .ok (.aload_n 2, 1) := by decide +kernel
theorem dX2_examine_18 : decode cX2_examine 18 = .ok (.invokevirtual 137, 3) := by decide +kernel
theorem dX2_examine_21 : decode cX2_examine 21 = .ok (.ifCond .eq 7, 3) := by decide +kernel
theorem dX2_examine_24 : decode cX2_examine 24 = .ok (.iconst 2, 1) := by decide +kernel
theorem dX2_examine_25 : decode cX2_examine 25 = .ok (.goto 4, 3) := by decide +kernel
theorem dX2_examine_28 : decode cX2_examine 28 = .ok (.iconst 0, 1) := by decide +kernel
theorem dX2_examine_29 : decode cX2_examine 29 = .ok (.iadd, 1) := by decide +kernel
theorem dX2_examine_30 : decode cX2_examine 30 = .ok (.ireturn, 1) := by decide +kernel
theorem dX2_told_0 : decode cX2_told 0 = .ok (.iload_n 1, 1) := by decide +kernel
theorem dX2_told_1 : decode cX2_told 1 = .ok (.tableswitch 67 0 3 #[31, 36, 49, 54], 31) := by decide +kernel
theorem dX2_told_32 : decode cX2_told 32 = .ok (.aload_n 0, 1) := by decide +kernel
theorem dX2_told_33 : decode cX2_told 33 = .ok (.getfield 21, 3) := by decide +kernel
theorem dX2_told_36 : decode cX2_told 36 = .ok (.ireturn, 1) := by decide +kernel
theorem dX2_told_37 : decode cX2_told 37 = .ok (.aload_n 0, 1) := by decide +kernel
theorem dX2_told_38 : decode cX2_told 38 = .ok (.getfield 24, 3) := by decide +kernel
theorem dX2_told_41 : decode cX2_told 41 = .ok (.ifCond .eq 7, 3) := by decide +kernel
theorem dX2_told_44 : decode cX2_told 44 = .ok (.iconst 1, 1) := by decide +kernel
theorem dX2_told_45 : decode cX2_told 45 = .ok (.goto 4, 3) := by decide +kernel
theorem dX2_told_48 : decode cX2_told 48 = .ok (.iconst 0, 1) := by decide +kernel
theorem dX2_told_49 : decode cX2_told 49 = .ok (.ireturn, 1) := by decide +kernel
theorem dX2_told_50 : decode cX2_told 50 = .ok (.aload_n 0, 1) := by decide +kernel
theorem dX2_told_51 : decode cX2_told 51 = .ok (.getfield 28, 3) := by decide +kernel
theorem dX2_told_54 : decode cX2_told 54 = .ok (.ireturn, 1) := by decide +kernel
theorem dX2_told_55 : decode cX2_told 55 = .ok (.aload_n 0, 1) := by decide +kernel
theorem dX2_told_56 : decode cX2_told 56 = .ok (.getfield 31, 3) := by decide +kernel
theorem dX2_told_59 : decode cX2_told 59 = .ok (.ifCond .eq 7, 3) := by decide +kernel
theorem dX2_told_62 : decode cX2_told 62 = .ok (.iconst 1, 1) := by decide +kernel
theorem dX2_told_63 : decode cX2_told 63 = .ok (.goto 4, 3) := by decide +kernel
theorem dX2_told_66 : decode cX2_told 66 = .ok (.iconst 0, 1) := by decide +kernel
theorem dX2_told_67 : decode cX2_told 67 = .ok (.ireturn, 1) := by decide +kernel
theorem dX2_told_68 : decode cX2_told 68 = .ok (.new 35, 3) := by decide +kernel
theorem dX2_told_71 : decode cX2_told 71 = .ok (.dup, 1) := by decide +kernel
theorem dX2_told_72 : decode cX2_told 72 = .ok (.ldc 140, 2) := by decide +kernel
theorem dX2_told_74 : decode cX2_told 74 = .ok (.invokespecial 39, 3) := by decide +kernel
theorem dX2_told_77 : decode cX2_told 77 = .ok (.athrow, 1) := by decide +kernel
theorem dX2_needRegister_0 : decode cX2_needRegister 0 = .ok (.iload_n 0, 1) := by decide +kernel
theorem dX2_needRegister_1 : decode cX2_needRegister 1 = .ok (.ifCond .lt 9, 3) := by decide +kernel
theorem dX2_needRegister_4 : decode cX2_needRegister 4 = .ok (.iload_n 0, 1) := by decide +kernel
theorem dX2_needRegister_5 : decode cX2_needRegister 5 = .ok (.bipush 8, 2) := by decide +kernel
theorem dX2_needRegister_7 : decode cX2_needRegister 7 = .ok (.if_icmp .lt 13, 3) := by decide +kernel
theorem dX2_needRegister_10 : decode cX2_needRegister 10 = .ok (.new 142, 3) := by decide +kernel
theorem dX2_needRegister_13 : decode cX2_needRegister 13 = .ok (.dup, 1) := by decide +kernel
theorem dX2_needRegister_14 : decode cX2_needRegister 14 = .ok (.ldc 144, 2) := by decide +kernel
theorem dX2_needRegister_16 : decode cX2_needRegister 16 = .ok (.invokespecial 146, 3) := by decide +kernel
theorem dX2_needRegister_19 : decode cX2_needRegister 19 = .ok (.athrow, 1) := by decide +kernel
theorem dX2_needRegister_20 : decode cX2_needRegister 20 = .ok (.return_, 1) := by decide +kernel
set_option maxRecDepth 20000 in
theorem ggX2_read_X1_init : GoodIn wsX2_read wsX1_init := goodIn_r _ [7, 8, 9, 10, 11, 12, 13, 14] (by decide +kernel) (by decide +kernel)
set_option maxRecDepth 20000 in
theorem gX2_read_X1_init_n52 : GoodIn wsX2_read (wsX1_init) := ggX2_read_X1_init
theorem dX2_read_0 : decode cX2_read 0 = .ok (.new 48, 3) := by decide +kernel
theorem dX2_read_3 : decode cX2_read 3 = .ok (.dup, 1) := by decide +kernel
theorem dX2_read_4 : decode cX2_read 4 = .ok (.aload_n 0, 1) := by decide +kernel
theorem dX2_read_5 : decode cX2_read 5 = .ok (.getfield 9, 3) := by decide +kernel
theorem dX2_read_8 : decode cX2_read 8 = .ok (.iload_n 1, 1) := by decide +kernel
theorem dX2_read_9 : decode cX2_read 9 = .ok (.iaload, 1) := by decide +kernel
theorem dX2_read_10 : decode cX2_read 10 = .ok (.aload_n 0, 1) := by decide +kernel
theorem dX2_read_11 : decode cX2_read 11 = .ok (.getfield 13, 3) := by decide +kernel
theorem dX2_read_14 : decode cX2_read 14 = .ok (.iload_n 1, 1) := by decide +kernel
theorem dX2_read_15 : decode cX2_read 15 = .ok (.laload, 1) := by decide +kernel
theorem dX2_read_16 : decode cX2_read 16 = .ok (.invokespecial 52, 3) := by decide +kernel
theorem dX2_read_19 : decode cX2_read 19 = .ok (.areturn, 1) := by decide +kernel
theorem dX2_write_0 : decode cX2_write 0 = .ok (.aload_n 0, 1) := by decide +kernel
theorem dX2_write_1 : decode cX2_write 1 = .ok (.getfield 9, 3) := by decide +kernel
theorem dX2_write_4 : decode cX2_write 4 = .ok (.iload_n 1, 1) := by decide +kernel
theorem dX2_write_5 : decode cX2_write 5 = .ok (.aload_n 2, 1) := by decide +kernel
theorem dX2_write_6 : decode cX2_write 6 = .ok (.getfield 147, 3) := by decide +kernel
theorem dX2_write_9 : decode cX2_write 9 = .ok (.iastore, 1) := by decide +kernel
theorem dX2_write_10 : decode cX2_write 10 = .ok (.aload_n 0, 1) := by decide +kernel
theorem dX2_write_11 : decode cX2_write 11 = .ok (.getfield 13, 3) := by decide +kernel
theorem dX2_write_14 : decode cX2_write 14 = .ok (.iload_n 1, 1) := by decide +kernel
theorem dX2_write_15 : decode cX2_write 15 = .ok (.aload_n 2, 1) := by decide +kernel
theorem dX2_write_16 : decode cX2_write 16 = .ok (.getfield 150, 3) := by decide +kernel
theorem dX2_write_19 : decode cX2_write 19 = .ok (.lastore, 1) := by decide +kernel
theorem dX2_write_20 : decode cX2_write 20 = .ok (.return_, 1) := by decide +kernel
theorem dX2_rounding_0 : decode cX2_rounding 0 = .ok (.aload_n 0, 1) := by decide +kernel
theorem dX2_rounding_1 : decode cX2_rounding 1 = .ok (.getfield 17, 3) := by decide +kernel
theorem dX2_rounding_4 : decode cX2_rounding 4 = .ok (.bipush 10, 2) := by decide +kernel
theorem dX2_rounding_6 : decode cX2_rounding 6 = .ok (.iushr, 1) := by decide +kernel
theorem dX2_rounding_7 : decode cX2_rounding 7 = .ok (.iconst 3, 1) := by decide +kernel
theorem dX2_rounding_8 : decode cX2_rounding 8 = .ok (.iand, 1) := by decide +kernel
theorem dX2_rounding_9 : decode cX2_rounding 9 = .ok (.ireturn, 1) := by decide +kernel
theorem dX2_isMasked_0 : decode cX2_isMasked 0 = .ok (.aload_n 0, 1) := by decide +kernel
theorem dX2_isMasked_1 : decode cX2_isMasked 1 = .ok (.getfield 17, 3) := by decide +kernel
theorem dX2_isMasked_4 : decode cX2_isMasked 4 = .ok (.iload_n 1, 1) := by decide +kernel
theorem dX2_isMasked_5 : decode cX2_isMasked 5 = .ok (.iand, 1) := by decide +kernel
theorem dX2_isMasked_6 : decode cX2_isMasked 6 = .ok (.ifCond .eq 7, 3) := by decide +kernel
theorem dX2_isMasked_9 : decode cX2_isMasked 9 = .ok (.iconst 1, 1) := by decide +kernel
theorem dX2_isMasked_10 : decode cX2_isMasked 10 = .ok (.goto 4, 3) := by decide +kernel
theorem dX2_isMasked_13 : decode cX2_isMasked 13 = .ok (.iconst 0, 1) := by decide +kernel
theorem dX2_isMasked_14 : decode cX2_isMasked 14 = .ok (.ireturn, 1) := by decide +kernel
set_option maxRecDepth 20000 in
theorem ggX2_goesOn_X1_isOf : GoodIn wsX2_goesOn wsX1_isOf := goodIn_r _ [8, 9, 10, 11, 6, 12, 13, 14, 15, 16, 17, 18, 19, 20, 21, 22, 23, 24, 42, 43] (by decide +kernel) (by decide +kernel)
set_option maxRecDepth 20000 in
theorem gX2_goesOn_X1_isOf_n112 : GoodIn wsX2_goesOn (wsX1_isOf) := ggX2_goesOn_X1_isOf
set_option maxRecDepth 20000 in
theorem ggX2_goesOn_X2_tellAtFirst : GoodIn wsX2_goesOn wsX2_tellAtFirst := goodIn_r _ [29, 1, 2, 30, 31, 32, 28, 33, 34, 35, 36, 37, 38, 39, 40, 41] (by decide +kernel) (by decide +kernel)
set_option maxRecDepth 20000 in
theorem gX2_goesOn_X2_tellAtFirst : GoodIn wsX2_goesOn (wsV RX2 157 RX2 yX2_tellAtFirst wsX2_tellAtFirst) := goodIn_app (goodIn_of _ (by decide +kernel)) ggX2_goesOn_X2_tellAtFirst
theorem dX2_goesOn_0 : decode cX2_goesOn 0 = .ok (.aload_n 0, 1) := by decide +kernel
theorem dX2_goesOn_1 : decode cX2_goesOn 1 = .ok (.iconst 0, 1) := by decide +kernel
theorem dX2_goesOn_2 : decode cX2_goesOn 2 = .ok (.putfield 21, 3) := by decide +kernel
theorem dX2_goesOn_5 : decode cX2_goesOn 5 = .ok (.aload_n 0, 1) := by decide +kernel
theorem dX2_goesOn_6 : decode cX2_goesOn 6 = .ok (.iconst 1, 1) := by decide +kernel
theorem dX2_goesOn_7 : decode cX2_goesOn 7 = .ok (.putfield 24, 3) := by decide +kernel
theorem dX2_goesOn_10 : decode cX2_goesOn 10 = .ok (.aload_n 1, 1) := by decide +kernel
theorem dX2_goesOn_11 : decode cX2_goesOn 11 = .ok (.getstatic 154, 3) := by decide +kernel
theorem dX2_goesOn_14 : decode cX2_goesOn 14 = .ok (.invokevirtual 112, 3) := by decide +kernel
theorem dX2_goesOn_17 : decode cX2_goesOn 17 = .ok (.ifCond .ne 17, 3) := by decide +kernel
theorem dX2_goesOn_20 : decode cX2_goesOn 20 = .ok (.aload_n 2, 1) := by decide +kernel
theorem dX2_goesOn_21 : decode cX2_goesOn 21 = .ok (.getstatic 154, 3) := by decide +kernel
theorem dX2_goesOn_24 : decode cX2_goesOn 24 = .ok (.invokevirtual 112, 3) := by decide +kernel
theorem dX2_goesOn_27 : decode cX2_goesOn 27 = .ok (.ifCond .ne 7, 3) := by decide +kernel
theorem dX2_goesOn_30 : decode cX2_goesOn 30 = .ok (.iload_n 3, 1) := by decide +kernel
theorem dX2_goesOn_31 : decode cX2_goesOn 31 = .ok (.ifCond .eq 10, 3) := by decide +kernel
theorem dX2_goesOn_34 : decode cX2_goesOn 34 = .ok (.aload_n 0, 1) := by decide +kernel
theorem dX2_goesOn_35 : decode cX2_goesOn 35 = .ok (.iconst 1, 1) := by decide +kernel
theorem dX2_goesOn_36 : decode cX2_goesOn 36 = .ok (.invokevirtual 157, 3) := by decide +kernel
theorem dX2_goesOn_39 : decode cX2_goesOn 39 = .ok (.iconst 0, 1) := by decide +kernel
theorem dX2_goesOn_40 : decode cX2_goesOn 40 = .ok (.ireturn, 1) := by decide +kernel
theorem dX2_goesOn_41 : decode cX2_goesOn 41 = .ok (.aload_n 1, 1) := by decide +kernel
theorem dX2_goesOn_42 : decode cX2_goesOn 42 = .ok (.getstatic 160, 3) := by decide +kernel
theorem dX2_goesOn_45 : decode cX2_goesOn 45 = .ok (.invokevirtual 112, 3) := by decide +kernel
theorem dX2_goesOn_48 : decode cX2_goesOn 48 = .ok (.ifCond .ne 13, 3) := by decide +kernel
theorem dX2_goesOn_51 : decode cX2_goesOn 51 = .ok (.aload_n 2, 1) := by decide +kernel
theorem dX2_goesOn_52 : decode cX2_goesOn 52 = .ok (.getstatic 160, 3) := by decide +kernel
theorem dX2_goesOn_55 : decode cX2_goesOn 55 = .ok (.invokevirtual 112, 3) := by decide +kernel
theorem dX2_goesOn_58 : decode cX2_goesOn 58 = .ok (.ifCond .eq 8, 3) := by decide +kernel
theorem dX2_goesOn_61 : decode cX2_goesOn 61 = .ok (.aload_n 0, 1) := by decide +kernel
theorem dX2_goesOn_62 : decode cX2_goesOn 62 = .ok (.iconst 2, 1) := by decide +kernel
theorem dX2_goesOn_63 : decode cX2_goesOn 63 = .ok (.invokevirtual 157, 3) := by decide +kernel
theorem dX2_goesOn_66 : decode cX2_goesOn 66 = .ok (.aload_n 0, 1) := by decide +kernel
theorem dX2_goesOn_67 : decode cX2_goesOn 67 = .ok (.getfield 24, 3) := by decide +kernel
theorem dX2_goesOn_70 : decode cX2_goesOn 70 = .ok (.ifCond .eq 13, 3) := by decide +kernel
theorem dX2_goesOn_73 : decode cX2_goesOn 73 = .ok (.iload 4, 2) := by decide +kernel
theorem dX2_goesOn_75 : decode cX2_goesOn 75 = .ok (.ifCond .eq 8, 3) := by decide +kernel
theorem dX2_goesOn_78 : decode cX2_goesOn 78 = .ok (.aload_n 0, 1) := by decide +kernel
theorem dX2_goesOn_79 : decode cX2_goesOn 79 = .ok (.iconst 4, 1) := by decide +kernel
theorem dX2_goesOn_80 : decode cX2_goesOn 80 = .ok (.invokevirtual 157, 3) := by decide +kernel
theorem dX2_goesOn_83 : decode cX2_goesOn 83 = .ok (.aload_n 0, 1) := by decide +kernel
theorem dX2_goesOn_84 : decode cX2_goesOn 84 = .ok (.getfield 24, 3) := by decide +kernel
theorem dX2_goesOn_87 : decode cX2_goesOn 87 = .ok (.ireturn, 1) := by decide +kernel
set_option maxRecDepth 20000 in
theorem ggX2_tellAtFirst_X2_isMasked : GoodIn wsX2_tellAtFirst wsX2_isMasked := goodIn_r _ [7, 8, 9, 10, 11, 12, 13, 14, 15] (by decide +kernel) (by decide +kernel)
set_option maxRecDepth 20000 in
theorem gX2_tellAtFirst_X2_isMasked : GoodIn wsX2_tellAtFirst (wsV RX2 163 RX2 yX2_isMasked wsX2_isMasked) := goodIn_app (goodIn_of _ (by decide +kernel)) ggX2_tellAtFirst_X2_isMasked
theorem dX2_tellAtFirst_0 : decode cX2_tellAtFirst 0 = .ok (.aload_n 0, 1) := by decide +kernel
theorem dX2_tellAtFirst_1 : decode cX2_tellAtFirst 1 = .ok (.dup, 1) := by decide +kernel
theorem dX2_tellAtFirst_2 : decode cX2_tellAtFirst 2 = .ok (.getfield 21, 3) := by decide +kernel
theorem dX2_tellAtFirst_5 : decode cX2_tellAtFirst 5 = .ok (.iload_n 1, 1) := by decide +kernel
theorem dX2_tellAtFirst_6 : decode cX2_tellAtFirst 6 = .ok (.ior, 1) := by decide +kernel
theorem dX2_tellAtFirst_7 : decode cX2_tellAtFirst 7 = .ok (.putfield 21, 3) := by decide +kernel
theorem dX2_tellAtFirst_10 : decode cX2_tellAtFirst 10 = .ok (.aload_n 0, 1) := by decide +kernel
theorem dX2_tellAtFirst_11 : decode cX2_tellAtFirst 11 = .ok (.aload_n 0, 1) := by decide +kernel
theorem dX2_tellAtFirst_12 : decode cX2_tellAtFirst 12 = .ok (.iload_n 1, 1) := by decide +kernel
theorem dX2_tellAtFirst_13 : decode cX2_tellAtFirst 13 = .ok (.invokevirtual 163, 3) := by decide +kernel
theorem dX2_tellAtFirst_16 : decode cX2_tellAtFirst 16 = .ok (.putfield 24, 3) := by decide +kernel
theorem dX2_tellAtFirst_19 : decode cX2_tellAtFirst 19 = .ok (.return_, 1) := by decide +kernel
set_option maxRecDepth 20000 in
theorem ggX2_substitute_X1_isOf : GoodIn wsX2_substitute wsX1_isOf := goodIn_r _ [9, 10, 11, 12, 4, 13, 14, 15, 16, 17, 18, 19, 20, 21, 22, 23, 24, 25, 47, 48] (by decide +kernel) (by decide +kernel)
set_option maxRecDepth 20000 in
theorem gX2_substitute_X1_isOf_n112 : GoodIn wsX2_substitute (wsX1_isOf) := ggX2_substitute_X1_isOf
set_option maxRecDepth 20000 in
theorem ggX2_substitute_X2_greaterNoNumber : GoodIn wsX2_substitute wsX2_greaterNoNumber := goodIn_r _ [29, 30, 4, 31, 32, 25, 33, 34, 35, 36, 37, 38, 39, 40, 41, 47, 48] (by decide +kernel) (by decide +kernel)
set_option maxRecDepth 20000 in
theorem gX2_substitute_X2_greaterNoNumber : GoodIn wsX2_substitute (va_wsS RX2 167 yX2_greaterNoNumber wsX2_greaterNoNumber) := goodIn_app (goodIn_of _ (by decide +kernel)) ggX2_substitute_X2_greaterNoNumber
set_option maxRecDepth 20000 in
theorem ggX2_substitute_X1_init : GoodIn wsX2_substitute wsX1_init := goodIn_r _ [43, 44, 45, 46, 25, 14, 47, 48] (by decide +kernel) (by decide +kernel)
set_option maxRecDepth 20000 in
theorem gX2_substitute_X1_init_n52 : GoodIn wsX2_substitute (wsX1_init) := ggX2_substitute_X1_init
theorem dX2_substitute_0 : decode cX2_substitute 0 = .ok (.aload_n 0, 1) := by decide +kernel
theorem dX2_substitute_1 : decode cX2_substitute 1 = .ok (.getstatic 154, 3) := by decide +kernel
theorem dX2_substitute_4 : decode cX2_substitute 4 = .ok (.invokevirtual 112, 3) := by decide +kernel
theorem dX2_substitute_7 : decode cX2_substitute 7 = .ok (.istore_n 2, 1) := by decide +kernel
theorem dX2_substitute_8 : decode cX2_substitute 8 = .ok (.aload_n 1, 1) := by decide +kernel
theorem dX2_substitute_9 : decode cX2_substitute 9 = .ok (.getstatic 154, 3) := by decide +kernel
theorem dX2_substitute_12 : decode cX2_substitute 12 = .ok (.invokevirtual 112, 3) := by decide +kernel
theorem dX2_substitute_15 : decode cX2_substitute 15 = .ok (.istore_n 3, 1) := by decide +kernel
theorem dX2_substitute_16 : decode cX2_substitute 16 = .ok (.iload_n 2, 1) := by decide +kernel
theorem dX2_substitute_17 : decode cX2_substitute 17 = .ok (.ifCond .eq 13, 3) := by decide +kernel
theorem dX2_substitute_20 : decode cX2_substitute 20 = .ok (.iload_n 3, 1) := by decide +kernel
theorem dX2_substitute_21 : decode cX2_substitute 21 = .ok (.ifCond .eq 9, 3) := by decide +kernel
theorem dX2_substitute_24 : decode cX2_substitute 24 = .ok (.aload_n 0, 1) := by decide +kernel
theorem dX2_substitute_25 : decode cX2_substitute 25 = .ok (.aload_n 1, 1) := by decide +kernel
theorem dX2_substitute_26 : decode cX2_substitute 26 = .ok (.invokestatic 167, 3) := by decide +kernel
theorem dX2_substitute_29 : decode cX2_substitute 29 = .ok (.areturn, 1) := by decide +kernel
theorem dX2_substitute_30 : decode cX2_substitute 30 = .ok (.iload_n 2, 1) := by decide +kernel
theorem dX2_substitute_31 : decode cX2_substitute 31 = .ok (.ifCond .eq 5, 3) := by decide +kernel
theorem dX2_substitute_34 : decode cX2_substitute 34 = .ok (.aload_n 0, 1) := by decide +kernel
theorem dX2_substitute_35 : decode cX2_substitute 35 = .ok (.areturn, 1) := by decide +kernel
theorem dX2_substitute_36 : decode cX2_substitute 36 = .ok (.iload_n 3, 1) := by decide +kernel
theorem dX2_substitute_37 : decode cX2_substitute 37 = .ok (.ifCond .eq 7, 3) := by decide +kernel
theorem dX2_substitute_40 : decode cX2_substitute 40 = .ok (.aload_n 1, 1) := by decide +kernel
theorem dX2_substitute_41 : decode cX2_substitute 41 = .ok (.goto 15, 3) := by decide +kernel
theorem dX2_substitute_44 : decode cX2_substitute 44 = .ok (.new 48, 3) := by decide +kernel
theorem dX2_substitute_47 : decode cX2_substitute 47 = .ok (.dup, 1) := by decide +kernel
theorem dX2_substitute_48 : decode cX2_substitute 48 = .ok (.ldc 34, 2) := by decide +kernel
theorem dX2_substitute_50 : decode cX2_substitute 50 = .ok (.ldc2_w 170, 3) := by decide +kernel
theorem dX2_substitute_53 : decode cX2_substitute 53 = .ok (.invokespecial 52, 3) := by decide +kernel
theorem dX2_substitute_56 : decode cX2_substitute 56 = .ok (.areturn, 1) := by decide +kernel
set_option maxRecDepth 20000 in
theorem ggX2_greaterNoNumber_X1_isNegative : GoodIn wsX2_greaterNoNumber wsX1_isNegative := goodIn_r _ [4, 5, 6, 15, 16] (by decide +kernel) (by decide +kernel)
set_option maxRecDepth 20000 in
theorem gX2_greaterNoNumber_X1_isNegative_n137 : GoodIn wsX2_greaterNoNumber (wsX1_isNegative) := ggX2_greaterNoNumber_X1_isNegative
set_option maxRecDepth 20000 in
theorem ggX2_greaterNoNumber_J13_compareUnsigned_74951 : GoodIn wsX2_greaterNoNumber wsJ13_compareUnsigned_74951 := goodIn_r _ [10, 11, 12, 13, 9, 14] (by decide +kernel) (by decide +kernel)
set_option maxRecDepth 20000 in
theorem gX2_greaterNoNumber_J13_compareUnsigned_74951 : GoodIn wsX2_greaterNoNumber (va_wsS RX2 172 yJ13_compareUnsigned_74951 wsJ13_compareUnsigned_74951) := goodIn_app (goodIn_of _ (by decide +kernel)) ggX2_greaterNoNumber_J13_compareUnsigned_74951
theorem dX2_greaterNoNumber_0 : decode cX2_greaterNoNumber 0 = .ok (.aload_n 0, 1) := by decide +kernel
theorem dX2_greaterNoNumber_1 : decode cX2_greaterNoNumber 1 = .ok (.getfield 150, 3) := by decide +kernel
theorem dX2_greaterNoNumber_4 : decode cX2_greaterNoNumber 4 = .ok (.aload_n 1, 1) := by decide +kernel
theorem dX2_greaterNoNumber_5 : decode cX2_greaterNoNumber 5 = .ok (.getfield 150, 3) := by decide +kernel
theorem dX2_greaterNoNumber_8 : decode cX2_greaterNoNumber 8 = .ok (.lcmp, 1) := by decide +kernel
theorem dX2_greaterNoNumber_9 : decode cX2_greaterNoNumber 9 = .ok (.ifCond .ne 16, 3) := by decide +kernel
theorem dX2_greaterNoNumber_12 : decode cX2_greaterNoNumber 12 = .ok (.aload_n 0, 1) := by decide +kernel
theorem dX2_greaterNoNumber_13 : decode cX2_greaterNoNumber 13 = .ok (.invokevirtual 137, 3) := by decide +kernel
theorem dX2_greaterNoNumber_16 : decode cX2_greaterNoNumber 16 = .ok (.ifCond .eq 7, 3) := by decide +kernel
theorem dX2_greaterNoNumber_19 : decode cX2_greaterNoNumber 19 = .ok (.aload_n 1, 1) := by decide +kernel
theorem dX2_greaterNoNumber_20 : decode cX2_greaterNoNumber 20 = .ok (.goto 4, 3) := by decide +kernel
theorem dX2_greaterNoNumber_23 : decode cX2_greaterNoNumber 23 = .ok (.aload_n 0, 1) := by decide +kernel
theorem dX2_greaterNoNumber_24 : decode cX2_greaterNoNumber 24 = .ok (.areturn, 1) := by decide +kernel
theorem dX2_greaterNoNumber_25 : decode cX2_greaterNoNumber 25 = .ok (.aload_n 0, 1) := by decide +kernel
theorem dX2_greaterNoNumber_26 : decode cX2_greaterNoNumber 26 = .ok (.getfield 150, 3) := by decide +kernel
theorem dX2_greaterNoNumber_29 : decode cX2_greaterNoNumber 29 = .ok (.aload_n 1, 1) := by decide +kernel
theorem dX2_greaterNoNumber_30 : decode cX2_greaterNoNumber 30 = .ok (.getfield 150, 3) := by decide +kernel
theorem dX2_greaterNoNumber_33 : decode cX2_greaterNoNumber 33 = .ok (.invokestatic 172, 3) := by decide +kernel
theorem dX2_greaterNoNumber_36 : decode cX2_greaterNoNumber 36 = .ok (.ifCond .le 7, 3) := by decide +kernel
theorem dX2_greaterNoNumber_39 : decode cX2_greaterNoNumber 39 = .ok (.aload_n 0, 1) := by decide +kernel
theorem dX2_greaterNoNumber_40 : decode cX2_greaterNoNumber 40 = .ok (.goto 4, 3) := by decide +kernel
theorem dX2_greaterNoNumber_43 : decode cX2_greaterNoNumber 43 = .ok (.aload_n 1, 1) := by decide +kernel
theorem dX2_greaterNoNumber_44 : decode cX2_greaterNoNumber 44 = .ok (.areturn, 1) := by decide +kernel
theorem dX2_signOf_0 : decode cX2_signOf 0 = .ok (.iload_n 0, 1) := by decide +kernel
theorem dX2_signOf_1 : decode cX2_signOf 1 = .ok (.ifCond .eq 8, 3) := by decide +kernel
theorem dX2_signOf_4 : decode cX2_signOf 4 = .ok (.ldc 62, 2) := by decide +kernel
theorem dX2_signOf_6 : decode cX2_signOf 6 = .ok (.goto 4, 3) := by decide +kernel
theorem dX2_signOf_9 : decode cX2_signOf 9 = .ok (.iconst 0, 1) := by decide +kernel
theorem dX2_signOf_10 : decode cX2_signOf 10 = .ok (.ireturn, 1) := by decide +kernel
set_option maxRecDepth 20000 in
theorem ggX2_zero_X2_signOf : GoodIn wsX2_zero wsX2_signOf := goodIn_r _ [7, 8] (by decide +kernel) (by decide +kernel)
set_option maxRecDepth 20000 in
theorem gX2_zero_X2_signOf : GoodIn wsX2_zero (va_wsS RX2 178 yX2_signOf wsX2_signOf) := goodIn_app (goodIn_of _ (by decide +kernel)) ggX2_zero_X2_signOf
set_option maxRecDepth 20000 in
theorem ggX2_zero_X1_init : GoodIn wsX2_zero wsX1_init := goodIn_r _ [10, 11, 12, 13, 14, 15, 16, 17] (by decide +kernel) (by decide +kernel)
set_option maxRecDepth 20000 in
theorem gX2_zero_X1_init_n52 : GoodIn wsX2_zero (wsX1_init) := ggX2_zero_X1_init
theorem dX2_zero_0 : decode cX2_zero 0 = .ok (.new 48, 3) := by decide +kernel
theorem dX2_zero_3 : decode cX2_zero 3 = .ok (.dup, 1) := by decide +kernel
theorem dX2_zero_4 : decode cX2_zero 4 = .ok (.iload_n 0, 1) := by decide +kernel
theorem dX2_zero_5 : decode cX2_zero 5 = .ok (.invokestatic 178, 3) := by decide +kernel
theorem dX2_zero_8 : decode cX2_zero 8 = .ok (.lconst 0, 1) := by decide +kernel
theorem dX2_zero_9 : decode cX2_zero 9 = .ok (.invokespecial 52, 3) := by decide +kernel
theorem dX2_zero_12 : decode cX2_zero 12 = .ok (.areturn, 1) := by decide +kernel
set_option maxRecDepth 20000 in
theorem ggX2_infinite_X2_signOf : GoodIn wsX2_infinite wsX2_signOf := goodIn_r _ [8, 9] (by decide +kernel) (by decide +kernel)
set_option maxRecDepth 20000 in
theorem gX2_infinite_X2_signOf : GoodIn wsX2_infinite (va_wsS RX2 178 yX2_signOf wsX2_signOf) := goodIn_app (goodIn_of _ (by decide +kernel)) ggX2_infinite_X2_signOf
set_option maxRecDepth 20000 in
theorem ggX2_infinite_X1_init : GoodIn wsX2_infinite wsX1_init := goodIn_r _ [11, 12, 13, 14, 15, 16, 17, 18] (by decide +kernel) (by decide +kernel)
set_option maxRecDepth 20000 in
theorem gX2_infinite_X1_init_n52 : GoodIn wsX2_infinite (wsX1_init) := ggX2_infinite_X1_init
theorem dX2_infinite_0 : decode cX2_infinite 0 = .ok (.new 48, 3) := by decide +kernel
theorem dX2_infinite_3 : decode cX2_infinite 3 = .ok (.dup, 1) := by decide +kernel
theorem dX2_infinite_4 : decode cX2_infinite 4 = .ok (.iload_n 0, 1) := by decide +kernel
theorem dX2_infinite_5 : decode cX2_infinite 5 = .ok (.invokestatic 178, 3) := by decide +kernel
theorem dX2_infinite_8 : decode cX2_infinite 8 = .ok (.sipush 32767, 3) := by decide +kernel
theorem dX2_infinite_11 : decode cX2_infinite 11 = .ok (.ior, 1) := by decide +kernel
theorem dX2_infinite_12 : decode cX2_infinite 12 = .ok (.ldc2_w 182, 3) := by decide +kernel
theorem dX2_infinite_15 : decode cX2_infinite 15 = .ok (.invokespecial 52, 3) := by decide +kernel
theorem dX2_infinite_18 : decode cX2_infinite 18 = .ok (.areturn, 1) := by decide +kernel
set_option maxRecDepth 20000 in
theorem ggX2_normal_X2_signOf : GoodIn wsX2_normal wsX2_signOf := goodIn_r _ [7, 8] (by decide +kernel) (by decide +kernel)
set_option maxRecDepth 20000 in
theorem gX2_normal_X2_signOf : GoodIn wsX2_normal (va_wsS RX2 178 yX2_signOf wsX2_signOf) := goodIn_app (goodIn_of _ (by decide +kernel)) ggX2_normal_X2_signOf
set_option maxRecDepth 20000 in
theorem ggX2_normal_X1_init : GoodIn wsX2_normal wsX1_init := goodIn_r _ [10, 11, 12, 13, 14, 15, 16, 17] (by decide +kernel) (by decide +kernel)
set_option maxRecDepth 20000 in
theorem gX2_normal_X1_init_n52 : GoodIn wsX2_normal (wsX1_init) := ggX2_normal_X1_init
theorem dX2_normal_0 : decode cX2_normal 0 = .ok (.new 48, 3) := by decide +kernel
theorem dX2_normal_3 : decode cX2_normal 3 = .ok (.dup, 1) := by decide +kernel
theorem dX2_normal_4 : decode cX2_normal 4 = .ok (.iload_n 0, 1) := by decide +kernel
theorem dX2_normal_5 : decode cX2_normal 5 = .ok (.invokestatic 178, 3) := by decide +kernel
theorem dX2_normal_8 : decode cX2_normal 8 = .ok (.iload_n 1, 1) := by decide +kernel
theorem dX2_normal_9 : decode cX2_normal 9 = .ok (.sipush 16383, 3) := by decide +kernel
theorem dX2_normal_12 : decode cX2_normal 12 = .ok (.iadd, 1) := by decide +kernel
theorem dX2_normal_13 : decode cX2_normal 13 = .ok (.ior, 1) := by decide +kernel
theorem dX2_normal_14 : decode cX2_normal 14 = .ok (.lload_n 2, 1) := by decide +kernel
theorem dX2_normal_15 : decode cX2_normal 15 = .ok (.invokespecial 52, 3) := by decide +kernel
theorem dX2_normal_18 : decode cX2_normal 18 = .ok (.areturn, 1) := by decide +kernel
set_option maxRecDepth 20000 in
theorem ggX2_make_X2_zero : GoodIn wsX2_make wsX2_zero := goodIn_r _ [4, 5, 6, 7, 8, 9, 3, 10, 11, 12, 13, 14, 15, 16, 17, 18, 71, 72] (by decide +kernel) (by decide +kernel)
set_option maxRecDepth 20000 in
theorem gX2_make_X2_zero : GoodIn wsX2_make (va_wsS RX2 126 yX2_zero wsX2_zero) := goodIn_app (goodIn_of _ (by decide +kernel)) ggX2_make_X2_zero
set_option maxRecDepth 20000 in
theorem ggX2_make_J13_numberOfLeadingZeros_95d88 : GoodIn wsX2_make wsJ13_numberOfLeadingZeros_95d88 := goodIn_r _ [22, 23, 24, 25, 26, 27] (by decide +kernel) (by decide +kernel)
set_option maxRecDepth 20000 in
theorem gX2_make_J13_numberOfLeadingZeros_95d88 : GoodIn wsX2_make (va_wsS RX2 184 yJ13_numberOfLeadingZeros_95d88 wsJ13_numberOfLeadingZeros_95d88) := goodIn_app (goodIn_of _ (by decide +kernel)) ggX2_make_J13_numberOfLeadingZeros_95d88
set_option maxRecDepth 20000 in
theorem ggX2_make_X2_makeUnder : GoodIn wsX2_make wsX2_makeUnder := goodIn_r _ [31, 32, 5, 6, 7, 33, 34, 35, 3, 36, 37, 38, 39, 40, 8, 9, 10, 11, 12, 13, 14, 15, 16, 17, 18, 41, 42, 43, 44, 45, 46, 47, 48, 49, 50, 51, 52, 53, 54, 55, 56, 21, 57, 58, 59, 60, 61, 73, 74, 75, 76, 77, 78, 79, 71, 72] (by decide +kernel) (by decide +kernel)
set_option maxRecDepth 20000 in
theorem gX2_make_X2_makeUnder : GoodIn wsX2_make (wsV RX2 188 RX2 yX2_makeUnder wsX2_makeUnder) := goodIn_app (goodIn_of _ (by decide +kernel)) ggX2_make_X2_makeUnder
set_option maxRecDepth 20000 in
theorem ggX2_make_X2_makeOver : GoodIn wsX2_make wsX2_makeOver := goodIn_r _ [65, 32, 66, 33, 34, 35, 3, 36, 37, 38, 39, 40, 5, 6, 7, 8, 9, 10, 11, 12, 13, 14, 15, 16, 17, 18, 48, 49, 50, 51, 67, 68, 69, 70, 73, 74, 75, 76, 77, 78, 79, 71, 72] (by decide +kernel) (by decide +kernel)
set_option maxRecDepth 20000 in
theorem gX2_make_X2_makeOver : GoodIn wsX2_make (wsV RX2 192 RX2 yX2_makeOver wsX2_makeOver) := goodIn_app (goodIn_of _ (by decide +kernel)) ggX2_make_X2_makeOver
set_option maxRecDepth 20000 in
theorem ggX2_make_X2_normal : GoodIn wsX2_make wsX2_normal := goodIn_r _ [40, 5, 6, 7, 8, 9, 3, 10, 11, 12, 13, 14, 15, 16, 17, 18, 71, 72] (by decide +kernel) (by decide +kernel)
set_option maxRecDepth 20000 in
theorem gX2_make_X2_normal : GoodIn wsX2_make (va_wsS RX2 195 yX2_normal wsX2_normal) := goodIn_app (goodIn_of _ (by decide +kernel)) ggX2_make_X2_normal
theorem dX2_make_0 : decode cX2_make 0 = .ok (.lload_n 2, 1) := by decide +kernel
theorem dX2_make_1 : decode cX2_make 1 = .ok (.lconst 0, 1) := by decide +kernel
theorem dX2_make_2 : decode cX2_make 2 = .ok (.lcmp, 1) := by decide +kernel
theorem dX2_make_3 : decode cX2_make 3 = .ok (.ifCond .ne 8, 3) := by decide +kernel
theorem dX2_make_6 : decode cX2_make 6 = .ok (.iload_n 1, 1) := by decide +kernel
theorem dX2_make_7 : decode cX2_make 7 = .ok (.invokestatic 126, 3) := by decide +kernel
theorem dX2_make_10 : decode cX2_make 10 = .ok (.areturn, 1) := by decide +kernel
theorem dX2_make_11 : decode cX2_make 11 = .ok (.lload_n 2, 1) := by decide +kernel
theorem dX2_make_12 : decode cX2_make 12 = .ok (.invokestatic 184, 3) := by decide +kernel
theorem dX2_make_15 : decode cX2_make 15 = .ok (.istore 5, 2) := by decide +kernel
theorem dX2_make_17 : decode cX2_make 17 = .ok (.lload_n 2, 1) := by decide +kernel
