set_option maxRecDepth 20000 in
theorem ggL_control_X2_control : GoodIn wsL_control wsX2_control := goodIn_ca (goodIn_r _ [6, 7, 8, 9, 10, 11, 12, 13, 14, 15, 16, 17] (by decide +kernel) (by decide +kernel)) (goodIn_sub (fun _ h => List.mem_cons_of_mem _ (List.mem_append_right _ h)) (by decide +kernel))
set_option maxRecDepth 20000 in
theorem gL_control_X2_control : GoodIn wsL_control (wsV RL 7 RX2 yX2_control wsX2_control) := goodIn_app (goodIn_of _ (by decide +kernel)) ggL_control_X2_control
theorem dL_control_0 : decode cL_control 0 = .ok (.aload_n 0, 1) := by decide +kernel
theorem dL_control_1 : decode cL_control 1 = .ok (.iload_n 1, 1) := by decide +kernel
theorem dL_control_2 : decode cL_control 2 = .ok (.invokevirtual 7, 3) := by decide +kernel
theorem dL_control_5 : decode cL_control 5 = .ok (.goto 6, 3) := by decide +kernel
theorem dL_control_8 : decode cL_control 8 = .ok (.astore_n 2, 1) := by decide +kernel
theorem dL_control_9 : decode cL_control 9 = .ok (.iconst 1, 1) := by decide +kernel
theorem dL_control_10 : decode cL_control 10 = .ok (.ireturn, 1) := by decide +kernel
theorem dL_control_11 : decode cL_control 11 = .ok (.iconst 0, 1) := by decide +kernel
theorem dL_control_12 : decode cL_control 12 = .ok (.ireturn, 1) := by decide +kernel
set_option maxRecDepth 20000 in
theorem ggL_set_X2_set : GoodIn wsL_set wsX2_set := goodIn_ca (goodIn_ca (goodIn_r _ [7, 8, 9, 10, 11, 12, 13, 14, 15, 16, 6, 17, 18, 19, 20, 21, 22, 23, 24, 25, 26, 27, 28, 29, 30, 31, 32, 33, 34, 35, 36, 37, 38, 39, 40, 41] (by decide +kernel) (by decide +kernel)) (goodIn_sub (fun _ h => List.mem_cons_of_mem _ (List.mem_append_left _ (List.mem_append_right _ h))) (by decide +kernel))) (goodIn_sub (fun _ h => List.mem_cons_of_mem _ (List.mem_append_right _ h)) (by decide +kernel))
set_option maxRecDepth 20000 in
theorem gL_set_X2_set : GoodIn wsL_set (wsV RL 15 RX2 yX2_set wsX2_set) := goodIn_app (goodIn_of _ (by decide +kernel)) ggL_set_X2_set
theorem dL_set_0 : decode cL_set 0 = .ok (.aload_n 0, 1) := by decide +kernel
theorem dL_set_1 : decode cL_set 1 = .ok (.iload_n 1, 1) := by decide +kernel
theorem dL_set_2 : decode cL_set 2 = .ok (.iload_n 2, 1) := by decide +kernel
theorem dL_set_3 : decode cL_set 3 = .ok (.iload_n 3, 1) := by decide +kernel
theorem dL_set_4 : decode cL_set 4 = .ok (.iload 4, 2) := by decide +kernel
theorem dL_set_6 : decode cL_set 6 = .ok (.invokevirtual 15, 3) := by decide +kernel
theorem dL_set_9 : decode cL_set 9 = .ok (.goto 11, 3) := by decide +kernel
theorem dL_set_12 : decode cL_set 12 = .ok (.astore 5, 2) := by decide +kernel
theorem dL_set_14 : decode cL_set 14 = .ok (.iconst 1, 1) := by decide +kernel
theorem dL_set_15 : decode cL_set 15 = .ok (.ireturn, 1) := by decide +kernel
theorem dL_set_16 : decode cL_set 16 = .ok (.astore 5, 2) := by decide +kernel
theorem dL_set_18 : decode cL_set 18 = .ok (.iconst 2, 1) := by decide +kernel
theorem dL_set_19 : decode cL_set 19 = .ok (.ireturn, 1) := by decide +kernel
theorem dL_set_20 : decode cL_set 20 = .ok (.iconst 0, 1) := by decide +kernel
theorem dL_set_21 : decode cL_set 21 = .ok (.ireturn, 1) := by decide +kernel
set_option maxRecDepth 20000 in
theorem ggL_part_X2_part : GoodIn wsL_part wsX2_part := goodIn_ca (goodIn_ca (goodIn_r _ [7, 8, 9, 10, 11, 12, 13, 6, 14, 15, 16, 17, 18, 19, 20, 21, 22, 23] (by decide +kernel) (by decide +kernel)) (goodIn_sub (fun _ h => List.mem_cons_of_mem _ (List.mem_append_left _ (List.mem_append_right _ h))) (by decide +kernel))) (goodIn_sub (fun _ h => List.mem_cons_of_mem _ (List.mem_append_right _ h)) (by decide +kernel))
set_option maxRecDepth 20000 in
theorem gL_part_X2_part : GoodIn wsL_part (wsV RL 21 RX2 yX2_part wsX2_part) := goodIn_app (goodIn_of _ (by decide +kernel)) ggL_part_X2_part
theorem dL_part_0 : decode cL_part 0 = .ok (.aload_n 3, 1) := by decide +kernel
theorem dL_part_1 : decode cL_part 1 = .ok (.iconst 0, 1) := by decide +kernel
theorem dL_part_2 : decode cL_part 2 = .ok (.aload_n 0, 1) := by decide +kernel
theorem dL_part_3 : decode cL_part 3 = .ok (.iload_n 1, 1) := by decide +kernel
theorem dL_part_4 : decode cL_part 4 = .ok (.iload_n 2, 1) := by decide +kernel
theorem dL_part_5 : decode cL_part 5 = .ok (.invokevirtual 21, 3) := by decide +kernel
theorem dL_part_8 : decode cL_part 8 = .ok (.i2l, 1) := by decide +kernel
theorem dL_part_9 : decode cL_part 9 = .ok (.lastore, 1) := by decide +kernel
theorem dL_part_10 : decode cL_part 10 = .ok (.goto 11, 3) := by decide +kernel
theorem dL_part_13 : decode cL_part 13 = .ok (.astore 4, 2) := by decide +kernel
theorem dL_part_15 : decode cL_part 15 = .ok (.iconst 1, 1) := by decide +kernel
theorem dL_part_16 : decode cL_part 16 = .ok (.ireturn, 1) := by decide +kernel
theorem dL_part_17 : decode cL_part 17 = .ok (.astore 4, 2) := by decide +kernel
theorem dL_part_19 : decode cL_part 19 = .ok (.iconst 2, 1) := by decide +kernel
theorem dL_part_20 : decode cL_part 20 = .ok (.ireturn, 1) := by decide +kernel
theorem dL_part_21 : decode cL_part 21 = .ok (.iconst 0, 1) := by decide +kernel
theorem dL_part_22 : decode cL_part 22 = .ok (.ireturn, 1) := by decide +kernel
set_option maxRecDepth 20000 in
theorem ggL_turn_X2_turn : GoodIn wsL_turn wsX2_turn := goodIn_ca (goodIn_r _ [6, 7, 8, 9, 10, 11, 5, 12, 13, 14, 15, 16, 17, 18, 19, 20, 21] (by decide +kernel) (by decide +kernel)) (goodIn_sub (fun _ h => List.mem_cons_of_mem _ (List.mem_append_right _ h)) (by decide +kernel))
set_option maxRecDepth 20000 in
theorem gL_turn_X2_turn : GoodIn wsL_turn (wsV RL 25 RX2 yX2_turn wsX2_turn) := goodIn_app (goodIn_of _ (by decide +kernel)) ggL_turn_X2_turn
theorem dL_turn_0 : decode cL_turn 0 = .ok (.aload_n 0, 1) := by decide +kernel
theorem dL_turn_1 : decode cL_turn 1 = .ok (.iload_n 1, 1) := by decide +kernel
theorem dL_turn_2 : decode cL_turn 2 = .ok (.iload_n 2, 1) := by decide +kernel
theorem dL_turn_3 : decode cL_turn 3 = .ok (.invokevirtual 25, 3) := by decide +kernel
theorem dL_turn_6 : decode cL_turn 6 = .ok (.goto 6, 3) := by decide +kernel
theorem dL_turn_9 : decode cL_turn 9 = .ok (.astore_n 3, 1) := by decide +kernel
theorem dL_turn_10 : decode cL_turn 10 = .ok (.iconst 1, 1) := by decide +kernel
theorem dL_turn_11 : decode cL_turn 11 = .ok (.ireturn, 1) := by decide +kernel
theorem dL_turn_12 : decode cL_turn 12 = .ok (.iconst 0, 1) := by decide +kernel
theorem dL_turn_13 : decode cL_turn 13 = .ok (.ireturn, 1) := by decide +kernel
set_option maxRecDepth 20000 in
theorem ggL_constant_X2_constant : GoodIn wsL_constant wsX2_constant := goodIn_ca (goodIn_ca (goodIn_r _ [7, 8, 9, 10, 11, 12, 13, 14, 15, 16, 6, 17, 18, 19, 20, 21, 22, 23, 24, 25, 26, 27, 28, 29, 30, 31, 32, 33, 34, 35, 36, 37, 38, 39, 40, 41] (by decide +kernel) (by decide +kernel)) (goodIn_sub (fun _ h => List.mem_cons_of_mem _ (List.mem_append_left _ (List.mem_append_right _ h))) (by decide +kernel))) (goodIn_sub (fun _ h => List.mem_cons_of_mem _ (List.mem_append_right _ h)) (by decide +kernel))
set_option maxRecDepth 20000 in
theorem gL_constant_X2_constant : GoodIn wsL_constant (wsV RL 29 RX2 yX2_constant wsX2_constant) := goodIn_app (goodIn_of _ (by decide +kernel)) ggL_constant_X2_constant
theorem dL_constant_0 : decode cL_constant 0 = .ok (.aload_n 0, 1) := by decide +kernel
theorem dL_constant_1 : decode cL_constant 1 = .ok (.iload_n 1, 1) := by decide +kernel
theorem dL_constant_2 : decode cL_constant 2 = .ok (.iload_n 2, 1) := by decide +kernel
theorem dL_constant_3 : decode cL_constant 3 = .ok (.invokevirtual 29, 3) := by decide +kernel
theorem dL_constant_6 : decode cL_constant 6 = .ok (.goto 9, 3) := by decide +kernel
theorem dL_constant_9 : decode cL_constant 9 = .ok (.astore_n 3, 1) := by decide +kernel
theorem dL_constant_10 : decode cL_constant 10 = .ok (.iconst 1, 1) := by decide +kernel
theorem dL_constant_11 : decode cL_constant 11 = .ok (.ireturn, 1) := by decide +kernel
theorem dL_constant_12 : decode cL_constant 12 = .ok (.astore_n 3, 1) := by decide +kernel
theorem dL_constant_13 : decode cL_constant 13 = .ok (.iconst 2, 1) := by decide +kernel
theorem dL_constant_14 : decode cL_constant 14 = .ok (.ireturn, 1) := by decide +kernel
theorem dL_constant_15 : decode cL_constant 15 = .ok (.iconst 0, 1) := by decide +kernel
theorem dL_constant_16 : decode cL_constant 16 = .ok (.ireturn, 1) := by decide +kernel
set_option maxRecDepth 20000 in
theorem ggL_whole_X2_whole : GoodIn wsL_whole wsX2_whole := goodIn_ca (goodIn_r _ [6, 7, 8, 9, 10, 5, 11, 12, 13, 14, 15, 16, 17, 18, 19, 20, 21, 22, 23, 24, 25, 26, 27, 28, 29, 30, 31, 32, 33, 34, 35, 36, 37, 38, 39, 40, 41, 42, 43, 44, 45, 46, 47, 48, 49, 50, 51, 52, 53, 54, 55, 56, 57, 58, 59, 60, 61, 62, 63, 64, 65, 66, 67, 68, 69, 70, 71, 72, 73, 74, 75, 76, 77, 78, 79, 80, 81, 82, 83, 84, 85, 86, 87, 88, 89, 90, 91, 92, 93, 94, 95, 96, 97, 98, 99, 100, 101, 102, 103, 104, 105, 106, 107, 108, 109, 110, 111, 112, 113, 114, 115, 116, 117, 118, 119, 120, 121, 122, 123, 124, 125, 126, 127, 128, 129, 130, 131, 132, 133, 134, 135, 136, 137, 138, 139, 140, 141, 142, 143, 144, 145, 146, 147, 148, 149, 150, 151, 152, 153, 154, 155, 156, 157, 158, 159, 160, 161, 162, 163, 164, 165, 166] (by decide +kernel) (by decide +kernel)) (goodIn_sub (fun _ h => List.mem_cons_of_mem _ (List.mem_append_right _ h)) (by decide +kernel))
set_option maxRecDepth 20000 in
theorem gL_whole_X2_whole : GoodIn wsL_whole (wsV RL 33 RX2 yX2_whole wsX2_whole) := goodIn_app (goodIn_of _ (by decide +kernel)) ggL_whole_X2_whole
theorem dL_whole_0 : decode cL_whole 0 = .ok (.aload_n 3, 1) := by decide +kernel
theorem dL_whole_1 : decode cL_whole 1 = .ok (.iconst 0, 1) := by decide +kernel
theorem dL_whole_2 : decode cL_whole 2 = .ok (.aload_n 0, 1) := by decide +kernel
theorem dL_whole_3 : decode cL_whole 3 = .ok (.iload_n 1, 1) := by decide +kernel
theorem dL_whole_4 : decode cL_whole 4 = .ok (.iload_n 2, 1) := by decide +kernel
theorem dL_whole_5 : decode cL_whole 5 = .ok (.invokevirtual 33, 3) := by decide +kernel
theorem dL_whole_8 : decode cL_whole 8 = .ok (.i2l, 1) := by decide +kernel
theorem dL_whole_9 : decode cL_whole 9 = .ok (.lastore, 1) := by decide +kernel
theorem dL_whole_10 : decode cL_whole 10 = .ok (.goto 7, 3) := by decide +kernel
theorem dL_whole_13 : decode cL_whole 13 = .ok (.astore 4, 2) := by decide +kernel
theorem dL_whole_15 : decode cL_whole 15 = .ok (.iconst 1, 1) := by decide +kernel
theorem dL_whole_16 : decode cL_whole 16 = .ok (.ireturn, 1) := by decide +kernel
theorem dL_whole_17 : decode cL_whole 17 = .ok (.iconst 0, 1) := by decide +kernel
theorem dL_whole_18 : decode cL_whole 18 = .ok (.ireturn, 1) := by decide +kernel
set_option maxRecDepth 20000 in
theorem ggL_scale_X2_scale : GoodIn wsL_scale wsX2_scale := goodIn_ca (goodIn_r _ [6, 7, 8, 9, 10, 5, 11, 12, 13, 14, 15, 16, 17, 18, 19, 20, 21, 22, 23, 24, 25, 26, 27, 28, 29, 30, 31, 32, 33, 34, 35, 36, 37, 38, 39, 40, 41, 42, 43, 44, 45, 46, 47, 48, 49, 50, 51, 52, 53, 54, 55, 56, 57, 58, 59, 60, 61, 62, 63, 64, 65, 66, 67, 68, 69, 70, 71, 72, 73, 74, 75, 76, 77, 78, 79, 80, 81, 82, 83, 84, 85, 86, 87, 88, 89, 90, 91, 92, 93, 94, 95, 96, 97, 98, 99, 100, 101, 102, 103, 104, 105, 106, 107, 108, 109, 110, 111, 112, 113, 114, 115, 116, 117, 118, 119, 120, 121, 122, 123, 124, 125, 126, 127, 128, 129, 130, 131, 132, 133, 134, 135, 136, 137, 138, 139, 140, 141, 142, 143, 144, 145, 146, 147, 148, 149, 150, 151, 152, 153, 154, 155, 156, 157, 158, 159, 160, 161, 162, 163, 164, 165, 166, 167, 168, 169, 170, 171, 172] (by decide +kernel) (by decide +kernel)) (goodIn_sub (fun _ h => List.mem_cons_of_mem _ (List.mem_append_right _ h)) (by decide +kernel))
set_option maxRecDepth 20000 in
theorem gL_scale_X2_scale : GoodIn wsL_scale (wsV RL 36 RX2 yX2_scale wsX2_scale) := goodIn_app (goodIn_of _ (by decide +kernel)) ggL_scale_X2_scale
theorem dL_scale_0 : decode cL_scale 0 = .ok (.aload 4, 2) := by decide +kernel
theorem dL_scale_2 : decode cL_scale 2 = .ok (.iconst 0, 1) := by decide +kernel
theorem dL_scale_3 : decode cL_scale 3 = .ok (.aload_n 0, 1) := by decide +kernel
theorem dL_scale_4 : decode cL_scale 4 = .ok (.iload_n 1, 1) := by decide +kernel
theorem dL_scale_5 : decode cL_scale 5 = .ok (.iload_n 2, 1) := by decide +kernel
theorem dL_scale_6 : decode cL_scale 6 = .ok (.iload_n 3, 1) := by decide +kernel
theorem dL_scale_7 : decode cL_scale 7 = .ok (.invokevirtual 36, 3) := by decide +kernel
theorem dL_scale_10 : decode cL_scale 10 = .ok (.i2l, 1) := by decide +kernel
theorem dL_scale_11 : decode cL_scale 11 = .ok (.lastore, 1) := by decide +kernel
theorem dL_scale_12 : decode cL_scale 12 = .ok (.goto 7, 3) := by decide +kernel
theorem dL_scale_15 : decode cL_scale 15 = .ok (.astore 5, 2) := by decide +kernel
theorem dL_scale_17 : decode cL_scale 17 = .ok (.iconst 1, 1) := by decide +kernel
theorem dL_scale_18 : decode cL_scale 18 = .ok (.ireturn, 1) := by decide +kernel
theorem dL_scale_19 : decode cL_scale 19 = .ok (.iconst 0, 1) := by decide +kernel
theorem dL_scale_20 : decode cL_scale 20 = .ok (.ireturn, 1) := by decide +kernel
set_option maxRecDepth 20000 in
theorem ggL_extract_X2_extract : GoodIn wsL_extract wsX2_extract := goodIn_ca (goodIn_ca (goodIn_r _ [7, 8, 9, 10, 11, 12, 13, 6, 14, 15, 16, 17, 18, 19, 20, 21, 22, 23, 24, 25, 26, 27, 28, 29, 30, 31, 32, 33, 34, 35, 36, 37, 38, 39, 40, 41, 42, 43, 44, 45, 46, 47, 48, 49, 50, 51, 52, 53, 54, 55, 56, 57, 58, 59, 60, 61, 62, 63, 64, 65, 66, 67, 68, 69, 70, 71, 72, 73, 74, 75, 76, 77, 78, 79, 80, 81, 82, 83, 84, 85, 86, 87, 88, 89, 90, 91, 92, 93, 94, 95, 96, 97, 98, 99, 100, 101, 102, 103, 104, 105, 106, 107, 108, 109, 110, 111, 112, 113, 114, 115, 116, 117, 118, 119, 120, 121, 122, 123, 124, 125, 126, 127, 128, 129, 130, 131, 132, 133, 134, 135, 136, 137, 138, 139, 140, 141, 142, 143, 144, 145, 146, 147, 148, 149, 150, 151, 152, 153, 154, 155, 156, 157, 158, 159, 160, 161, 162, 163, 164, 165, 166, 167, 168, 169, 170, 171, 172, 173, 174, 175, 176] (by decide +kernel) (by decide +kernel)) (goodIn_sub (fun _ h => List.mem_cons_of_mem _ (List.mem_append_left _ (List.mem_append_right _ h))) (by decide +kernel))) (goodIn_sub (fun _ h => List.mem_cons_of_mem _ (List.mem_append_right _ h)) (by decide +kernel))
set_option maxRecDepth 20000 in
theorem gL_extract_X2_extract : GoodIn wsL_extract (wsV RL 40 RX2 yX2_extract wsX2_extract) := goodIn_app (goodIn_of _ (by decide +kernel)) ggL_extract_X2_extract
theorem dL_extract_0 : decode cL_extract 0 = .ok (.aload 4, 2) := by decide +kernel
theorem dL_extract_2 : decode cL_extract 2 = .ok (.iconst 0, 1) := by decide +kernel
theorem dL_extract_3 : decode cL_extract 3 = .ok (.aload_n 0, 1) := by decide +kernel
theorem dL_extract_4 : decode cL_extract 4 = .ok (.iload_n 1, 1) := by decide +kernel
theorem dL_extract_5 : decode cL_extract 5 = .ok (.iload_n 2, 1) := by decide +kernel
theorem dL_extract_6 : decode cL_extract 6 = .ok (.iload_n 3, 1) := by decide +kernel
theorem dL_extract_7 : decode cL_extract 7 = .ok (.invokevirtual 40, 3) := by decide +kernel
theorem dL_extract_10 : decode cL_extract 10 = .ok (.i2l, 1) := by decide +kernel
theorem dL_extract_11 : decode cL_extract 11 = .ok (.lastore, 1) := by decide +kernel
theorem dL_extract_12 : decode cL_extract 12 = .ok (.goto 11, 3) := by decide +kernel
theorem dL_extract_15 : decode cL_extract 15 = .ok (.astore 5, 2) := by decide +kernel
theorem dL_extract_17 : decode cL_extract 17 = .ok (.iconst 1, 1) := by decide +kernel
theorem dL_extract_18 : decode cL_extract 18 = .ok (.ireturn, 1) := by decide +kernel
theorem dL_extract_19 : decode cL_extract 19 = .ok (.astore 5, 2) := by decide +kernel
theorem dL_extract_21 : decode cL_extract 21 = .ok (.iconst 2, 1) := by decide +kernel
theorem dL_extract_22 : decode cL_extract 22 = .ok (.ireturn, 1) := by decide +kernel
theorem dL_extract_23 : decode cL_extract 23 = .ok (.iconst 0, 1) := by decide +kernel
theorem dL_extract_24 : decode cL_extract 24 = .ok (.ireturn, 1) := by decide +kernel
set_option maxRecDepth 20000 in
theorem ggL_remainder_X2_remainder : GoodIn wsL_remainder wsX2_remainder := goodIn_ca (goodIn_r _ [6, 7, 8, 9, 10, 11, 12, 5, 13, 14, 15, 16, 17, 18, 19, 20, 21, 22, 23, 24, 25, 26, 27, 28, 29, 30, 31, 32, 33, 34, 35, 36, 37, 38, 39, 40, 41, 42, 43, 44, 45, 46, 47, 48, 49, 50, 51, 52, 53, 54, 55, 56, 57, 58, 59, 60, 61, 62, 63, 64, 65, 66, 67, 68, 69, 70, 71, 72, 73, 74, 75, 76, 77, 78, 79, 80, 81, 82, 83, 84, 85, 86, 87, 88, 89, 90, 91, 92, 93, 94, 95, 96, 97, 98, 99, 100, 101, 102, 103, 104, 105, 106, 107, 108, 109, 110, 111, 112, 113, 114, 115, 116, 117, 118, 119, 120, 121, 122, 123, 124, 125, 126, 127, 128, 129, 130, 131, 132, 133, 134, 135, 136, 137, 138, 139, 140, 141, 142, 143, 144, 145, 146, 147, 148, 149, 150, 151, 152, 153, 154, 155, 156, 157, 158, 159, 160, 161, 162, 163, 164, 165, 166, 167, 168, 169, 170, 171, 172, 173] (by decide +kernel) (by decide +kernel)) (goodIn_sub (fun _ h => List.mem_cons_of_mem _ (List.mem_append_right _ h)) (by decide +kernel))
set_option maxRecDepth 20000 in
theorem gL_remainder_X2_remainder : GoodIn wsL_remainder (wsV RL 43 RX2 yX2_remainder wsX2_remainder) := goodIn_app (goodIn_of _ (by decide +kernel)) ggL_remainder_X2_remainder
theorem dL_remainder_0 : decode cL_remainder 0 = .ok (.aload 4, 2) := by decide +kernel
theorem dL_remainder_2 : decode cL_remainder 2 = .ok (.iconst 0, 1) := by decide +kernel
theorem dL_remainder_3 : decode cL_remainder 3 = .ok (.aload_n 0, 1) := by decide +kernel
theorem dL_remainder_4 : decode cL_remainder 4 = .ok (.iload_n 1, 1) := by decide +kernel
theorem dL_remainder_5 : decode cL_remainder 5 = .ok (.iload_n 2, 1) := by decide +kernel
theorem dL_remainder_6 : decode cL_remainder 6 = .ok (.iload_n 3, 1) := by decide +kernel
theorem dL_remainder_7 : decode cL_remainder 7 = .ok (.invokevirtual 43, 3) := by decide +kernel
theorem dL_remainder_10 : decode cL_remainder 10 = .ok (.i2l, 1) := by decide +kernel
theorem dL_remainder_11 : decode cL_remainder 11 = .ok (.lastore, 1) := by decide +kernel
theorem dL_remainder_12 : decode cL_remainder 12 = .ok (.goto 7, 3) := by decide +kernel
theorem dL_remainder_15 : decode cL_remainder 15 = .ok (.astore 5, 2) := by decide +kernel
theorem dL_remainder_17 : decode cL_remainder 17 = .ok (.iconst 1, 1) := by decide +kernel
theorem dL_remainder_18 : decode cL_remainder 18 = .ok (.ireturn, 1) := by decide +kernel
theorem dL_remainder_19 : decode cL_remainder 19 = .ok (.iconst 0, 1) := by decide +kernel
theorem dL_remainder_20 : decode cL_remainder 20 = .ok (.ireturn, 1) := by decide +kernel
set_option maxRecDepth 20000 in
theorem ggL_compare_X2_compare : GoodIn wsL_compare wsX2_compare := goodIn_ca (goodIn_r _ [6, 7, 8, 5, 9, 10, 11, 12, 13, 14, 15, 16, 17, 18, 19, 20, 21, 22, 23, 24, 25, 26, 27, 28, 29, 30, 31, 32, 33, 34, 35, 36, 37, 38, 39, 40, 41, 42, 43, 44, 45, 46, 47, 48, 49, 50, 51, 52, 53, 54, 55, 56, 57, 58, 59, 60, 61, 62, 63, 64, 65, 66, 67, 68, 69, 70, 71, 72, 73, 74, 75, 76, 77, 78, 79, 80, 81, 82, 83, 84, 85, 86, 87, 88, 89, 90, 91, 92, 93, 94, 95, 96, 97, 98, 99, 100, 101, 102, 103, 104, 105, 106, 107, 108, 109, 110, 111, 112, 113, 114, 115, 116, 117, 118, 119, 120] (by decide +kernel) (by decide +kernel)) (goodIn_sub (fun _ h => List.mem_cons_of_mem _ (List.mem_append_right _ h)) (by decide +kernel))
set_option maxRecDepth 20000 in
theorem gL_compare_X2_compare : GoodIn wsL_compare (wsV RL 46 RX2 yX2_compare wsX2_compare) := goodIn_app (goodIn_of _ (by decide +kernel)) ggL_compare_X2_compare
theorem dL_compare_0 : decode cL_compare 0 = .ok (.aload_n 3, 1) := by decide +kernel
theorem dL_compare_1 : decode cL_compare 1 = .ok (.iconst 0, 1) := by decide +kernel
theorem dL_compare_2 : decode cL_compare 2 = .ok (.aload_n 0, 1) := by decide +kernel
theorem dL_compare_3 : decode cL_compare 3 = .ok (.iload_n 1, 1) := by decide +kernel
theorem dL_compare_4 : decode cL_compare 4 = .ok (.iload_n 2, 1) := by decide +kernel
theorem dL_compare_5 : decode cL_compare 5 = .ok (.invokevirtual 46, 3) := by decide +kernel
theorem dL_compare_8 : decode cL_compare 8 = .ok (.i2l, 1) := by decide +kernel
theorem dL_compare_9 : decode cL_compare 9 = .ok (.lastore, 1) := by decide +kernel
theorem dL_compare_10 : decode cL_compare 10 = .ok (.goto 7, 3) := by decide +kernel
theorem dL_compare_13 : decode cL_compare 13 = .ok (.astore 4, 2) := by decide +kernel
theorem dL_compare_15 : decode cL_compare 15 = .ok (.iconst 1, 1) := by decide +kernel
theorem dL_compare_16 : decode cL_compare 16 = .ok (.ireturn, 1) := by decide +kernel
theorem dL_compare_17 : decode cL_compare 17 = .ok (.iconst 0, 1) := by decide +kernel
theorem dL_compare_18 : decode cL_compare 18 = .ok (.ireturn, 1) := by decide +kernel
set_option maxRecDepth 20000 in
theorem ggL_test_X2_test : GoodIn wsL_test wsX2_test := goodIn_ca (goodIn_r _ [6, 7, 8, 5, 9, 10, 11, 12, 13, 14, 15, 16, 17, 18, 19, 20, 21, 22, 23, 24, 25, 26, 27, 28, 29, 30, 31, 32, 33, 34, 35, 36, 37, 38, 39, 40, 41, 42, 43, 44, 45, 46, 47, 48, 49, 50, 51, 52, 53, 54, 55, 56, 57, 58, 59, 60, 61, 62, 63, 64, 65, 66, 67, 68, 69, 70, 71, 72, 73, 74, 75, 76, 77, 78, 79, 80, 81, 82, 83, 84, 85, 86, 87, 88, 89, 90, 91, 92, 93, 94, 95, 96, 97, 98, 99, 100, 101, 102, 103, 104, 105, 106, 107, 108, 109, 110, 111, 112, 113, 114, 115, 116, 117, 118, 119, 120, 121, 122, 123, 124, 125, 126, 127] (by decide +kernel) (by decide +kernel)) (goodIn_sub (fun _ h => List.mem_cons_of_mem _ (List.mem_append_right _ h)) (by decide +kernel))
set_option maxRecDepth 20000 in
theorem gL_test_X2_test : GoodIn wsL_test (wsV RL 49 RX2 yX2_test wsX2_test) := goodIn_app (goodIn_of _ (by decide +kernel)) ggL_test_X2_test
theorem dL_test_0 : decode cL_test 0 = .ok (.aload_n 2, 1) := by decide +kernel
theorem dL_test_1 : decode cL_test 1 = .ok (.iconst 0, 1) := by decide +kernel
theorem dL_test_2 : decode cL_test 2 = .ok (.aload_n 0, 1) := by decide +kernel
theorem dL_test_3 : decode cL_test 3 = .ok (.iload_n 1, 1) := by decide +kernel
theorem dL_test_4 : decode cL_test 4 = .ok (.invokevirtual 49, 3) := by decide +kernel
theorem dL_test_7 : decode cL_test 7 = .ok (.i2l, 1) := by decide +kernel
theorem dL_test_8 : decode cL_test 8 = .ok (.lastore, 1) := by decide +kernel
theorem dL_test_9 : decode cL_test 9 = .ok (.goto 6, 3) := by decide +kernel
theorem dL_test_12 : decode cL_test 12 = .ok (.astore_n 3, 1) := by decide +kernel
theorem dL_test_13 : decode cL_test 13 = .ok (.iconst 1, 1) := by decide +kernel
theorem dL_test_14 : decode cL_test 14 = .ok (.ireturn, 1) := by decide +kernel
theorem dL_test_15 : decode cL_test 15 = .ok (.iconst 0, 1) := by decide +kernel
theorem dL_test_16 : decode cL_test 16 = .ok (.ireturn, 1) := by decide +kernel
set_option maxRecDepth 20000 in
theorem ggL_examine_X2_examine : GoodIn wsL_examine wsX2_examine := goodIn_ca (goodIn_r _ [6, 7, 8, 5, 9, 10, 11, 12, 13, 14, 15, 16, 17, 18, 19, 20, 21, 22, 23, 24, 25, 26, 27, 28, 29, 30, 31, 32, 33, 34, 35, 36, 37, 38, 39, 40, 41, 42, 43, 44, 45, 46, 47, 48, 49, 50, 51, 52, 53] (by decide +kernel) (by decide +kernel)) (goodIn_sub (fun _ h => List.mem_cons_of_mem _ (List.mem_append_right _ h)) (by decide +kernel))
set_option maxRecDepth 20000 in
theorem gL_examine_X2_examine : GoodIn wsL_examine (wsV RL 53 RX2 yX2_examine wsX2_examine) := goodIn_app (goodIn_of _ (by decide +kernel)) ggL_examine_X2_examine
theorem dL_examine_0 : decode cL_examine 0 = .ok (.aload_n 2, 1) := by decide +kernel
theorem dL_examine_1 : decode cL_examine 1 = .ok (.iconst 0, 1) := by decide +kernel
theorem dL_examine_2 : decode cL_examine 2 = .ok (.aload_n 0, 1) := by decide +kernel
theorem dL_examine_3 : decode cL_examine 3 = .ok (.iload_n 1, 1) := by decide +kernel
theorem dL_examine_4 : decode cL_examine 4 = .ok (.invokevirtual 53, 3) := by decide +kernel
theorem dL_examine_7 : decode cL_examine 7 = .ok (.i2l, 1) := by decide +kernel
theorem dL_examine_8 : decode cL_examine 8 = .ok (.lastore, 1) := by decide +kernel
theorem dL_examine_9 : decode cL_examine 9 = .ok (.goto 6, 3) := by decide +kernel
theorem dL_examine_12 : decode cL_examine 12 = .ok (.astore_n 3, 1) := by decide +kernel
theorem dL_examine_13 : decode cL_examine 13 = .ok (.iconst 1, 1) := by decide +kernel
theorem dL_examine_14 : decode cL_examine 14 = .ok (.ireturn, 1) := by decide +kernel
theorem dL_examine_15 : decode cL_examine 15 = .ok (.iconst 0, 1) := by decide +kernel
theorem dL_examine_16 : decode cL_examine 16 = .ok (.ireturn, 1) := by decide +kernel
set_option maxRecDepth 20000 in
theorem ggL_told_X2_told : GoodIn wsL_told wsX2_told := goodIn_ca (goodIn_r _ [6, 7, 8, 9, 10, 11, 12, 13, 14, 15, 16, 17, 18, 19] (by decide +kernel) (by decide +kernel)) (goodIn_sub (fun _ h => List.mem_cons_of_mem _ (List.mem_append_right _ h)) (by decide +kernel))
set_option maxRecDepth 20000 in
theorem gL_told_X2_told : GoodIn wsL_told (wsV RL 56 RX2 yX2_told wsX2_told) := goodIn_app (goodIn_of _ (by decide +kernel)) ggL_told_X2_told
theorem dL_told_0 : decode cL_told 0 = .ok (.aload_n 2, 1) := by decide +kernel
theorem dL_told_1 : decode cL_told 1 = .ok (.iconst 0, 1) := by decide +kernel
theorem dL_told_2 : decode cL_told 2 = .ok (.aload_n 0, 1) := by decide +kernel
theorem dL_told_3 : decode cL_told 3 = .ok (.iload_n 1, 1) := by decide +kernel
theorem dL_told_4 : decode cL_told 4 = .ok (.invokevirtual 56, 3) := by decide +kernel
theorem dL_told_7 : decode cL_told 7 = .ok (.i2l, 1) := by decide +kernel
theorem dL_told_8 : decode cL_told 8 = .ok (.lastore, 1) := by decide +kernel
theorem dL_told_9 : decode cL_told 9 = .ok (.goto 6, 3) := by decide +kernel
theorem dL_told_12 : decode cL_told 12 = .ok (.astore_n 3, 1) := by decide +kernel
theorem dL_told_13 : decode cL_told 13 = .ok (.iconst 1, 1) := by decide +kernel
theorem dL_told_14 : decode cL_told 14 = .ok (.ireturn, 1) := by decide +kernel
theorem dL_told_15 : decode cL_told 15 = .ok (.iconst 0, 1) := by decide +kernel
theorem dL_told_16 : decode cL_told 16 = .ok (.ireturn, 1) := by decide +kernel
