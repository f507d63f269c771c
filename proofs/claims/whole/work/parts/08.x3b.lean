theorem dX3_whole_55 : decode cX3_whole 55 = .ok (.aload_n 0, 1) := by decide +kernel
theorem dX3_whole_56 : decode cX3_whole 56 = .ok (.aload_n 0, 1) := by decide +kernel
theorem dX3_whole_57 : decode cX3_whole 57 = .ok (.getfield 13, 3) := by decide +kernel
theorem dX3_whole_60 : decode cX3_whole 60 = .ok (.iload_n 1, 1) := by decide +kernel
theorem dX3_whole_61 : decode cX3_whole 61 = .ok (.iaload, 1) := by decide +kernel
theorem dX3_whole_62 : decode cX3_whole 62 = .ok (.aload_n 0, 1) := by decide +kernel
theorem dX3_whole_63 : decode cX3_whole 63 = .ok (.getfield 17, 3) := by decide +kernel
theorem dX3_whole_66 : decode cX3_whole 66 = .ok (.iload_n 1, 1) := by decide +kernel
theorem dX3_whole_67 : decode cX3_whole 67 = .ok (.laload, 1) := by decide +kernel
theorem dX3_whole_68 : decode cX3_whole 68 = .ok (.invokevirtual 88, 3) := by decide +kernel
theorem dX3_whole_71 : decode cX3_whole 71 = .ok (.goto 81, 3) := by decide +kernel
theorem dX3_whole_74 : decode cX3_whole 74 = .ok (.aload_n 0, 1) := by decide +kernel
theorem dX3_whole_75 : decode cX3_whole 75 = .ok (.iload_n 1, 1) := by decide +kernel
theorem dX3_whole_76 : decode cX3_whole 76 = .ok (.invokevirtual 54, 3) := by decide +kernel
theorem dX3_whole_79 : decode cX3_whole 79 = .ok (.ifCond .lt 26, 3) := by decide +kernel
theorem dX3_whole_82 : decode cX3_whole 82 = .ok (.aload_n 0, 1) := by decide +kernel
theorem dX3_whole_83 : decode cX3_whole 83 = .ok (.aload_n 0, 1) := by decide +kernel
theorem dX3_whole_84 : decode cX3_whole 84 = .ok (.iload_n 1, 1) := by decide +kernel
theorem dX3_whole_85 : decode cX3_whole 85 = .ok (.invokevirtual 82, 3) := by decide +kernel
theorem dX3_whole_88 : decode cX3_whole 88 = .ok (.aload_n 0, 1) := by decide +kernel
theorem dX3_whole_89 : decode cX3_whole 89 = .ok (.getfield 17, 3) := by decide +kernel
theorem dX3_whole_92 : decode cX3_whole 92 = .ok (.iload_n 1, 1) := by decide +kernel
theorem dX3_whole_93 : decode cX3_whole 93 = .ok (.laload, 1) := by decide +kernel
theorem dX3_whole_94 : decode cX3_whole 94 = .ok (.aload_n 0, 1) := by decide +kernel
theorem dX3_whole_95 : decode cX3_whole 95 = .ok (.iload_n 1, 1) := by decide +kernel
theorem dX3_whole_96 : decode cX3_whole 96 = .ok (.invokevirtual 54, 3) := by decide +kernel
theorem dX3_whole_99 : decode cX3_whole 99 = .ok (.invokevirtual 118, 3) := by decide +kernel
theorem dX3_whole_102 : decode cX3_whole 102 = .ok (.goto 50, 3) := by decide +kernel
theorem dX3_whole_105 : decode cX3_whole 105 = .ok (.aload_n 0, 1) := by decide +kernel
theorem dX3_whole_106 : decode cX3_whole 106 = .ok (.aload_n 0, 1) := by decide +kernel
theorem dX3_whole_107 : decode cX3_whole 107 = .ok (.getfield 17, 3) := by decide +kernel
theorem dX3_whole_110 : decode cX3_whole 110 = .ok (.iload_n 1, 1) := by decide +kernel
theorem dX3_whole_111 : decode cX3_whole 111 = .ok (.laload, 1) := by decide +kernel
theorem dX3_whole_112 : decode cX3_whole 112 = .ok (.aload_n 0, 1) := by decide +kernel
theorem dX3_whole_113 : decode cX3_whole 113 = .ok (.iload_n 1, 1) := by decide +kernel
theorem dX3_whole_114 : decode cX3_whole 114 = .ok (.invokevirtual 54, 3) := by decide +kernel
theorem dX3_whole_117 : decode cX3_whole 117 = .ok (.ineg, 1) := by decide +kernel
theorem dX3_whole_118 : decode cX3_whole 118 = .ok (.aload_n 0, 1) := by decide +kernel
theorem dX3_whole_119 : decode cX3_whole 119 = .ok (.iload_n 1, 1) := by decide +kernel
theorem dX3_whole_120 : decode cX3_whole 120 = .ok (.invokevirtual 82, 3) := by decide +kernel
theorem dX3_whole_123 : decode cX3_whole 123 = .ok (.invokevirtual 105, 3) := by decide +kernel
theorem dX3_whole_126 : decode cX3_whole 126 = .ok (.lstore_n 3, 1) := by decide +kernel
theorem dX3_whole_127 : decode cX3_whole 127 = .ok (.aload_n 0, 1) := by decide +kernel
theorem dX3_whole_128 : decode cX3_whole 128 = .ok (.getfield 98, 3) := by decide +kernel
theorem dX3_whole_131 : decode cX3_whole 131 = .ok (.ifCond .eq 10, 3) := by decide +kernel
theorem dX3_whole_134 : decode cX3_whole 134 = .ok (.aload_n 0, 1) := by decide +kernel
theorem dX3_whole_135 : decode cX3_whole 135 = .ok (.bipush 32, 2) := by decide +kernel
theorem dX3_whole_137 : decode cX3_whole 137 = .ok (.invokevirtual 85, 3) := by decide +kernel
theorem dX3_whole_140 : decode cX3_whole 140 = .ok (.pop, 1) := by decide +kernel
theorem dX3_whole_141 : decode cX3_whole 141 = .ok (.aload_n 0, 1) := by decide +kernel
theorem dX3_whole_142 : decode cX3_whole 142 = .ok (.aload_n 0, 1) := by decide +kernel
theorem dX3_whole_143 : decode cX3_whole 143 = .ok (.iload_n 1, 1) := by decide +kernel
theorem dX3_whole_144 : decode cX3_whole 144 = .ok (.invokevirtual 82, 3) := by decide +kernel
theorem dX3_whole_147 : decode cX3_whole 147 = .ok (.lload_n 3, 1) := by decide +kernel
theorem dX3_whole_148 : decode cX3_whole 148 = .ok (.iconst 0, 1) := by decide +kernel
theorem dX3_whole_149 : decode cX3_whole 149 = .ok (.invokevirtual 118, 3) := by decide +kernel
theorem dX3_whole_152 : decode cX3_whole 152 = .ok (.aload_n 0, 1) := by decide +kernel
theorem dX3_whole_153 : decode cX3_whole 153 = .ok (.iload_n 2, 1) := by decide +kernel
theorem dX3_whole_154 : decode cX3_whole 154 = .ok (.invokevirtual 122, 3) := by decide +kernel
theorem dX3_whole_157 : decode cX3_whole 157 = .ok (.aload_n 0, 1) := by decide +kernel
theorem dX3_whole_158 : decode cX3_whole 158 = .ok (.getfield 72, 3) := by decide +kernel
theorem dX3_whole_161 : decode cX3_whole 161 = .ok (.ireturn, 1) := by decide +kernel
set_option maxRecDepth 20000 in
theorem ggX3_scale_X3_none : GoodIn wsX3_scale wsX3_none := goodIn_r _ [10] (by decide +kernel) (by decide +kernel)
set_option maxRecDepth 20000 in
theorem gX3_scale_X3_none : GoodIn wsX3_scale (va_wsS RX3 25 yX3_none wsX3_none) := goodIn_app (goodIn_of _ (by decide +kernel)) ggX3_scale_X3_none
set_option maxRecDepth 20000 in
theorem ggX3_scale_X3_begin : GoodIn wsX3_scale wsX3_begin := goodIn_r _ [14, 6, 15, 82, 83, 84, 85, 86, 87, 88, 89, 90, 91, 92, 93, 94] (by decide +kernel) (by decide +kernel)
set_option maxRecDepth 20000 in
theorem gX3_scale_X3_begin : GoodIn wsX3_scale (wsV RX3 111 RX3 yX3_begin wsX3_begin) := goodIn_app (goodIn_of _ (by decide +kernel)) ggX3_scale_X3_begin
set_option maxRecDepth 20000 in
theorem ggX3_scale_X3_kind : GoodIn wsX3_scale wsX3_kind := goodIn_r _ [19, 3, 20, 4, 21, 82, 83, 84, 85, 86, 87, 88, 89, 90, 91, 92, 93, 94] (by decide +kernel) (by decide +kernel)
set_option maxRecDepth 20000 in
theorem gX3_scale_X3_kind : GoodIn wsX3_scale (wsV RX3 46 RX3 yX3_kind wsX3_kind) := goodIn_app (goodIn_of _ (by decide +kernel)) ggX3_scale_X3_kind
set_option maxRecDepth 20000 in
theorem ggX3_scale_X3_nothing : GoodIn wsX3_scale wsX3_nothing := goodIn_r _ [25, 4, 16, 17, 18, 9, 19, 3, 20, 21, 82, 83, 84, 85, 86, 87, 88, 89, 90, 91, 92, 93, 94] (by decide +kernel) (by decide +kernel)
set_option maxRecDepth 20000 in
theorem gX3_scale_X3_nothing : GoodIn wsX3_scale (wsV RX3 126 RX3 yX3_nothing wsX3_nothing) := goodIn_app (goodIn_of _ (by decide +kernel)) ggX3_scale_X3_nothing
set_option maxRecDepth 20000 in
theorem ggX3_scale_X3_apart : GoodIn wsX3_scale wsX3_apart := goodIn_r _ [29, 4, 5, 2, 30, 31, 32, 33, 9, 34, 3, 20, 82, 83, 84, 85, 86, 87, 88, 89, 90, 91, 92, 93, 94] (by decide +kernel) (by decide +kernel)
set_option maxRecDepth 20000 in
theorem gX3_scale_X3_apart : GoodIn wsX3_scale (wsV RX3 129 RX3 yX3_apart wsX3_apart) := goodIn_app (goodIn_of _ (by decide +kernel)) ggX3_scale_X3_apart
set_option maxRecDepth 20000 in
theorem ggX3_scale_X3_goesOn : GoodIn wsX3_scale wsX3_goesOn := goodIn_r _ [38, 4, 3, 39, 40, 16, 17, 18, 9, 19, 20, 21, 41, 42, 43, 44, 45, 46, 47, 48, 49, 50, 51, 6, 52, 53, 54, 55, 56, 57, 58, 59, 60, 61, 62, 15, 82, 83, 84, 85, 86, 87, 88, 89, 90, 91, 92, 93, 94] (by decide +kernel) (by decide +kernel)
set_option maxRecDepth 20000 in
theorem gX3_scale_X3_goesOn : GoodIn wsX3_scale (wsV RX3 114 RX3 yX3_goesOn wsX3_goesOn) := goodIn_app (goodIn_of _ (by decide +kernel)) ggX3_scale_X3_goesOn
set_option maxRecDepth 20000 in
theorem ggX3_scale_X3_answer : GoodIn wsX3_scale wsX3_answer := goodIn_r _ [60, 61, 62, 15, 82, 83, 84, 85, 86, 87, 88, 89, 90, 91, 92, 93, 94] (by decide +kernel) (by decide +kernel)
set_option maxRecDepth 20000 in
theorem gX3_scale_X3_answer : GoodIn wsX3_scale (wsV RX3 88 RX3 yX3_answer wsX3_answer) := goodIn_app (goodIn_of _ (by decide +kernel)) ggX3_scale_X3_answer
set_option maxRecDepth 20000 in
theorem ggX3_scale_X3_minus : GoodIn wsX3_scale wsX3_minus := goodIn_r _ [47, 3, 82, 83, 84, 85, 86, 87, 88, 89, 90, 91, 92, 93, 94] (by decide +kernel) (by decide +kernel)
set_option maxRecDepth 20000 in
theorem gX3_scale_X3_minus : GoodIn wsX3_scale (wsV RX3 82 RX3 yX3_minus wsX3_minus) := goodIn_app (goodIn_of _ (by decide +kernel)) ggX3_scale_X3_minus
set_option maxRecDepth 20000 in
theorem ggX3_scale_X3_unit : GoodIn wsX3_scale wsX3_unit := goodIn_r _ [34, 3, 20, 82, 83, 84, 85, 86, 87, 88, 89, 90, 91, 92, 93, 94] (by decide +kernel) (by decide +kernel)
set_option maxRecDepth 20000 in
theorem gX3_scale_X3_unit : GoodIn wsX3_scale (wsV RX3 54 RX3 yX3_unit wsX3_unit) := goodIn_app (goodIn_of _ (by decide +kernel)) ggX3_scale_X3_unit
set_option maxRecDepth 20000 in
theorem ggX3_scale_X3_make : GoodIn wsX3_scale wsX3_make := goodIn_r _ [66, 20, 30, 67, 21, 68, 57, 58, 59, 9, 60, 61, 62, 15, 52, 53, 54, 55, 56, 69, 70, 71, 72, 73, 74, 75, 76, 77, 48, 49, 50, 51, 6, 82, 83, 84, 85, 86, 87, 88, 89, 90, 91, 92, 93, 94] (by decide +kernel) (by decide +kernel)
set_option maxRecDepth 20000 in
theorem gX3_scale_X3_make : GoodIn wsX3_scale (wsV RX3 118 RX3 yX3_make wsX3_make) := goodIn_app (goodIn_of _ (by decide +kernel)) ggX3_scale_X3_make
set_option maxRecDepth 20000 in
theorem ggX3_scale_X3_keep : GoodIn wsX3_scale wsX3_keep := goodIn_r _ [81, 15, 3, 61, 4, 62, 82, 83, 84, 85, 86, 87, 88, 89, 90, 91, 92, 93, 94] (by decide +kernel) (by decide +kernel)
set_option maxRecDepth 20000 in
theorem gX3_scale_X3_keep : GoodIn wsX3_scale (wsV RX3 122 RX3 yX3_keep wsX3_keep) := goodIn_app (goodIn_of _ (by decide +kernel)) ggX3_scale_X3_keep
theorem dX3_scale_0 : decode cX3_scale 0 = .ok (.aload_n 0, 1) := by decide +kernel
theorem dX3_scale_1 : decode cX3_scale 1 = .ok (.iload_n 1, 1) := by decide +kernel
theorem dX3_scale_2 : decode cX3_scale 2 = .ok (.invokestatic 25, 3) := by decide +kernel
theorem dX3_scale_5 : decode cX3_scale 5 = .ok (.ifCond .ne 17, 3) := by decide +kernel
theorem dX3_scale_8 : decode cX3_scale 8 = .ok (.iload_n 2, 1) := by decide +kernel
theorem dX3_scale_9 : decode cX3_scale 9 = .ok (.invokestatic 25, 3) := by decide +kernel
theorem dX3_scale_12 : decode cX3_scale 12 = .ok (.ifCond .ne 10, 3) := by decide +kernel
theorem dX3_scale_15 : decode cX3_scale 15 = .ok (.iload_n 3, 1) := by decide +kernel
theorem dX3_scale_16 : decode cX3_scale 16 = .ok (.invokestatic 25, 3) := by decide +kernel
theorem dX3_scale_19 : decode cX3_scale 19 = .ok (.ifCond .eq 7, 3) := by decide +kernel
theorem dX3_scale_22 : decode cX3_scale 22 = .ok (.iconst 1, 1) := by decide +kernel
theorem dX3_scale_23 : decode cX3_scale 23 = .ok (.goto 4, 3) := by decide +kernel
theorem dX3_scale_26 : decode cX3_scale 26 = .ok (.iconst 0, 1) := by decide +kernel
theorem dX3_scale_27 : decode cX3_scale 27 = .ok (.putfield 21, 3) := by decide +kernel
theorem dX3_scale_30 : decode cX3_scale 30 = .ok (.aload_n 0, 1) := by decide +kernel
theorem dX3_scale_31 : decode cX3_scale 31 = .ok (.getfield 21, 3) := by decide +kernel
theorem dX3_scale_34 : decode cX3_scale 34 = .ok (.ifCond .le 5, 3) := by decide +kernel
theorem dX3_scale_37 : decode cX3_scale 37 = .ok (.iconst 0, 1) := by decide +kernel
theorem dX3_scale_38 : decode cX3_scale 38 = .ok (.ireturn, 1) := by decide +kernel
theorem dX3_scale_39 : decode cX3_scale 39 = .ok (.aload_n 0, 1) := by decide +kernel
theorem dX3_scale_40 : decode cX3_scale 40 = .ok (.invokevirtual 111, 3) := by decide +kernel
theorem dX3_scale_43 : decode cX3_scale 43 = .ok (.aload_n 0, 1) := by decide +kernel
theorem dX3_scale_44 : decode cX3_scale 44 = .ok (.iload_n 2, 1) := by decide +kernel
theorem dX3_scale_45 : decode cX3_scale 45 = .ok (.invokevirtual 46, 3) := by decide +kernel
theorem dX3_scale_48 : decode cX3_scale 48 = .ok (.iconst 4, 1) := by decide +kernel
theorem dX3_scale_49 : decode cX3_scale 49 = .ok (.if_icmp .ge 7, 3) := by decide +kernel
theorem dX3_scale_52 : decode cX3_scale 52 = .ok (.iconst 1, 1) := by decide +kernel
theorem dX3_scale_53 : decode cX3_scale 53 = .ok (.goto 4, 3) := by decide +kernel
theorem dX3_scale_56 : decode cX3_scale 56 = .ok (.iconst 0, 1) := by decide +kernel
theorem dX3_scale_57 : decode cX3_scale 57 = .ok (.istore 4, 2) := by decide +kernel
theorem dX3_scale_59 : decode cX3_scale 59 = .ok (.iload 4, 2) := by decide +kernel
theorem dX3_scale_61 : decode cX3_scale 61 = .ok (.ifCond .eq 32, 3) := by decide +kernel
theorem dX3_scale_64 : decode cX3_scale 64 = .ok (.aload_n 0, 1) := by decide +kernel
theorem dX3_scale_65 : decode cX3_scale 65 = .ok (.iload_n 2, 1) := by decide +kernel
theorem dX3_scale_66 : decode cX3_scale 66 = .ok (.invokevirtual 126, 3) := by decide +kernel
theorem dX3_scale_69 : decode cX3_scale 69 = .ok (.ifCond .ne 24, 3) := by decide +kernel
theorem dX3_scale_72 : decode cX3_scale 72 = .ok (.aload_n 0, 1) := by decide +kernel
theorem dX3_scale_73 : decode cX3_scale 73 = .ok (.iload_n 2, 1) := by decide +kernel
theorem dX3_scale_74 : decode cX3_scale 74 = .ok (.invokevirtual 129, 3) := by decide +kernel
theorem dX3_scale_77 : decode cX3_scale 77 = .ok (.aload_n 0, 1) := by decide +kernel
theorem dX3_scale_78 : decode cX3_scale 78 = .ok (.getfield 57, 3) := by decide +kernel
theorem dX3_scale_81 : decode cX3_scale 81 = .ok (.bipush 14, 2) := by decide +kernel
theorem dX3_scale_83 : decode cX3_scale 83 = .ok (.if_icmp .ge 7, 3) := by decide +kernel
theorem dX3_scale_86 : decode cX3_scale 86 = .ok (.iconst 1, 1) := by decide +kernel
theorem dX3_scale_87 : decode cX3_scale 87 = .ok (.goto 4, 3) := by decide +kernel
theorem dX3_scale_90 : decode cX3_scale 90 = .ok (.iconst 0, 1) := by decide +kernel
theorem dX3_scale_91 : decode cX3_scale 91 = .ok (.istore 4, 2) := by decide +kernel
theorem dX3_scale_93 : decode cX3_scale 93 = .ok (.aload_n 0, 1) := by decide +kernel
theorem dX3_scale_94 : decode cX3_scale 94 = .ok (.iload_n 1, 1) := by decide +kernel
theorem dX3_scale_95 : decode cX3_scale 95 = .ok (.iload_n 2, 1) := by decide +kernel
theorem dX3_scale_96 : decode cX3_scale 96 = .ok (.iload 4, 2) := by decide +kernel
theorem dX3_scale_98 : decode cX3_scale 98 = .ok (.invokevirtual 114, 3) := by decide +kernel
theorem dX3_scale_101 : decode cX3_scale 101 = .ok (.ifCond .eq 126, 3) := by decide +kernel
theorem dX3_scale_104 : decode cX3_scale 104 = .ok (.aload_n 0, 1) := by decide +kernel
theorem dX3_scale_105 : decode cX3_scale 105 = .ok (.iload_n 1, 1) := by decide +kernel
theorem dX3_scale_106 : decode cX3_scale 106 = .ok (.invokevirtual 46, 3) := by decide +kernel
theorem dX3_scale_109 : decode cX3_scale 109 = .ok (.iconst 4, 1) := by decide +kernel
theorem dX3_scale_110 : decode cX3_scale 110 = .ok (.if_icmp .ne 22, 3) := by decide +kernel
theorem dX3_scale_113 : decode cX3_scale 113 = .ok (.aload_n 0, 1) := by decide +kernel
theorem dX3_scale_114 : decode cX3_scale 114 = .ok (.aload_n 0, 1) := by decide +kernel
theorem dX3_scale_115 : decode cX3_scale 115 = .ok (.getfield 13, 3) := by decide +kernel
theorem dX3_scale_118 : decode cX3_scale 118 = .ok (.iload_n 1, 1) := by decide +kernel
theorem dX3_scale_119 : decode cX3_scale 119 = .ok (.iaload, 1) := by decide +kernel
theorem dX3_scale_120 : decode cX3_scale 120 = .ok (.aload_n 0, 1) := by decide +kernel
theorem dX3_scale_121 : decode cX3_scale 121 = .ok (.getfield 17, 3) := by decide +kernel
theorem dX3_scale_124 : decode cX3_scale 124 = .ok (.iload_n 1, 1) := by decide +kernel
theorem dX3_scale_125 : decode cX3_scale 125 = .ok (.laload, 1) := by decide +kernel
theorem dX3_scale_126 : decode cX3_scale 126 = .ok (.invokevirtual 88, 3) := by decide +kernel
theorem dX3_scale_129 : decode cX3_scale 129 = .ok (.goto 98, 3) := by decide +kernel
theorem dX3_scale_132 : decode cX3_scale 132 = .ok (.iconst 0, 1) := by decide +kernel
theorem dX3_scale_133 : decode cX3_scale 133 = .ok (.istore 5, 2) := by decide +kernel
theorem dX3_scale_135 : decode cX3_scale 135 = .ok (.aload_n 0, 1) := by decide +kernel
theorem dX3_scale_136 : decode cX3_scale 136 = .ok (.iload_n 2, 1) := by decide +kernel
theorem dX3_scale_137 : decode cX3_scale 137 = .ok (.invokevirtual 126, 3) := by decide +kernel
theorem dX3_scale_140 : decode cX3_scale 140 = .ok (.ifCond .ne 50, 3) := by decide +kernel
theorem dX3_scale_143 : decode cX3_scale 143 = .ok (.aload_n 0, 1) := by decide +kernel
theorem dX3_scale_144 : decode cX3_scale 144 = .ok (.iload_n 2, 1) := by decide +kernel
theorem dX3_scale_145 : decode cX3_scale 145 = .ok (.invokevirtual 129, 3) := by decide +kernel
theorem dX3_scale_148 : decode cX3_scale 148 = .ok (.iconst 0, 1) := by decide +kernel
theorem dX3_scale_149 : decode cX3_scale 149 = .ok (.istore 6, 2) := by decide +kernel
theorem dX3_scale_151 : decode cX3_scale 151 = .ok (.iload 6, 2) := by decide +kernel
theorem dX3_scale_153 : decode cX3_scale 153 = .ok (.aload_n 0, 1) := by decide +kernel
theorem dX3_scale_154 : decode cX3_scale 154 = .ok (.getfield 57, 3) := by decide +kernel
theorem dX3_scale_157 : decode cX3_scale 157 = .ok (.if_icmp .gt 33, 3) := by decide +kernel
theorem dX3_scale_160 : decode cX3_scale 160 = .ok (.iconst 2, 1) := by decide +kernel
theorem dX3_scale_161 : decode cX3_scale 161 = .ok (.iload 5, 2) := by decide +kernel
theorem dX3_scale_163 : decode cX3_scale 163 = .ok (.imul, 1) := by decide +kernel
theorem dX3_scale_164 : decode cX3_scale 164 = .ok (.aload_n 0, 1) := by decide +kernel
theorem dX3_scale_165 : decode cX3_scale 165 = .ok (.getfield 50, 3) := by decide +kernel
theorem dX3_scale_168 : decode cX3_scale 168 = .ok (.iload 6, 2) := by decide +kernel
theorem dX3_scale_170 : decode cX3_scale 170 = .ok (.lshl, 1) := by decide +kernel
theorem dX3_scale_171 : decode cX3_scale 171 = .ok (.lconst 0, 1) := by decide +kernel
theorem dX3_scale_172 : decode cX3_scale 172 = .ok (.lcmp, 1) := by decide +kernel
theorem dX3_scale_173 : decode cX3_scale 173 = .ok (.ifCond .ge 7, 3) := by decide +kernel
theorem dX3_scale_176 : decode cX3_scale 176 = .ok (.iconst 1, 1) := by decide +kernel
theorem dX3_scale_177 : decode cX3_scale 177 = .ok (.goto 4, 3) := by decide +kernel
theorem dX3_scale_180 : decode cX3_scale 180 = .ok (.iconst 0, 1) := by decide +kernel
theorem dX3_scale_181 : decode cX3_scale 181 = .ok (.iadd, 1) := by decide +kernel
theorem dX3_scale_182 : decode cX3_scale 182 = .ok (.istore 5, 2) := by decide +kernel
theorem dX3_scale_184 : decode cX3_scale 184 = .ok (.iinc 6 1, 3) := by decide +kernel
theorem dX3_scale_187 : decode cX3_scale 187 = .ok (.goto (-36), 3) := by decide +kernel
theorem dX3_scale_190 : decode cX3_scale 190 = .ok (.aload_n 0, 1) := by decide +kernel
theorem dX3_scale_191 : decode cX3_scale 191 = .ok (.aload_n 0, 1) := by decide +kernel
theorem dX3_scale_192 : decode cX3_scale 192 = .ok (.iload_n 1, 1) := by decide +kernel
theorem dX3_scale_193 : decode cX3_scale 193 = .ok (.invokevirtual 82, 3) := by decide +kernel
theorem dX3_scale_196 : decode cX3_scale 196 = .ok (.aload_n 0, 1) := by decide +kernel
theorem dX3_scale_197 : decode cX3_scale 197 = .ok (.getfield 17, 3) := by decide +kernel
theorem dX3_scale_200 : decode cX3_scale 200 = .ok (.iload_n 1, 1) := by decide +kernel
theorem dX3_scale_201 : decode cX3_scale 201 = .ok (.laload, 1) := by decide +kernel
theorem dX3_scale_202 : decode cX3_scale 202 = .ok (.aload_n 0, 1) := by decide +kernel
theorem dX3_scale_203 : decode cX3_scale 203 = .ok (.iload_n 1, 1) := by decide +kernel
theorem dX3_scale_204 : decode cX3_scale 204 = .ok (.invokevirtual 54, 3) := by decide +kernel
theorem dX3_scale_207 : decode cX3_scale 207 = .ok (.aload_n 0, 1) := by decide +kernel
theorem dX3_scale_208 : decode cX3_scale 208 = .ok (.iload_n 2, 1) := by decide +kernel
theorem dX3_scale_209 : decode cX3_scale 209 = .ok (.invokevirtual 82, 3) := by decide +kernel
theorem dX3_scale_212 : decode cX3_scale 212 = .ok (.ifCond .eq 9, 3) := by decide +kernel
theorem dX3_scale_215 : decode cX3_scale 215 = .ok (.iload 5, 2) := by decide +kernel
theorem dX3_scale_217 : decode cX3_scale 217 = .ok (.ineg, 1) := by decide +kernel
theorem dX3_scale_218 : decode cX3_scale 218 = .ok (.goto 5, 3) := by decide +kernel
theorem dX3_scale_221 : decode cX3_scale 221 = .ok (.iload 5, 2) := by decide +kernel
theorem dX3_scale_223 : decode cX3_scale 223 = .ok (.iadd, 1) := by decide +kernel
theorem dX3_scale_224 : decode cX3_scale 224 = .ok (.invokevirtual 118, 3) := by decide +kernel
theorem dX3_scale_227 : decode cX3_scale 227 = .ok (.aload_n 0, 1) := by decide +kernel
theorem dX3_scale_228 : decode cX3_scale 228 = .ok (.iload_n 3, 1) := by decide +kernel
theorem dX3_scale_229 : decode cX3_scale 229 = .ok (.invokevirtual 122, 3) := by decide +kernel
theorem dX3_scale_232 : decode cX3_scale 232 = .ok (.aload_n 0, 1) := by decide +kernel
theorem dX3_scale_233 : decode cX3_scale 233 = .ok (.getfield 72, 3) := by decide +kernel
theorem dX3_scale_236 : decode cX3_scale 236 = .ok (.ireturn, 1) := by decide +kernel
set_option maxRecDepth 20000 in
theorem ggX3_extract_X3_none : GoodIn wsX3_extract wsX3_none := goodIn_r _ [16] (by decide +kernel) (by decide +kernel)
set_option maxRecDepth 20000 in
theorem gX3_extract_X3_none : GoodIn wsX3_extract (va_wsS RX3 25 yX3_none wsX3_none) := goodIn_app (goodIn_of _ (by decide +kernel)) ggX3_extract_X3_none
set_option maxRecDepth 20000 in
theorem ggX3_extract_X3_begin : GoodIn wsX3_extract wsX3_begin := goodIn_r _ [20, 12, 11, 82, 83, 84, 85, 86, 87, 88, 89, 90, 91, 92, 93, 94] (by decide +kernel) (by decide +kernel)
set_option maxRecDepth 20000 in
theorem gX3_extract_X3_begin : GoodIn wsX3_extract (wsV RX3 111 RX3 yX3_begin wsX3_begin) := goodIn_app (goodIn_of _ (by decide +kernel)) ggX3_extract_X3_begin
set_option maxRecDepth 20000 in
theorem ggX3_extract_X3_goesOn : GoodIn wsX3_extract wsX3_goesOn := goodIn_r _ [24, 4, 3, 5, 25, 26, 27, 28, 15, 29, 6, 2, 30, 31, 32, 33, 34, 35, 36, 37, 38, 39, 40, 12, 41, 42, 43, 44, 45, 46, 47, 48, 49, 9, 10, 11, 82, 83, 84, 85, 86, 87, 88, 89, 90, 91, 92, 93, 94] (by decide +kernel) (by decide +kernel)
set_option maxRecDepth 20000 in
theorem gX3_extract_X3_goesOn : GoodIn wsX3_extract (wsV RX3 114 RX3 yX3_goesOn wsX3_goesOn) := goodIn_app (goodIn_of _ (by decide +kernel)) ggX3_extract_X3_goesOn
set_option maxRecDepth 20000 in
theorem ggX3_extract_X3_kind : GoodIn wsX3_extract wsX3_kind := goodIn_r _ [29, 3, 6, 4, 2, 82, 83, 84, 85, 86, 87, 88, 89, 90, 91, 92, 93, 94] (by decide +kernel) (by decide +kernel)
set_option maxRecDepth 20000 in
theorem gX3_extract_X3_kind : GoodIn wsX3_extract (wsV RX3 46 RX3 yX3_kind wsX3_kind) := goodIn_app (goodIn_of _ (by decide +kernel)) ggX3_extract_X3_kind
set_option maxRecDepth 20000 in
theorem ggX3_extract_X3_answer : GoodIn wsX3_extract wsX3_answer := goodIn_r _ [49, 9, 10, 11, 82, 83, 84, 85, 86, 87, 88, 89, 90, 91, 92, 93, 94] (by decide +kernel) (by decide +kernel)
set_option maxRecDepth 20000 in
theorem gX3_extract_X3_answer : GoodIn wsX3_extract (wsV RX3 88 RX3 yX3_answer wsX3_answer) := goodIn_app (goodIn_of _ (by decide +kernel)) ggX3_extract_X3_answer
set_option maxRecDepth 20000 in
theorem ggX3_extract_X3_nothing : GoodIn wsX3_extract wsX3_nothing := goodIn_r _ [53, 4, 26, 27, 28, 15, 29, 3, 6, 2, 82, 83, 84, 85, 86, 87, 88, 89, 90, 91, 92, 93, 94] (by decide +kernel) (by decide +kernel)
set_option maxRecDepth 20000 in
theorem gX3_extract_X3_nothing : GoodIn wsX3_extract (wsV RX3 126 RX3 yX3_nothing wsX3_nothing) := goodIn_app (goodIn_of _ (by decide +kernel)) ggX3_extract_X3_nothing
set_option maxRecDepth 20000 in
theorem ggX3_extract_X3_tell : GoodIn wsX3_extract wsX3_tell := goodIn_r _ [40, 12, 41, 42, 43, 15, 44, 45, 82, 83, 84, 85, 86, 87, 88, 89, 90, 91, 92, 93, 94] (by decide +kernel) (by decide +kernel)
set_option maxRecDepth 20000 in
theorem gX3_extract_X3_tell : GoodIn wsX3_extract (wsV RX3 85 RX3 yX3_tell wsX3_tell) := goodIn_app (goodIn_of _ (by decide +kernel)) ggX3_extract_X3_tell
set_option maxRecDepth 20000 in
theorem ggX3_extract_X3_minus : GoodIn wsX3_extract wsX3_minus := goodIn_r _ [36, 3, 82, 83, 84, 85, 86, 87, 88, 89, 90, 91, 92, 93, 94] (by decide +kernel) (by decide +kernel)
set_option maxRecDepth 20000 in
theorem gX3_extract_X3_minus : GoodIn wsX3_extract (wsV RX3 82 RX3 yX3_minus wsX3_minus) := goodIn_app (goodIn_of _ (by decide +kernel)) ggX3_extract_X3_minus
set_option maxRecDepth 20000 in
theorem ggX3_extract_X3_apart : GoodIn wsX3_extract wsX3_apart := goodIn_r _ [57, 4, 8, 7, 58, 59, 60, 61, 15, 62, 3, 6, 82, 83, 84, 85, 86, 87, 88, 89, 90, 91, 92, 93, 94] (by decide +kernel) (by decide +kernel)
set_option maxRecDepth 20000 in
theorem gX3_extract_X3_apart : GoodIn wsX3_extract (wsV RX3 129 RX3 yX3_apart wsX3_apart) := goodIn_app (goodIn_of _ (by decide +kernel)) ggX3_extract_X3_apart
set_option maxRecDepth 20000 in
theorem ggX3_extract_X3_make : GoodIn wsX3_extract wsX3_make := goodIn_r _ [66, 6, 58, 67, 2, 68, 46, 47, 48, 15, 49, 9, 10, 11, 41, 42, 43, 44, 45, 69, 70, 71, 72, 73, 74, 75, 76, 77, 37, 38, 39, 40, 12, 82, 83, 84, 85, 86, 87, 88, 89, 90, 91, 92, 93, 94] (by decide +kernel) (by decide +kernel)
set_option maxRecDepth 20000 in
theorem gX3_extract_X3_make : GoodIn wsX3_extract (wsV RX3 118 RX3 yX3_make wsX3_make) := goodIn_app (goodIn_of _ (by decide +kernel)) ggX3_extract_X3_make
set_option maxRecDepth 20000 in
theorem ggX3_extract_X3_keep : GoodIn wsX3_extract wsX3_keep := goodIn_r _ [81, 11, 3, 9, 4, 10, 82, 83, 84, 85, 86, 87, 88, 89, 90, 91, 92, 93, 94] (by decide +kernel) (by decide +kernel)
set_option maxRecDepth 20000 in
theorem gX3_extract_X3_keep : GoodIn wsX3_extract (wsV RX3 122 RX3 yX3_keep wsX3_keep) := goodIn_app (goodIn_of _ (by decide +kernel)) ggX3_extract_X3_keep
theorem dX3_extract_0 : decode cX3_extract 0 = .ok (.aload_n 0, 1) := by decide +kernel
theorem dX3_extract_1 : decode cX3_extract 1 = .ok (.iload_n 1, 1) := by decide +kernel
theorem dX3_extract_2 : decode cX3_extract 2 = .ok (.invokestatic 25, 3) := by decide +kernel
theorem dX3_extract_5 : decode cX3_extract 5 = .ok (.ifCond .ne 17, 3) := by decide +kernel
theorem dX3_extract_8 : decode cX3_extract 8 = .ok (.iload_n 2, 1) := by decide +kernel
theorem dX3_extract_9 : decode cX3_extract 9 = .ok (.invokestatic 25, 3) := by decide +kernel
theorem dX3_extract_12 : decode cX3_extract 12 = .ok (.ifCond .ne 10, 3) := by decide +kernel
theorem dX3_extract_15 : decode cX3_extract 15 = .ok (.iload_n 3, 1) := by decide +kernel
theorem dX3_extract_16 : decode cX3_extract 16 = .ok (.invokestatic 25, 3) := by decide +kernel
theorem dX3_extract_19 : decode cX3_extract 19 = .ok (.ifCond .eq 7, 3) := by decide +kernel
theorem dX3_extract_22 : decode cX3_extract 22 = .ok (.iconst 1, 1) := by decide +kernel
theorem dX3_extract_23 : decode cX3_extract 23 = .ok (.goto 13, 3) := by decide +kernel
theorem dX3_extract_26 : decode cX3_extract 26 = .ok (.iload_n 2, 1) := by decide +kernel
theorem dX3_extract_27 : decode cX3_extract 27 = .ok (.iload_n 3, 1) := by decide +kernel
theorem dX3_extract_28 : decode cX3_extract 28 = .ok (.if_icmp .ne 7, 3) := by decide +kernel
theorem dX3_extract_31 : decode cX3_extract 31 = .ok (.iconst 2, 1) := by decide +kernel
theorem dX3_extract_32 : decode cX3_extract 32 = .ok (.goto 4, 3) := by decide +kernel
theorem dX3_extract_35 : decode cX3_extract 35 = .ok (.iconst 0, 1) := by decide +kernel
theorem dX3_extract_36 : decode cX3_extract 36 = .ok (.putfield 21, 3) := by decide +kernel
theorem dX3_extract_39 : decode cX3_extract 39 = .ok (.aload_n 0, 1) := by decide +kernel
theorem dX3_extract_40 : decode cX3_extract 40 = .ok (.getfield 21, 3) := by decide +kernel
theorem dX3_extract_43 : decode cX3_extract 43 = .ok (.ifCond .le 5, 3) := by decide +kernel
theorem dX3_extract_46 : decode cX3_extract 46 = .ok (.iconst 0, 1) := by decide +kernel
theorem dX3_extract_47 : decode cX3_extract 47 = .ok (.ireturn, 1) := by decide +kernel
theorem dX3_extract_48 : decode cX3_extract 48 = .ok (.aload_n 0, 1) := by decide +kernel
theorem dX3_extract_49 : decode cX3_extract 49 = .ok (.invokevirtual 111, 3) := by decide +kernel
theorem dX3_extract_52 : decode cX3_extract 52 = .ok (.iconst 0, 1) := by decide +kernel
theorem dX3_extract_53 : decode cX3_extract 53 = .ok (.istore 4, 2) := by decide +kernel
theorem dX3_extract_55 : decode cX3_extract 55 = .ok (.lconst 0, 1) := by decide +kernel
theorem dX3_extract_56 : decode cX3_extract 56 = .ok (.lstore 5, 2) := by decide +kernel
theorem dX3_extract_58 : decode cX3_extract 58 = .ok (.aload_n 0, 1) := by decide +kernel
theorem dX3_extract_59 : decode cX3_extract 59 = .ok (.iload_n 1, 1) := by decide +kernel
theorem dX3_extract_60 : decode cX3_extract 60 = .ok (.iconst (-1), 1) := by decide +kernel
theorem dX3_extract_61 : decode cX3_extract 61 = .ok (.iconst 1, 1) := by decide +kernel
theorem dX3_extract_62 : decode cX3_extract 62 = .ok (.invokevirtual 114, 3) := by decide +kernel
theorem dX3_extract_65 : decode cX3_extract 65 = .ok (.ifCond .eq 163, 3) := by decide +kernel
theorem dX3_extract_68 : decode cX3_extract 68 = .ok (.aload_n 0, 1) := by decide +kernel
theorem dX3_extract_69 : decode cX3_extract 69 = .ok (.iload_n 1, 1) := by decide +kernel
theorem dX3_extract_70 : decode cX3_extract 70 = .ok (.invokevirtual 46, 3) := by decide +kernel
theorem dX3_extract_73 : decode cX3_extract 73 = .ok (.iconst 4, 1) := by decide +kernel
theorem dX3_extract_74 : decode cX3_extract 74 = .ok (.if_icmp .ne 32, 3) := by decide +kernel
theorem dX3_extract_77 : decode cX3_extract 77 = .ok (.sipush 32767, 3) := by decide +kernel
theorem dX3_extract_80 : decode cX3_extract 80 = .ok (.istore 4, 2) := by decide +kernel
theorem dX3_extract_82 : decode cX3_extract 82 = .ok (.ldc2_w 34, 3) := by decide +kernel
theorem dX3_extract_85 : decode cX3_extract 85 = .ok (.lstore 5, 2) := by decide +kernel
theorem dX3_extract_87 : decode cX3_extract 87 = .ok (.aload_n 0, 1) := by decide +kernel
theorem dX3_extract_88 : decode cX3_extract 88 = .ok (.aload_n 0, 1) := by decide +kernel
theorem dX3_extract_89 : decode cX3_extract 89 = .ok (.getfield 13, 3) := by decide +kernel
theorem dX3_extract_92 : decode cX3_extract 92 = .ok (.iload_n 1, 1) := by decide +kernel
theorem dX3_extract_93 : decode cX3_extract 93 = .ok (.iaload, 1) := by decide +kernel
theorem dX3_extract_94 : decode cX3_extract 94 = .ok (.aload_n 0, 1) := by decide +kernel
theorem dX3_extract_95 : decode cX3_extract 95 = .ok (.getfield 17, 3) := by decide +kernel
theorem dX3_extract_98 : decode cX3_extract 98 = .ok (.iload_n 1, 1) := by decide +kernel
theorem dX3_extract_99 : decode cX3_extract 99 = .ok (.laload, 1) := by decide +kernel
theorem dX3_extract_100 : decode cX3_extract 100 = .ok (.invokevirtual 88, 3) := by decide +kernel
theorem dX3_extract_103 : decode cX3_extract 103 = .ok (.goto 137, 3) := by decide +kernel
theorem dX3_extract_106 : decode cX3_extract 106 = .ok (.aload_n 0, 1) := by decide +kernel
theorem dX3_extract_107 : decode cX3_extract 107 = .ok (.iload_n 1, 1) := by decide +kernel
theorem dX3_extract_108 : decode cX3_extract 108 = .ok (.invokevirtual 126, 3) := by decide +kernel
theorem dX3_extract_111 : decode cX3_extract 111 = .ok (.ifCond .eq 42, 3) := by decide +kernel
theorem dX3_extract_114 : decode cX3_extract 114 = .ok (.ldc 24, 2) := by decide +kernel
theorem dX3_extract_116 : decode cX3_extract 116 = .ok (.istore 4, 2) := by decide +kernel
theorem dX3_extract_118 : decode cX3_extract 118 = .ok (.ldc2_w 34, 3) := by decide +kernel
theorem dX3_extract_121 : decode cX3_extract 121 = .ok (.lstore 5, 2) := by decide +kernel
theorem dX3_extract_123 : decode cX3_extract 123 = .ok (.aload_n 0, 1) := by decide +kernel
theorem dX3_extract_124 : decode cX3_extract 124 = .ok (.iconst 4, 1) := by decide +kernel
theorem dX3_extract_125 : decode cX3_extract 125 = .ok (.invokevirtual 85, 3) := by decide +kernel
theorem dX3_extract_128 : decode cX3_extract 128 = .ok (.ifCond .eq 112, 3) := by decide +kernel
theorem dX3_extract_131 : decode cX3_extract 131 = .ok (.aload_n 0, 1) := by decide +kernel
theorem dX3_extract_132 : decode cX3_extract 132 = .ok (.aload_n 0, 1) := by decide +kernel
theorem dX3_extract_133 : decode cX3_extract 133 = .ok (.iload_n 1, 1) := by decide +kernel
theorem dX3_extract_134 : decode cX3_extract 134 = .ok (.invokevirtual 82, 3) := by decide +kernel
theorem dX3_extract_137 : decode cX3_extract 137 = .ok (.ifCond .eq 8, 3) := by decide +kernel
theorem dX3_extract_140 : decode cX3_extract 140 = .ok (.ldc 33, 2) := by decide +kernel
theorem dX3_extract_142 : decode cX3_extract 142 = .ok (.goto 4, 3) := by decide +kernel
theorem dX3_extract_145 : decode cX3_extract 145 = .ok (.iconst 0, 1) := by decide +kernel
theorem dX3_extract_146 : decode cX3_extract 146 = .ok (.lconst 0, 1) := by decide +kernel
theorem dX3_extract_147 : decode cX3_extract 147 = .ok (.invokevirtual 88, 3) := by decide +kernel
theorem dX3_extract_150 : decode cX3_extract 150 = .ok (.goto 90, 3) := by decide +kernel
theorem dX3_extract_153 : decode cX3_extract 153 = .ok (.aload_n 0, 1) := by decide +kernel
theorem dX3_extract_154 : decode cX3_extract 154 = .ok (.iload_n 1, 1) := by decide +kernel
theorem dX3_extract_155 : decode cX3_extract 155 = .ok (.invokevirtual 129, 3) := by decide +kernel
theorem dX3_extract_158 : decode cX3_extract 158 = .ok (.aload_n 0, 1) := by decide +kernel
theorem dX3_extract_159 : decode cX3_extract 159 = .ok (.getfield 57, 3) := by decide +kernel
theorem dX3_extract_162 : decode cX3_extract 162 = .ok (.istore 7, 2) := by decide +kernel
theorem dX3_extract_164 : decode cX3_extract 164 = .ok (.aload_n 0, 1) := by decide +kernel
theorem dX3_extract_165 : decode cX3_extract 165 = .ok (.getfield 50, 3) := by decide +kernel
theorem dX3_extract_168 : decode cX3_extract 168 = .ok (.lstore 8, 2) := by decide +kernel
theorem dX3_extract_170 : decode cX3_extract 170 = .ok (.aload_n 0, 1) := by decide +kernel
theorem dX3_extract_171 : decode cX3_extract 171 = .ok (.iload 7, 2) := by decide +kernel
theorem dX3_extract_173 : decode cX3_extract 173 = .ok (.ifCond .ge 7, 3) := by decide +kernel
theorem dX3_extract_176 : decode cX3_extract 176 = .ok (.iconst 1, 1) := by decide +kernel
theorem dX3_extract_177 : decode cX3_extract 177 = .ok (.goto 4, 3) := by decide +kernel
theorem dX3_extract_180 : decode cX3_extract 180 = .ok (.iconst 0, 1) := by decide +kernel
theorem dX3_extract_181 : decode cX3_extract 181 = .ok (.iload 7, 2) := by decide +kernel
theorem dX3_extract_183 : decode cX3_extract 183 = .ok (.ifCond .ge 10, 3) := by decide +kernel
theorem dX3_extract_186 : decode cX3_extract 186 = .ok (.iload 7, 2) := by decide +kernel
theorem dX3_extract_188 : decode cX3_extract 188 = .ok (.ineg, 1) := by decide +kernel
theorem dX3_extract_189 : decode cX3_extract 189 = .ok (.i2l, 1) := by decide +kernel
theorem dX3_extract_190 : decode cX3_extract 190 = .ok (.goto 6, 3) := by decide +kernel
theorem dX3_extract_193 : decode cX3_extract 193 = .ok (.iload 7, 2) := by decide +kernel
theorem dX3_extract_195 : decode cX3_extract 195 = .ok (.i2l, 1) := by decide +kernel
theorem dX3_extract_196 : decode cX3_extract 196 = .ok (.iconst 0, 1) := by decide +kernel
theorem dX3_extract_197 : decode cX3_extract 197 = .ok (.invokevirtual 118, 3) := by decide +kernel
theorem dX3_extract_200 : decode cX3_extract 200 = .ok (.aload_n 0, 1) := by decide +kernel
theorem dX3_extract_201 : decode cX3_extract 201 = .ok (.getfield 62, 3) := by decide +kernel
theorem dX3_extract_204 : decode cX3_extract 204 = .ok (.istore 4, 2) := by decide +kernel
theorem dX3_extract_206 : decode cX3_extract 206 = .ok (.aload_n 0, 1) := by decide +kernel
theorem dX3_extract_207 : decode cX3_extract 207 = .ok (.getfield 65, 3) := by decide +kernel
theorem dX3_extract_210 : decode cX3_extract 210 = .ok (.lstore 5, 2) := by decide +kernel
theorem dX3_extract_212 : decode cX3_extract 212 = .ok (.aload_n 0, 1) := by decide +kernel
theorem dX3_extract_213 : decode cX3_extract 213 = .ok (.aload_n 0, 1) := by decide +kernel
theorem dX3_extract_214 : decode cX3_extract 214 = .ok (.iload_n 1, 1) := by decide +kernel
theorem dX3_extract_215 : decode cX3_extract 215 = .ok (.invokevirtual 82, 3) := by decide +kernel
theorem dX3_extract_218 : decode cX3_extract 218 = .ok (.lload 8, 2) := by decide +kernel
theorem dX3_extract_220 : decode cX3_extract 220 = .ok (.bipush (-63), 2) := by decide +kernel
theorem dX3_extract_222 : decode cX3_extract 222 = .ok (.invokevirtual 118, 3) := by decide +kernel
theorem dX3_extract_225 : decode cX3_extract 225 = .ok (.goto 15, 3) := by decide +kernel
theorem dX3_extract_228 : decode cX3_extract 228 = .ok (.aload_n 0, 1) := by decide +kernel
theorem dX3_extract_229 : decode cX3_extract 229 = .ok (.getfield 62, 3) := by decide +kernel
theorem dX3_extract_232 : decode cX3_extract 232 = .ok (.istore 4, 2) := by decide +kernel
theorem dX3_extract_234 : decode cX3_extract 234 = .ok (.aload_n 0, 1) := by decide +kernel
theorem dX3_extract_235 : decode cX3_extract 235 = .ok (.getfield 65, 3) := by decide +kernel
theorem dX3_extract_238 : decode cX3_extract 238 = .ok (.lstore 5, 2) := by decide +kernel
theorem dX3_extract_240 : decode cX3_extract 240 = .ok (.aload_n 0, 1) := by decide +kernel
theorem dX3_extract_241 : decode cX3_extract 241 = .ok (.getfield 68, 3) := by decide +kernel
theorem dX3_extract_244 : decode cX3_extract 244 = .ok (.ifCond .eq 24, 3) := by decide +kernel
theorem dX3_extract_247 : decode cX3_extract 247 = .ok (.aload_n 0, 1) := by decide +kernel
theorem dX3_extract_248 : decode cX3_extract 248 = .ok (.iload_n 3, 1) := by decide +kernel
theorem dX3_extract_249 : decode cX3_extract 249 = .ok (.invokevirtual 122, 3) := by decide +kernel
theorem dX3_extract_252 : decode cX3_extract 252 = .ok (.aload_n 0, 1) := by decide +kernel
theorem dX3_extract_253 : decode cX3_extract 253 = .ok (.getfield 13, 3) := by decide +kernel
theorem dX3_extract_256 : decode cX3_extract 256 = .ok (.iload_n 2, 1) := by decide +kernel
theorem dX3_extract_257 : decode cX3_extract 257 = .ok (.iload 4, 2) := by decide +kernel
theorem dX3_extract_259 : decode cX3_extract 259 = .ok (.iastore, 1) := by decide +kernel
theorem dX3_extract_260 : decode cX3_extract 260 = .ok (.aload_n 0, 1) := by decide +kernel
theorem dX3_extract_261 : decode cX3_extract 261 = .ok (.getfield 17, 3) := by decide +kernel
theorem dX3_extract_264 : decode cX3_extract 264 = .ok (.iload_n 2, 1) := by decide +kernel
theorem dX3_extract_265 : decode cX3_extract 265 = .ok (.lload 5, 2) := by decide +kernel
theorem dX3_extract_267 : decode cX3_extract 267 = .ok (.lastore, 1) := by decide +kernel
theorem dX3_extract_268 : decode cX3_extract 268 = .ok (.aload_n 0, 1) := by decide +kernel
theorem dX3_extract_269 : decode cX3_extract 269 = .ok (.getfield 72, 3) := by decide +kernel
theorem dX3_extract_272 : decode cX3_extract 272 = .ok (.ireturn, 1) := by decide +kernel
set_option maxRecDepth 20000 in
theorem ggX3_remainder_X3_none : GoodIn wsX3_remainder wsX3_none := goodIn_r _ [6] (by decide +kernel) (by decide +kernel)
set_option maxRecDepth 20000 in
theorem gX3_remainder_X3_none : GoodIn wsX3_remainder (va_wsS RX3 25 yX3_none wsX3_none) := goodIn_app (goodIn_of _ (by decide +kernel)) ggX3_remainder_X3_none
set_option maxRecDepth 20000 in
theorem ggX3_remainder_X3_begin : GoodIn wsX3_remainder wsX3_begin := goodIn_r _ [10, 2, 11, 88, 89, 90, 91, 92, 93, 94, 95, 96, 97, 98, 99, 100] (by decide +kernel) (by decide +kernel)
set_option maxRecDepth 20000 in
theorem gX3_remainder_X3_begin : GoodIn wsX3_remainder (wsV RX3 111 RX3 yX3_begin wsX3_begin) := goodIn_app (goodIn_of _ (by decide +kernel)) ggX3_remainder_X3_begin
set_option maxRecDepth 20000 in
theorem ggX3_remainder_X3_kind : GoodIn wsX3_remainder wsX3_kind := goodIn_r _ [15, 16, 17, 18, 19, 88, 89, 90, 91, 92, 93, 94, 95, 96, 97, 98, 99, 100] (by decide +kernel) (by decide +kernel)
set_option maxRecDepth 20000 in
theorem gX3_remainder_X3_kind : GoodIn wsX3_remainder (wsV RX3 46 RX3 yX3_kind wsX3_kind) := goodIn_app (goodIn_of _ (by decide +kernel)) ggX3_remainder_X3_kind
set_option maxRecDepth 20000 in
theorem ggX3_remainder_X3_nothing : GoodIn wsX3_remainder wsX3_nothing := goodIn_r _ [23, 18, 12, 13, 14, 5, 15, 16, 17, 19, 88, 89, 90, 91, 92, 93, 94, 95, 96, 97, 98, 99, 100] (by decide +kernel) (by decide +kernel)
set_option maxRecDepth 20000 in
theorem gX3_remainder_X3_nothing : GoodIn wsX3_remainder (wsV RX3 126 RX3 yX3_nothing wsX3_nothing) := goodIn_app (goodIn_of _ (by decide +kernel)) ggX3_remainder_X3_nothing
set_option maxRecDepth 20000 in
theorem ggX3_remainder_X3_goesOn : GoodIn wsX3_remainder wsX3_goesOn := goodIn_r _ [27, 18, 16, 28, 29, 12, 13, 14, 5, 15, 17, 19, 30, 31, 32, 33, 34, 35, 36, 37, 38, 39, 40, 2, 41, 42, 43, 44, 45, 46, 47, 48, 49, 50, 51, 11, 88, 89, 90, 91, 92, 93, 94, 95, 96, 97, 98, 99, 100] (by decide +kernel) (by decide +kernel)
set_option maxRecDepth 20000 in
theorem gX3_remainder_X3_goesOn : GoodIn wsX3_remainder (wsV RX3 114 RX3 yX3_goesOn wsX3_goesOn) := goodIn_app (goodIn_of _ (by decide +kernel)) ggX3_remainder_X3_goesOn
set_option maxRecDepth 20000 in
theorem ggX3_remainder_X3_divide : GoodIn wsX3_remainder wsX3_divide := goodIn_r _ [55, 56, 57, 58, 59, 18, 60, 12, 13, 14, 5, 15, 16, 17, 19, 20, 21, 22, 23, 61, 62, 63, 64, 65, 66, 67, 68, 33, 34, 35, 36, 69, 70, 71, 72, 73, 74, 46, 47, 48, 49, 50, 51, 11, 41, 42, 43, 44, 45, 75, 76, 77, 78, 79, 80, 81, 82, 83, 37, 38, 39, 40, 2, 30, 31, 32, 88, 89, 90, 91, 92, 93, 94, 95, 96, 97, 98, 99, 100] (by decide +kernel) (by decide +kernel)
set_option maxRecDepth 20000 in
theorem gX3_remainder_X3_divide : GoodIn wsX3_remainder (wsV RX3 132 RX3 yX3_divide wsX3_divide) := goodIn_app (goodIn_of _ (by decide +kernel)) ggX3_remainder_X3_divide
set_option maxRecDepth 20000 in
theorem ggX3_remainder_X3_keep : GoodIn wsX3_remainder wsX3_keep := goodIn_r _ [87, 11, 16, 50, 18, 51, 88, 89, 90, 91, 92, 93, 94, 95, 96, 97, 98, 99, 100] (by decide +kernel) (by decide +kernel)
set_option maxRecDepth 20000 in
theorem gX3_remainder_X3_keep : GoodIn wsX3_remainder (wsV RX3 122 RX3 yX3_keep wsX3_keep) := goodIn_app (goodIn_of _ (by decide +kernel)) ggX3_remainder_X3_keep
theorem dX3_remainder_0 : decode cX3_remainder 0 = .ok (.aload_n 0, 1) := by decide +kernel
theorem dX3_remainder_1 : decode cX3_remainder 1 = .ok (.iload_n 1, 1) := by decide +kernel
theorem dX3_remainder_2 : decode cX3_remainder 2 = .ok (.invokestatic 25, 3) := by decide +kernel
theorem dX3_remainder_5 : decode cX3_remainder 5 = .ok (.ifCond .ne 17, 3) := by decide +kernel
theorem dX3_remainder_8 : decode cX3_remainder 8 = .ok (.iload_n 2, 1) := by decide +kernel
theorem dX3_remainder_9 : decode cX3_remainder 9 = .ok (.invokestatic 25, 3) := by decide +kernel
theorem dX3_remainder_12 : decode cX3_remainder 12 = .ok (.ifCond .ne 10, 3) := by decide +kernel
theorem dX3_remainder_15 : decode cX3_remainder 15 = .ok (.iload_n 3, 1) := by decide +kernel
theorem dX3_remainder_16 : decode cX3_remainder 16 = .ok (.invokestatic 25, 3) := by decide +kernel
theorem dX3_remainder_19 : decode cX3_remainder 19 = .ok (.ifCond .eq 7, 3) := by decide +kernel
theorem dX3_remainder_22 : decode cX3_remainder 22 = .ok (.iconst 1, 1) := by decide +kernel
theorem dX3_remainder_23 : decode cX3_remainder 23 = .ok (.goto 4, 3) := by decide +kernel
theorem dX3_remainder_26 : decode cX3_remainder 26 = .ok (.iconst 0, 1) := by decide +kernel
theorem dX3_remainder_27 : decode cX3_remainder 27 = .ok (.putfield 21, 3) := by decide +kernel
theorem dX3_remainder_30 : decode cX3_remainder 30 = .ok (.aload_n 0, 1) := by decide +kernel
theorem dX3_remainder_31 : decode cX3_remainder 31 = .ok (.getfield 21, 3) := by decide +kernel
theorem dX3_remainder_34 : decode cX3_remainder 34 = .ok (.ifCond .le 5, 3) := by decide +kernel
theorem dX3_remainder_37 : decode cX3_remainder 37 = .ok (.iconst 0, 1) := by decide +kernel
theorem dX3_remainder_38 : decode cX3_remainder 38 = .ok (.ireturn, 1) := by decide +kernel
theorem dX3_remainder_39 : decode cX3_remainder 39 = .ok (.aload_n 0, 1) := by decide +kernel
theorem dX3_remainder_40 : decode cX3_remainder 40 = .ok (.invokevirtual 111, 3) := by decide +kernel
theorem dX3_remainder_43 : decode cX3_remainder 43 = .ok (.aload_n 0, 1) := by decide +kernel
theorem dX3_remainder_44 : decode cX3_remainder 44 = .ok (.iload_n 1, 1) := by decide +kernel
theorem dX3_remainder_45 : decode cX3_remainder 45 = .ok (.iload_n 2, 1) := by decide +kernel
theorem dX3_remainder_46 : decode cX3_remainder 46 = .ok (.aload_n 0, 1) := by decide +kernel
theorem dX3_remainder_47 : decode cX3_remainder 47 = .ok (.iload_n 1, 1) := by decide +kernel
theorem dX3_remainder_48 : decode cX3_remainder 48 = .ok (.invokevirtual 46, 3) := by decide +kernel
theorem dX3_remainder_51 : decode cX3_remainder 51 = .ok (.iconst 4, 1) := by decide +kernel
theorem dX3_remainder_52 : decode cX3_remainder 52 = .ok (.if_icmp .eq 24, 3) := by decide +kernel
theorem dX3_remainder_55 : decode cX3_remainder 55 = .ok (.aload_n 0, 1) := by decide +kernel
theorem dX3_remainder_56 : decode cX3_remainder 56 = .ok (.iload_n 2, 1) := by decide +kernel
theorem dX3_remainder_57 : decode cX3_remainder 57 = .ok (.invokevirtual 126, 3) := by decide +kernel
theorem dX3_remainder_60 : decode cX3_remainder 60 = .ok (.ifCond .ne 16, 3) := by decide +kernel
theorem dX3_remainder_63 : decode cX3_remainder 63 = .ok (.aload_n 0, 1) := by decide +kernel
theorem dX3_remainder_64 : decode cX3_remainder 64 = .ok (.iload_n 2, 1) := by decide +kernel
theorem dX3_remainder_65 : decode cX3_remainder 65 = .ok (.invokevirtual 46, 3) := by decide +kernel
theorem dX3_remainder_68 : decode cX3_remainder 68 = .ok (.iconst 2, 1) := by decide +kernel
theorem dX3_remainder_69 : decode cX3_remainder 69 = .ok (.if_icmp .eq 7, 3) := by decide +kernel
theorem dX3_remainder_72 : decode cX3_remainder 72 = .ok (.iconst 1, 1) := by decide +kernel
theorem dX3_remainder_73 : decode cX3_remainder 73 = .ok (.goto 4, 3) := by decide +kernel
theorem dX3_remainder_76 : decode cX3_remainder 76 = .ok (.iconst 0, 1) := by decide +kernel
theorem dX3_remainder_77 : decode cX3_remainder 77 = .ok (.invokevirtual 114, 3) := by decide +kernel
theorem dX3_remainder_80 : decode cX3_remainder 80 = .ok (.ifCond .eq 9, 3) := by decide +kernel
theorem dX3_remainder_83 : decode cX3_remainder 83 = .ok (.aload_n 0, 1) := by decide +kernel
theorem dX3_remainder_84 : decode cX3_remainder 84 = .ok (.iload_n 1, 1) := by decide +kernel
theorem dX3_remainder_85 : decode cX3_remainder 85 = .ok (.iload_n 2, 1) := by decide +kernel
theorem dX3_remainder_86 : decode cX3_remainder 86 = .ok (.invokevirtual 132, 3) := by decide +kernel
theorem dX3_remainder_89 : decode cX3_remainder 89 = .ok (.aload_n 0, 1) := by decide +kernel
theorem dX3_remainder_90 : decode cX3_remainder 90 = .ok (.iload_n 3, 1) := by decide +kernel
theorem dX3_remainder_91 : decode cX3_remainder 91 = .ok (.invokevirtual 122, 3) := by decide +kernel
theorem dX3_remainder_94 : decode cX3_remainder 94 = .ok (.aload_n 0, 1) := by decide +kernel
theorem dX3_remainder_95 : decode cX3_remainder 95 = .ok (.getfield 72, 3) := by decide +kernel
theorem dX3_remainder_98 : decode cX3_remainder 98 = .ok (.ireturn, 1) := by decide +kernel
set_option maxRecDepth 20000 in
theorem ggX3_divide_X3_kind : GoodIn wsX3_divide wsX3_kind := goodIn_r _ [11, 12, 13, 5, 14, 66, 67, 68, 69, 70, 71, 72, 73, 74, 75, 76, 77, 78] (by decide +kernel) (by decide +kernel)
set_option maxRecDepth 20000 in
theorem gX3_divide_X3_kind : GoodIn wsX3_divide (wsV RX3 46 RX3 yX3_kind wsX3_kind) := goodIn_app (goodIn_of _ (by decide +kernel)) ggX3_divide_X3_kind
set_option maxRecDepth 20000 in
theorem ggX3_divide_X3_nothing : GoodIn wsX3_divide wsX3_nothing := goodIn_r _ [18, 5, 7, 8, 9, 10, 11, 12, 13, 14, 66, 67, 68, 69, 70, 71, 72, 73, 74, 75, 76, 77, 78] (by decide +kernel) (by decide +kernel)
set_option maxRecDepth 20000 in
theorem gX3_divide_X3_nothing : GoodIn wsX3_divide (wsV RX3 126 RX3 yX3_nothing wsX3_nothing) := goodIn_app (goodIn_of _ (by decide +kernel)) ggX3_divide_X3_nothing
set_option maxRecDepth 20000 in
theorem ggX3_divide_X3_apart : GoodIn wsX3_divide wsX3_apart := goodIn_r _ [22, 5, 3, 4, 6, 23, 24, 25, 10, 26, 12, 13, 66, 67, 68, 69, 70, 71, 72, 73, 74, 75, 76, 77, 78] (by decide +kernel) (by decide +kernel)
set_option maxRecDepth 20000 in
theorem gX3_divide_X3_apart : GoodIn wsX3_divide (wsV RX3 129 RX3 yX3_apart wsX3_apart) := goodIn_app (goodIn_of _ (by decide +kernel)) ggX3_divide_X3_apart
set_option maxRecDepth 20000 in
theorem ggX3_divide_X3_minus : GoodIn wsX3_divide wsX3_minus := goodIn_r _ [30, 12, 66, 67, 68, 69, 70, 71, 72, 73, 74, 75, 76, 77, 78] (by decide +kernel) (by decide +kernel)
set_option maxRecDepth 20000 in
theorem gX3_divide_X3_minus : GoodIn wsX3_divide (wsV RX3 82 RX3 yX3_minus wsX3_minus) := goodIn_app (goodIn_of _ (by decide +kernel)) ggX3_divide_X3_minus
set_option maxRecDepth 20000 in
theorem ggX3_divide_X3_unit : GoodIn wsX3_divide wsX3_unit := goodIn_r _ [26, 12, 13, 66, 67, 68, 69, 70, 71, 72, 73, 74, 75, 76, 77, 78] (by decide +kernel) (by decide +kernel)
set_option maxRecDepth 20000 in
theorem gX3_divide_X3_unit : GoodIn wsX3_divide (wsV RX3 54 RX3 yX3_unit wsX3_unit) := goodIn_app (goodIn_of _ (by decide +kernel)) ggX3_divide_X3_unit
set_option maxRecDepth 20000 in
theorem ggX3_divide_X3_make : GoodIn wsX3_divide wsX3_make := goodIn_r _ [34, 13, 6, 35, 14, 36, 37, 38, 39, 10, 40, 41, 42, 43, 44, 45, 46, 47, 48, 49, 50, 51, 52, 53, 54, 55, 56, 57, 58, 59, 60, 61, 62, 66, 67, 68, 69, 70, 71, 72, 73, 74, 75, 76, 77, 78] (by decide +kernel) (by decide +kernel)
set_option maxRecDepth 20000 in
theorem gX3_divide_X3_make : GoodIn wsX3_divide (wsV RX3 118 RX3 yX3_make wsX3_make) := goodIn_app (goodIn_of _ (by decide +kernel)) ggX3_divide_X3_make
set_option maxRecDepth 20000 in
theorem ggX3_divide_X3_lessSize : GoodIn wsX3_divide wsX3_lessSize := goodIn_r _ [65, 14] (by decide +kernel) (by decide +kernel)
set_option maxRecDepth 20000 in
theorem gX3_divide_X3_lessSize : GoodIn wsX3_divide (va_wsS RX3 78 yX3_lessSize wsX3_lessSize) := goodIn_app (goodIn_of _ (by decide +kernel)) ggX3_divide_X3_lessSize
theorem dX3_divide_0 : decode cX3_divide 0 = .ok (.aload_n 0, 1) := by decide +kernel
theorem dX3_divide_1 : decode cX3_divide 1 = .ok (.iconst 0, 1) := by decide +kernel
theorem dX3_divide_2 : decode cX3_divide 2 = .ok (.putfield 136, 3) := by decide +kernel
theorem dX3_divide_5 : decode cX3_divide 5 = .ok (.aload_n 0, 1) := by decide +kernel
theorem dX3_divide_6 : decode cX3_divide 6 = .ok (.iconst 0, 1) := by decide +kernel
theorem dX3_divide_7 : decode cX3_divide 7 = .ok (.putfield 139, 3) := by decide +kernel
theorem dX3_divide_10 : decode cX3_divide 10 = .ok (.iconst (-1), 1) := by decide +kernel
theorem dX3_divide_11 : decode cX3_divide 11 = .ok (.istore_n 3, 1) := by decide +kernel
theorem dX3_divide_12 : decode cX3_divide 12 = .ok (.lconst 0, 1) := by decide +kernel
theorem dX3_divide_13 : decode cX3_divide 13 = .ok (.lstore 4, 2) := by decide +kernel
theorem dX3_divide_15 : decode cX3_divide 15 = .ok (.aload_n 0, 1) := by decide +kernel
theorem dX3_divide_16 : decode cX3_divide 16 = .ok (.iload_n 2, 1) := by decide +kernel
theorem dX3_divide_17 : decode cX3_divide 17 = .ok (.invokevirtual 46, 3) := by decide +kernel
theorem dX3_divide_20 : decode cX3_divide 20 = .ok (.iconst 4, 1) := by decide +kernel
theorem dX3_divide_21 : decode cX3_divide 21 = .ok (.if_icmp .eq 39, 3) := by decide +kernel
theorem dX3_divide_24 : decode cX3_divide 24 = .ok (.aload_n 0, 1) := by decide +kernel
theorem dX3_divide_25 : decode cX3_divide 25 = .ok (.iload_n 1, 1) := by decide +kernel
theorem dX3_divide_26 : decode cX3_divide 26 = .ok (.invokevirtual 126, 3) := by decide +kernel
theorem dX3_divide_29 : decode cX3_divide 29 = .ok (.ifCond .ne 31, 3) := by decide +kernel
theorem dX3_divide_32 : decode cX3_divide 32 = .ok (.aload_n 0, 1) := by decide +kernel
theorem dX3_divide_33 : decode cX3_divide 33 = .ok (.iload_n 1, 1) := by decide +kernel
theorem dX3_divide_34 : decode cX3_divide 34 = .ok (.invokevirtual 129, 3) := by decide +kernel
theorem dX3_divide_37 : decode cX3_divide 37 = .ok (.aload_n 0, 1) := by decide +kernel
theorem dX3_divide_38 : decode cX3_divide 38 = .ok (.getfield 50, 3) := by decide +kernel
theorem dX3_divide_41 : decode cX3_divide 41 = .ok (.lstore 4, 2) := by decide +kernel
theorem dX3_divide_43 : decode cX3_divide 43 = .ok (.aload_n 0, 1) := by decide +kernel
theorem dX3_divide_44 : decode cX3_divide 44 = .ok (.getfield 57, 3) := by decide +kernel
theorem dX3_divide_47 : decode cX3_divide 47 = .ok (.istore_n 3, 1) := by decide +kernel
theorem dX3_divide_48 : decode cX3_divide 48 = .ok (.aload_n 0, 1) := by decide +kernel
theorem dX3_divide_49 : decode cX3_divide 49 = .ok (.iload_n 2, 1) := by decide +kernel
theorem dX3_divide_50 : decode cX3_divide 50 = .ok (.invokevirtual 129, 3) := by decide +kernel
theorem dX3_divide_53 : decode cX3_divide 53 = .ok (.iload_n 3, 1) := by decide +kernel
theorem dX3_divide_54 : decode cX3_divide 54 = .ok (.aload_n 0, 1) := by decide +kernel
theorem dX3_divide_55 : decode cX3_divide 55 = .ok (.getfield 57, 3) := by decide +kernel
theorem dX3_divide_58 : decode cX3_divide 58 = .ok (.isub, 1) := by decide +kernel
theorem dX3_divide_59 : decode cX3_divide 59 = .ok (.istore_n 3, 1) := by decide +kernel
theorem dX3_divide_60 : decode cX3_divide 60 = .ok (.iload_n 3, 1) := by decide +kernel
theorem dX3_divide_61 : decode cX3_divide 61 = .ok (.ifCond .ge 24, 3) := by decide +kernel
theorem dX3_divide_64 : decode cX3_divide 64 = .ok (.aload_n 0, 1) := by decide +kernel
theorem dX3_divide_65 : decode cX3_divide 65 = .ok (.aload_n 0, 1) := by decide +kernel
theorem dX3_divide_66 : decode cX3_divide 66 = .ok (.iload_n 1, 1) := by decide +kernel
theorem dX3_divide_67 : decode cX3_divide 67 = .ok (.invokevirtual 82, 3) := by decide +kernel
theorem dX3_divide_70 : decode cX3_divide 70 = .ok (.aload_n 0, 1) := by decide +kernel
theorem dX3_divide_71 : decode cX3_divide 71 = .ok (.getfield 17, 3) := by decide +kernel
theorem dX3_divide_74 : decode cX3_divide 74 = .ok (.iload_n 1, 1) := by decide +kernel
theorem dX3_divide_75 : decode cX3_divide 75 = .ok (.laload, 1) := by decide +kernel
theorem dX3_divide_76 : decode cX3_divide 76 = .ok (.aload_n 0, 1) := by decide +kernel
theorem dX3_divide_77 : decode cX3_divide 77 = .ok (.iload_n 1, 1) := by decide +kernel
theorem dX3_divide_78 : decode cX3_divide 78 = .ok (.invokevirtual 54, 3) := by decide +kernel
theorem dX3_divide_81 : decode cX3_divide 81 = .ok (.invokevirtual 118, 3) := by decide +kernel
theorem dX3_divide_84 : decode cX3_divide 84 = .ok (.return_, 1) := by decide +kernel
theorem dX3_divide_85 : decode cX3_divide 85 = .ok (.aload_n 0, 1) := by decide +kernel
theorem dX3_divide_86 : decode cX3_divide 86 = .ok (.iload_n 3, 1) := by decide +kernel
theorem dX3_divide_87 : decode cX3_divide 87 = .ok (.bipush 63, 2) := by decide +kernel
theorem dX3_divide_89 : decode cX3_divide 89 = .ok (.if_icmp .le 7, 3) := by decide +kernel
theorem dX3_divide_92 : decode cX3_divide 92 = .ok (.iconst 1, 1) := by decide +kernel
theorem dX3_divide_93 : decode cX3_divide 93 = .ok (.goto 4, 3) := by decide +kernel
theorem dX3_divide_96 : decode cX3_divide 96 = .ok (.iconst 0, 1) := by decide +kernel
theorem dX3_divide_97 : decode cX3_divide 97 = .ok (.putfield 139, 3) := by decide +kernel
theorem dX3_divide_100 : decode cX3_divide 100 = .ok (.aload_n 0, 1) := by decide +kernel
theorem dX3_divide_101 : decode cX3_divide 101 = .ok (.getfield 139, 3) := by decide +kernel
theorem dX3_divide_104 : decode cX3_divide 104 = .ok (.ifCond .eq 8, 3) := by decide +kernel
theorem dX3_divide_107 : decode cX3_divide 107 = .ok (.bipush 63, 2) := by decide +kernel
theorem dX3_divide_109 : decode cX3_divide 109 = .ok (.goto 4, 3) := by decide +kernel
theorem dX3_divide_112 : decode cX3_divide 112 = .ok (.iload_n 3, 1) := by decide +kernel
theorem dX3_divide_113 : decode cX3_divide 113 = .ok (.istore 6, 2) := by decide +kernel
theorem dX3_divide_115 : decode cX3_divide 115 = .ok (.lconst 0, 1) := by decide +kernel
theorem dX3_divide_116 : decode cX3_divide 116 = .ok (.lstore 7, 2) := by decide +kernel
theorem dX3_divide_118 : decode cX3_divide 118 = .ok (.iconst 0, 1) := by decide +kernel
theorem dX3_divide_119 : decode cX3_divide 119 = .ok (.istore 9, 2) := by decide +kernel
theorem dX3_divide_121 : decode cX3_divide 121 = .ok (.iload 9, 2) := by decide +kernel
theorem dX3_divide_123 : decode cX3_divide 123 = .ok (.bipush 64, 2) := by decide +kernel
theorem dX3_divide_125 : decode cX3_divide 125 = .ok (.iload 6, 2) := by decide +kernel
theorem dX3_divide_127 : decode cX3_divide 127 = .ok (.iadd, 1) := by decide +kernel
theorem dX3_divide_128 : decode cX3_divide 128 = .ok (.if_icmp .ge 121, 3) := by decide +kernel
theorem dX3_divide_131 : decode cX3_divide 131 = .ok (.lload 7, 2) := by decide +kernel
theorem dX3_divide_133 : decode cX3_divide 133 = .ok (.lconst 0, 1) := by decide +kernel
theorem dX3_divide_134 : decode cX3_divide 134 = .ok (.lcmp, 1) := by decide +kernel
theorem dX3_divide_135 : decode cX3_divide 135 = .ok (.ifCond .ge 7, 3) := by decide +kernel
theorem dX3_divide_138 : decode cX3_divide 138 = .ok (.iconst 1, 1) := by decide +kernel
theorem dX3_divide_139 : decode cX3_divide 139 = .ok (.goto 4, 3) := by decide +kernel
theorem dX3_divide_142 : decode cX3_divide 142 = .ok (.iconst 0, 1) := by decide +kernel
theorem dX3_divide_143 : decode cX3_divide 143 = .ok (.istore 10, 2) := by decide +kernel
theorem dX3_divide_145 : decode cX3_divide 145 = .ok (.ldc2_w 60, 3) := by decide +kernel
theorem dX3_divide_148 : decode cX3_divide 148 = .ok (.lload 7, 2) := by decide +kernel
theorem dX3_divide_150 : decode cX3_divide 150 = .ok (.lmul, 1) := by decide +kernel
theorem dX3_divide_151 : decode cX3_divide 151 = .ok (.iload 9, 2) := by decide +kernel
theorem dX3_divide_153 : decode cX3_divide 153 = .ok (.bipush 64, 2) := by decide +kernel
theorem dX3_divide_155 : decode cX3_divide 155 = .ok (.if_icmp .ge 17, 3) := by decide +kernel
theorem dX3_divide_158 : decode cX3_divide 158 = .ok (.lload 4, 2) := by decide +kernel
theorem dX3_divide_160 : decode cX3_divide 160 = .ok (.iload 9, 2) := by decide +kernel
theorem dX3_divide_162 : decode cX3_divide 162 = .ok (.lshl, 1) := by decide +kernel
theorem dX3_divide_163 : decode cX3_divide 163 = .ok (.lconst 0, 1) := by decide +kernel
theorem dX3_divide_164 : decode cX3_divide 164 = .ok (.lcmp, 1) := by decide +kernel
theorem dX3_divide_165 : decode cX3_divide 165 = .ok (.ifCond .ge 7, 3) := by decide +kernel
theorem dX3_divide_168 : decode cX3_divide 168 = .ok (.lconst 1, 1) := by decide +kernel
theorem dX3_divide_169 : decode cX3_divide 169 = .ok (.goto 4, 3) := by decide +kernel
theorem dX3_divide_172 : decode cX3_divide 172 = .ok (.lconst 0, 1) := by decide +kernel
theorem dX3_divide_173 : decode cX3_divide 173 = .ok (.ladd, 1) := by decide +kernel
theorem dX3_divide_174 : decode cX3_divide 174 = .ok (.lstore 7, 2) := by decide +kernel
theorem dX3_divide_176 : decode cX3_divide 176 = .ok (.iload 10, 2) := by decide +kernel
theorem dX3_divide_178 : decode cX3_divide 178 = .ok (.ifCond .ne 15, 3) := by decide +kernel
theorem dX3_divide_181 : decode cX3_divide 181 = .ok (.lload 7, 2) := by decide +kernel
theorem dX3_divide_183 : decode cX3_divide 183 = .ok (.aload_n 0, 1) := by decide +kernel
theorem dX3_divide_184 : decode cX3_divide 184 = .ok (.getfield 50, 3) := by decide +kernel
theorem dX3_divide_187 : decode cX3_divide 187 = .ok (.invokestatic 78, 3) := by decide +kernel
theorem dX3_divide_190 : decode cX3_divide 190 = .ok (.ifCond .ne 7, 3) := by decide +kernel
theorem dX3_divide_193 : decode cX3_divide 193 = .ok (.iconst 1, 1) := by decide +kernel
theorem dX3_divide_194 : decode cX3_divide 194 = .ok (.goto 4, 3) := by decide +kernel
theorem dX3_divide_197 : decode cX3_divide 197 = .ok (.iconst 0, 1) := by decide +kernel
theorem dX3_divide_198 : decode cX3_divide 198 = .ok (.istore 11, 2) := by decide +kernel
theorem dX3_divide_200 : decode cX3_divide 200 = .ok (.iload 11, 2) := by decide +kernel
theorem dX3_divide_202 : decode cX3_divide 202 = .ok (.ifCond .eq 13, 3) := by decide +kernel
theorem dX3_divide_205 : decode cX3_divide 205 = .ok (.lload 7, 2) := by decide +kernel
theorem dX3_divide_207 : decode cX3_divide 207 = .ok (.aload_n 0, 1) := by decide +kernel
theorem dX3_divide_208 : decode cX3_divide 208 = .ok (.getfield 50, 3) := by decide +kernel
theorem dX3_divide_211 : decode cX3_divide 211 = .ok (.lsub, 1) := by decide +kernel
theorem dX3_divide_212 : decode cX3_divide 212 = .ok (.goto 5, 3) := by decide +kernel
theorem dX3_divide_215 : decode cX3_divide 215 = .ok (.lload 7, 2) := by decide +kernel
theorem dX3_divide_217 : decode cX3_divide 217 = .ok (.lstore 7, 2) := by decide +kernel
theorem dX3_divide_219 : decode cX3_divide 219 = .ok (.aload_n 0, 1) := by decide +kernel
theorem dX3_divide_220 : decode cX3_divide 220 = .ok (.iconst 2, 1) := by decide +kernel
theorem dX3_divide_221 : decode cX3_divide 221 = .ok (.aload_n 0, 1) := by decide +kernel
theorem dX3_divide_222 : decode cX3_divide 222 = .ok (.getfield 136, 3) := by decide +kernel
theorem dX3_divide_225 : decode cX3_divide 225 = .ok (.imul, 1) := by decide +kernel
theorem dX3_divide_226 : decode cX3_divide 226 = .ok (.iload 11, 2) := by decide +kernel
theorem dX3_divide_228 : decode cX3_divide 228 = .ok (.ifCond .eq 7, 3) := by decide +kernel
theorem dX3_divide_231 : decode cX3_divide 231 = .ok (.iconst 1, 1) := by decide +kernel
theorem dX3_divide_232 : decode cX3_divide 232 = .ok (.goto 4, 3) := by decide +kernel
theorem dX3_divide_235 : decode cX3_divide 235 = .ok (.iconst 0, 1) := by decide +kernel
theorem dX3_divide_236 : decode cX3_divide 236 = .ok (.iadd, 1) := by decide +kernel
theorem dX3_divide_237 : decode cX3_divide 237 = .ok (.bipush 8, 2) := by decide +kernel
theorem dX3_divide_239 : decode cX3_divide 239 = .ok (.irem, 1) := by decide +kernel
theorem dX3_divide_240 : decode cX3_divide 240 = .ok (.putfield 136, 3) := by decide +kernel
theorem dX3_divide_243 : decode cX3_divide 243 = .ok (.iinc 9 1, 3) := by decide +kernel
theorem dX3_divide_246 : decode cX3_divide 246 = .ok (.goto (-125), 3) := by decide +kernel
theorem dX3_divide_249 : decode cX3_divide 249 = .ok (.aload_n 0, 1) := by decide +kernel
theorem dX3_divide_250 : decode cX3_divide 250 = .ok (.aload_n 0, 1) := by decide +kernel
theorem dX3_divide_251 : decode cX3_divide 251 = .ok (.iload_n 1, 1) := by decide +kernel
theorem dX3_divide_252 : decode cX3_divide 252 = .ok (.invokevirtual 82, 3) := by decide +kernel
theorem dX3_divide_255 : decode cX3_divide 255 = .ok (.lload 7, 2) := by decide +kernel
theorem dX3_divide_257 : decode cX3_divide 257 = .ok (.aload_n 0, 1) := by decide +kernel
theorem dX3_divide_258 : decode cX3_divide 258 = .ok (.getfield 57, 3) := by decide +kernel
theorem dX3_divide_261 : decode cX3_divide 261 = .ok (.iload_n 3, 1) := by decide +kernel
theorem dX3_divide_262 : decode cX3_divide 262 = .ok (.iadd, 1) := by decide +kernel
theorem dX3_divide_263 : decode cX3_divide 263 = .ok (.iload 6, 2) := by decide +kernel
theorem dX3_divide_265 : decode cX3_divide 265 = .ok (.isub, 1) := by decide +kernel
theorem dX3_divide_266 : decode cX3_divide 266 = .ok (.bipush 63, 2) := by decide +kernel
theorem dX3_divide_268 : decode cX3_divide 268 = .ok (.isub, 1) := by decide +kernel
theorem dX3_divide_269 : decode cX3_divide 269 = .ok (.invokevirtual 118, 3) := by decide +kernel
theorem dX3_divide_272 : decode cX3_divide 272 = .ok (.return_, 1) := by decide +kernel
set_option maxRecDepth 20000 in
theorem ggX3_order_X3_nothing : GoodIn wsX3_order wsX3_nothing := goodIn_r _ [7, 8, 9, 10, 11, 6, 12, 13, 14, 15, 37, 38, 39, 40, 41, 42, 43, 44, 45, 46, 47, 48, 49] (by decide +kernel) (by decide +kernel)
set_option maxRecDepth 20000 in
theorem gX3_order_X3_nothing : GoodIn wsX3_order (wsV RX3 126 RX3 yX3_nothing wsX3_nothing) := goodIn_app (goodIn_of _ (by decide +kernel)) ggX3_order_X3_nothing
set_option maxRecDepth 20000 in
theorem ggX3_order_X3_minus : GoodIn wsX3_order wsX3_minus := goodIn_r _ [19, 13, 37, 38, 39, 40, 41, 42, 43, 44, 45, 46, 47, 48, 49] (by decide +kernel) (by decide +kernel)
set_option maxRecDepth 20000 in
theorem gX3_order_X3_minus : GoodIn wsX3_order (wsV RX3 82 RX3 yX3_minus wsX3_minus) := goodIn_app (goodIn_of _ (by decide +kernel)) ggX3_order_X3_minus
set_option maxRecDepth 20000 in
theorem ggX3_order_X3_kind : GoodIn wsX3_order wsX3_kind := goodIn_r _ [12, 13, 14, 8, 15, 37, 38, 39, 40, 41, 42, 43, 44, 45, 46, 47, 48, 49] (by decide +kernel) (by decide +kernel)
set_option maxRecDepth 20000 in
theorem gX3_order_X3_kind : GoodIn wsX3_order (wsV RX3 46 RX3 yX3_kind wsX3_kind) := goodIn_app (goodIn_of _ (by decide +kernel)) ggX3_order_X3_kind
set_option maxRecDepth 20000 in
theorem ggX3_order_X3_masked : GoodIn wsX3_order wsX3_masked := goodIn_r _ [23, 24, 37, 38, 39, 40, 41, 42, 43, 44, 45, 46, 47, 48, 49] (by decide +kernel) (by decide +kernel)
set_option maxRecDepth 20000 in
theorem gX3_order_X3_masked : GoodIn wsX3_order (wsV RX3 75 RX3 yX3_masked wsX3_masked) := goodIn_app (goodIn_of _ (by decide +kernel)) ggX3_order_X3_masked
set_option maxRecDepth 20000 in
theorem ggX3_order_X3_apart : GoodIn wsX3_order wsX3_apart := goodIn_r _ [28, 8, 1, 2, 29, 30, 31, 32, 6, 33, 13, 14, 37, 38, 39, 40, 41, 42, 43, 44, 45, 46, 47, 48, 49] (by decide +kernel) (by decide +kernel)
set_option maxRecDepth 20000 in
theorem gX3_order_X3_apart : GoodIn wsX3_order (wsV RX3 129 RX3 yX3_apart wsX3_apart) := goodIn_app (goodIn_of _ (by decide +kernel)) ggX3_order_X3_apart
set_option maxRecDepth 20000 in
theorem ggX3_order_X3_lessSize : GoodIn wsX3_order wsX3_lessSize := goodIn_r _ [36, 15] (by decide +kernel) (by decide +kernel)
set_option maxRecDepth 20000 in
theorem gX3_order_X3_lessSize : GoodIn wsX3_order (va_wsS RX3 78 yX3_lessSize wsX3_lessSize) := goodIn_app (goodIn_of _ (by decide +kernel)) ggX3_order_X3_lessSize
theorem dX3_order_0 : decode cX3_order 0 = .ok (.aload_n 0, 1) := by decide +kernel
theorem dX3_order_1 : decode cX3_order 1 = .ok (.iload_n 1, 1) := by decide +kernel
theorem dX3_order_2 : decode cX3_order 2 = .ok (.invokevirtual 126, 3) := by decide +kernel
theorem dX3_order_5 : decode cX3_order 5 = .ok (.ifCond .eq 7, 3) := by decide +kernel
theorem dX3_order_8 : decode cX3_order 8 = .ok (.iconst 0, 1) := by decide +kernel
theorem dX3_order_9 : decode cX3_order 9 = .ok (.goto 16, 3) := by decide +kernel
theorem dX3_order_12 : decode cX3_order 12 = .ok (.aload_n 0, 1) := by decide +kernel
theorem dX3_order_13 : decode cX3_order 13 = .ok (.iload_n 1, 1) := by decide +kernel
theorem dX3_order_14 : decode cX3_order 14 = .ok (.invokevirtual 82, 3) := by decide +kernel
theorem dX3_order_17 : decode cX3_order 17 = .ok (.ifCond .eq 7, 3) := by decide +kernel
theorem dX3_order_20 : decode cX3_order 20 = .ok (.iconst (-1), 1) := by decide +kernel
theorem dX3_order_21 : decode cX3_order 21 = .ok (.goto 4, 3) := by decide +kernel
theorem dX3_order_24 : decode cX3_order 24 = .ok (.iconst 1, 1) := by decide +kernel
theorem dX3_order_25 : decode cX3_order 25 = .ok (.istore 4, 2) := by decide +kernel
theorem dX3_order_27 : decode cX3_order 27 = .ok (.iload_n 2, 1) := by decide +kernel
theorem dX3_order_28 : decode cX3_order 28 = .ok (.ifCond .ne 11, 3) := by decide +kernel
theorem dX3_order_31 : decode cX3_order 31 = .ok (.aload_n 0, 1) := by decide +kernel
theorem dX3_order_32 : decode cX3_order 32 = .ok (.iload_n 3, 1) := by decide +kernel
theorem dX3_order_33 : decode cX3_order 33 = .ok (.invokevirtual 126, 3) := by decide +kernel
theorem dX3_order_36 : decode cX3_order 36 = .ok (.ifCond .eq 7, 3) := by decide +kernel
theorem dX3_order_39 : decode cX3_order 39 = .ok (.iconst 0, 1) := by decide +kernel
theorem dX3_order_40 : decode cX3_order 40 = .ok (.goto 16, 3) := by decide +kernel
theorem dX3_order_43 : decode cX3_order 43 = .ok (.aload_n 0, 1) := by decide +kernel
theorem dX3_order_44 : decode cX3_order 44 = .ok (.iload_n 3, 1) := by decide +kernel
theorem dX3_order_45 : decode cX3_order 45 = .ok (.invokevirtual 82, 3) := by decide +kernel
theorem dX3_order_48 : decode cX3_order 48 = .ok (.ifCond .eq 7, 3) := by decide +kernel
theorem dX3_order_51 : decode cX3_order 51 = .ok (.iconst (-1), 1) := by decide +kernel
theorem dX3_order_52 : decode cX3_order 52 = .ok (.goto 4, 3) := by decide +kernel
theorem dX3_order_55 : decode cX3_order 55 = .ok (.iconst 1, 1) := by decide +kernel
theorem dX3_order_56 : decode cX3_order 56 = .ok (.istore 5, 2) := by decide +kernel
theorem dX3_order_58 : decode cX3_order 58 = .ok (.aload_n 0, 1) := by decide +kernel
theorem dX3_order_59 : decode cX3_order 59 = .ok (.iload_n 1, 1) := by decide +kernel
theorem dX3_order_60 : decode cX3_order 60 = .ok (.invokevirtual 46, 3) := by decide +kernel
theorem dX3_order_63 : decode cX3_order 63 = .ok (.iconst 4, 1) := by decide +kernel
theorem dX3_order_64 : decode cX3_order 64 = .ok (.if_icmp .ne 7, 3) := by decide +kernel
theorem dX3_order_67 : decode cX3_order 67 = .ok (.iconst 1, 1) := by decide +kernel
theorem dX3_order_68 : decode cX3_order 68 = .ok (.goto 4, 3) := by decide +kernel
theorem dX3_order_71 : decode cX3_order 71 = .ok (.iconst 0, 1) := by decide +kernel
theorem dX3_order_72 : decode cX3_order 72 = .ok (.istore 6, 2) := by decide +kernel
theorem dX3_order_74 : decode cX3_order 74 = .ok (.iload_n 2, 1) := by decide +kernel
theorem dX3_order_75 : decode cX3_order 75 = .ok (.ifCond .ne 16, 3) := by decide +kernel
theorem dX3_order_78 : decode cX3_order 78 = .ok (.aload_n 0, 1) := by decide +kernel
theorem dX3_order_79 : decode cX3_order 79 = .ok (.iload_n 3, 1) := by decide +kernel
theorem dX3_order_80 : decode cX3_order 80 = .ok (.invokevirtual 46, 3) := by decide +kernel
theorem dX3_order_83 : decode cX3_order 83 = .ok (.iconst 4, 1) := by decide +kernel
theorem dX3_order_84 : decode cX3_order 84 = .ok (.if_icmp .ne 7, 3) := by decide +kernel
theorem dX3_order_87 : decode cX3_order 87 = .ok (.iconst 1, 1) := by decide +kernel
theorem dX3_order_88 : decode cX3_order 88 = .ok (.goto 4, 3) := by decide +kernel
theorem dX3_order_91 : decode cX3_order 91 = .ok (.iconst 0, 1) := by decide +kernel
theorem dX3_order_92 : decode cX3_order 92 = .ok (.istore 7, 2) := by decide +kernel
theorem dX3_order_94 : decode cX3_order 94 = .ok (.iload 6, 2) := by decide +kernel
theorem dX3_order_96 : decode cX3_order 96 = .ok (.ifCond .eq 20, 3) := by decide +kernel
theorem dX3_order_99 : decode cX3_order 99 = .ok (.iload 7, 2) := by decide +kernel
theorem dX3_order_101 : decode cX3_order 101 = .ok (.ifCond .eq 15, 3) := by decide +kernel
theorem dX3_order_104 : decode cX3_order 104 = .ok (.aload_n 0, 1) := by decide +kernel
theorem dX3_order_105 : decode cX3_order 105 = .ok (.sipush 4096, 3) := by decide +kernel
theorem dX3_order_108 : decode cX3_order 108 = .ok (.invokevirtual 75, 3) := by decide +kernel
theorem dX3_order_111 : decode cX3_order 111 = .ok (.ifCond .ne 5, 3) := by decide +kernel
theorem dX3_order_114 : decode cX3_order 114 = .ok (.iconst 0, 1) := by decide +kernel
theorem dX3_order_115 : decode cX3_order 115 = .ok (.ireturn, 1) := by decide +kernel
theorem dX3_order_116 : decode cX3_order 116 = .ok (.iload 4, 2) := by decide +kernel
theorem dX3_order_118 : decode cX3_order 118 = .ok (.iload 5, 2) := by decide +kernel
theorem dX3_order_120 : decode cX3_order 120 = .ok (.if_icmp .eq 16, 3) := by decide +kernel
theorem dX3_order_123 : decode cX3_order 123 = .ok (.iload 4, 2) := by decide +kernel
theorem dX3_order_125 : decode cX3_order 125 = .ok (.iload 5, 2) := by decide +kernel
theorem dX3_order_127 : decode cX3_order 127 = .ok (.if_icmp .ge 7, 3) := by decide +kernel
theorem dX3_order_130 : decode cX3_order 130 = .ok (.iconst (-1), 1) := by decide +kernel
theorem dX3_order_131 : decode cX3_order 131 = .ok (.goto 4, 3) := by decide +kernel
theorem dX3_order_134 : decode cX3_order 134 = .ok (.iconst 1, 1) := by decide +kernel
theorem dX3_order_135 : decode cX3_order 135 = .ok (.ireturn, 1) := by decide +kernel
theorem dX3_order_136 : decode cX3_order 136 = .ok (.iload 4, 2) := by decide +kernel
theorem dX3_order_138 : decode cX3_order 138 = .ok (.ifCond .eq 13, 3) := by decide +kernel
theorem dX3_order_141 : decode cX3_order 141 = .ok (.iload 6, 2) := by decide +kernel
theorem dX3_order_143 : decode cX3_order 143 = .ok (.ifCond .eq 10, 3) := by decide +kernel
theorem dX3_order_146 : decode cX3_order 146 = .ok (.iload 7, 2) := by decide +kernel
theorem dX3_order_148 : decode cX3_order 148 = .ok (.ifCond .eq 5, 3) := by decide +kernel
theorem dX3_order_151 : decode cX3_order 151 = .ok (.iconst 0, 1) := by decide +kernel
theorem dX3_order_152 : decode cX3_order 152 = .ok (.ireturn, 1) := by decide +kernel
theorem dX3_order_153 : decode cX3_order 153 = .ok (.iload 6, 2) := by decide +kernel
theorem dX3_order_155 : decode cX3_order 155 = .ok (.ifCond .ne 8, 3) := by decide +kernel
theorem dX3_order_158 : decode cX3_order 158 = .ok (.iload 7, 2) := by decide +kernel
theorem dX3_order_160 : decode cX3_order 160 = .ok (.ifCond .eq 17, 3) := by decide +kernel
theorem dX3_order_163 : decode cX3_order 163 = .ok (.iload 6, 2) := by decide +kernel
theorem dX3_order_165 : decode cX3_order 165 = .ok (.ifCond .eq 8, 3) := by decide +kernel
theorem dX3_order_168 : decode cX3_order 168 = .ok (.iload 4, 2) := by decide +kernel
theorem dX3_order_170 : decode cX3_order 170 = .ok (.goto 6, 3) := by decide +kernel
theorem dX3_order_173 : decode cX3_order 173 = .ok (.iload 4, 2) := by decide +kernel
theorem dX3_order_175 : decode cX3_order 175 = .ok (.ineg, 1) := by decide +kernel
theorem dX3_order_176 : decode cX3_order 176 = .ok (.ireturn, 1) := by decide +kernel
theorem dX3_order_177 : decode cX3_order 177 = .ok (.aload_n 0, 1) := by decide +kernel
theorem dX3_order_178 : decode cX3_order 178 = .ok (.iload_n 1, 1) := by decide +kernel
theorem dX3_order_179 : decode cX3_order 179 = .ok (.invokevirtual 129, 3) := by decide +kernel
theorem dX3_order_182 : decode cX3_order 182 = .ok (.aload_n 0, 1) := by decide +kernel
theorem dX3_order_183 : decode cX3_order 183 = .ok (.getfield 50, 3) := by decide +kernel
theorem dX3_order_186 : decode cX3_order 186 = .ok (.lstore 8, 2) := by decide +kernel
theorem dX3_order_188 : decode cX3_order 188 = .ok (.aload_n 0, 1) := by decide +kernel
theorem dX3_order_189 : decode cX3_order 189 = .ok (.getfield 57, 3) := by decide +kernel
theorem dX3_order_192 : decode cX3_order 192 = .ok (.istore 10, 2) := by decide +kernel
theorem dX3_order_194 : decode cX3_order 194 = .ok (.aload_n 0, 1) := by decide +kernel
theorem dX3_order_195 : decode cX3_order 195 = .ok (.iload_n 3, 1) := by decide +kernel
theorem dX3_order_196 : decode cX3_order 196 = .ok (.invokevirtual 129, 3) := by decide +kernel
theorem dX3_order_199 : decode cX3_order 199 = .ok (.iload 10, 2) := by decide +kernel
theorem dX3_order_201 : decode cX3_order 201 = .ok (.aload_n 0, 1) := by decide +kernel
theorem dX3_order_202 : decode cX3_order 202 = .ok (.getfield 57, 3) := by decide +kernel
theorem dX3_order_205 : decode cX3_order 205 = .ok (.if_icmp .eq 21, 3) := by decide +kernel
theorem dX3_order_208 : decode cX3_order 208 = .ok (.iload 10, 2) := by decide +kernel
theorem dX3_order_210 : decode cX3_order 210 = .ok (.aload_n 0, 1) := by decide +kernel
theorem dX3_order_211 : decode cX3_order 211 = .ok (.getfield 57, 3) := by decide +kernel
theorem dX3_order_214 : decode cX3_order 214 = .ok (.if_icmp .ge 9, 3) := by decide +kernel
theorem dX3_order_217 : decode cX3_order 217 = .ok (.iload 4, 2) := by decide +kernel
theorem dX3_order_219 : decode cX3_order 219 = .ok (.ineg, 1) := by decide +kernel
theorem dX3_order_220 : decode cX3_order 220 = .ok (.goto 5, 3) := by decide +kernel
theorem dX3_order_223 : decode cX3_order 223 = .ok (.iload 4, 2) := by decide +kernel
theorem dX3_order_225 : decode cX3_order 225 = .ok (.ireturn, 1) := by decide +kernel
theorem dX3_order_226 : decode cX3_order 226 = .ok (.lload 8, 2) := by decide +kernel
theorem dX3_order_228 : decode cX3_order 228 = .ok (.aload_n 0, 1) := by decide +kernel
theorem dX3_order_229 : decode cX3_order 229 = .ok (.getfield 50, 3) := by decide +kernel
theorem dX3_order_232 : decode cX3_order 232 = .ok (.lcmp, 1) := by decide +kernel
theorem dX3_order_233 : decode cX3_order 233 = .ok (.ifCond .ne 7, 3) := by decide +kernel
theorem dX3_order_236 : decode cX3_order 236 = .ok (.iconst 0, 1) := by decide +kernel
theorem dX3_order_237 : decode cX3_order 237 = .ok (.goto 23, 3) := by decide +kernel
theorem dX3_order_240 : decode cX3_order 240 = .ok (.lload 8, 2) := by decide +kernel
theorem dX3_order_242 : decode cX3_order 242 = .ok (.aload_n 0, 1) := by decide +kernel
theorem dX3_order_243 : decode cX3_order 243 = .ok (.getfield 50, 3) := by decide +kernel
theorem dX3_order_246 : decode cX3_order 246 = .ok (.invokestatic 78, 3) := by decide +kernel
theorem dX3_order_249 : decode cX3_order 249 = .ok (.ifCond .eq 9, 3) := by decide +kernel
theorem dX3_order_252 : decode cX3_order 252 = .ok (.iload 4, 2) := by decide +kernel
theorem dX3_order_254 : decode cX3_order 254 = .ok (.ineg, 1) := by decide +kernel
theorem dX3_order_255 : decode cX3_order 255 = .ok (.goto 5, 3) := by decide +kernel
theorem dX3_order_258 : decode cX3_order 258 = .ok (.iload 4, 2) := by decide +kernel
theorem dX3_order_260 : decode cX3_order 260 = .ok (.ireturn, 1) := by decide +kernel
set_option maxRecDepth 20000 in
theorem ggX3_compared_X3_begin : GoodIn wsX3_compared wsX3_begin := goodIn_r _ [6, 7, 1, 63, 64, 65, 66, 67, 68, 69, 70, 71, 72, 73, 74, 75] (by decide +kernel) (by decide +kernel)
set_option maxRecDepth 20000 in
theorem gX3_compared_X3_begin : GoodIn wsX3_compared (wsV RX3 111 RX3 yX3_begin wsX3_begin) := goodIn_app (goodIn_of _ (by decide +kernel)) ggX3_compared_X3_begin
set_option maxRecDepth 20000 in
theorem ggX3_compared_X3_kind : GoodIn wsX3_compared wsX3_kind := goodIn_r _ [11, 12, 13, 14, 15, 63, 64, 65, 66, 67, 68, 69, 70, 71, 72, 73, 74, 75] (by decide +kernel) (by decide +kernel)
set_option maxRecDepth 20000 in
theorem gX3_compared_X3_kind : GoodIn wsX3_compared (wsV RX3 46 RX3 yX3_kind wsX3_kind) := goodIn_app (goodIn_of _ (by decide +kernel)) ggX3_compared_X3_kind
set_option maxRecDepth 20000 in
theorem ggX3_compared_X3_masked : GoodIn wsX3_compared wsX3_masked := goodIn_r _ [19, 20, 63, 64, 65, 66, 67, 68, 69, 70, 71, 72, 73, 74, 75] (by decide +kernel) (by decide +kernel)
set_option maxRecDepth 20000 in
theorem gX3_compared_X3_masked : GoodIn wsX3_compared (wsV RX3 75 RX3 yX3_masked wsX3_masked) := goodIn_app (goodIn_of _ (by decide +kernel)) ggX3_compared_X3_masked
set_option maxRecDepth 20000 in
theorem ggX3_compared_X3_goesOn : GoodIn wsX3_compared wsX3_goesOn := goodIn_r _ [24, 14, 12, 25, 26, 8, 9, 10, 5, 11, 13, 15, 27, 28, 29, 30, 31, 32, 33, 34, 35, 36, 37, 7, 16, 17, 18, 19, 20, 38, 39, 40, 41, 42, 43, 1, 63, 64, 65, 66, 67, 68, 69, 70, 71, 72, 73, 74, 75] (by decide +kernel) (by decide +kernel)
set_option maxRecDepth 20000 in
theorem gX3_compared_X3_goesOn : GoodIn wsX3_compared (wsV RX3 114 RX3 yX3_goesOn wsX3_goesOn) := goodIn_app (goodIn_of _ (by decide +kernel)) ggX3_compared_X3_goesOn
set_option maxRecDepth 20000 in
theorem ggX3_compared_X3_order : GoodIn wsX3_compared wsX3_order := goodIn_r _ [47, 48, 49, 50, 51, 52, 5, 53, 14, 8, 9, 10, 11, 12, 13, 15, 30, 31, 32, 33, 16, 17, 18, 19, 20, 54, 55, 56, 57, 58, 59, 60, 61, 62, 27, 28, 29, 63, 64, 65, 66, 67, 68, 69, 70, 71, 72, 73, 74, 75] (by decide +kernel) (by decide +kernel)
set_option maxRecDepth 20000 in
theorem gX3_compared_X3_order : GoodIn wsX3_compared (wsV RX3 142 RX3 yX3_order wsX3_order) := goodIn_app (goodIn_of _ (by decide +kernel)) ggX3_compared_X3_order
theorem dX3_compared_0 : decode cX3_compared 0 = .ok (.aload_n 0, 1) := by decide +kernel
theorem dX3_compared_1 : decode cX3_compared 1 = .ok (.invokevirtual 111, 3) := by decide +kernel
theorem dX3_compared_4 : decode cX3_compared 4 = .ok (.aload_n 0, 1) := by decide +kernel
theorem dX3_compared_5 : decode cX3_compared 5 = .ok (.iload_n 1, 1) := by decide +kernel
theorem dX3_compared_6 : decode cX3_compared 6 = .ok (.invokevirtual 46, 3) := by decide +kernel
theorem dX3_compared_9 : decode cX3_compared 9 = .ok (.iconst 4, 1) := by decide +kernel
theorem dX3_compared_10 : decode cX3_compared 10 = .ok (.if_icmp .ne 7, 3) := by decide +kernel
theorem dX3_compared_13 : decode cX3_compared 13 = .ok (.iconst 1, 1) := by decide +kernel
theorem dX3_compared_14 : decode cX3_compared 14 = .ok (.goto 4, 3) := by decide +kernel
theorem dX3_compared_17 : decode cX3_compared 17 = .ok (.iconst 0, 1) := by decide +kernel
theorem dX3_compared_18 : decode cX3_compared 18 = .ok (.istore 4, 2) := by decide +kernel
theorem dX3_compared_20 : decode cX3_compared 20 = .ok (.iload_n 2, 1) := by decide +kernel
theorem dX3_compared_21 : decode cX3_compared 21 = .ok (.ifCond .ne 16, 3) := by decide +kernel
theorem dX3_compared_24 : decode cX3_compared 24 = .ok (.aload_n 0, 1) := by decide +kernel
theorem dX3_compared_25 : decode cX3_compared 25 = .ok (.iload_n 3, 1) := by decide +kernel
theorem dX3_compared_26 : decode cX3_compared 26 = .ok (.invokevirtual 46, 3) := by decide +kernel
theorem dX3_compared_29 : decode cX3_compared 29 = .ok (.iconst 4, 1) := by decide +kernel
theorem dX3_compared_30 : decode cX3_compared 30 = .ok (.if_icmp .ne 7, 3) := by decide +kernel
theorem dX3_compared_33 : decode cX3_compared 33 = .ok (.iconst 1, 1) := by decide +kernel
theorem dX3_compared_34 : decode cX3_compared 34 = .ok (.goto 4, 3) := by decide +kernel
theorem dX3_compared_37 : decode cX3_compared 37 = .ok (.iconst 0, 1) := by decide +kernel
theorem dX3_compared_38 : decode cX3_compared 38 = .ok (.istore 5, 2) := by decide +kernel
theorem dX3_compared_40 : decode cX3_compared 40 = .ok (.aload_n 0, 1) := by decide +kernel
theorem dX3_compared_41 : decode cX3_compared 41 = .ok (.iload_n 1, 1) := by decide +kernel
theorem dX3_compared_42 : decode cX3_compared 42 = .ok (.iload_n 2, 1) := by decide +kernel
theorem dX3_compared_43 : decode cX3_compared 43 = .ok (.ifCond .eq 7, 3) := by decide +kernel
theorem dX3_compared_46 : decode cX3_compared 46 = .ok (.iconst (-1), 1) := by decide +kernel
theorem dX3_compared_47 : decode cX3_compared 47 = .ok (.goto 4, 3) := by decide +kernel
theorem dX3_compared_50 : decode cX3_compared 50 = .ok (.iload_n 3, 1) := by decide +kernel
theorem dX3_compared_51 : decode cX3_compared 51 = .ok (.aload_n 0, 1) := by decide +kernel
theorem dX3_compared_52 : decode cX3_compared 52 = .ok (.sipush 4096, 3) := by decide +kernel
theorem dX3_compared_55 : decode cX3_compared 55 = .ok (.invokevirtual 75, 3) := by decide +kernel
theorem dX3_compared_58 : decode cX3_compared 58 = .ok (.ifCond .ne 10, 3) := by decide +kernel
theorem dX3_compared_61 : decode cX3_compared 61 = .ok (.iload 4, 2) := by decide +kernel
theorem dX3_compared_63 : decode cX3_compared 63 = .ok (.iload 5, 2) := by decide +kernel
theorem dX3_compared_65 : decode cX3_compared 65 = .ok (.if_icmp .ne 7, 3) := by decide +kernel
theorem dX3_compared_68 : decode cX3_compared 68 = .ok (.iconst 1, 1) := by decide +kernel
theorem dX3_compared_69 : decode cX3_compared 69 = .ok (.goto 4, 3) := by decide +kernel
theorem dX3_compared_72 : decode cX3_compared 72 = .ok (.iconst 0, 1) := by decide +kernel
theorem dX3_compared_73 : decode cX3_compared 73 = .ok (.invokevirtual 114, 3) := by decide +kernel
theorem dX3_compared_76 : decode cX3_compared 76 = .ok (.ifCond .ne 16, 3) := by decide +kernel
theorem dX3_compared_79 : decode cX3_compared 79 = .ok (.aload_n 0, 1) := by decide +kernel
theorem dX3_compared_80 : decode cX3_compared 80 = .ok (.getfield 68, 3) := by decide +kernel
theorem dX3_compared_83 : decode cX3_compared 83 = .ok (.ifCond .eq 7, 3) := by decide +kernel
theorem dX3_compared_86 : decode cX3_compared 86 = .ok (.iconst 2, 1) := by decide +kernel
theorem dX3_compared_87 : decode cX3_compared 87 = .ok (.goto 4, 3) := by decide +kernel
theorem dX3_compared_90 : decode cX3_compared 90 = .ok (.iconst 3, 1) := by decide +kernel
theorem dX3_compared_91 : decode cX3_compared 91 = .ok (.ireturn, 1) := by decide +kernel
theorem dX3_compared_92 : decode cX3_compared 92 = .ok (.aload_n 0, 1) := by decide +kernel
theorem dX3_compared_93 : decode cX3_compared 93 = .ok (.iconst 1, 1) := by decide +kernel
theorem dX3_compared_94 : decode cX3_compared 94 = .ok (.putfield 68, 3) := by decide +kernel
theorem dX3_compared_97 : decode cX3_compared 97 = .ok (.aload_n 0, 1) := by decide +kernel
theorem dX3_compared_98 : decode cX3_compared 98 = .ok (.iload_n 1, 1) := by decide +kernel
theorem dX3_compared_99 : decode cX3_compared 99 = .ok (.iload_n 2, 1) := by decide +kernel
theorem dX3_compared_100 : decode cX3_compared 100 = .ok (.iload_n 3, 1) := by decide +kernel
theorem dX3_compared_101 : decode cX3_compared 101 = .ok (.invokevirtual 142, 3) := by decide +kernel
theorem dX3_compared_104 : decode cX3_compared 104 = .ok (.ireturn, 1) := by decide +kernel
set_option maxRecDepth 20000 in
theorem ggX3_compare_X3_none : GoodIn wsX3_compare wsX3_none := goodIn_r _ [5] (by decide +kernel) (by decide +kernel)
set_option maxRecDepth 20000 in
theorem gX3_compare_X3_none : GoodIn wsX3_compare (va_wsS RX3 25 yX3_none wsX3_none) := goodIn_app (goodIn_of _ (by decide +kernel)) ggX3_compare_X3_none
set_option maxRecDepth 20000 in
theorem ggX3_compare_X3_compared : GoodIn wsX3_compare wsX3_compared := goodIn_r _ [9, 10, 11, 12, 13, 4, 14, 15, 16, 17, 18, 19, 20, 21, 22, 23, 24, 25, 26, 27, 28, 29, 30, 31, 32, 33, 34, 35, 36, 37, 38, 39, 40, 41, 42, 43, 44, 45, 46, 47, 48, 49, 50, 51, 52, 53, 54, 55, 56, 57, 58, 59, 60, 61, 62, 63, 64, 65, 66, 67, 68, 69, 70, 71, 72, 73, 74, 75, 76, 77, 78, 79, 80, 81, 82, 83] (by decide +kernel) (by decide +kernel)
set_option maxRecDepth 20000 in
theorem gX3_compare_X3_compared : GoodIn wsX3_compare (wsV RX3 146 RX3 yX3_compared wsX3_compared) := goodIn_app (goodIn_of _ (by decide +kernel)) ggX3_compare_X3_compared
theorem dX3_compare_0 : decode cX3_compare 0 = .ok (.aload_n 0, 1) := by decide +kernel
theorem dX3_compare_1 : decode cX3_compare 1 = .ok (.iload_n 1, 1) := by decide +kernel
theorem dX3_compare_2 : decode cX3_compare 2 = .ok (.invokestatic 25, 3) := by decide +kernel
theorem dX3_compare_5 : decode cX3_compare 5 = .ok (.ifCond .ne 10, 3) := by decide +kernel
theorem dX3_compare_8 : decode cX3_compare 8 = .ok (.iload_n 2, 1) := by decide +kernel
theorem dX3_compare_9 : decode cX3_compare 9 = .ok (.invokestatic 25, 3) := by decide +kernel
theorem dX3_compare_12 : decode cX3_compare 12 = .ok (.ifCond .eq 7, 3) := by decide +kernel
theorem dX3_compare_15 : decode cX3_compare 15 = .ok (.iconst 1, 1) := by decide +kernel
theorem dX3_compare_16 : decode cX3_compare 16 = .ok (.goto 4, 3) := by decide +kernel
theorem dX3_compare_19 : decode cX3_compare 19 = .ok (.iconst 0, 1) := by decide +kernel
theorem dX3_compare_20 : decode cX3_compare 20 = .ok (.putfield 21, 3) := by decide +kernel
theorem dX3_compare_23 : decode cX3_compare 23 = .ok (.aload_n 0, 1) := by decide +kernel
theorem dX3_compare_24 : decode cX3_compare 24 = .ok (.getfield 21, 3) := by decide +kernel
theorem dX3_compare_27 : decode cX3_compare 27 = .ok (.ifCond .le 7, 3) := by decide +kernel
theorem dX3_compare_30 : decode cX3_compare 30 = .ok (.iconst 0, 1) := by decide +kernel
theorem dX3_compare_31 : decode cX3_compare 31 = .ok (.goto 10, 3) := by decide +kernel
theorem dX3_compare_34 : decode cX3_compare 34 = .ok (.aload_n 0, 1) := by decide +kernel
theorem dX3_compare_35 : decode cX3_compare 35 = .ok (.iload_n 1, 1) := by decide +kernel
theorem dX3_compare_36 : decode cX3_compare 36 = .ok (.iconst 0, 1) := by decide +kernel
theorem dX3_compare_37 : decode cX3_compare 37 = .ok (.iload_n 2, 1) := by decide +kernel
theorem dX3_compare_38 : decode cX3_compare 38 = .ok (.invokevirtual 146, 3) := by decide +kernel
theorem dX3_compare_41 : decode cX3_compare 41 = .ok (.ireturn, 1) := by decide +kernel
set_option maxRecDepth 20000 in
theorem ggX3_test_X3_none : GoodIn wsX3_test wsX3_none := goodIn_r _ [5] (by decide +kernel) (by decide +kernel)
set_option maxRecDepth 20000 in
theorem gX3_test_X3_none : GoodIn wsX3_test (va_wsS RX3 25 yX3_none wsX3_none) := goodIn_app (goodIn_of _ (by decide +kernel)) ggX3_test_X3_none
set_option maxRecDepth 20000 in
theorem ggX3_test_X3_compared : GoodIn wsX3_test wsX3_compared := goodIn_r _ [9, 10, 11, 12, 13, 4, 14, 15, 16, 17, 18, 19, 20, 21, 22, 23, 24, 25, 26, 27, 28, 29, 30, 31, 32, 33, 34, 35, 36, 37, 38, 39, 40, 41, 42, 43, 44, 45, 46, 47, 48, 49, 50, 51, 52, 53, 54, 55, 56, 57, 58, 59, 60, 61, 62, 63, 64, 65, 66, 67, 68, 69, 70, 71, 72, 73, 74, 75, 76, 77, 78, 79, 80, 81, 82, 83] (by decide +kernel) (by decide +kernel)
set_option maxRecDepth 20000 in
theorem gX3_test_X3_compared : GoodIn wsX3_test (wsV RX3 146 RX3 yX3_compared wsX3_compared) := goodIn_app (goodIn_of _ (by decide +kernel)) ggX3_test_X3_compared
theorem dX3_test_0 : decode cX3_test 0 = .ok (.aload_n 0, 1) := by decide +kernel
theorem dX3_test_1 : decode cX3_test 1 = .ok (.iload_n 1, 1) := by decide +kernel
theorem dX3_test_2 : decode cX3_test 2 = .ok (.invokestatic 25, 3) := by decide +kernel
theorem dX3_test_5 : decode cX3_test 5 = .ok (.ifCond .eq 7, 3) := by decide +kernel
theorem dX3_test_8 : decode cX3_test 8 = .ok (.iconst 1, 1) := by decide +kernel
theorem dX3_test_9 : decode cX3_test 9 = .ok (.goto 4, 3) := by decide +kernel
theorem dX3_test_12 : decode cX3_test 12 = .ok (.iconst 0, 1) := by decide +kernel
theorem dX3_test_13 : decode cX3_test 13 = .ok (.putfield 21, 3) := by decide +kernel
theorem dX3_test_16 : decode cX3_test 16 = .ok (.aload_n 0, 1) := by decide +kernel
theorem dX3_test_17 : decode cX3_test 17 = .ok (.getfield 21, 3) := by decide +kernel
theorem dX3_test_20 : decode cX3_test 20 = .ok (.ifCond .le 7, 3) := by decide +kernel
theorem dX3_test_23 : decode cX3_test 23 = .ok (.iconst 0, 1) := by decide +kernel
theorem dX3_test_24 : decode cX3_test 24 = .ok (.goto 10, 3) := by decide +kernel
theorem dX3_test_27 : decode cX3_test 27 = .ok (.aload_n 0, 1) := by decide +kernel
theorem dX3_test_28 : decode cX3_test 28 = .ok (.iload_n 1, 1) := by decide +kernel
theorem dX3_test_29 : decode cX3_test 29 = .ok (.iconst 1, 1) := by decide +kernel
theorem dX3_test_30 : decode cX3_test 30 = .ok (.iconst (-1), 1) := by decide +kernel
theorem dX3_test_31 : decode cX3_test 31 = .ok (.invokevirtual 146, 3) := by decide +kernel
theorem dX3_test_34 : decode cX3_test 34 = .ok (.ireturn, 1) := by decide +kernel
set_option maxRecDepth 20000 in
theorem ggX3_examine_X3_none : GoodIn wsX3_examine wsX3_none := goodIn_r _ [5] (by decide +kernel) (by decide +kernel)
set_option maxRecDepth 20000 in
theorem gX3_examine_X3_none : GoodIn wsX3_examine (va_wsS RX3 25 yX3_none wsX3_none) := goodIn_app (goodIn_of _ (by decide +kernel)) ggX3_examine_X3_none
set_option maxRecDepth 20000 in
theorem ggX3_examine_X3_kind : GoodIn wsX3_examine wsX3_kind := goodIn_r _ [9, 10, 11, 12, 13, 18, 19, 20, 21, 22, 23, 24, 25, 26, 27, 28, 29, 30] (by decide +kernel) (by decide +kernel)
set_option maxRecDepth 20000 in
theorem gX3_examine_X3_kind : GoodIn wsX3_examine (wsV RX3 46 RX3 yX3_kind wsX3_kind) := goodIn_app (goodIn_of _ (by decide +kernel)) ggX3_examine_X3_kind
set_option maxRecDepth 20000 in
theorem ggX3_examine_X3_minus : GoodIn wsX3_examine wsX3_minus := goodIn_r _ [17, 10, 18, 19, 20, 21, 22, 23, 24, 25, 26, 27, 28, 29, 30] (by decide +kernel) (by decide +kernel)
set_option maxRecDepth 20000 in
theorem gX3_examine_X3_minus : GoodIn wsX3_examine (wsV RX3 82 RX3 yX3_minus wsX3_minus) := goodIn_app (goodIn_of _ (by decide +kernel)) ggX3_examine_X3_minus
theorem dX3_examine_0 : decode cX3_examine 0 = .ok (.aload_n 0, 1) := by decide +kernel
theorem dX3_examine_1 : decode cX3_examine 1 = .ok (.iload_n 1, 1) := by decide +kernel
theorem dX3_examine_2 : decode cX3_examine 2 = .ok (.invokestatic 25, 3) := by decide +kernel
theorem dX3_examine_5 : decode cX3_examine 5 = .ok (.ifCond .eq 7, 3) := by decide +kernel
theorem dX3_examine_8 : decode cX3_examine 8 = .ok (.iconst 1, 1) := by decide +kernel
theorem dX3_examine_9 : decode cX3_examine 9 = .ok (.goto 4, 3) := by decide +kernel
theorem dX3_examine_12 : decode cX3_examine 12 = .ok (.iconst 0, 1) := by decide +kernel
theorem dX3_examine_13 : decode cX3_examine 13 = .ok (.putfield 21, 3) := by decide +kernel
theorem dX3_examine_16 : decode cX3_examine 16 = .ok (.aload_n 0, 1) := by decide +kernel
theorem dX3_examine_17 : decode cX3_examine 17 = .ok (.getfield 21, 3) := by decide +kernel
theorem dX3_examine_20 : decode cX3_examine 20 = .ok (.ifCond .le 5, 3) := by decide +kernel
theorem dX3_examine_23 : decode cX3_examine 23 = .ok (.iconst 0, 1) := by decide +kernel
theorem dX3_examine_24 : decode cX3_examine 24 = .ok (.ireturn, 1) := by decide +kernel
theorem dX3_examine_25 : decode cX3_examine 25 = .ok (.aload_n 0, 1) := by decide +kernel
theorem dX3_examine_26 : decode cX3_examine 26 = .ok (.iload_n 1, 1) := by decide +kernel
theorem dX3_examine_27 : decode cX3_examine 27 = .ok (.invokevirtual 46, 3) := by decide +kernel
theorem dX3_examine_30 : decode cX3_examine 30 = .ok (.istore_n 2, 1) := by decide +kernel
theorem dX3_examine_31 : decode cX3_examine 31 = .ok (.iload_n 2, 1) := by decide +kernel
theorem dX3_examine_32 : decode cX3_examine 32 = .ok (.ifCond .ne 8, 3) := by decide +kernel
theorem dX3_examine_35 : decode cX3_examine 35 = .ok (.bipush 8, 2) := by decide +kernel
theorem dX3_examine_37 : decode cX3_examine 37 = .ok (.goto 41, 3) := by decide +kernel
theorem dX3_examine_40 : decode cX3_examine 40 = .ok (.iload_n 2, 1) := by decide +kernel
theorem dX3_examine_41 : decode cX3_examine 41 = .ok (.iconst 1, 1) := by decide +kernel
theorem dX3_examine_42 : decode cX3_examine 42 = .ok (.if_icmp .ne 8, 3) := by decide +kernel
theorem dX3_examine_45 : decode cX3_examine 45 = .ok (.bipush 12, 2) := by decide +kernel
theorem dX3_examine_47 : decode cX3_examine 47 = .ok (.goto 31, 3) := by decide +kernel
theorem dX3_examine_50 : decode cX3_examine 50 = .ok (.iload_n 2, 1) := by decide +kernel
theorem dX3_examine_51 : decode cX3_examine 51 = .ok (.iconst 2, 1) := by decide +kernel
theorem dX3_examine_52 : decode cX3_examine 52 = .ok (.if_icmp .ne 7, 3) := by decide +kernel
theorem dX3_examine_55 : decode cX3_examine 55 = .ok (.iconst 0, 1) := by decide +kernel
theorem dX3_examine_56 : decode cX3_examine 56 = .ok (.goto 22, 3) := by decide +kernel
theorem dX3_examine_59 : decode cX3_examine 59 = .ok (.iload_n 2, 1) := by decide +kernel
theorem dX3_examine_60 : decode cX3_examine 60 = .ok (.iconst 3, 1) := by decide +kernel
theorem dX3_examine_61 : decode cX3_examine 61 = .ok (.if_icmp .ne 7, 3) := by decide +kernel
theorem dX3_examine_64 : decode cX3_examine 64 = .ok (.iconst 4, 1) := by decide +kernel
theorem dX3_examine_65 : decode cX3_examine 65 = .ok (.goto 13, 3) := by decide +kernel
theorem dX3_examine_68 : decode cX3_examine 68 = .ok (.iload_n 2, 1) := by decide +kernel
theorem dX3_examine_69 : decode cX3_examine 69 = .ok (.iconst 4, 1) := by decide +kernel
theorem dX3_examine_70 : decode cX3_examine 70 = .ok (.if_icmp .ne 7, 3) := by decide +kernel
theorem dX3_examine_73 : decode cX3_examine 73 = .ok (.iconst 5, 1) := by decide +kernel
theorem dX3_examine_74 : decode cX3_examine 74 = .ok (.goto 4, 3) := by decide +kernel
theorem dX3_examine_77 : decode cX3_examine 77 = .ok (.iconst 1, 1) := by decide +kernel
theorem dX3_examine_78 : decode cX3_examine 78 = .ok (.istore_n 3, 1) := by decide +kernel
theorem dX3_examine_79 : decode cX3_examine 79 = .ok (.aload_n 0, 1) := by decide +kernel
theorem dX3_examine_80 : decode cX3_examine 80 = .ok (.iload_n 1, 1) := by decide +kernel
theorem dX3_examine_81 : decode cX3_examine 81 = .ok (.invokevirtual 82, 3) := by decide +kernel
theorem dX3_examine_84 : decode cX3_examine 84 = .ok (.ifCond .eq 9, 3) := by decide +kernel
theorem dX3_examine_87 : decode cX3_examine 87 = .ok (.iload_n 3, 1) := by decide +kernel
theorem dX3_examine_88 : decode cX3_examine 88 = .ok (.iconst 2, 1) := by decide +kernel
theorem dX3_examine_89 : decode cX3_examine 89 = .ok (.iadd, 1) := by decide +kernel
theorem dX3_examine_90 : decode cX3_examine 90 = .ok (.goto 4, 3) := by decide +kernel
theorem dX3_examine_93 : decode cX3_examine 93 = .ok (.iload_n 3, 1) := by decide +kernel
theorem dX3_examine_94 : decode cX3_examine 94 = .ok (.ireturn, 1) := by decide +kernel
theorem dX3_told_0 : decode cX3_told 0 = .ok (.aload_n 0, 1) := by decide +kernel
theorem dX3_told_1 : decode cX3_told 1 = .ok (.iload_n 1, 1) := by decide +kernel
theorem dX3_told_2 : decode cX3_told 2 = .ok (.ifCond .lt 8, 3) := by decide +kernel
theorem dX3_told_5 : decode cX3_told 5 = .ok (.iload_n 1, 1) := by decide +kernel
theorem dX3_told_6 : decode cX3_told 6 = .ok (.iconst 3, 1) := by decide +kernel
theorem dX3_told_7 : decode cX3_told 7 = .ok (.if_icmp .le 7, 3) := by decide +kernel
theorem dX3_told_10 : decode cX3_told 10 = .ok (.iconst 1, 1) := by decide +kernel
theorem dX3_told_11 : decode cX3_told 11 = .ok (.goto 4, 3) := by decide +kernel
theorem dX3_told_14 : decode cX3_told 14 = .ok (.iconst 0, 1) := by decide +kernel
theorem dX3_told_15 : decode cX3_told 15 = .ok (.putfield 21, 3) := by decide +kernel
theorem dX3_told_18 : decode cX3_told 18 = .ok (.aload_n 0, 1) := by decide +kernel
theorem dX3_told_19 : decode cX3_told 19 = .ok (.getfield 21, 3) := by decide +kernel
theorem dX3_told_22 : decode cX3_told 22 = .ok (.ifCond .le 5, 3) := by decide +kernel
theorem dX3_told_25 : decode cX3_told 25 = .ok (.iconst 0, 1) := by decide +kernel
theorem dX3_told_26 : decode cX3_told 26 = .ok (.ireturn, 1) := by decide +kernel
theorem dX3_told_27 : decode cX3_told 27 = .ok (.iload_n 1, 1) := by decide +kernel
theorem dX3_told_28 : decode cX3_told 28 = .ok (.ifCond .ne 10, 3) := by decide +kernel
theorem dX3_told_31 : decode cX3_told 31 = .ok (.aload_n 0, 1) := by decide +kernel
theorem dX3_told_32 : decode cX3_told 32 = .ok (.getfield 72, 3) := by decide +kernel
theorem dX3_told_35 : decode cX3_told 35 = .ok (.goto 47, 3) := by decide +kernel
theorem dX3_told_38 : decode cX3_told 38 = .ok (.iload_n 1, 1) := by decide +kernel
theorem dX3_told_39 : decode cX3_told 39 = .ok (.iconst 1, 1) := by decide +kernel
theorem dX3_told_40 : decode cX3_told 40 = .ok (.if_icmp .ne 18, 3) := by decide +kernel
theorem dX3_told_43 : decode cX3_told 43 = .ok (.aload_n 0, 1) := by decide +kernel
theorem dX3_told_44 : decode cX3_told 44 = .ok (.getfield 68, 3) := by decide +kernel
theorem dX3_told_47 : decode cX3_told 47 = .ok (.ifCond .eq 7, 3) := by decide +kernel
theorem dX3_told_50 : decode cX3_told 50 = .ok (.iconst 1, 1) := by decide +kernel
theorem dX3_told_51 : decode cX3_told 51 = .ok (.goto 31, 3) := by decide +kernel
theorem dX3_told_54 : decode cX3_told 54 = .ok (.iconst 0, 1) := by decide +kernel
theorem dX3_told_55 : decode cX3_told 55 = .ok (.goto 27, 3) := by decide +kernel
theorem dX3_told_58 : decode cX3_told 58 = .ok (.iload_n 1, 1) := by decide +kernel
theorem dX3_told_59 : decode cX3_told 59 = .ok (.iconst 2, 1) := by decide +kernel
theorem dX3_told_60 : decode cX3_told 60 = .ok (.if_icmp .ne 10, 3) := by decide +kernel
theorem dX3_told_63 : decode cX3_told 63 = .ok (.aload_n 0, 1) := by decide +kernel
theorem dX3_told_64 : decode cX3_told 64 = .ok (.getfield 136, 3) := by decide +kernel
theorem dX3_told_67 : decode cX3_told 67 = .ok (.goto 15, 3) := by decide +kernel
theorem dX3_told_70 : decode cX3_told 70 = .ok (.aload_n 0, 1) := by decide +kernel
theorem dX3_told_71 : decode cX3_told 71 = .ok (.getfield 139, 3) := by decide +kernel
theorem dX3_told_74 : decode cX3_told 74 = .ok (.ifCond .eq 7, 3) := by decide +kernel
theorem dX3_told_77 : decode cX3_told 77 = .ok (.iconst 1, 1) := by decide +kernel
theorem dX3_told_78 : decode cX3_told 78 = .ok (.goto 4, 3) := by decide +kernel
theorem dX3_told_81 : decode cX3_told 81 = .ok (.iconst 0, 1) := by decide +kernel
theorem dX3_told_82 : decode cX3_told 82 = .ok (.ireturn, 1) := by decide +kernel
