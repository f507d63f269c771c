set_option maxRecDepth 20000 in
theorem ggL_law_X3_remainder : GoodIn wsL_law wsX3_remainder := goodIn_r _ [401, 45, 270, 82, 83, 5, 84, 271, 272, 273, 274, 275, 281, 282, 283, 284, 26, 109, 27, 123, 352, 353, 354, 355, 276, 277, 278, 279, 44, 280, 285, 286, 287, 288, 289, 290, 291, 292, 293, 294, 295, 296, 297, 298, 299, 25, 300, 301, 302, 303, 304, 305, 402, 403, 404, 405, 406, 407, 351, 350, 314, 356, 357, 358, 359, 306, 307, 308, 309, 310, 311, 312, 313, 269, 315, 316, 317, 318, 319, 320, 321, 322, 323, 324, 325, 326, 327, 328, 479, 480, 481, 482, 483, 484, 485, 486, 487, 488, 489, 490, 491] (by decide +kernel) (by decide +kernel)
set_option maxRecDepth 20000 in
theorem gL_law_X3_remainder : GoodIn wsL_law (wsV RL 101 RX3 yX3_remainder wsX3_remainder) := goodIn_app (goodIn_of _ (by decide +kernel)) ggL_law_X3_remainder
set_option maxRecDepth 20000 in
theorem ggL_law_L_compare : GoodIn wsL_law wsL_compare := goodIn_ca (goodIn_r _ [410, 53, 411, 412, 413, 2, 414, 62, 63, 64, 65, 66, 136, 137, 138, 139, 58, 59, 60, 14, 15, 67, 68, 69, 11, 12, 70, 71, 415, 416, 417, 418, 16, 175, 18, 146, 147, 148, 149, 150, 151, 152, 153, 154, 155, 156, 157, 158, 159, 160, 161, 162, 140, 141, 142, 143, 17, 144, 145, 163, 164, 165, 166, 167, 168, 169, 170, 419, 420, 421, 422, 200, 201, 202, 423, 176, 177, 178, 179, 424, 425, 426, 180, 181, 182, 183, 184, 185, 186, 187, 188, 189, 190, 191, 192, 193, 194, 195, 196, 197, 198, 199, 255, 256, 257, 239, 240, 241, 242, 243, 244, 245, 492, 493, 472, 473, 474, 475, 476, 477, 478] (by decide +kernel) (by decide +kernel)) (goodIn_sub (fun _ h => List.mem_append_right _ h) (by decide +kernel))
set_option maxRecDepth 20000 in
theorem gL_law_L_compare : GoodIn wsL_law (va_wsS RL 102 yL_compare wsL_compare) := goodIn_app (goodIn_of _ (by decide +kernel)) ggL_law_L_compare
set_option maxRecDepth 20000 in
theorem ggL_law_X3_compare : GoodIn wsL_law wsX3_compare := goodIn_r _ [430, 45, 82, 83, 5, 84, 431, 432, 433, 434, 275, 271, 272, 273, 274, 270, 281, 282, 283, 284, 26, 109, 27, 123, 296, 297, 298, 299, 25, 276, 277, 278, 279, 44, 280, 285, 286, 287, 288, 289, 290, 291, 292, 293, 294, 295, 300, 301, 302, 303, 304, 305, 435, 436, 437, 438, 351, 350, 352, 353, 354, 355, 356, 357, 358, 359, 314, 306, 307, 308, 309, 479, 480, 481, 482, 483, 484, 485, 486, 487, 488, 489, 490, 491] (by decide +kernel) (by decide +kernel)
set_option maxRecDepth 20000 in
theorem gL_law_X3_compare : GoodIn wsL_law (wsV RL 104 RX3 yX3_compare wsX3_compare) := goodIn_app (goodIn_of _ (by decide +kernel)) ggL_law_X3_compare
set_option maxRecDepth 20000 in
theorem ggL_law_L_test : GoodIn wsL_law wsL_test := goodIn_ca (goodIn_r _ [441, 53, 442, 443, 444, 2, 445, 62, 63, 64, 65, 66, 136, 137, 138, 139, 58, 59, 60, 14, 15, 67, 68, 69, 11, 12, 70, 71, 207, 208, 209, 210, 211, 212, 104, 415, 416, 417, 418, 16, 175, 18, 146, 147, 148, 149, 150, 151, 152, 153, 154, 155, 156, 157, 158, 159, 160, 161, 162, 140, 141, 142, 143, 17, 144, 145, 163, 164, 165, 166, 167, 168, 169, 170, 419, 420, 421, 422, 200, 201, 202, 423, 176, 177, 178, 179, 424, 425, 426, 180, 181, 182, 183, 184, 185, 186, 187, 188, 189, 190, 191, 192, 193, 194, 195, 196, 197, 198, 199, 255, 256, 257, 239, 240, 241, 242, 243, 244, 245, 492, 493, 472, 473, 474, 475, 476, 477, 478] (by decide +kernel) (by decide +kernel)) (goodIn_sub (fun _ h => List.mem_append_right _ h) (by decide +kernel))
set_option maxRecDepth 20000 in
theorem gL_law_L_test : GoodIn wsL_law (va_wsS RL 105 yL_test wsL_test) := goodIn_app (goodIn_of _ (by decide +kernel)) ggL_law_L_test
set_option maxRecDepth 20000 in
theorem ggL_law_X3_test : GoodIn wsL_law wsX3_test := goodIn_r _ [449, 45, 82, 83, 5, 84, 431, 432, 433, 434, 275, 271, 272, 273, 274, 270, 281, 282, 283, 284, 26, 109, 27, 123, 296, 297, 298, 299, 25, 276, 277, 278, 279, 44, 280, 285, 286, 287, 288, 289, 290, 291, 292, 293, 294, 295, 300, 301, 302, 303, 304, 305, 435, 436, 437, 438, 351, 350, 352, 353, 354, 355, 356, 357, 358, 359, 314, 306, 307, 308, 309, 479, 480, 481, 482, 483, 484, 485, 486, 487, 488, 489, 490, 491] (by decide +kernel) (by decide +kernel)
set_option maxRecDepth 20000 in
theorem gL_law_X3_test : GoodIn wsL_law (wsV RL 108 RX3 yX3_test wsX3_test) := goodIn_app (goodIn_of _ (by decide +kernel)) ggL_law_X3_test
set_option maxRecDepth 20000 in
theorem ggL_law_L_examine : GoodIn wsL_law wsL_examine := goodIn_ca (goodIn_r _ [452, 53, 453, 454, 455, 2, 456, 62, 63, 64, 65, 66, 136, 137, 138, 139, 58, 59, 60, 14, 15, 67, 68, 69, 11, 12, 70, 71, 150, 151, 152, 153, 154, 155, 156, 157, 158, 159, 160, 161, 162, 176, 177, 178, 179, 492, 493, 472, 473, 474, 475, 476, 477, 478] (by decide +kernel) (by decide +kernel)) (goodIn_sub (fun _ h => List.mem_append_right _ h) (by decide +kernel))
set_option maxRecDepth 20000 in
theorem gL_law_L_examine : GoodIn wsL_law (va_wsS RL 109 yL_examine wsL_examine) := goodIn_app (goodIn_of _ (by decide +kernel)) ggL_law_L_examine
set_option maxRecDepth 20000 in
theorem ggL_law_X3_examine : GoodIn wsL_law wsX3_examine := goodIn_r _ [460, 45, 82, 83, 5, 84, 281, 282, 283, 284, 26, 109, 27, 123, 288, 289, 290, 291, 479, 480, 481, 482, 483, 484, 485, 486, 487, 488, 489, 490, 491] (by decide +kernel) (by decide +kernel)
set_option maxRecDepth 20000 in
theorem gL_law_X3_examine : GoodIn wsL_law (wsV RL 111 RX3 yX3_examine wsX3_examine) := goodIn_app (goodIn_of _ (by decide +kernel)) ggL_law_X3_examine
set_option maxRecDepth 20000 in
theorem ggL_law_L_told : GoodIn wsL_law wsL_told := goodIn_ca (goodIn_r _ [463, 32, 464, 465, 466, 2, 467, 37, 38, 17, 18, 19, 20, 472, 473, 474, 475, 476, 477, 478] (by decide +kernel) (by decide +kernel)) (goodIn_sub (fun _ h => List.mem_append_left _ (List.mem_append_right _ h)) (by decide +kernel))
set_option maxRecDepth 20000 in
theorem gL_law_L_told : GoodIn wsL_law (va_wsS RL 112 yL_told wsL_told) := goodIn_app (goodIn_of _ (by decide +kernel)) ggL_law_L_told
set_option maxRecDepth 20000 in
theorem ggL_law_X3_told : GoodIn wsL_law wsX3_told := goodIn_r _ [471, 45, 270, 275, 406, 407, 479, 480, 481, 482, 483, 484, 485, 486, 487, 488, 489, 490, 491] (by decide +kernel) (by decide +kernel)
set_option maxRecDepth 20000 in
theorem gL_law_X3_told : GoodIn wsL_law (wsV RL 114 RX3 yX3_told wsX3_told) := goodIn_app (goodIn_of _ (by decide +kernel)) ggL_law_X3_told
