set_option maxRecDepth 20000 in
theorem ggL_law_X3_remainder : GoodIn wsL_law wsX3_remainder := goodIn_r _ [397, 45, 266, 82, 83, 5, 84, 267, 268, 269, 270, 271, 277, 278, 279, 280, 26, 109, 27, 123, 348, 349, 350, 351, 272, 273, 274, 275, 44, 276, 281, 282, 283, 284, 285, 286, 287, 288, 289, 290, 291, 292, 293, 294, 295, 25, 296, 297, 298, 299, 300, 301, 398, 399, 400, 401, 402, 403, 347, 346, 310, 352, 353, 354, 355, 302, 303, 304, 305, 306, 307, 308, 309, 265, 311, 312, 313, 314, 315, 316, 317, 318, 319, 320, 321, 322, 323, 324, 475, 476, 477, 478, 479, 480, 481, 482, 483, 484, 485, 486, 487] (by decide +kernel) (by decide +kernel)
set_option maxRecDepth 20000 in
theorem gL_law_X3_remainder : GoodIn wsL_law (wsV RL 101 RX3 yX3_remainder wsX3_remainder) := goodIn_app (goodIn_of _ (by decide +kernel)) ggL_law_X3_remainder
set_option maxRecDepth 20000 in
theorem ggL_law_L_compare : GoodIn wsL_law wsL_compare := goodIn_ca (goodIn_r _ [406, 53, 407, 408, 409, 2, 410, 62, 63, 64, 65, 66, 136, 137, 138, 139, 58, 59, 60, 14, 15, 67, 68, 69, 11, 12, 70, 71, 411, 412, 413, 414, 16, 175, 18, 146, 147, 148, 149, 150, 151, 152, 153, 154, 155, 156, 157, 158, 159, 160, 161, 162, 140, 141, 142, 143, 17, 144, 145, 163, 164, 165, 166, 167, 168, 169, 170, 415, 416, 417, 418, 200, 201, 202, 419, 176, 177, 178, 179, 420, 421, 422, 180, 181, 182, 183, 184, 185, 186, 187, 188, 189, 190, 191, 192, 193, 194, 195, 196, 197, 198, 199, 251, 252, 253, 235, 236, 237, 238, 239, 240, 241, 488, 489, 468, 469, 470, 471, 472, 473, 474] (by decide +kernel) (by decide +kernel)) (goodIn_sub (fun _ h => List.mem_append_right _ h) (by decide +kernel))
set_option maxRecDepth 20000 in
theorem gL_law_L_compare : GoodIn wsL_law (va_wsS RL 102 yL_compare wsL_compare) := goodIn_app (goodIn_of _ (by decide +kernel)) ggL_law_L_compare
set_option maxRecDepth 20000 in
theorem ggL_law_X3_compare : GoodIn wsL_law wsX3_compare := goodIn_r _ [426, 45, 82, 83, 5, 84, 427, 428, 429, 430, 271, 267, 268, 269, 270, 266, 277, 278, 279, 280, 26, 109, 27, 123, 292, 293, 294, 295, 25, 272, 273, 274, 275, 44, 276, 281, 282, 283, 284, 285, 286, 287, 288, 289, 290, 291, 296, 297, 298, 299, 300, 301, 431, 432, 433, 434, 347, 346, 348, 349, 350, 351, 352, 353, 354, 355, 310, 302, 303, 304, 305, 475, 476, 477, 478, 479, 480, 481, 482, 483, 484, 485, 486, 487] (by decide +kernel) (by decide +kernel)
set_option maxRecDepth 20000 in
theorem gL_law_X3_compare : GoodIn wsL_law (wsV RL 104 RX3 yX3_compare wsX3_compare) := goodIn_app (goodIn_of _ (by decide +kernel)) ggL_law_X3_compare
set_option maxRecDepth 20000 in
theorem ggL_law_L_test : GoodIn wsL_law wsL_test := goodIn_ca (goodIn_r _ [437, 53, 438, 439, 440, 2, 441, 62, 63, 64, 65, 66, 136, 137, 138, 139, 58, 59, 60, 14, 15, 67, 68, 69, 11, 12, 70, 71, 207, 208, 209, 210, 211, 212, 104, 411, 412, 413, 414, 16, 175, 18, 146, 147, 148, 149, 150, 151, 152, 153, 154, 155, 156, 157, 158, 159, 160, 161, 162, 140, 141, 142, 143, 17, 144, 145, 163, 164, 165, 166, 167, 168, 169, 170, 415, 416, 417, 418, 200, 201, 202, 419, 176, 177, 178, 179, 420, 421, 422, 180, 181, 182, 183, 184, 185, 186, 187, 188, 189, 190, 191, 192, 193, 194, 195, 196, 197, 198, 199, 251, 252, 253, 235, 236, 237, 238, 239, 240, 241, 488, 489, 468, 469, 470, 471, 472, 473, 474] (by decide +kernel) (by decide +kernel)) (goodIn_sub (fun _ h => List.mem_append_right _ h) (by decide +kernel))
set_option maxRecDepth 20000 in
theorem gL_law_L_test : GoodIn wsL_law (va_wsS RL 105 yL_test wsL_test) := goodIn_app (goodIn_of _ (by decide +kernel)) ggL_law_L_test
set_option maxRecDepth 20000 in
theorem ggL_law_X3_test : GoodIn wsL_law wsX3_test := goodIn_r _ [445, 45, 82, 83, 5, 84, 427, 428, 429, 430, 271, 267, 268, 269, 270, 266, 277, 278, 279, 280, 26, 109, 27, 123, 292, 293, 294, 295, 25, 272, 273, 274, 275, 44, 276, 281, 282, 283, 284, 285, 286, 287, 288, 289, 290, 291, 296, 297, 298, 299, 300, 301, 431, 432, 433, 434, 347, 346, 348, 349, 350, 351, 352, 353, 354, 355, 310, 302, 303, 304, 305, 475, 476, 477, 478, 479, 480, 481, 482, 483, 484, 485, 486, 487] (by decide +kernel) (by decide +kernel)
set_option maxRecDepth 20000 in
theorem gL_law_X3_test : GoodIn wsL_law (wsV RL 108 RX3 yX3_test wsX3_test) := goodIn_app (goodIn_of _ (by decide +kernel)) ggL_law_X3_test
set_option maxRecDepth 20000 in
theorem ggL_law_L_examine : GoodIn wsL_law wsL_examine := goodIn_ca (goodIn_r _ [448, 53, 449, 450, 451, 2, 452, 62, 63, 64, 65, 66, 136, 137, 138, 139, 58, 59, 60, 14, 15, 67, 68, 69, 11, 12, 70, 71, 150, 151, 152, 153, 154, 155, 156, 157, 158, 159, 160, 161, 162, 176, 177, 178, 179, 488, 489, 468, 469, 470, 471, 472, 473, 474] (by decide +kernel) (by decide +kernel)) (goodIn_sub (fun _ h => List.mem_append_right _ h) (by decide +kernel))
set_option maxRecDepth 20000 in
theorem gL_law_L_examine : GoodIn wsL_law (va_wsS RL 109 yL_examine wsL_examine) := goodIn_app (goodIn_of _ (by decide +kernel)) ggL_law_L_examine
set_option maxRecDepth 20000 in
theorem ggL_law_X3_examine : GoodIn wsL_law wsX3_examine := goodIn_r _ [456, 45, 82, 83, 5, 84, 277, 278, 279, 280, 26, 109, 27, 123, 284, 285, 286, 287, 475, 476, 477, 478, 479, 480, 481, 482, 483, 484, 485, 486, 487] (by decide +kernel) (by decide +kernel)
set_option maxRecDepth 20000 in
theorem gL_law_X3_examine : GoodIn wsL_law (wsV RL 111 RX3 yX3_examine wsX3_examine) := goodIn_app (goodIn_of _ (by decide +kernel)) ggL_law_X3_examine
set_option maxRecDepth 20000 in
theorem ggL_law_L_told : GoodIn wsL_law wsL_told := goodIn_ca (goodIn_r _ [459, 32, 460, 461, 462, 2, 463, 37, 38, 17, 18, 19, 20, 468, 469, 470, 471, 472, 473, 474] (by decide +kernel) (by decide +kernel)) (goodIn_sub (fun _ h => List.mem_append_left _ (List.mem_append_right _ h)) (by decide +kernel))
set_option maxRecDepth 20000 in
theorem gL_law_L_told : GoodIn wsL_law (va_wsS RL 112 yL_told wsL_told) := goodIn_app (goodIn_of _ (by decide +kernel)) ggL_law_L_told
set_option maxRecDepth 20000 in
theorem ggL_law_X3_told : GoodIn wsL_law wsX3_told := goodIn_r _ [467, 45, 266, 271, 402, 403, 475, 476, 477, 478, 479, 480, 481, 482, 483, 484, 485, 486, 487] (by decide +kernel) (by decide +kernel)
set_option maxRecDepth 20000 in
theorem gL_law_X3_told : GoodIn wsL_law (wsV RL 114 RX3 yX3_told wsX3_told) := goodIn_app (goodIn_of _ (by decide +kernel)) ggL_law_X3_told
