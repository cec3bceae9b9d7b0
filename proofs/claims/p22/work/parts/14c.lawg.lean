set_option maxRecDepth 20000 in
theorem ggL_law_L_waterway : GoodIn wsL_law wsL_waterway := goodIn_ca (goodIn_ca (goodIn_ca (goodIn_r _ [4, 5, 6, 7, 8, 9, 10, 11, 12, 13, 14, 15, 16, 17, 18, 19, 20, 21, 22, 23, 24, 25, 26, 27, 28, 29, 30, 31, 32, 33, 34, 35, 36, 37, 38, 39, 40, 41, 42, 43, 44, 45, 46, 47, 48, 49, 50, 51, 52, 53, 54, 55, 56, 57, 58, 59, 60, 61, 62, 3, 63, 64, 65, 66, 67, 68, 69, 70, 71, 72, 73, 74, 75, 76, 77, 78, 79, 80, 81, 82, 83, 84, 85, 86, 87, 88, 89, 90, 91, 92, 93, 94, 95, 96, 97, 98, 99, 100, 101, 102, 103, 337, 338, 339, 340, 341, 342, 343, 344, 345, 346, 347, 348, 349, 350, 351, 352, 353, 354, 355, 356, 357, 358, 359, 360, 361, 362] (by decide +kernel) (by decide +kernel)) (goodIn_sub (fun _ h => List.mem_append_left _ (List.mem_append_left _ (List.mem_append_right _ h))) (by decide +kernel))) (goodIn_sub (fun _ h => List.mem_append_left _ (List.mem_append_right _ h)) (by decide +kernel))) (goodIn_sub (fun _ h => List.mem_append_right _ h) (by decide +kernel))
set_option maxRecDepth 20000 in
theorem gL_law_L_waterway : GoodIn wsL_law (va_wsS RL 30 yL_waterway wsL_waterway) := goodIn_app (goodIn_of _ (by decide +kernel)) ggL_law_L_waterway
set_option maxRecDepth 20000 in
theorem ggL_law_L_cell : GoodIn wsL_law wsL_cell := goodIn_r _ [63, 64] (by decide +kernel) (by decide +kernel)
set_option maxRecDepth 20000 in
theorem gL_law_L_cell : GoodIn wsL_law (va_wsS RL 12 yL_cell wsL_cell) := goodIn_app (goodIn_of _ (by decide +kernel)) ggL_law_L_cell
set_option maxRecDepth 20000 in
theorem ggL_law_L_below : GoodIn wsL_law wsL_below := goodIn_r _ [67, 68] (by decide +kernel) (by decide +kernel)
set_option maxRecDepth 20000 in
theorem gL_law_L_below : GoodIn wsL_law (va_wsS RL 18 yL_below wsL_below) := goodIn_app (goodIn_of _ (by decide +kernel)) ggL_law_L_below
set_option maxRecDepth 20000 in
theorem ggL_law_X4_digest : GoodIn wsL_law wsX4_digest := goodIn_r _ [107, 108, 109, 17, 110, 111, 112, 16, 113, 114, 22, 23, 27, 31, 35, 115, 116, 117, 118, 26, 119, 86, 120, 121, 122, 123, 42, 41, 124, 125, 126, 127, 44, 45, 128, 129, 130, 131, 46, 47, 132, 133, 134, 30, 135, 99, 136, 137, 138, 139, 54, 55, 140, 141, 142, 34, 143, 60, 144, 145, 146, 147, 40, 43, 148, 149, 150, 151, 152, 153, 154, 155, 52, 53, 56, 156, 7, 157, 158, 159, 160, 161, 162, 163, 164, 165, 166, 167, 168, 169, 170, 171, 172, 173, 174, 337, 338, 339, 340, 341, 342, 343, 344, 345, 346, 347, 348, 349, 350, 351, 352, 353, 354, 355, 356, 357, 358, 359, 360, 361, 362] (by decide +kernel) (by decide +kernel)
set_option maxRecDepth 20000 in
theorem gL_law_X4_digest : GoodIn wsL_law (wsV RL 34 RX4 yX4_digest wsX4_digest) := goodIn_app (goodIn_of _ (by decide +kernel)) ggL_law_X4_digest
set_option maxRecDepth 20000 in
theorem ggL_law_X4_foresee : GoodIn wsL_law wsX4_foresee := goodIn_ca (goodIn_ca (goodIn_r _ [178, 80, 81, 18, 17, 179, 180, 7, 181, 73, 74, 182, 183, 184, 16, 185, 114, 22, 23, 115, 27, 31, 35, 186, 187, 188, 26, 189, 86, 40, 41, 42, 43, 44, 45, 46, 47, 190, 191, 192, 30, 193, 99, 52, 53, 54, 55, 56, 194, 195, 196, 34, 197, 60, 198, 199, 200, 201, 202, 203, 204, 205, 206, 207, 208, 209, 210, 211, 169, 212, 213, 168, 170, 214, 215, 216, 217, 218, 219, 220, 221, 222, 223, 224, 225, 226, 227, 228, 229, 48, 230, 231, 232, 233, 234, 235, 236, 237, 238, 239, 240, 241, 110, 111, 112, 113, 116, 117, 118, 119, 120, 121, 122, 123, 124, 125, 126, 127, 128, 129, 130, 131, 132, 133, 134, 135, 136, 137, 138, 139, 140, 141, 142, 143, 337, 338, 339, 340, 341, 342, 343, 344, 345, 346, 347, 348, 349, 350, 351, 352, 353, 354, 355, 356, 357, 358, 359, 360, 361, 362] (by decide +kernel) (by decide +kernel)) (goodIn_sub (fun _ h => List.mem_append_right _ h) (by decide +kernel))) (goodIn_sub (fun _ h => List.mem_append_left _ (List.mem_append_left _ (List.mem_append_right _ h))) (by decide +kernel))
set_option maxRecDepth 20000 in
theorem gL_law_X4_foresee : GoodIn wsL_law (wsV RL 38 RX4 yX4_foresee wsX4_foresee) := goodIn_app (goodIn_of _ (by decide +kernel)) ggL_law_X4_foresee
set_option maxRecDepth 20000 in
theorem ggL_law_X4_best : GoodIn wsL_law wsX4_best := goodIn_ca (goodIn_r _ [245, 18, 17, 246, 247, 248, 7, 249, 80, 81, 250, 187, 188, 26, 189, 86, 40, 41, 42, 43, 44, 45, 46, 47, 251, 149, 150, 151, 120, 121, 122, 123, 252, 227, 228, 229, 48, 230, 211, 169, 212, 231, 168, 170, 232, 233, 234, 235, 236, 237, 238, 239, 240, 241, 337, 338, 339, 340, 341, 342, 343, 344, 345, 346, 347, 348, 349, 350, 351, 352, 353, 354, 355] (by decide +kernel) (by decide +kernel)) (goodIn_sub (fun _ h => List.mem_append_right _ h) (by decide +kernel))
set_option maxRecDepth 20000 in
theorem gL_law_X4_best : GoodIn wsL_law (wsV RL 41 RX4 yX4_best wsX4_best) := goodIn_app (goodIn_of _ (by decide +kernel)) ggL_law_X4_best
set_option maxRecDepth 20000 in
theorem ggL_law_X4_advise : GoodIn wsL_law wsX4_advise := goodIn_ca (goodIn_r _ [256, 257, 258, 259, 7, 260, 80, 81, 17, 261, 262, 263, 264, 18, 158, 265, 266, 267, 182, 183, 184, 16, 185, 114, 22, 23, 115, 27, 31, 35, 186, 187, 188, 26, 189, 86, 40, 41, 42, 43, 44, 45, 46, 47, 190, 191, 192, 30, 193, 99, 52, 53, 54, 55, 56, 194, 195, 196, 34, 197, 60, 268, 269, 270, 271, 272, 240, 169, 241, 198, 199, 200, 201, 202, 203, 204, 205, 206, 207, 208, 209, 210, 211, 212, 213, 168, 170, 214, 215, 216, 217, 218, 219, 220, 221, 222, 223, 224, 225, 226, 227, 228, 229, 48, 230, 231, 232, 233, 234, 235, 236, 237, 238, 239, 273, 274, 275, 276, 277, 137, 138, 139, 278, 164, 165, 166, 167, 279, 172, 173, 174, 163, 337, 338, 339, 340, 341, 342, 343, 344, 345, 356, 357, 358, 359, 360, 361, 346, 347, 348, 349, 350, 351, 352, 353, 354, 355, 362] (by decide +kernel) (by decide +kernel)) (goodIn_sub (fun _ h => List.mem_append_right _ h) (by decide +kernel))
set_option maxRecDepth 20000 in
theorem gL_law_X4_advise : GoodIn wsL_law (wsV RL 44 RX4 yX4_advise wsX4_advise) := goodIn_app (goodIn_of _ (by decide +kernel)) ggL_law_X4_advise
set_option maxRecDepth 20000 in
theorem ggL_law_X4_about : GoodIn wsL_law wsX4_about := goodIn_ca (goodIn_r _ [283, 17, 246, 247, 248, 7, 249, 80, 81, 284, 285, 286, 144, 145, 146, 26, 147, 40, 41, 42, 43, 44, 45, 46, 47, 120, 121, 122, 123, 148, 149, 150, 151, 337, 338, 339, 340, 341, 342, 343, 344, 345, 346, 347, 348, 349, 350, 351, 352, 353, 354, 355] (by decide +kernel) (by decide +kernel)) (goodIn_sub (fun _ h => List.mem_append_right _ h) (by decide +kernel))
set_option maxRecDepth 20000 in
theorem gL_law_X4_about : GoodIn wsL_law (wsV RL 47 RX4 yX4_about wsX4_about) := goodIn_app (goodIn_of _ (by decide +kernel)) ggL_law_X4_about
set_option maxRecDepth 20000 in
theorem ggL_law_X4_cut : GoodIn wsL_law wsX4_cut := goodIn_ca (goodIn_ca (goodIn_r _ [290, 75, 76, 17, 246, 247, 248, 7, 249, 80, 81, 291, 292, 293, 26, 294, 44, 45, 42, 120, 121, 122, 123, 41, 148, 149, 150, 151, 43, 337, 338, 339, 340, 341, 342, 343, 344, 345, 346, 347, 348, 349, 350, 351, 352, 353, 354, 355] (by decide +kernel) (by decide +kernel)) (goodIn_sub (fun _ h => List.mem_append_left _ (List.mem_append_right _ h)) (by decide +kernel))) (goodIn_sub (fun _ h => List.mem_append_right _ h) (by decide +kernel))
set_option maxRecDepth 20000 in
theorem gL_law_X4_cut : GoodIn wsL_law (wsV RL 50 RX4 yX4_cut wsX4_cut) := goodIn_app (goodIn_of _ (by decide +kernel)) ggL_law_X4_cut
set_option maxRecDepth 20000 in
theorem ggL_law_X4_tie : GoodIn wsL_law wsX4_tie := goodIn_ca (goodIn_r _ [298, 17, 246, 247, 248, 7, 249, 80, 81, 299, 300, 301, 26, 302, 44, 230, 211, 169, 212, 45, 46, 47, 337, 338, 339, 340, 341, 342, 343, 344, 345, 346, 347, 348, 349, 350, 351, 352, 353, 354, 355] (by decide +kernel) (by decide +kernel)) (goodIn_sub (fun _ h => List.mem_append_right _ h) (by decide +kernel))
set_option maxRecDepth 20000 in
theorem gL_law_X4_tie : GoodIn wsL_law (wsV RL 53 RX4 yX4_tie wsX4_tie) := goodIn_app (goodIn_of _ (by decide +kernel)) ggL_law_X4_tie
set_option maxRecDepth 20000 in
theorem ggL_law_X4_sail : GoodIn wsL_law wsX4_sail := goodIn_ca (goodIn_r _ [306, 17, 257, 258, 259, 7, 260, 80, 81, 77, 78, 79, 268, 269, 270, 30, 271, 52, 272, 240, 169, 241, 53, 337, 338, 339, 340, 341, 342, 343, 344, 345, 356, 357, 358, 359, 360, 361] (by decide +kernel) (by decide +kernel)) (goodIn_sub (fun _ h => List.mem_append_right _ h) (by decide +kernel))
set_option maxRecDepth 20000 in
theorem gL_law_X4_sail : GoodIn wsL_law (wsV RL 56 RX4 yX4_sail wsX4_sail) := goodIn_app (goodIn_of _ (by decide +kernel)) ggL_law_X4_sail
set_option maxRecDepth 20000 in
theorem ggL_law_X4_pass : GoodIn wsL_law wsX4_pass := goodIn_ca (goodIn_r _ [310, 17, 179, 180, 7, 181, 73, 74, 198, 199, 200, 16, 201, 115, 202, 203, 204, 205, 31, 27, 35, 114, 206, 207, 208, 30, 209, 99, 53, 52, 210, 211, 169, 212, 213, 168, 170, 214, 215, 216, 26, 217, 86, 44, 45, 218, 219, 220, 221, 222, 34, 223, 60, 224, 225, 226, 227, 228, 229, 48, 42, 43, 230, 231, 232, 233, 234, 235, 236, 237, 238, 40, 239, 240, 241, 337, 338, 339, 340, 341, 342, 343, 344, 345, 356, 357, 358, 359, 360, 361, 346, 347, 348, 349, 350, 351, 352, 353, 354, 355, 362] (by decide +kernel) (by decide +kernel)) (goodIn_sub (fun _ h => List.mem_append_left _ (List.mem_append_left _ (List.mem_append_right _ h))) (by decide +kernel))
set_option maxRecDepth 20000 in
theorem gL_law_X4_pass : GoodIn wsL_law (wsV RL 59 RX4 yX4_pass wsX4_pass) := goodIn_app (goodIn_of _ (by decide +kernel)) ggL_law_X4_pass
set_option maxRecDepth 20000 in
theorem ggL_law_X4_told : GoodIn wsL_law wsX4_told := goodIn_ca (goodIn_r _ [314, 17, 257, 258, 259, 7, 260, 80, 81, 284, 285, 286, 152, 153, 154, 30, 155, 52, 53, 54, 55, 56, 156, 157, 158, 337, 338, 339, 340, 341, 342, 343, 344, 345, 356, 357, 358, 359, 360, 361] (by decide +kernel) (by decide +kernel)) (goodIn_sub (fun _ h => List.mem_append_right _ h) (by decide +kernel))
set_option maxRecDepth 20000 in
theorem gL_law_X4_told : GoodIn wsL_law (wsV RL 62 RX4 yX4_told wsX4_told) := goodIn_app (goodIn_of _ (by decide +kernel)) ggL_law_X4_told
set_option maxRecDepth 20000 in
theorem ggL_law_X4_load : GoodIn wsL_law wsX4_load := goodIn_ca (goodIn_ca (goodIn_r _ [318, 75, 76, 17, 257, 258, 259, 7, 260, 80, 81, 246, 247, 248, 249, 319, 320, 321, 16, 322, 31, 27, 323, 211, 169, 212, 277, 137, 138, 30, 139, 54, 55, 337, 338, 339, 340, 341, 342, 343, 344, 345, 356, 357, 358, 359, 360, 361, 346, 347, 348, 349, 350, 351, 352, 353, 354, 355] (by decide +kernel) (by decide +kernel)) (goodIn_sub (fun _ h => List.mem_append_left _ (List.mem_append_right _ h)) (by decide +kernel))) (goodIn_sub (fun _ h => List.mem_append_right _ h) (by decide +kernel))
set_option maxRecDepth 20000 in
theorem gL_law_X4_load : GoodIn wsL_law (wsV RL 65 RX4 yX4_load wsX4_load) := goodIn_app (goodIn_of _ (by decide +kernel)) ggL_law_X4_load
set_option maxRecDepth 20000 in
theorem ggL_law_X4_sell : GoodIn wsL_law wsX4_sell := goodIn_ca (goodIn_ca (goodIn_r _ [327, 75, 76, 17, 257, 258, 259, 7, 260, 80, 81, 328, 156, 157, 158, 273, 274, 275, 16, 276, 31, 35, 22, 277, 137, 138, 30, 139, 54, 55, 278, 164, 165, 34, 166, 60, 167, 168, 169, 170, 279, 172, 173, 174, 163, 337, 338, 339, 340, 341, 342, 343, 344, 345, 356, 357, 358, 359, 360, 361, 362] (by decide +kernel) (by decide +kernel)) (goodIn_sub (fun _ h => List.mem_append_left _ (List.mem_append_right _ h)) (by decide +kernel))) (goodIn_sub (fun _ h => List.mem_append_right _ h) (by decide +kernel))
set_option maxRecDepth 20000 in
theorem gL_law_X4_sell : GoodIn wsL_law (wsV RL 68 RX4 yX4_sell wsX4_sell) := goodIn_app (goodIn_of _ (by decide +kernel)) ggL_law_X4_sell
set_option maxRecDepth 20000 in
theorem ggL_law_X4_count : GoodIn wsL_law wsX4_count := goodIn_ca (goodIn_r _ [332, 17, 284, 285, 7, 286, 80, 81, 110, 111, 112, 16, 113, 114, 22, 23, 27, 31, 35, 115, 116, 117, 118, 26, 119, 86, 120, 121, 122, 123, 42, 41, 124, 125, 126, 127, 44, 45, 128, 129, 130, 131, 46, 47, 132, 133, 134, 30, 135, 99, 136, 137, 138, 139, 54, 55, 140, 141, 142, 34, 143, 60, 337, 338, 339, 340, 341, 342, 343, 344, 345, 346, 347, 348, 349, 350, 351, 352, 353, 354, 355, 356, 357, 358, 359, 360, 361, 362] (by decide +kernel) (by decide +kernel)) (goodIn_sub (fun _ h => List.mem_append_right _ h) (by decide +kernel))
set_option maxRecDepth 20000 in
theorem gL_law_X4_count : GoodIn wsL_law (wsV RL 71 RX4 yX4_count wsX4_count) := goodIn_app (goodIn_of _ (by decide +kernel)) ggL_law_X4_count
set_option maxRecDepth 20000 in
theorem ggL_law_X4_landing : GoodIn wsL_law wsX4_landing := goodIn_ca (goodIn_r _ [336, 17, 265, 266, 7, 267, 80, 81, 284, 285, 286, 159, 160, 161, 34, 162, 60, 163, 164, 165, 166, 167, 168, 169, 170, 171, 172, 173, 174, 337, 338, 339, 340, 341, 342, 343, 344, 345, 362] (by decide +kernel) (by decide +kernel)) (goodIn_sub (fun _ h => List.mem_append_right _ h) (by decide +kernel))
set_option maxRecDepth 20000 in
theorem gL_law_X4_landing : GoodIn wsL_law (wsV RL 74 RX4 yX4_landing wsX4_landing) := goodIn_app (goodIn_of _ (by decide +kernel)) ggL_law_X4_landing
