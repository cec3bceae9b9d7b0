set_option maxRecDepth 20000 in
theorem ggL_law_X4_init : GoodIn wsL_law wsX4_init := goodIn_r _ [9, 10, 11, 12, 13, 14, 15, 16, 17, 18, 19, 20, 21, 22, 23, 24, 25, 26, 27, 28, 29, 30, 31, 32, 33, 34, 35, 36, 37, 38, 39, 40, 41, 42, 43, 44, 45, 46, 47, 48, 49, 50, 51, 52, 53, 54, 55, 56, 57, 58, 59, 634, 635, 636, 637, 638, 639, 640, 618, 619, 641, 642, 643, 644, 645, 646, 647, 648, 649, 650, 651, 652, 653, 654, 655, 656, 657] (by decide +kernel) (by decide +kernel)
set_option maxRecDepth 20000 in
theorem gL_law_X4_init : GoodIn wsL_law (wsX4_init) := ggL_law_X4_init
set_option maxRecDepth 20000 in
theorem ggL_law_X5_init : GoodIn wsL_law wsX5_init := goodIn_r _ [62, 63, 11, 12, 64, 65, 38, 66, 67, 68, 69, 70, 71, 72, 620, 621, 622, 623, 624, 625, 626, 627, 628, 629, 630, 631, 632, 633] (by decide +kernel) (by decide +kernel)
set_option maxRecDepth 20000 in
theorem gL_law_X5_init : GoodIn wsL_law (wsX5_init) := ggL_law_X5_init
set_option maxRecDepth 20000 in
theorem ggL_law_L_bed : GoodIn wsL_law wsL_bed := goodIn_ca (goodIn_ca (goodIn_ca (goodIn_r _ [76, 77, 78, 79, 80, 81, 82, 2, 83, 84, 85, 86, 87, 16, 88, 89, 90, 91, 92, 93, 94, 95, 25, 96, 97, 98, 99, 100, 101, 39, 40, 41, 42, 618, 619, 634, 635, 636, 637, 638, 639, 640, 641, 642, 643, 644, 645, 646, 647, 648, 649, 650] (by decide +kernel) (by decide +kernel)) (goodIn_sub (fun _ h => List.mem_append_left _ (List.mem_append_left _ (List.mem_append_right _ h))) (by decide +kernel))) (goodIn_sub (fun _ h => List.mem_append_left _ (List.mem_append_right _ h)) (by decide +kernel))) (goodIn_sub (fun _ h => List.mem_append_right _ h) (by decide +kernel))
set_option maxRecDepth 20000 in
theorem gL_law_L_bed : GoodIn wsL_law (va_wsS RL 73 yL_bed wsL_bed) := goodIn_app (goodIn_of _ (by decide +kernel)) ggL_law_L_bed
set_option maxRecDepth 20000 in
theorem ggL_law_X5_bed : GoodIn wsL_law wsX5_bed := goodIn_r _ [105, 106, 107, 66, 108, 109, 5, 110, 111, 112, 113, 114, 620, 621, 622, 623, 624, 625, 626, 627, 628, 629, 630, 631, 632, 633] (by decide +kernel) (by decide +kernel)
set_option maxRecDepth 20000 in
theorem gL_law_X5_bed : GoodIn wsL_law (wsV RL 78 RX5 yX5_bed wsX5_bed) := goodIn_app (goodIn_of _ (by decide +kernel)) ggL_law_X5_bed
set_option maxRecDepth 20000 in
theorem ggL_law_X5_thrown : GoodIn wsL_law wsX5_thrown := goodIn_r _ [118, 106, 620, 621, 622, 623, 624, 625, 626, 627, 628, 629, 630, 631, 632, 633] (by decide +kernel) (by decide +kernel)
set_option maxRecDepth 20000 in
theorem gL_law_X5_thrown : GoodIn wsL_law (wsV RL 79 RX5 yX5_thrown wsX5_thrown) := goodIn_app (goodIn_of _ (by decide +kernel)) ggL_law_X5_thrown
set_option maxRecDepth 20000 in
theorem ggL_law_L_cut : GoodIn wsL_law wsL_cut := goodIn_ca (goodIn_ca (goodIn_r _ [121, 77, 79, 122, 123, 124, 2, 125, 86, 87, 16, 126, 127, 128, 129, 91, 92, 130, 131, 132, 25, 133, 43, 44, 41, 134, 135, 136, 137, 40, 138, 139, 140, 141, 42, 618, 619, 634, 635, 636, 637, 638, 639, 640, 641, 642, 643, 644, 645, 646, 647, 648, 649, 650] (by decide +kernel) (by decide +kernel)) (goodIn_sub (fun _ h => List.mem_append_left _ (List.mem_append_right _ h)) (by decide +kernel))) (goodIn_sub (fun _ h => List.mem_append_right _ h) (by decide +kernel))
set_option maxRecDepth 20000 in
theorem gL_law_L_cut : GoodIn wsL_law (va_wsS RL 83 yL_cut wsL_cut) := goodIn_app (goodIn_of _ (by decide +kernel)) ggL_law_L_cut
set_option maxRecDepth 20000 in
theorem ggL_law_X5_cut : GoodIn wsL_law wsX5_cut := goodIn_r _ [145, 106, 66, 146, 147, 148, 5, 149, 107, 108, 109, 110, 111, 112, 113, 114, 150, 151, 152, 153, 154, 155, 156, 620, 621, 622, 623, 624, 625, 626, 627, 628, 629, 630, 631, 632, 633] (by decide +kernel) (by decide +kernel)
set_option maxRecDepth 20000 in
theorem gL_law_X5_cut : GoodIn wsL_law (wsV RL 86 RX5 yX5_cut wsX5_cut) := goodIn_app (goodIn_of _ (by decide +kernel)) ggL_law_X5_cut
set_option maxRecDepth 20000 in
theorem ggL_law_L_tie : GoodIn wsL_law wsL_tie := goodIn_ca (goodIn_r _ [159, 77, 160, 161, 162, 2, 163, 16, 126, 127, 128, 129, 91, 92, 164, 165, 166, 25, 167, 43, 168, 169, 170, 171, 44, 45, 46, 618, 619, 634, 635, 636, 637, 638, 639, 640, 641, 642, 643, 644, 645, 646, 647, 648, 649, 650] (by decide +kernel) (by decide +kernel)) (goodIn_sub (fun _ h => List.mem_append_right _ h) (by decide +kernel))
set_option maxRecDepth 20000 in
theorem gL_law_L_tie : GoodIn wsL_law (va_wsS RL 87 yL_tie wsL_tie) := goodIn_app (goodIn_of _ (by decide +kernel)) ggL_law_L_tie
set_option maxRecDepth 20000 in
theorem ggL_law_X5_tie : GoodIn wsL_law wsX5_tie := goodIn_r _ [175, 106, 146, 147, 148, 5, 149, 107, 108, 109, 110, 176, 177, 178, 179, 65, 66, 180, 169, 170, 171, 111, 112, 113, 114, 620, 621, 622, 623, 624, 625, 626, 627, 628, 629, 630, 631, 632, 633] (by decide +kernel) (by decide +kernel)
set_option maxRecDepth 20000 in
theorem gL_law_X5_tie : GoodIn wsL_law (wsV RL 89 RX5 yX5_tie wsX5_tie) := goodIn_app (goodIn_of _ (by decide +kernel)) ggL_law_X5_tie
set_option maxRecDepth 20000 in
theorem ggL_law_L_buy : GoodIn wsL_law wsL_buy := goodIn_ca (goodIn_ca (goodIn_r _ [183, 78, 79, 184, 185, 186, 2, 187, 84, 85, 86, 87, 16, 188, 189, 190, 618, 619, 634, 635, 636, 637, 638, 639, 640] (by decide +kernel) (by decide +kernel)) (goodIn_sub (fun _ h => List.mem_append_left _ (List.mem_append_left _ (List.mem_append_right _ h))) (by decide +kernel))) (goodIn_sub (fun _ h => List.mem_append_left _ (List.mem_append_right _ h)) (by decide +kernel))
set_option maxRecDepth 20000 in
theorem gL_law_L_buy : GoodIn wsL_law (va_wsS RL 90 yL_buy wsL_buy) := goodIn_app (goodIn_of _ (by decide +kernel)) ggL_law_L_buy
set_option maxRecDepth 20000 in
theorem ggL_law_X5_buy : GoodIn wsL_law wsX5_buy := goodIn_r _ [194, 106, 64, 65, 108, 109, 5, 110, 111, 112, 113, 114, 620, 621, 622, 623, 624, 625, 626, 627, 628, 629, 630, 631, 632, 633] (by decide +kernel) (by decide +kernel)
set_option maxRecDepth 20000 in
theorem gL_law_X5_buy : GoodIn wsL_law (wsV RL 92 RX5 yX5_buy wsX5_buy) := goodIn_app (goodIn_of _ (by decide +kernel)) ggL_law_X5_buy
set_option maxRecDepth 20000 in
theorem ggL_law_L_about : GoodIn wsL_law wsL_about := goodIn_ca (goodIn_r _ [197, 77, 198, 199, 200, 2, 201, 16, 126, 127, 128, 129, 91, 92, 202, 203, 204, 205, 206, 207, 25, 208, 39, 40, 41, 42, 43, 44, 45, 46, 134, 135, 136, 137, 138, 139, 140, 141, 618, 619, 634, 635, 636, 637, 638, 639, 640, 641, 642, 643, 644, 645, 646, 647, 648, 649, 650] (by decide +kernel) (by decide +kernel)) (goodIn_sub (fun _ h => List.mem_append_right _ h) (by decide +kernel))
set_option maxRecDepth 20000 in
theorem gL_law_L_about : GoodIn wsL_law (va_wsS RL 93 yL_about wsL_about) := goodIn_app (goodIn_of _ (by decide +kernel)) ggL_law_L_about
set_option maxRecDepth 20000 in
theorem ggL_law_X5_about : GoodIn wsL_law wsX5_about := goodIn_r _ [212, 106, 146, 147, 148, 5, 149, 107, 108, 109, 110, 213, 214, 215, 216, 66, 150, 151, 152, 153, 154, 155, 156, 111, 112, 113, 114, 620, 621, 622, 623, 624, 625, 626, 627, 628, 629, 630, 631, 632, 633] (by decide +kernel) (by decide +kernel)
set_option maxRecDepth 20000 in
theorem gL_law_X5_about : GoodIn wsL_law (wsV RL 96 RX5 yX5_about wsX5_about) := goodIn_app (goodIn_of _ (by decide +kernel)) ggL_law_X5_about
set_option maxRecDepth 20000 in
theorem ggL_law_L_best : GoodIn wsL_law wsL_best := goodIn_ca (goodIn_r _ [219, 77, 220, 221, 222, 2, 223, 17, 16, 126, 127, 128, 129, 91, 92, 224, 225, 226, 25, 227, 97, 39, 40, 41, 42, 43, 44, 45, 46, 228, 139, 140, 141, 134, 135, 136, 137, 229, 230, 231, 232, 47, 168, 169, 170, 171, 233, 234, 235, 236, 237, 238, 239, 240, 241, 242, 243, 244, 245, 618, 619, 634, 635, 636, 637, 638, 639, 640, 641, 642, 643, 644, 645, 646, 647, 648, 649, 650] (by decide +kernel) (by decide +kernel)) (goodIn_sub (fun _ h => List.mem_append_right _ h) (by decide +kernel))
set_option maxRecDepth 20000 in
theorem gL_law_L_best : GoodIn wsL_law (va_wsS RL 97 yL_best wsL_best) := goodIn_app (goodIn_of _ (by decide +kernel)) ggL_law_L_best
set_option maxRecDepth 20000 in
theorem ggL_law_X5_best : GoodIn wsL_law wsX5_best := goodIn_r _ [249, 106, 69, 146, 147, 148, 5, 149, 107, 108, 109, 110, 111, 112, 113, 114, 250, 251, 252, 253, 66, 254, 255, 256, 257, 67, 70, 68, 71, 154, 155, 156, 150, 151, 152, 153, 258, 259, 260, 261, 72, 180, 169, 170, 171, 262, 234, 235, 263, 264, 265, 266, 267, 244, 245, 620, 621, 622, 623, 624, 625, 626, 627, 628, 629, 630, 631, 632, 633] (by decide +kernel) (by decide +kernel)
set_option maxRecDepth 20000 in
theorem gL_law_X5_best : GoodIn wsL_law (wsV RL 99 RX5 yX5_best wsX5_best) := goodIn_app (goodIn_of _ (by decide +kernel)) ggL_law_X5_best
set_option maxRecDepth 20000 in
theorem ggL_law_L_barge : GoodIn wsL_law wsL_barge := goodIn_ca (goodIn_ca (goodIn_r _ [270, 77, 79, 271, 272, 273, 2, 274, 86, 87, 16, 88, 89, 90, 91, 92, 275, 276, 277, 29, 278, 279, 280, 281, 282, 283, 51, 52, 618, 619, 634, 635, 636, 637, 638, 639, 640, 651, 652, 653, 654, 655, 656] (by decide +kernel) (by decide +kernel)) (goodIn_sub (fun _ h => List.mem_append_left _ (List.mem_append_right _ h)) (by decide +kernel))) (goodIn_sub (fun _ h => List.mem_append_right _ h) (by decide +kernel))
set_option maxRecDepth 20000 in
theorem gL_law_L_barge : GoodIn wsL_law (va_wsS RL 100 yL_barge wsL_barge) := goodIn_app (goodIn_of _ (by decide +kernel)) ggL_law_L_barge
set_option maxRecDepth 20000 in
theorem ggL_law_X5_barge : GoodIn wsL_law wsX5_barge := goodIn_r _ [287, 106, 288, 67, 108, 109, 5, 110, 111, 112, 113, 114, 620, 621, 622, 623, 624, 625, 626, 627, 628, 629, 630, 631, 632, 633] (by decide +kernel) (by decide +kernel)
set_option maxRecDepth 20000 in
theorem gL_law_X5_barge : GoodIn wsL_law (wsV RL 102 RX5 yX5_barge wsX5_barge) := goodIn_app (goodIn_of _ (by decide +kernel)) ggL_law_X5_barge
set_option maxRecDepth 20000 in
theorem ggL_law_L_sail : GoodIn wsL_law wsL_sail := goodIn_ca (goodIn_r _ [291, 77, 292, 293, 294, 2, 295, 16, 296, 297, 298, 299, 91, 92, 88, 89, 90, 300, 301, 302, 29, 303, 51, 304, 244, 170, 245, 52, 618, 619, 634, 635, 636, 637, 638, 639, 640, 651, 652, 653, 654, 655, 656] (by decide +kernel) (by decide +kernel)) (goodIn_sub (fun _ h => List.mem_append_right _ h) (by decide +kernel))
set_option maxRecDepth 20000 in
theorem gL_law_L_sail : GoodIn wsL_law (va_wsS RL 103 yL_sail wsL_sail) := goodIn_app (goodIn_of _ (by decide +kernel)) ggL_law_L_sail
set_option maxRecDepth 20000 in
theorem ggL_law_X5_sail : GoodIn wsL_law wsX5_sail := goodIn_r _ [308, 106, 67, 309, 310, 311, 5, 312, 288, 108, 109, 110, 111, 112, 113, 114, 313, 314, 315, 267, 244, 170, 245, 620, 621, 622, 623, 624, 625, 626, 627, 628, 629, 630, 631, 632, 633] (by decide +kernel) (by decide +kernel)
set_option maxRecDepth 20000 in
theorem gL_law_X5_sail : GoodIn wsL_law (wsV RL 105 RX5 yX5_sail wsX5_sail) := goodIn_app (goodIn_of _ (by decide +kernel)) ggL_law_X5_sail
set_option maxRecDepth 20000 in
theorem ggL_law_L_load : GoodIn wsL_law wsL_load := goodIn_ca (goodIn_ca (goodIn_r _ [318, 77, 79, 319, 320, 321, 2, 322, 86, 87, 16, 296, 297, 298, 299, 91, 92, 126, 127, 128, 129, 323, 324, 325, 15, 326, 30, 26, 327, 169, 170, 171, 328, 329, 330, 29, 331, 53, 54, 618, 619, 634, 635, 636, 637, 638, 639, 640, 651, 652, 653, 654, 655, 656, 641, 642, 643, 644, 645, 646, 647, 648, 649, 650] (by decide +kernel) (by decide +kernel)) (goodIn_sub (fun _ h => List.mem_append_left _ (List.mem_append_right _ h)) (by decide +kernel))) (goodIn_sub (fun _ h => List.mem_append_right _ h) (by decide +kernel))
set_option maxRecDepth 20000 in
theorem gL_law_L_load : GoodIn wsL_law (va_wsS RL 106 yL_load wsL_load) := goodIn_app (goodIn_of _ (by decide +kernel)) ggL_law_L_load
set_option maxRecDepth 20000 in
theorem ggL_law_X5_load : GoodIn wsL_law wsX5_load := goodIn_r _ [335, 106, 67, 66, 309, 310, 311, 5, 312, 288, 108, 109, 110, 146, 147, 148, 149, 107, 111, 112, 113, 114, 336, 337, 338, 339, 180, 169, 170, 171, 340, 341, 342, 343, 620, 621, 622, 623, 624, 625, 626, 627, 628, 629, 630, 631, 632, 633] (by decide +kernel) (by decide +kernel)
set_option maxRecDepth 20000 in
theorem gL_law_X5_load : GoodIn wsL_law (wsV RL 108 RX5 yX5_load wsX5_load) := goodIn_app (goodIn_of _ (by decide +kernel)) ggL_law_X5_load
set_option maxRecDepth 20000 in
theorem ggL_law_L_sell : GoodIn wsL_law wsL_sell := goodIn_ca (goodIn_ca (goodIn_r _ [346, 77, 79, 347, 348, 349, 2, 350, 86, 87, 16, 296, 297, 298, 299, 91, 92, 351, 352, 353, 354, 355, 356, 357, 15, 358, 30, 34, 21, 328, 329, 330, 29, 331, 53, 54, 359, 360, 361, 33, 362, 59, 363, 234, 170, 235, 364, 365, 366, 367, 368, 618, 619, 634, 635, 636, 637, 638, 639, 640, 651, 652, 653, 654, 655, 656, 657] (by decide +kernel) (by decide +kernel)) (goodIn_sub (fun _ h => List.mem_append_left _ (List.mem_append_right _ h)) (by decide +kernel))) (goodIn_sub (fun _ h => List.mem_append_right _ h) (by decide +kernel))
set_option maxRecDepth 20000 in
theorem gL_law_L_sell : GoodIn wsL_law (va_wsS RL 109 yL_sell wsL_sell) := goodIn_app (goodIn_of _ (by decide +kernel)) ggL_law_L_sell
set_option maxRecDepth 20000 in
theorem ggL_law_X5_sell : GoodIn wsL_law wsX5_sell := goodIn_r _ [372, 106, 67, 68, 64, 309, 310, 311, 5, 312, 288, 108, 109, 110, 111, 112, 113, 114, 373, 374, 375, 376, 377, 378, 379, 380, 381, 382, 383, 384, 262, 234, 170, 235, 385, 386, 387, 340, 341, 342, 343, 620, 621, 622, 623, 624, 625, 626, 627, 628, 629, 630, 631, 632, 633] (by decide +kernel) (by decide +kernel)
set_option maxRecDepth 20000 in
theorem gL_law_X5_sell : GoodIn wsL_law (wsV RL 111 RX5 yX5_sell wsX5_sell) := goodIn_app (goodIn_of _ (by decide +kernel)) ggL_law_X5_sell
set_option maxRecDepth 20000 in
theorem ggL_law_L_told : GoodIn wsL_law wsL_told := goodIn_ca (goodIn_r _ [390, 77, 391, 392, 393, 2, 394, 16, 296, 297, 298, 299, 91, 92, 202, 203, 204, 395, 396, 397, 29, 398, 51, 52, 53, 54, 55, 352, 353, 354, 618, 619, 634, 635, 636, 637, 638, 639, 640, 651, 652, 653, 654, 655, 656] (by decide +kernel) (by decide +kernel)) (goodIn_sub (fun _ h => List.mem_append_right _ h) (by decide +kernel))
set_option maxRecDepth 20000 in
theorem gL_law_L_told : GoodIn wsL_law (va_wsS RL 112 yL_told wsL_told) := goodIn_app (goodIn_of _ (by decide +kernel)) ggL_law_L_told
set_option maxRecDepth 20000 in
theorem ggL_law_X5_told : GoodIn wsL_law wsX5_told := goodIn_r _ [402, 106, 309, 310, 311, 5, 312, 288, 108, 109, 110, 403, 404, 405, 406, 67, 373, 374, 375, 376, 111, 112, 113, 114, 620, 621, 622, 623, 624, 625, 626, 627, 628, 629, 630, 631, 632, 633] (by decide +kernel) (by decide +kernel)
set_option maxRecDepth 20000 in
theorem gL_law_X5_told : GoodIn wsL_law (wsV RL 114 RX5 yX5_told wsX5_told) := goodIn_app (goodIn_of _ (by decide +kernel)) ggL_law_X5_told
set_option maxRecDepth 20000 in
theorem ggL_law_L_landing : GoodIn wsL_law wsL_landing := goodIn_ca (goodIn_r _ [409, 77, 410, 411, 412, 2, 413, 16, 414, 415, 416, 91, 92, 202, 203, 204, 417, 418, 419, 33, 420, 59, 368, 360, 361, 362, 363, 234, 170, 235, 421, 365, 366, 367, 618, 619, 634, 635, 636, 637, 638, 639, 640, 657] (by decide +kernel) (by decide +kernel)) (goodIn_sub (fun _ h => List.mem_append_right _ h) (by decide +kernel))
set_option maxRecDepth 20000 in
theorem gL_law_L_landing : GoodIn wsL_law (va_wsS RL 115 yL_landing wsL_landing) := goodIn_app (goodIn_of _ (by decide +kernel)) ggL_law_L_landing
set_option maxRecDepth 20000 in
theorem ggL_law_X5_landing : GoodIn wsL_law wsX5_landing := goodIn_r _ [425, 106, 108, 109, 5, 110, 426, 427, 428, 429, 376, 68, 381, 382, 383, 384, 262, 234, 170, 235, 385, 386, 387, 111, 112, 113, 114, 620, 621, 622, 623, 624, 625, 626, 627, 628, 629, 630, 631, 632, 633] (by decide +kernel) (by decide +kernel)
set_option maxRecDepth 20000 in
theorem gL_law_X5_landing : GoodIn wsL_law (wsV RL 117 RX5 yX5_landing wsX5_landing) := goodIn_app (goodIn_of _ (by decide +kernel)) ggL_law_X5_landing
set_option maxRecDepth 20000 in
theorem ggL_law_L_would : GoodIn wsL_law wsL_would := goodIn_ca (goodIn_r _ [432, 77, 433, 434, 435, 2, 436, 17, 16, 354, 296, 297, 298, 299, 91, 92, 414, 415, 416, 437, 438, 439, 15, 440, 441, 21, 22, 442, 26, 30, 34, 443, 225, 226, 25, 227, 97, 39, 40, 41, 42, 43, 44, 45, 46, 444, 445, 446, 29, 447, 279, 51, 52, 53, 54, 55, 448, 449, 450, 33, 451, 59, 300, 301, 302, 303, 304, 244, 170, 245, 452, 453, 454, 455, 456, 457, 458, 459, 460, 461, 462, 463, 464, 169, 171, 465, 234, 235, 466, 467, 468, 469, 189, 190, 470, 471, 472, 473, 474, 475, 476, 230, 231, 232, 47, 168, 233, 236, 237, 238, 239, 240, 241, 242, 243, 355, 356, 357, 358, 328, 329, 330, 331, 359, 360, 361, 362, 363, 364, 365, 366, 367, 368, 618, 619, 634, 635, 636, 637, 638, 639, 640, 651, 652, 653, 654, 655, 656, 641, 642, 643, 644, 645, 646, 647, 648, 649, 650, 657] (by decide +kernel) (by decide +kernel)) (goodIn_sub (fun _ h => List.mem_append_right _ h) (by decide +kernel))
set_option maxRecDepth 20000 in
theorem gL_law_L_would : GoodIn wsL_law (va_wsS RL 118 yL_would wsL_would) := goodIn_app (goodIn_of _ (by decide +kernel)) ggL_law_L_would
set_option maxRecDepth 20000 in
theorem ggL_law_X5_would : GoodIn wsL_law wsX5_would := goodIn_r _ [480, 106, 309, 310, 311, 5, 312, 288, 108, 109, 110, 481, 482, 483, 484, 68, 67, 376, 313, 314, 315, 267, 244, 170, 245, 485, 486, 487, 377, 378, 379, 380, 381, 382, 383, 384, 262, 234, 235, 385, 386, 387, 111, 112, 113, 114, 620, 621, 622, 623, 624, 625, 626, 627, 628, 629, 630, 631, 632, 633] (by decide +kernel) (by decide +kernel)
set_option maxRecDepth 20000 in
theorem gL_law_X5_would : GoodIn wsL_law (wsV RL 120 RX5 yX5_would wsX5_would) := goodIn_app (goodIn_of _ (by decide +kernel)) ggL_law_X5_would
set_option maxRecDepth 20000 in
theorem ggL_law_L_advise : GoodIn wsL_law wsL_advise := goodIn_ca (goodIn_r _ [490, 77, 491, 492, 493, 2, 494, 296, 297, 298, 299, 91, 92, 16, 495, 434, 435, 436, 17, 354, 414, 415, 416, 437, 438, 439, 15, 440, 441, 21, 22, 442, 26, 30, 34, 443, 225, 226, 25, 227, 97, 39, 40, 41, 42, 43, 44, 45, 46, 444, 445, 446, 29, 447, 279, 51, 52, 53, 54, 55, 448, 449, 450, 33, 451, 59, 300, 301, 302, 303, 304, 244, 170, 245, 452, 453, 454, 455, 456, 457, 458, 459, 460, 461, 462, 463, 464, 169, 171, 465, 234, 235, 466, 467, 468, 469, 189, 190, 470, 471, 472, 473, 474, 475, 476, 230, 231, 232, 47, 168, 233, 236, 237, 238, 239, 240, 241, 242, 243, 355, 356, 357, 358, 328, 329, 330, 331, 359, 360, 361, 362, 363, 364, 365, 366, 367, 368, 618, 619, 634, 635, 636, 637, 638, 639, 640, 651, 652, 653, 654, 655, 656, 641, 642, 643, 644, 645, 646, 647, 648, 649, 650, 657] (by decide +kernel) (by decide +kernel)) (goodIn_sub (fun _ h => List.mem_append_right _ h) (by decide +kernel))
set_option maxRecDepth 20000 in
theorem gL_law_L_advise : GoodIn wsL_law (va_wsS RL 121 yL_advise wsL_advise) := goodIn_app (goodIn_of _ (by decide +kernel)) ggL_law_L_advise
set_option maxRecDepth 20000 in
theorem ggL_law_X5_advise : GoodIn wsL_law wsX5_advise := goodIn_r _ [499, 106, 309, 310, 311, 5, 312, 288, 108, 109, 110, 111, 112, 113, 114, 481, 482, 483, 484, 68, 67, 376, 313, 314, 315, 267, 244, 170, 245, 485, 486, 487, 377, 378, 379, 380, 381, 382, 383, 384, 262, 234, 235, 385, 386, 387, 620, 621, 622, 623, 624, 625, 626, 627, 628, 629, 630, 631, 632, 633] (by decide +kernel) (by decide +kernel)
set_option maxRecDepth 20000 in
theorem gL_law_X5_advise : GoodIn wsL_law (wsV RL 123 RX5 yX5_advise wsX5_advise) := goodIn_app (goodIn_of _ (by decide +kernel)) ggL_law_X5_advise
set_option maxRecDepth 20000 in
theorem ggL_law_L_count : GoodIn wsL_law wsL_count := goodIn_ca (goodIn_r _ [502, 77, 503, 504, 505, 2, 506, 16, 202, 203, 204, 91, 92, 507, 508, 509, 15, 510, 441, 21, 22, 26, 30, 34, 442, 511, 512, 513, 25, 514, 97, 134, 135, 136, 137, 41, 40, 515, 516, 517, 518, 43, 44, 519, 520, 521, 522, 45, 46, 523, 524, 525, 29, 526, 279, 527, 329, 330, 331, 53, 54, 528, 529, 530, 33, 531, 59, 618, 619, 634, 635, 636, 637, 638, 639, 640, 641, 642, 643, 644, 645, 646, 647, 648, 649, 650, 651, 652, 653, 654, 655, 656, 657] (by decide +kernel) (by decide +kernel)) (goodIn_sub (fun _ h => List.mem_append_right _ h) (by decide +kernel))
set_option maxRecDepth 20000 in
theorem gL_law_L_count : GoodIn wsL_law (va_wsS RL 124 yL_count wsL_count) := goodIn_app (goodIn_of _ (by decide +kernel)) ggL_law_L_count
set_option maxRecDepth 20000 in
theorem ggL_law_X5_count : GoodIn wsL_law wsX5_count := goodIn_r _ [535, 106, 108, 109, 5, 110, 536, 537, 538, 539, 540, 64, 65, 107, 66, 288, 68, 541, 542, 543, 544, 545, 546, 547, 548, 549, 340, 341, 342, 343, 67, 550, 551, 552, 553, 554, 555, 556, 557, 150, 151, 152, 153, 111, 112, 113, 114, 620, 621, 622, 623, 624, 625, 626, 627, 628, 629, 630, 631, 632, 633] (by decide +kernel) (by decide +kernel)
set_option maxRecDepth 20000 in
theorem gL_law_X5_count : GoodIn wsL_law (wsV RL 126 RX5 yX5_count wsX5_count) := goodIn_app (goodIn_of _ (by decide +kernel)) ggL_law_X5_count
set_option maxRecDepth 20000 in
theorem ggL_law_L_pass : GoodIn wsL_law wsL_pass := goodIn_ca (goodIn_r _ [560, 78, 561, 562, 563, 2, 564, 16, 565, 566, 567, 84, 85, 452, 453, 454, 15, 455, 442, 456, 457, 458, 459, 30, 26, 34, 441, 460, 461, 462, 29, 463, 279, 52, 51, 464, 169, 170, 171, 465, 234, 235, 466, 467, 468, 25, 469, 97, 43, 44, 189, 190, 470, 471, 472, 33, 473, 59, 474, 475, 476, 230, 231, 232, 47, 41, 42, 168, 233, 236, 237, 238, 239, 240, 241, 242, 39, 243, 244, 245, 618, 619, 634, 635, 636, 637, 638, 639, 640, 651, 652, 653, 654, 655, 656, 641, 642, 643, 644, 645, 646, 647, 648, 649, 650, 657] (by decide +kernel) (by decide +kernel)) (goodIn_sub (fun _ h => List.mem_append_left _ (List.mem_append_left _ (List.mem_append_right _ h))) (by decide +kernel))
set_option maxRecDepth 20000 in
theorem gL_law_L_pass : GoodIn wsL_law (va_wsS RL 127 yL_pass wsL_pass) := goodIn_app (goodIn_of _ (by decide +kernel)) ggL_law_L_pass
set_option maxRecDepth 20000 in
theorem ggL_law_X5_pass_ : GoodIn wsL_law wsX5_pass_ := goodIn_r _ [571, 106, 66, 67, 68, 540, 541, 108, 109, 5, 110, 111, 112, 113, 114, 572, 573, 574, 575, 288, 107, 576, 577, 578, 579, 180, 169, 170, 171, 262, 234, 235, 580, 581, 582, 485, 486, 487, 258, 259, 260, 261, 72, 263, 264, 265, 266, 267, 244, 245, 620, 621, 622, 623, 624, 625, 626, 627, 628, 629, 630, 631, 632, 633] (by decide +kernel) (by decide +kernel)
set_option maxRecDepth 20000 in
theorem gL_law_X5_pass_ : GoodIn wsL_law (wsV RL 129 RX5 yX5_pass_ wsX5_pass_) := goodIn_app (goodIn_of _ (by decide +kernel)) ggL_law_X5_pass_
set_option maxRecDepth 20000 in
theorem ggL_law_L_foresee : GoodIn wsL_law wsL_foresee := goodIn_ca (goodIn_ca (goodIn_r _ [585, 78, 77, 586, 587, 588, 2, 589, 91, 92, 17, 16, 565, 566, 567, 84, 85, 437, 438, 439, 15, 440, 441, 21, 22, 442, 26, 30, 34, 443, 225, 226, 25, 227, 97, 39, 40, 41, 42, 43, 44, 45, 46, 444, 445, 446, 29, 447, 279, 51, 52, 53, 54, 55, 448, 449, 450, 33, 451, 59, 452, 453, 454, 455, 456, 457, 458, 459, 460, 461, 462, 463, 464, 169, 170, 171, 465, 234, 235, 466, 467, 468, 469, 189, 190, 470, 471, 472, 473, 474, 475, 476, 230, 231, 232, 47, 168, 233, 236, 237, 238, 239, 240, 241, 242, 243, 244, 245, 507, 508, 509, 510, 511, 512, 513, 514, 134, 135, 136, 137, 515, 516, 517, 518, 519, 520, 521, 522, 523, 524, 525, 526, 527, 329, 330, 331, 528, 529, 530, 531, 618, 619, 634, 635, 636, 637, 638, 639, 640, 641, 642, 643, 644, 645, 646, 647, 648, 649, 650, 651, 652, 653, 654, 655, 656, 657] (by decide +kernel) (by decide +kernel)) (goodIn_sub (fun _ h => List.mem_append_right _ h) (by decide +kernel))) (goodIn_sub (fun _ h => List.mem_append_left _ (List.mem_append_left _ (List.mem_append_right _ h))) (by decide +kernel))
set_option maxRecDepth 20000 in
theorem gL_law_L_foresee : GoodIn wsL_law (va_wsS RL 130 yL_foresee wsL_foresee) := goodIn_app (goodIn_of _ (by decide +kernel)) ggL_law_L_foresee
set_option maxRecDepth 20000 in
theorem ggL_law_X5_foresee : GoodIn wsL_law wsX5_foresee := goodIn_r _ [593, 106, 541, 69, 70, 71, 540, 108, 109, 5, 110, 111, 112, 113, 114, 250, 251, 252, 253, 66, 254, 255, 256, 257, 67, 68, 572, 573, 574, 575, 288, 107, 576, 577, 578, 579, 180, 169, 170, 171, 262, 234, 235, 580, 581, 582, 485, 486, 487, 258, 259, 260, 261, 72, 263, 264, 265, 266, 267, 244, 245, 550, 551, 552, 553, 554, 555, 556, 557, 150, 151, 152, 153, 542, 543, 544, 545, 620, 621, 622, 623, 624, 625, 626, 627, 628, 629, 630, 631, 632, 633] (by decide +kernel) (by decide +kernel)
set_option maxRecDepth 20000 in
theorem gL_law_X5_foresee : GoodIn wsL_law (wsV RL 132 RX5 yX5_foresee wsX5_foresee) := goodIn_app (goodIn_of _ (by decide +kernel)) ggL_law_X5_foresee
set_option maxRecDepth 20000 in
theorem ggL_law_X4_mean : GoodIn wsL_law wsX4_mean := goodIn_r _ [597, 16, 598, 599, 600, 25, 601, 97, 42, 618, 619, 634, 635, 636, 637, 638, 639, 640, 641, 642, 643, 644, 645, 646, 647, 648, 649, 650] (by decide +kernel) (by decide +kernel)
set_option maxRecDepth 20000 in
theorem gL_law_X4_mean : GoodIn wsL_law (wsV RL 133 RX4 yX4_mean wsX4_mean) := goodIn_app (goodIn_of _ (by decide +kernel)) ggL_law_X4_mean
set_option maxRecDepth 20000 in
theorem ggL_law_X5_mean : GoodIn wsL_law wsX5_mean := goodIn_r _ [605, 106, 107, 66, 542, 543, 544, 5, 545, 620, 621, 622, 623, 624, 625, 626, 627, 628, 629, 630, 631, 632, 633] (by decide +kernel) (by decide +kernel)
set_option maxRecDepth 20000 in
theorem gL_law_X5_mean : GoodIn wsL_law (wsV RL 137 RX5 yX5_mean wsX5_mean) := goodIn_app (goodIn_of _ (by decide +kernel)) ggL_law_X5_mean
set_option maxRecDepth 20000 in
theorem ggL_law_X4_digest : GoodIn wsL_law wsX4_digest := goodIn_r _ [609, 610, 611, 16, 507, 508, 509, 15, 510, 441, 21, 22, 26, 30, 34, 442, 511, 512, 513, 25, 514, 97, 134, 135, 136, 137, 41, 40, 515, 516, 517, 518, 43, 44, 519, 520, 521, 522, 45, 46, 523, 524, 525, 29, 526, 279, 527, 329, 330, 331, 53, 54, 528, 529, 530, 33, 531, 59, 205, 206, 207, 208, 39, 42, 138, 139, 140, 141, 395, 396, 397, 398, 51, 52, 55, 352, 2, 353, 354, 417, 418, 419, 420, 368, 360, 361, 362, 363, 234, 170, 235, 421, 365, 366, 367, 618, 619, 634, 635, 636, 637, 638, 639, 640, 641, 642, 643, 644, 645, 646, 647, 648, 649, 650, 651, 652, 653, 654, 655, 656, 657] (by decide +kernel) (by decide +kernel)
set_option maxRecDepth 20000 in
theorem gL_law_X4_digest : GoodIn wsL_law (wsV RL 138 RX4 yX4_digest wsX4_digest) := goodIn_app (goodIn_of _ (by decide +kernel)) ggL_law_X4_digest
set_option maxRecDepth 20000 in
theorem ggL_law_X5_digest : GoodIn wsL_law wsX5_digest := goodIn_r _ [615, 106, 616, 617, 107, 288, 536, 537, 538, 5, 539, 540, 64, 65, 66, 68, 541, 542, 543, 544, 545, 546, 547, 548, 549, 340, 341, 342, 343, 67, 550, 551, 552, 553, 554, 555, 556, 557, 150, 151, 152, 153, 213, 214, 215, 216, 154, 155, 156, 403, 404, 405, 406, 373, 374, 375, 376, 426, 427, 428, 429, 381, 382, 383, 384, 262, 234, 170, 235, 385, 386, 387, 620, 621, 622, 623, 624, 625, 626, 627, 628, 629, 630, 631, 632, 633] (by decide +kernel) (by decide +kernel)
set_option maxRecDepth 20000 in
theorem gL_law_X5_digest : GoodIn wsL_law (wsV RL 142 RX5 yX5_digest wsX5_digest) := goodIn_app (goodIn_of _ (by decide +kernel)) ggL_law_X5_digest
