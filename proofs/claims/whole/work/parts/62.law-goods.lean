set_option maxRecDepth 20000 in
theorem ggL_law_X0_init : GoodIn wsL_law wsX0_init := goodIn_r _ [9, 10, 11, 12, 13, 14, 15, 16, 17, 18, 19, 20, 21, 22, 23, 24, 25, 459, 460, 461, 462, 463, 464, 465, 466, 467, 468, 469, 470, 471, 472, 473, 474, 475] (by decide +kernel) (by decide +kernel)
set_option maxRecDepth 20000 in
theorem gL_law_X0_init : GoodIn wsL_law (wsX0_init) := ggL_law_X0_init
set_option maxRecDepth 20000 in
theorem ggL_law_X1_init : GoodIn wsL_law wsX1_init := goodIn_r _ [28, 29, 11, 12, 13, 30, 31, 32, 33, 34, 35, 36, 37, 38, 39, 40, 41, 42, 43, 44, 45, 476, 477, 478, 479, 480, 481, 482, 483, 484, 485, 486, 487, 488, 489, 490, 491, 492, 493, 494, 495, 496, 497] (by decide +kernel) (by decide +kernel)
set_option maxRecDepth 20000 in
theorem gL_law_X1_init : GoodIn wsL_law (wsX1_init) := ggL_law_X1_init
set_option maxRecDepth 20000 in
theorem ggL_law_L_pigment : GoodIn wsL_law wsL_pigment := goodIn_ca (goodIn_ca (goodIn_r _ [49, 50, 51, 52, 53, 54, 2, 55, 56, 57, 58, 14, 59, 60, 61, 62, 63, 64, 65, 66, 459, 460, 461, 462, 463, 464, 465, 466, 467, 468, 469, 470, 471, 472, 473, 474, 475] (by decide +kernel) (by decide +kernel)) (goodIn_sub (fun _ h => List.mem_append_left _ (List.mem_append_left _ (List.mem_append_right _ h))) (by decide +kernel))) (goodIn_sub (fun _ h => List.mem_append_left _ (List.mem_append_right _ h)) (by decide +kernel))
set_option maxRecDepth 20000 in
theorem gL_law_L_pigment : GoodIn wsL_law (va_wsS RL 86 yL_pigment wsL_pigment) := goodIn_app (goodIn_of _ (by decide +kernel)) ggL_law_L_pigment
set_option maxRecDepth 20000 in
theorem ggL_law_X1_pigment : GoodIn wsL_law wsX1_pigment := goodIn_r _ [70, 71, 72, 30, 73, 74, 5, 75, 76, 77, 78, 476, 477, 478, 479, 480, 481, 482, 483, 484, 485, 486, 487, 488, 489, 490, 491, 492, 493, 494, 495, 496, 497] (by decide +kernel) (by decide +kernel)
set_option maxRecDepth 20000 in
theorem gL_law_X1_pigment : GoodIn wsL_law (wsV RL 91 RX1 yX1_pigment wsX1_pigment) := goodIn_app (goodIn_of _ (by decide +kernel)) ggL_law_X1_pigment
set_option maxRecDepth 20000 in
theorem ggL_law_X1_thrown : GoodIn wsL_law wsX1_thrown := goodIn_r _ [82, 72, 476, 477, 478, 479, 480, 481, 482, 483, 484, 485, 486, 487, 488, 489, 490, 491, 492, 493, 494, 495, 496, 497] (by decide +kernel) (by decide +kernel)
set_option maxRecDepth 20000 in
theorem gL_law_X1_thrown : GoodIn wsL_law (wsV RL 92 RX1 yX1_thrown wsX1_thrown) := goodIn_app (goodIn_of _ (by decide +kernel)) ggL_law_X1_thrown
set_option maxRecDepth 20000 in
theorem ggL_law_L_tube : GoodIn wsL_law wsL_tube := goodIn_ca (goodIn_ca (goodIn_ca (goodIn_r _ [85, 86, 50, 51, 87, 88, 89, 2, 90, 56, 57, 58, 91, 15, 16, 92, 93, 94, 95, 96, 62, 63, 64, 65, 66, 459, 460, 461, 462, 463, 464, 465, 466, 467, 468, 469, 470, 471, 472, 473, 474, 475] (by decide +kernel) (by decide +kernel)) (goodIn_sub (fun _ h => List.mem_append_left _ (List.mem_append_left _ (List.mem_append_right _ h))) (by decide +kernel))) (goodIn_sub (fun _ h => List.mem_append_right _ h) (by decide +kernel))) (goodIn_sub (fun _ h => List.mem_append_left _ (List.mem_append_right _ h)) (by decide +kernel))
set_option maxRecDepth 20000 in
theorem gL_law_L_tube : GoodIn wsL_law (va_wsS RL 95 yL_tube wsL_tube) := goodIn_app (goodIn_of _ (by decide +kernel)) ggL_law_L_tube
set_option maxRecDepth 20000 in
theorem ggL_law_X1_tube : GoodIn wsL_law wsX1_tube := goodIn_r _ [100, 71, 101, 72, 31, 32, 76, 77, 5, 78, 476, 477, 478, 479, 480, 481, 482, 483, 484, 485, 486, 487, 488, 489, 490, 491, 492, 493, 494, 495, 496, 497] (by decide +kernel) (by decide +kernel)
set_option maxRecDepth 20000 in
theorem gL_law_X1_tube : GoodIn wsL_law (wsV RL 98 RX1 yX1_tube wsX1_tube) := goodIn_app (goodIn_of _ (by decide +kernel)) ggL_law_X1_tube
set_option maxRecDepth 20000 in
theorem ggL_law_L_pot : GoodIn wsL_law wsL_pot := goodIn_ca (goodIn_r _ [104, 51, 105, 106, 107, 2, 108, 56, 57, 109, 459, 460, 461, 462, 463, 464, 465, 466, 467, 468, 469, 470, 471, 472, 473, 474, 475] (by decide +kernel) (by decide +kernel)) (goodIn_sub (fun _ h => List.mem_append_left _ (List.mem_append_left _ (List.mem_append_right _ h))) (by decide +kernel))
set_option maxRecDepth 20000 in
theorem gL_law_L_pot : GoodIn wsL_law (va_wsS RL 99 yL_pot wsL_pot) := goodIn_app (goodIn_of _ (by decide +kernel)) ggL_law_L_pot
set_option maxRecDepth 20000 in
theorem ggL_law_X1_pot : GoodIn wsL_law wsX1_pot := goodIn_r _ [113, 114, 72, 476, 477, 478, 479, 480, 481, 482, 483, 484, 485, 486, 487, 488, 489, 490, 491, 492, 493, 494, 495, 496, 497] (by decide +kernel) (by decide +kernel)
set_option maxRecDepth 20000 in
theorem gL_law_X1_pot : GoodIn wsL_law (wsV RL 102 RX1 yX1_pot wsX1_pot) := goodIn_app (goodIn_of _ (by decide +kernel)) ggL_law_X1_pot
set_option maxRecDepth 20000 in
theorem ggL_law_L_squeeze : GoodIn wsL_law wsL_squeeze := goodIn_ca (goodIn_ca (goodIn_ca (goodIn_r _ [117, 86, 50, 51, 118, 119, 120, 2, 121, 56, 57, 109, 91, 16, 17, 92, 93, 94, 95, 96, 62, 63, 64, 65, 66, 122, 123, 124, 125, 126, 127, 459, 460, 461, 462, 463, 464, 465, 466, 467, 468, 469, 470, 471, 472, 473, 474, 475] (by decide +kernel) (by decide +kernel)) (goodIn_sub (fun _ h => List.mem_append_left _ (List.mem_append_left _ (List.mem_append_right _ h))) (by decide +kernel))) (goodIn_sub (fun _ h => List.mem_append_right _ h) (by decide +kernel))) (goodIn_sub (fun _ h => List.mem_append_left _ (List.mem_append_right _ h)) (by decide +kernel))
set_option maxRecDepth 20000 in
theorem gL_law_L_squeeze : GoodIn wsL_law (va_wsS RL 103 yL_squeeze wsL_squeeze) := goodIn_app (goodIn_of _ (by decide +kernel)) ggL_law_L_squeeze
set_option maxRecDepth 20000 in
theorem ggL_law_X1_squeeze : GoodIn wsL_law wsX1_squeeze := goodIn_r _ [131, 32, 72, 34, 132, 133, 134, 5, 135, 114, 76, 77, 78, 136, 137, 138, 139, 101, 476, 477, 478, 479, 480, 481, 482, 483, 484, 485, 486, 487, 488, 489, 490, 491, 492, 493, 494, 495, 496, 497] (by decide +kernel) (by decide +kernel)
set_option maxRecDepth 20000 in
theorem gL_law_X1_squeeze : GoodIn wsL_law (wsV RL 105 RX1 yX1_squeeze wsX1_squeeze) := goodIn_app (goodIn_of _ (by decide +kernel)) ggL_law_X1_squeeze
set_option maxRecDepth 20000 in
theorem ggL_law_L_pour : GoodIn wsL_law wsL_pour := goodIn_ca (goodIn_ca (goodIn_ca (goodIn_r _ [142, 86, 50, 51, 143, 144, 145, 2, 146, 65, 66, 56, 57, 109, 92, 93, 94, 95, 96, 62, 63, 64, 122, 123, 124, 147, 148, 149, 150, 91, 17, 151, 152, 153, 154, 125, 126, 127, 459, 460, 461, 462, 463, 464, 465, 466, 467, 468, 469, 470, 471, 472, 473, 474, 475] (by decide +kernel) (by decide +kernel)) (goodIn_sub (fun _ h => List.mem_append_left _ (List.mem_append_right _ h)) (by decide +kernel))) (goodIn_sub (fun _ h => List.mem_append_left _ (List.mem_append_left _ (List.mem_append_right _ h))) (by decide +kernel))) (goodIn_sub (fun _ h => List.mem_append_right _ h) (by decide +kernel))
set_option maxRecDepth 20000 in
theorem gL_law_L_pour : GoodIn wsL_law (va_wsS RL 106 yL_pour wsL_pour) := goodIn_app (goodIn_of _ (by decide +kernel)) ggL_law_L_pour
set_option maxRecDepth 20000 in
theorem ggL_law_X1_pour : GoodIn wsL_law wsX1_pour := goodIn_r _ [158, 72, 34, 44, 132, 133, 134, 5, 135, 114, 76, 77, 78, 159, 160, 161, 162, 163, 164, 165, 166, 476, 477, 478, 479, 480, 481, 482, 483, 484, 485, 486, 487, 488, 489, 490, 491, 492, 493, 494, 495, 496, 497] (by decide +kernel) (by decide +kernel)
set_option maxRecDepth 20000 in
theorem gL_law_X1_pour : GoodIn wsL_law (wsV RL 108 RX1 yX1_pour wsX1_pour) := goodIn_app (goodIn_of _ (by decide +kernel)) ggL_law_X1_pour
set_option maxRecDepth 20000 in
theorem ggL_law_L_scrape : GoodIn wsL_law wsL_scrape := goodIn_ca (goodIn_r _ [169, 86, 170, 171, 172, 2, 173, 109, 92, 93, 94, 95, 96, 122, 123, 124, 174, 175, 176, 177, 91, 17, 125, 126, 127, 459, 460, 461, 462, 463, 464, 465, 466, 467, 468, 469, 470, 471, 472, 473, 474, 475] (by decide +kernel) (by decide +kernel)) (goodIn_sub (fun _ h => List.mem_append_right _ h) (by decide +kernel))
set_option maxRecDepth 20000 in
theorem gL_law_L_scrape : GoodIn wsL_law (va_wsS RL 109 yL_scrape wsL_scrape) := goodIn_app (goodIn_of _ (by decide +kernel)) ggL_law_L_scrape
set_option maxRecDepth 20000 in
theorem ggL_law_X1_scrape : GoodIn wsL_law wsX1_scrape := goodIn_r _ [181, 72, 33, 34, 132, 133, 134, 5, 135, 114, 76, 77, 78, 159, 160, 161, 162, 476, 477, 478, 479, 480, 481, 482, 483, 484, 485, 486, 487, 488, 489, 490, 491, 492, 493, 494, 495, 496, 497] (by decide +kernel) (by decide +kernel)
set_option maxRecDepth 20000 in
theorem gL_law_X1_scrape : GoodIn wsL_law (wsV RL 112 RX1 yX1_scrape wsX1_scrape) := goodIn_app (goodIn_of _ (by decide +kernel)) ggL_law_X1_scrape
set_option maxRecDepth 20000 in
theorem ggL_law_L_picture : GoodIn wsL_law wsL_picture := goodIn_ca (goodIn_r _ [184, 51, 185, 186, 187, 2, 188, 56, 57, 189, 459, 460, 461, 462, 463, 464, 465, 466, 467, 468, 469, 470, 471, 472, 473, 474, 475] (by decide +kernel) (by decide +kernel)) (goodIn_sub (fun _ h => List.mem_append_left _ (List.mem_append_left _ (List.mem_append_right _ h))) (by decide +kernel))
set_option maxRecDepth 20000 in
theorem gL_law_L_picture : GoodIn wsL_law (va_wsS RL 113 yL_picture wsL_picture) := goodIn_app (goodIn_of _ (by decide +kernel)) ggL_law_L_picture
set_option maxRecDepth 20000 in
theorem ggL_law_X1_picture : GoodIn wsL_law wsX1_picture := goodIn_r _ [193, 194, 72, 476, 477, 478, 479, 480, 481, 482, 483, 484, 485, 486, 487, 488, 489, 490, 491, 492, 493, 494, 495, 496, 497] (by decide +kernel) (by decide +kernel)
set_option maxRecDepth 20000 in
theorem gL_law_X1_picture : GoodIn wsL_law (wsV RL 115 RX1 yX1_picture wsX1_picture) := goodIn_app (goodIn_of _ (by decide +kernel)) ggL_law_X1_picture
set_option maxRecDepth 20000 in
theorem ggL_law_L_paint : GoodIn wsL_law wsL_paint := goodIn_ca (goodIn_ca (goodIn_ca (goodIn_r _ [197, 86, 50, 51, 198, 199, 200, 2, 201, 56, 57, 189, 109, 18, 92, 93, 94, 95, 96, 62, 63, 64, 65, 66, 202, 203, 204, 205, 206, 207, 208, 209, 21, 122, 123, 124, 210, 211, 212, 147, 148, 149, 150, 91, 17, 151, 152, 153, 154, 125, 126, 127, 459, 460, 461, 462, 463, 464, 465, 466, 467, 468, 469, 470, 471, 472, 473, 474, 475] (by decide +kernel) (by decide +kernel)) (goodIn_sub (fun _ h => List.mem_append_left _ (List.mem_append_left _ (List.mem_append_right _ h))) (by decide +kernel))) (goodIn_sub (fun _ h => List.mem_append_right _ h) (by decide +kernel))) (goodIn_sub (fun _ h => List.mem_append_left _ (List.mem_append_right _ h)) (by decide +kernel))
set_option maxRecDepth 20000 in
theorem gL_law_L_paint : GoodIn wsL_law (va_wsS RL 116 yL_paint wsL_paint) := goodIn_app (goodIn_of _ (by decide +kernel)) ggL_law_L_paint
set_option maxRecDepth 20000 in
theorem ggL_law_X1_paint : GoodIn wsL_law wsX1_paint := goodIn_r _ [216, 39, 35, 72, 36, 44, 217, 218, 219, 5, 220, 194, 76, 77, 78, 132, 133, 134, 135, 114, 159, 160, 161, 162, 34, 163, 164, 165, 166, 221, 222, 223, 476, 477, 478, 479, 480, 481, 482, 483, 484, 485, 486, 487, 488, 489, 490, 491, 492, 493, 494, 495, 496, 497] (by decide +kernel) (by decide +kernel)
set_option maxRecDepth 20000 in
theorem gL_law_X1_paint : GoodIn wsL_law (wsV RL 118 RX1 yX1_paint wsX1_paint) := goodIn_app (goodIn_of _ (by decide +kernel)) ggL_law_X1_paint
set_option maxRecDepth 20000 in
theorem ggL_law_L_clean : GoodIn wsL_law wsL_clean := goodIn_ca (goodIn_ca (goodIn_ca (goodIn_r _ [226, 86, 50, 51, 227, 228, 229, 2, 230, 56, 57, 189, 18, 92, 93, 94, 95, 96, 62, 63, 64, 65, 66, 202, 203, 204, 205, 206, 207, 208, 209, 21, 210, 211, 212, 174, 175, 176, 177, 91, 17, 125, 126, 127, 459, 460, 461, 462, 463, 464, 465, 466, 467, 468, 469, 470, 471, 472, 473, 474, 475] (by decide +kernel) (by decide +kernel)) (goodIn_sub (fun _ h => List.mem_append_left _ (List.mem_append_left _ (List.mem_append_right _ h))) (by decide +kernel))) (goodIn_sub (fun _ h => List.mem_append_right _ h) (by decide +kernel))) (goodIn_sub (fun _ h => List.mem_append_left _ (List.mem_append_right _ h)) (by decide +kernel))
set_option maxRecDepth 20000 in
theorem gL_law_L_clean : GoodIn wsL_law (va_wsS RL 119 yL_clean wsL_clean) := goodIn_app (goodIn_of _ (by decide +kernel)) ggL_law_L_clean
set_option maxRecDepth 20000 in
theorem ggL_law_X1_clean : GoodIn wsL_law wsX1_clean := goodIn_r _ [234, 39, 35, 72, 36, 33, 217, 218, 219, 5, 220, 194, 76, 77, 78, 221, 222, 223, 476, 477, 478, 479, 480, 481, 482, 483, 484, 485, 486, 487, 488, 489, 490, 491, 492, 493, 494, 495, 496, 497] (by decide +kernel) (by decide +kernel)
set_option maxRecDepth 20000 in
theorem gL_law_X1_clean : GoodIn wsL_law (wsV RL 121 RX1 yX1_clean wsX1_clean) := goodIn_app (goodIn_of _ (by decide +kernel)) ggL_law_X1_clean
set_option maxRecDepth 20000 in
theorem ggL_law_L_damp : GoodIn wsL_law wsL_damp := goodIn_ca (goodIn_ca (goodIn_r _ [237, 86, 50, 238, 239, 240, 2, 241, 24, 92, 93, 94, 95, 96, 62, 63, 64, 65, 66, 459, 460, 461, 462, 463, 464, 465, 466, 467, 468, 469, 470, 471, 472, 473, 474, 475] (by decide +kernel) (by decide +kernel)) (goodIn_sub (fun _ h => List.mem_append_right _ h) (by decide +kernel))) (goodIn_sub (fun _ h => List.mem_append_left _ (List.mem_append_right _ h)) (by decide +kernel))
set_option maxRecDepth 20000 in
theorem gL_law_L_damp : GoodIn wsL_law (va_wsS RL 122 yL_damp wsL_damp) := goodIn_app (goodIn_of _ (by decide +kernel)) ggL_law_L_damp
set_option maxRecDepth 20000 in
theorem ggL_law_X1_damp : GoodIn wsL_law wsX1_damp := goodIn_r _ [245, 72, 42, 246, 247, 5, 248, 76, 77, 78, 476, 477, 478, 479, 480, 481, 482, 483, 484, 485, 486, 487, 488, 489, 490, 491, 492, 493, 494, 495, 496, 497] (by decide +kernel) (by decide +kernel)
set_option maxRecDepth 20000 in
theorem gL_law_X1_damp : GoodIn wsL_law (wsV RL 124 RX1 yX1_damp wsX1_damp) := goodIn_app (goodIn_of _ (by decide +kernel)) ggL_law_X1_damp
set_option maxRecDepth 20000 in
theorem ggL_law_L_lend : GoodIn wsL_law wsL_lend := goodIn_ca (goodIn_ca (goodIn_ca (goodIn_r _ [251, 86, 50, 51, 252, 253, 254, 2, 255, 56, 57, 189, 19, 23, 22, 21, 92, 93, 94, 95, 96, 62, 63, 64, 65, 66, 202, 203, 204, 205, 206, 207, 208, 209, 256, 257, 258, 259, 260, 261, 262, 263, 264, 265, 266, 267, 20, 268, 269, 270, 271, 18, 210, 211, 212, 272, 273, 274, 275, 58, 276, 277, 278, 279, 91, 15, 17, 125, 126, 127, 459, 460, 461, 462, 463, 464, 465, 466, 467, 468, 469, 470, 471, 472, 473, 474, 475] (by decide +kernel) (by decide +kernel)) (goodIn_sub (fun _ h => List.mem_append_left _ (List.mem_append_left _ (List.mem_append_right _ h))) (by decide +kernel))) (goodIn_sub (fun _ h => List.mem_append_right _ h) (by decide +kernel))) (goodIn_sub (fun _ h => List.mem_append_left _ (List.mem_append_right _ h)) (by decide +kernel))
set_option maxRecDepth 20000 in
theorem gL_law_L_lend : GoodIn wsL_law (va_wsS RL 125 yL_lend wsL_lend) := goodIn_app (goodIn_of _ (by decide +kernel)) ggL_law_L_lend
set_option maxRecDepth 20000 in
theorem ggL_law_X1_lend : GoodIn wsL_law wsX1_lend := goodIn_r _ [283, 39, 37, 72, 40, 41, 217, 218, 219, 5, 220, 194, 76, 77, 78, 246, 247, 248, 284, 285, 286, 287, 38, 288, 289, 290, 291, 35, 45, 101, 31, 36, 221, 222, 223, 476, 477, 478, 479, 480, 481, 482, 483, 484, 485, 486, 487, 488, 489, 490, 491, 492, 493, 494, 495, 496, 497] (by decide +kernel) (by decide +kernel)
set_option maxRecDepth 20000 in
theorem gL_law_X1_lend : GoodIn wsL_law (wsV RL 127 RX1 yX1_lend wsX1_lend) := goodIn_app (goodIn_of _ (by decide +kernel)) ggL_law_X1_lend
set_option maxRecDepth 20000 in
theorem ggL_law_L_sell : GoodIn wsL_law wsL_sell := goodIn_ca (goodIn_ca (goodIn_ca (goodIn_r _ [294, 86, 50, 51, 295, 296, 297, 2, 298, 56, 57, 189, 299, 18, 20, 92, 93, 94, 95, 96, 62, 63, 64, 65, 66, 202, 203, 204, 205, 206, 207, 208, 209, 21, 256, 257, 258, 259, 19, 260, 261, 262, 263, 264, 265, 266, 267, 268, 269, 270, 271, 210, 211, 212, 272, 273, 274, 275, 58, 276, 277, 278, 279, 91, 15, 17, 125, 126, 127, 459, 460, 461, 462, 463, 464, 465, 466, 467, 468, 469, 470, 471, 472, 473, 474, 475] (by decide +kernel) (by decide +kernel)) (goodIn_sub (fun _ h => List.mem_append_left _ (List.mem_append_left _ (List.mem_append_right _ h))) (by decide +kernel))) (goodIn_sub (fun _ h => List.mem_append_right _ h) (by decide +kernel))) (goodIn_sub (fun _ h => List.mem_append_left _ (List.mem_append_right _ h)) (by decide +kernel))
set_option maxRecDepth 20000 in
theorem gL_law_L_sell : GoodIn wsL_law (va_wsS RL 128 yL_sell wsL_sell) := goodIn_app (goodIn_of _ (by decide +kernel)) ggL_law_L_sell
set_option maxRecDepth 20000 in
theorem ggL_law_X1_sell : GoodIn wsL_law wsX1_sell := goodIn_r _ [303, 304, 39, 35, 72, 38, 217, 218, 219, 5, 220, 194, 76, 77, 78, 284, 285, 286, 287, 37, 288, 289, 290, 291, 45, 101, 31, 36, 221, 222, 223, 476, 477, 478, 479, 480, 481, 482, 483, 484, 485, 486, 487, 488, 489, 490, 491, 492, 493, 494, 495, 496, 497] (by decide +kernel) (by decide +kernel)
set_option maxRecDepth 20000 in
theorem gL_law_X1_sell : GoodIn wsL_law (wsV RL 130 RX1 yX1_sell wsX1_sell) := goodIn_app (goodIn_of _ (by decide +kernel)) ggL_law_X1_sell
set_option maxRecDepth 20000 in
theorem ggL_law_L_pass : GoodIn wsL_law wsL_pass := goodIn_ca (goodIn_ca (goodIn_r _ [307, 50, 51, 308, 309, 310, 2, 311, 56, 57, 312, 189, 62, 63, 64, 65, 66, 313, 314, 315, 316, 21, 317, 318, 262, 319, 22, 24, 320, 321, 322, 19, 25, 23, 459, 460, 461, 462, 463, 464, 465, 466, 467, 468, 469, 470, 471, 472, 473, 474, 475] (by decide +kernel) (by decide +kernel)) (goodIn_sub (fun _ h => List.mem_append_left _ (List.mem_append_left _ (List.mem_append_right _ h))) (by decide +kernel))) (goodIn_sub (fun _ h => List.mem_append_left _ (List.mem_append_right _ h)) (by decide +kernel))
set_option maxRecDepth 20000 in
theorem gL_law_L_pass : GoodIn wsL_law (va_wsS RL 131 yL_pass wsL_pass) := goodIn_app (goodIn_of _ (by decide +kernel)) ggL_law_L_pass
set_option maxRecDepth 20000 in
theorem ggL_law_X1_pass : GoodIn wsL_law wsX1_pass := goodIn_r _ [326, 327, 72, 76, 77, 5, 78, 328, 329, 330, 331, 194, 39, 43, 41, 37, 42, 40, 476, 477, 478, 479, 480, 481, 482, 483, 484, 485, 486, 487, 488, 489, 490, 491, 492, 493, 494, 495, 496, 497] (by decide +kernel) (by decide +kernel)
set_option maxRecDepth 20000 in
theorem gL_law_X1_pass : GoodIn wsL_law (wsV RL 133 RX1 yX1_pass wsX1_pass) := goodIn_app (goodIn_of _ (by decide +kernel)) ggL_law_X1_pass
set_option maxRecDepth 20000 in
theorem ggL_law_L_left : GoodIn wsL_law wsL_left := goodIn_ca (goodIn_r _ [334, 86, 335, 336, 337, 2, 338, 91, 16, 92, 93, 94, 95, 96, 459, 460, 461, 462, 463, 464, 465, 466, 467, 468, 469, 470, 471, 472, 473, 474, 475] (by decide +kernel) (by decide +kernel)) (goodIn_sub (fun _ h => List.mem_append_right _ h) (by decide +kernel))
set_option maxRecDepth 20000 in
theorem gL_law_L_left : GoodIn wsL_law (va_wsS RL 134 yL_left wsL_left) := goodIn_app (goodIn_of _ (by decide +kernel)) ggL_law_L_left
set_option maxRecDepth 20000 in
theorem ggL_law_X1_left : GoodIn wsL_law wsX1_left := goodIn_r _ [342, 72, 32, 136, 137, 138, 5, 139, 101, 76, 77, 78, 476, 477, 478, 479, 480, 481, 482, 483, 484, 485, 486, 487, 488, 489, 490, 491, 492, 493, 494, 495, 496, 497] (by decide +kernel) (by decide +kernel)
set_option maxRecDepth 20000 in
theorem gL_law_X1_left : GoodIn wsL_law (wsV RL 136 RX1 yX1_left wsX1_left) := goodIn_app (goodIn_of _ (by decide +kernel)) ggL_law_X1_left
set_option maxRecDepth 20000 in
theorem ggL_law_L_has : GoodIn wsL_law wsL_has := goodIn_ca (goodIn_r _ [345, 86, 346, 347, 348, 2, 349, 109, 91, 17, 92, 93, 94, 95, 96, 122, 123, 124, 151, 152, 153, 154, 125, 126, 127, 459, 460, 461, 462, 463, 464, 465, 466, 467, 468, 469, 470, 471, 472, 473, 474, 475] (by decide +kernel) (by decide +kernel)) (goodIn_sub (fun _ h => List.mem_append_right _ h) (by decide +kernel))
set_option maxRecDepth 20000 in
theorem gL_law_L_has : GoodIn wsL_law (va_wsS RL 137 yL_has wsL_has) := goodIn_app (goodIn_of _ (by decide +kernel)) ggL_law_L_has
set_option maxRecDepth 20000 in
theorem ggL_law_X1_has : GoodIn wsL_law wsX1_has := goodIn_r _ [353, 72, 34, 132, 133, 134, 5, 135, 114, 76, 77, 78, 136, 137, 138, 139, 101, 159, 160, 161, 162, 476, 477, 478, 479, 480, 481, 482, 483, 484, 485, 486, 487, 488, 489, 490, 491, 492, 493, 494, 495, 496, 497] (by decide +kernel) (by decide +kernel)
set_option maxRecDepth 20000 in
theorem gL_law_X1_has : GoodIn wsL_law (wsV RL 139 RX1 yX1_has wsX1_has) := goodIn_app (goodIn_of _ (by decide +kernel)) ggL_law_X1_has
set_option maxRecDepth 20000 in
theorem ggL_law_L_colour : GoodIn wsL_law wsL_colour := goodIn_ca (goodIn_ca (goodIn_r _ [356, 86, 50, 357, 358, 359, 2, 360, 109, 92, 93, 94, 95, 96, 62, 63, 64, 65, 66, 122, 123, 124, 361, 362, 363, 364, 91, 17, 125, 126, 127, 365, 366, 367, 368, 14, 15, 459, 460, 461, 462, 463, 464, 465, 466, 467, 468, 469, 470, 471, 472, 473, 474, 475] (by decide +kernel) (by decide +kernel)) (goodIn_sub (fun _ h => List.mem_append_right _ h) (by decide +kernel))) (goodIn_sub (fun _ h => List.mem_append_left _ (List.mem_append_right _ h)) (by decide +kernel))
set_option maxRecDepth 20000 in
theorem gL_law_L_colour : GoodIn wsL_law (va_wsS RL 140 yL_colour wsL_colour) := goodIn_app (goodIn_of _ (by decide +kernel)) ggL_law_L_colour
set_option maxRecDepth 20000 in
theorem ggL_law_X1_colour : GoodIn wsL_law wsX1_colour := goodIn_r _ [372, 72, 101, 34, 30, 31, 132, 133, 134, 5, 135, 114, 76, 77, 78, 159, 160, 161, 162, 476, 477, 478, 479, 480, 481, 482, 483, 484, 485, 486, 487, 488, 489, 490, 491, 492, 493, 494, 495, 496, 497] (by decide +kernel) (by decide +kernel)
set_option maxRecDepth 20000 in
theorem gL_law_X1_colour : GoodIn wsL_law (wsV RL 142 RX1 yX1_colour wsX1_colour) := goodIn_app (goodIn_of _ (by decide +kernel)) ggL_law_X1_colour
set_option maxRecDepth 20000 in
theorem ggL_law_L_of : GoodIn wsL_law wsL_of := goodIn_ca (goodIn_ca (goodIn_r _ [375, 86, 50, 376, 377, 378, 2, 379, 189, 18, 19, 22, 21, 92, 93, 94, 95, 96, 62, 63, 64, 65, 66, 256, 257, 258, 259, 260, 261, 262, 263, 264, 265, 266, 267, 20, 268, 269, 270, 271, 210, 211, 212, 272, 273, 274, 275, 58, 276, 277, 278, 279, 91, 15, 17, 125, 126, 127, 206, 207, 208, 209, 380, 381, 382, 383, 361, 362, 363, 364, 365, 366, 367, 368, 14, 459, 460, 461, 462, 463, 464, 465, 466, 467, 468, 469, 470, 471, 472, 473, 474, 475] (by decide +kernel) (by decide +kernel)) (goodIn_sub (fun _ h => List.mem_append_right _ h) (by decide +kernel))) (goodIn_sub (fun _ h => List.mem_append_left _ (List.mem_append_right _ h)) (by decide +kernel))
set_option maxRecDepth 20000 in
theorem gL_law_L_of : GoodIn wsL_law (va_wsS RL 143 yL_of wsL_of) := goodIn_app (goodIn_of _ (by decide +kernel)) ggL_law_L_of
set_option maxRecDepth 20000 in
theorem ggL_law_X1_of : GoodIn wsL_law wsX1_of := goodIn_r _ [387, 72, 35, 37, 39, 40, 217, 218, 219, 5, 220, 194, 76, 77, 78, 284, 285, 286, 287, 38, 288, 289, 290, 291, 45, 101, 31, 36, 221, 222, 223, 388, 389, 390, 391, 30, 476, 477, 478, 479, 480, 481, 482, 483, 484, 485, 486, 487, 488, 489, 490, 491, 492, 493, 494, 495, 496, 497] (by decide +kernel) (by decide +kernel)
set_option maxRecDepth 20000 in
theorem gL_law_X1_of : GoodIn wsL_law (wsV RL 145 RX1 yX1_of wsX1_of) := goodIn_app (goodIn_of _ (by decide +kernel)) ggL_law_X1_of
set_option maxRecDepth 20000 in
theorem ggL_law_L_layer : GoodIn wsL_law wsL_layer := goodIn_ca (goodIn_r _ [394, 86, 395, 396, 397, 2, 398, 189, 18, 91, 17, 92, 93, 94, 95, 96, 210, 211, 212, 125, 126, 127, 459, 460, 461, 462, 463, 464, 465, 466, 467, 468, 469, 470, 471, 472, 473, 474, 475] (by decide +kernel) (by decide +kernel)) (goodIn_sub (fun _ h => List.mem_append_right _ h) (by decide +kernel))
set_option maxRecDepth 20000 in
theorem gL_law_L_layer : GoodIn wsL_law (va_wsS RL 146 yL_layer wsL_layer) := goodIn_app (goodIn_of _ (by decide +kernel)) ggL_law_L_layer
set_option maxRecDepth 20000 in
theorem ggL_law_X1_layer : GoodIn wsL_law wsX1_layer := goodIn_r _ [402, 35, 72, 36, 217, 218, 219, 5, 220, 194, 76, 77, 78, 136, 137, 138, 139, 101, 221, 222, 223, 476, 477, 478, 479, 480, 481, 482, 483, 484, 485, 486, 487, 488, 489, 490, 491, 492, 493, 494, 495, 496, 497] (by decide +kernel) (by decide +kernel)
set_option maxRecDepth 20000 in
theorem gL_law_X1_layer : GoodIn wsL_law (wsV RL 148 RX1 yX1_layer wsX1_layer) := goodIn_app (goodIn_of _ (by decide +kernel)) ggL_law_X1_layer
set_option maxRecDepth 20000 in
theorem ggL_law_L_where : GoodIn wsL_law wsL_where := goodIn_ca (goodIn_ca (goodIn_r _ [405, 86, 50, 406, 407, 408, 2, 409, 91, 16, 92, 93, 94, 95, 96, 62, 63, 64, 65, 66, 410, 411, 412, 413, 17, 125, 126, 127, 459, 460, 461, 462, 463, 464, 465, 466, 467, 468, 469, 470, 471, 472, 473, 474, 475] (by decide +kernel) (by decide +kernel)) (goodIn_sub (fun _ h => List.mem_append_right _ h) (by decide +kernel))) (goodIn_sub (fun _ h => List.mem_append_left _ (List.mem_append_right _ h)) (by decide +kernel))
set_option maxRecDepth 20000 in
theorem gL_law_L_where : GoodIn wsL_law (va_wsS RL 149 yL_where wsL_where) := goodIn_app (goodIn_of _ (by decide +kernel)) ggL_law_L_where
set_option maxRecDepth 20000 in
theorem ggL_law_X1_where : GoodIn wsL_law wsX1_where := goodIn_r _ [417, 72, 32, 33, 136, 137, 138, 5, 139, 101, 76, 77, 78, 418, 419, 420, 421, 114, 34, 422, 423, 424, 425, 36, 476, 477, 478, 479, 480, 481, 482, 483, 484, 485, 486, 487, 488, 489, 490, 491, 492, 493, 494, 495, 496, 497] (by decide +kernel) (by decide +kernel)
set_option maxRecDepth 20000 in
theorem gL_law_X1_where : GoodIn wsL_law (wsV RL 151 RX1 yX1_where wsX1_where) := goodIn_app (goodIn_of _ (by decide +kernel)) ggL_law_X1_where
set_option maxRecDepth 20000 in
theorem ggL_law_L_recipe : GoodIn wsL_law wsL_recipe := goodIn_ca (goodIn_r _ [428, 50, 429, 430, 431, 2, 432, 91, 16, 59, 60, 61, 62, 63, 64, 65, 66, 433, 434, 435, 436, 365, 366, 367, 368, 14, 15, 437, 438, 439, 459, 460, 461, 462, 463, 464, 465, 466, 467, 468, 469, 470, 471, 472, 473, 474, 475] (by decide +kernel) (by decide +kernel)) (goodIn_sub (fun _ h => List.mem_append_left _ (List.mem_append_right _ h)) (by decide +kernel))
set_option maxRecDepth 20000 in
theorem gL_law_L_recipe : GoodIn wsL_law (va_wsS RL 152 yL_recipe wsL_recipe) := goodIn_app (goodIn_of _ (by decide +kernel)) ggL_law_L_recipe
set_option maxRecDepth 20000 in
theorem ggL_law_X1_recipe : GoodIn wsL_law wsX1_recipe := goodIn_r _ [443, 72, 101, 32, 73, 74, 5, 75, 76, 77, 78, 444, 445, 446, 447, 30, 31, 476, 477, 478, 479, 480, 481, 482, 483, 484, 485, 486, 487, 488, 489, 490, 491, 492, 493, 494, 495, 496, 497] (by decide +kernel) (by decide +kernel)
set_option maxRecDepth 20000 in
theorem gL_law_X1_recipe : GoodIn wsL_law (wsV RL 154 RX1 yX1_recipe wsX1_recipe) := goodIn_app (goodIn_of _ (by decide +kernel)) ggL_law_X1_recipe
set_option maxRecDepth 20000 in
theorem ggL_law_L_paid : GoodIn wsL_law wsL_paid := goodIn_ca (goodIn_r _ [450, 86, 451, 452, 453, 2, 454, 25, 92, 93, 94, 95, 96, 459, 460, 461, 462, 463, 464, 465, 466, 467, 468, 469, 470, 471, 472, 473, 474, 475] (by decide +kernel) (by decide +kernel)) (goodIn_sub (fun _ h => List.mem_append_right _ h) (by decide +kernel))
set_option maxRecDepth 20000 in
theorem gL_law_L_paid : GoodIn wsL_law (va_wsS RL 155 yL_paid wsL_paid) := goodIn_app (goodIn_of _ (by decide +kernel)) ggL_law_L_paid
set_option maxRecDepth 20000 in
theorem ggL_law_X1_paid : GoodIn wsL_law wsX1_paid := goodIn_r _ [458, 72, 43, 246, 247, 5, 248, 76, 77, 78, 476, 477, 478, 479, 480, 481, 482, 483, 484, 485, 486, 487, 488, 489, 490, 491, 492, 493, 494, 495, 496, 497] (by decide +kernel) (by decide +kernel)
set_option maxRecDepth 20000 in
theorem gL_law_X1_paid : GoodIn wsL_law (wsV RL 157 RX1 yX1_paid wsX1_paid) := goodIn_app (goodIn_of _ (by decide +kernel)) ggL_law_X1_paid
