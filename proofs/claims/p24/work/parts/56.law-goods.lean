set_option maxRecDepth 20000 in
theorem ggL_law_X0_init : GoodIn wsL_law wsX0_init := goodIn_r _ [6, 7, 8, 9, 3, 10, 11, 12, 13, 14, 15, 16, 17, 18, 19, 20, 21, 264, 265, 266, 267, 268, 269, 270, 271, 272, 273, 274, 275, 276, 277, 278, 279, 280] rfl (by decide +kernel)
set_option maxRecDepth 20000 in
theorem gL_law_X0_init : GoodIn wsL_law (wsX0_init) := ggL_law_X0_init
set_option maxRecDepth 20000 in
theorem ggL_law_L_cell : GoodIn wsL_law wsL_cell := goodIn_r _ [25, 26, 27] rfl (by decide +kernel)
set_option maxRecDepth 20000 in
theorem gL_law_L_cell : GoodIn wsL_law (va_wsS RL 104 yL_cell wsL_cell) := goodIn_app (goodIn_of _ (by decide +kernel)) ggL_law_L_cell
set_option maxRecDepth 20000 in
theorem ggL_law_L_low : GoodIn wsL_law wsL_low := goodIn_r _ [30, 31] rfl (by decide +kernel)
set_option maxRecDepth 20000 in
theorem gL_law_L_low : GoodIn wsL_law (va_wsS RL 51 yL_low wsL_low) := goodIn_app (goodIn_of _ (by decide +kernel)) ggL_law_L_low
set_option maxRecDepth 20000 in
theorem ggL_law_X0_pigment : GoodIn wsL_law wsX0_pigment := goodIn_ca (goodIn_ca (goodIn_r _ [35, 36, 37, 38, 10, 39, 40, 2, 41, 42, 43, 44, 45, 46, 264, 265, 266, 267, 268, 269, 270, 271, 272, 273, 274, 275, 276, 277, 278, 279, 280] rfl (by decide +kernel)) (goodIn_sub (fun _ h => List.mem_append_left _ (List.mem_append_left _ (List.mem_append_right _ h))) (by decide +kernel))) (goodIn_sub (fun _ h => List.mem_append_left _ (List.mem_append_right _ h)) (by decide +kernel))
set_option maxRecDepth 20000 in
theorem gL_law_X0_pigment : GoodIn wsL_law (wsV RL 108 RX0 yX0_pigment wsX0_pigment) := goodIn_app (goodIn_of _ (by decide +kernel)) ggL_law_X0_pigment
set_option maxRecDepth 20000 in
theorem ggL_law_X0_pot : GoodIn wsL_law wsX0_pot := goodIn_ca (goodIn_r _ [50, 36, 37, 51, 264, 265, 266, 267, 268, 269, 270, 271, 272, 273, 274, 275, 276, 277, 278, 279, 280] rfl (by decide +kernel)) (goodIn_sub (fun _ h => List.mem_append_left _ (List.mem_append_left _ (List.mem_append_right _ h))) (by decide +kernel))
set_option maxRecDepth 20000 in
theorem gL_law_X0_pot : GoodIn wsL_law (wsV RL 111 RX0 yX0_pot wsX0_pot) := goodIn_app (goodIn_of _ (by decide +kernel)) ggL_law_X0_pot
set_option maxRecDepth 20000 in
theorem ggL_law_X0_picture : GoodIn wsL_law wsX0_picture := goodIn_ca (goodIn_r _ [55, 36, 37, 56, 264, 265, 266, 267, 268, 269, 270, 271, 272, 273, 274, 275, 276, 277, 278, 279, 280] rfl (by decide +kernel)) (goodIn_sub (fun _ h => List.mem_append_left _ (List.mem_append_left _ (List.mem_append_right _ h))) (by decide +kernel))
set_option maxRecDepth 20000 in
theorem gL_law_X0_picture : GoodIn wsL_law (wsV RL 115 RX0 yX0_picture wsX0_picture) := goodIn_app (goodIn_of _ (by decide +kernel)) ggL_law_X0_picture
set_option maxRecDepth 20000 in
theorem ggL_law_X0_tube : GoodIn wsL_law wsX0_tube := goodIn_ca (goodIn_ca (goodIn_ca (goodIn_r _ [60, 36, 37, 38, 61, 11, 12, 62, 63, 2, 64, 65, 66, 42, 43, 44, 45, 46, 264, 265, 266, 267, 268, 269, 270, 271, 272, 273, 274, 275, 276, 277, 278, 279, 280] rfl (by decide +kernel)) (goodIn_sub (fun _ h => List.mem_append_left _ (List.mem_append_left _ (List.mem_append_right _ h))) (by decide +kernel))) (goodIn_sub (fun _ h => List.mem_append_right _ h) (by decide +kernel))) (goodIn_sub (fun _ h => List.mem_append_left _ (List.mem_append_right _ h)) (by decide +kernel))
set_option maxRecDepth 20000 in
theorem gL_law_X0_tube : GoodIn wsL_law (wsV RL 118 RX0 yX0_tube wsX0_tube) := goodIn_app (goodIn_of _ (by decide +kernel)) ggL_law_X0_tube
set_option maxRecDepth 20000 in
theorem ggL_law_L_mixes : GoodIn wsL_law wsL_mixes := goodIn_ca (goodIn_ca (goodIn_ca (goodIn_r _ [69, 70, 28, 29, 24, 30, 31, 71, 72, 73, 74, 75, 76, 77, 2, 78, 36, 37, 51, 61, 12, 13, 62, 63, 64, 65, 66, 42, 43, 44, 45, 46, 79, 80, 81, 82, 83, 84, 85, 86, 87, 88, 89, 90, 91, 92, 93, 94, 95, 96, 97, 98, 99, 100, 56, 14, 101, 102, 103, 104, 105, 106, 107, 108, 17, 109, 110, 111, 112, 113, 114, 115, 116, 117, 118, 119, 120, 121, 122, 123, 15, 19, 18, 124, 125, 126, 127, 128, 129, 130, 131, 132, 133, 134, 135, 16, 136, 137, 138, 139, 140, 141, 142, 143, 38, 144, 145, 146, 147, 11, 148, 149, 150, 151, 152, 153, 154, 155, 156, 157, 158, 159, 160, 161, 162, 163, 164, 165, 166, 167, 168, 264, 265, 266, 267, 268, 269, 270, 271, 272, 273, 274, 275, 276, 277, 278, 279, 280] rfl (by decide +kernel)) (goodIn_sub (fun _ h => List.mem_append_left _ (List.mem_append_left _ (List.mem_append_right _ h))) (by decide +kernel))) (goodIn_sub (fun _ h => List.mem_append_right _ h) (by decide +kernel))) (goodIn_sub (fun _ h => List.mem_append_left _ (List.mem_append_right _ h)) (by decide +kernel))
set_option maxRecDepth 20000 in
theorem gL_law_L_mixes : GoodIn wsL_law (va_wsS RL 121 yL_mixes wsL_mixes) := goodIn_app (goodIn_of _ (by decide +kernel)) ggL_law_L_mixes
set_option maxRecDepth 20000 in
theorem ggL_law_L_trades : GoodIn wsL_law wsL_trades := goodIn_ca (goodIn_ca (goodIn_ca (goodIn_r _ [171, 28, 29, 24, 30, 31, 172, 173, 174, 175, 176, 177, 163, 164, 165, 166, 167, 168, 71, 72, 73, 74, 75, 76, 77, 2, 78, 36, 37, 51, 61, 12, 13, 62, 63, 64, 65, 66, 42, 43, 44, 45, 46, 79, 80, 81, 82, 83, 84, 85, 86, 87, 88, 89, 90, 91, 92, 93, 94, 95, 96, 97, 98, 99, 100, 56, 14, 101, 102, 103, 104, 105, 106, 107, 108, 17, 109, 110, 111, 112, 113, 114, 115, 116, 117, 118, 119, 120, 121, 122, 123, 15, 19, 18, 124, 125, 126, 127, 128, 129, 130, 131, 132, 133, 134, 135, 16, 136, 137, 138, 139, 140, 141, 142, 143, 38, 144, 145, 146, 147, 11, 148, 149, 150, 151, 152, 178, 179, 180, 181, 20, 264, 265, 266, 267, 268, 269, 270, 271, 272, 273, 274, 275, 276, 277, 278, 279, 280] rfl (by decide +kernel)) (goodIn_sub (fun _ h => List.mem_append_left _ (List.mem_append_left _ (List.mem_append_right _ h))) (by decide +kernel))) (goodIn_sub (fun _ h => List.mem_append_right _ h) (by decide +kernel))) (goodIn_sub (fun _ h => List.mem_append_left _ (List.mem_append_right _ h)) (by decide +kernel))
set_option maxRecDepth 20000 in
theorem gL_law_L_trades : GoodIn wsL_law (va_wsS RL 125 yL_trades wsL_trades) := goodIn_app (goodIn_of _ (by decide +kernel)) ggL_law_L_trades
set_option maxRecDepth 20000 in
theorem ggL_law_L_day : GoodIn wsL_law wsL_day := goodIn_r _ [184] rfl (by decide +kernel)
set_option maxRecDepth 20000 in
theorem gL_law_L_day : GoodIn wsL_law (va_wsS RL 129 yL_day wsL_day) := goodIn_app (goodIn_of _ (by decide +kernel)) ggL_law_L_day
set_option maxRecDepth 20000 in
theorem ggL_law_X0_pass : GoodIn wsL_law wsX0_pass := goodIn_ca (goodIn_ca (goodIn_r _ [188, 36, 37, 189, 56, 42, 43, 2, 44, 45, 46, 190, 191, 192, 193, 17, 194, 195, 130, 196, 18, 20, 197, 198, 199, 15, 21, 19, 264, 265, 266, 267, 268, 269, 270, 271, 272, 273, 274, 275, 276, 277, 278, 279, 280] rfl (by decide +kernel)) (goodIn_sub (fun _ h => List.mem_append_left _ (List.mem_append_left _ (List.mem_append_right _ h))) (by decide +kernel))) (goodIn_sub (fun _ h => List.mem_append_left _ (List.mem_append_right _ h)) (by decide +kernel))
set_option maxRecDepth 20000 in
theorem gL_law_X0_pass : GoodIn wsL_law (wsV RL 133 RX0 yX0_pass wsX0_pass) := goodIn_app (goodIn_of _ (by decide +kernel)) ggL_law_X0_pass
set_option maxRecDepth 20000 in
theorem ggL_law_L_same : GoodIn wsL_law wsL_same := goodIn_ca (goodIn_ca (goodIn_r _ [202, 28, 29, 24, 30, 31, 163, 164, 165, 166, 167, 168, 203, 204, 205, 2, 206, 51, 61, 13, 62, 63, 64, 65, 66, 79, 80, 81, 93, 94, 95, 96, 82, 83, 84, 207, 208, 209, 210, 56, 14, 109, 110, 111, 153, 154, 155, 211, 212, 213, 214, 42, 43, 44, 45, 46, 215, 216, 217, 218, 219, 220, 221, 222, 10, 11, 223, 224, 225, 226, 227, 228, 229, 15, 18, 17, 124, 125, 126, 127, 128, 129, 130, 131, 132, 133, 134, 135, 16, 136, 137, 138, 139, 140, 141, 142, 143, 38, 144, 145, 146, 147, 105, 106, 107, 108, 230, 231, 232, 233, 172, 173, 174, 175, 176, 177, 234, 235, 236, 237, 21, 238, 239, 240, 241, 12, 242, 243, 244, 245, 246, 247, 248, 249, 250, 251, 252, 253, 39, 40, 41, 254, 255, 256, 257, 258, 259, 260, 261, 262, 263, 264, 265, 266, 267, 268, 269, 270, 271, 272, 273, 274, 275, 276, 277, 278, 279, 280] rfl (by decide +kernel)) (goodIn_sub (fun _ h => List.mem_append_right _ h) (by decide +kernel))) (goodIn_sub (fun _ h => List.mem_append_left _ (List.mem_append_right _ h)) (by decide +kernel))
set_option maxRecDepth 20000 in
theorem gL_law_L_same : GoodIn wsL_law (va_wsS RL 136 yL_same wsL_same) := goodIn_app (goodIn_of _ (by decide +kernel)) ggL_law_L_same
