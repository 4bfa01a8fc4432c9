set_option maxRecDepth 20000 in
theorem ggX5_does_X5_others : GoodIn wsX5_does wsX5_others := goodIn_pq _ [90, 95, 29, 13, 20, 24, 33, 37, 99, 41, 67, 71, 103, 45, 107, 110, 115, 121, 125, 63, 54, 58, 50, 129] [91, 8, 46, 92, 93, 94, 5, 14, 15, 72, 73, 74, 26, 27, 28, 10, 11, 12, 1, 7, 16, 17, 18, 19, 21, 22, 23, 25, 30, 31, 32, 34, 35, 36, 96, 97, 98, 9, 38, 39, 40, 64, 65, 66, 68, 69, 70, 100, 101, 102, 42, 43, 44, 104, 105, 106, 108, 109, 111, 112, 113, 114, 116, 117, 118, 119, 120, 59, 122, 123, 124, 60, 61, 62, 51, 52, 53, 55, 56, 57, 47, 48, 49, 126, 127, 128, 130, 131, 132, 133, 134, 135, 136, 137, 138, 139, 140, 141, 142, 143, 144, 145, 146] rfl (by decide +kernel) (by decide +kernel)
set_option maxRecDepth 20000 in
theorem gX5_does_X5_others : GoodIn wsX5_does (wsV RX5 140 RX5 yX5_others wsX5_others) := goodIn_app (goodIn_of _ (by decide +kernel)) ggX5_does_X5_others
set_option maxRecDepth 20000 in
theorem ggX5_others_X5_jump : GoodIn wsX5_others wsX5_jump := goodIn_pq _ [8, 17, 21, 28, 32, 37, 41] [9, 10, 2, 11, 12, 13, 14, 15, 16, 7, 18, 19, 20, 22, 23, 24, 25, 26, 27, 29, 30, 31, 33, 34, 35, 36, 38, 39, 40, 110, 111, 112, 113, 114, 115, 116, 117, 118, 119, 120, 121, 122, 123, 124, 125, 126] rfl (by decide +kernel) (by decide +kernel)
set_option maxRecDepth 20000 in
theorem gX5_others_X5_jump : GoodIn wsX5_others (wsV RX5 146 RX5 yX5_jump wsX5_jump) := goodIn_app (goodIn_of _ (by decide +kernel)) ggX5_others_X5_jump
set_option maxRecDepth 20000 in
theorem ggX5_others_X5_exchangeBytes : GoodIn wsX5_others wsX5_exchangeBytes := goodIn_pq _ [45, 21, 28, 32, 17, 37, 41, 50, 54, 58] [46, 18, 19, 20, 7, 22, 23, 9, 10, 2, 24, 25, 26, 27, 29, 30, 31, 33, 14, 15, 16, 34, 35, 36, 38, 39, 40, 47, 48, 49, 51, 52, 53, 3, 55, 56, 57, 11, 12, 13, 110, 111, 112, 113, 114, 115, 116, 117, 118, 119, 120, 121, 122, 123, 124, 125, 126] rfl (by decide +kernel) (by decide +kernel)
set_option maxRecDepth 20000 in
theorem gX5_others_X5_exchangeBytes : GoodIn wsX5_others (wsV RX5 150 RX5 yX5_exchangeBytes wsX5_exchangeBytes) := goodIn_app (goodIn_of _ (by decide +kernel)) ggX5_others_X5_exchangeBytes
set_option maxRecDepth 20000 in
theorem ggX5_others_X5_signOut : GoodIn wsX5_others wsX5_signOut := goodIn_pq _ [62, 21, 28, 32, 17, 37, 41, 50, 66, 54, 58] [24, 18, 19, 20, 7, 22, 23, 9, 10, 2, 25, 26, 27, 29, 30, 31, 33, 14, 15, 16, 34, 35, 36, 38, 39, 40, 47, 48, 49, 63, 64, 65, 3, 51, 52, 53, 55, 56, 57, 46, 11, 12, 13, 110, 111, 112, 113, 114, 115, 116, 117, 118, 119, 120, 121, 122, 123, 124, 125, 126] rfl (by decide +kernel) (by decide +kernel)
set_option maxRecDepth 20000 in
theorem gX5_others_X5_signOut : GoodIn wsX5_others (wsV RX5 153 RX5 yX5_signOut wsX5_signOut) := goodIn_app (goodIn_of _ (by decide +kernel)) ggX5_others_X5_signOut
set_option maxRecDepth 20000 in
theorem ggX5_others_X5_product : GoodIn wsX5_others wsX5_product := goodIn_pq _ [70, 21, 28, 32, 17, 37, 41, 50, 73, 54] [2, 24, 18, 19, 20, 7, 22, 23, 9, 10, 25, 26, 27, 29, 30, 31, 33, 14, 15, 16, 34, 35, 36, 38, 39, 40, 47, 48, 49, 71, 72, 74, 51, 52, 53, 3, 110, 111, 112, 113, 114, 115, 116, 117, 118, 119, 120, 121, 122, 123, 124, 125, 126] rfl (by decide +kernel) (by decide +kernel)
set_option maxRecDepth 20000 in
theorem gX5_others_X5_product : GoodIn wsX5_others (wsV RX5 156 RX5 yX5_product wsX5_product) := goodIn_app (goodIn_of _ (by decide +kernel)) ggX5_others_X5_product
set_option maxRecDepth 20000 in
theorem ggX5_others_X5_quotient : GoodIn wsX5_others wsX5_quotient := goodIn_pq _ [78, 17, 21, 28, 32, 37, 41, 50, 73, 54] [2, 10, 3, 79, 80, 24, 14, 15, 16, 7, 18, 19, 20, 22, 23, 9, 25, 26, 27, 29, 30, 31, 33, 34, 35, 36, 38, 39, 40, 47, 48, 49, 71, 72, 74, 51, 52, 53, 110, 111, 112, 113, 114, 115, 116, 117, 118, 119, 120, 121, 122, 123, 124, 125, 126] rfl (by decide +kernel) (by decide +kernel)
set_option maxRecDepth 20000 in
theorem gX5_others_X5_quotient : GoodIn wsX5_others (wsV RX5 159 RX5 yX5_quotient wsX5_quotient) := goodIn_app (goodIn_of _ (by decide +kernel)) ggX5_others_X5_quotient
set_option maxRecDepth 20000 in
theorem ggX5_others_X5_shift : GoodIn wsX5_others wsX5_shift := goodIn_pq _ [84, 21, 28, 32, 17, 37, 41, 50, 54] [2, 24, 85, 18, 19, 20, 7, 22, 23, 9, 10, 25, 26, 27, 29, 30, 31, 33, 14, 15, 16, 34, 35, 36, 38, 39, 40, 47, 48, 49, 51, 52, 53, 3, 110, 111, 112, 113, 114, 115, 116, 117, 118, 119, 120, 121, 122, 123, 124, 125, 126] rfl (by decide +kernel) (by decide +kernel)
set_option maxRecDepth 20000 in
theorem gX5_others_X5_shift : GoodIn wsX5_others (wsV RX5 162 RX5 yX5_shift wsX5_shift) := goodIn_app (goodIn_of _ (by decide +kernel)) ggX5_others_X5_shift
set_option maxRecDepth 20000 in
theorem ggX5_others_X5_either : GoodIn wsX5_others wsX5_either := goodIn_pq _ [89, 21, 28, 32, 17, 37, 41, 50, 66, 93, 97, 101, 105, 54, 58] [2, 18, 19, 20, 7, 22, 23, 9, 10, 24, 25, 26, 27, 29, 30, 31, 33, 14, 15, 16, 34, 35, 36, 38, 39, 40, 47, 48, 49, 63, 64, 65, 3, 90, 91, 92, 94, 95, 96, 98, 99, 100, 85, 102, 103, 104, 51, 52, 53, 55, 56, 57, 46, 11, 12, 13, 110, 111, 112, 113, 114, 115, 116, 117, 118, 119, 120, 121, 122, 123, 124, 125, 126] rfl (by decide +kernel) (by decide +kernel)
set_option maxRecDepth 20000 in
theorem gX5_others_X5_either : GoodIn wsX5_others (wsV RX5 165 RX5 yX5_either wsX5_either) := goodIn_app (goodIn_of _ (by decide +kernel)) ggX5_others_X5_either
set_option maxRecDepth 20000 in
theorem ggX5_others_X5_move : GoodIn wsX5_others wsX5_move := goodIn_pq _ [28] [2, 24, 110, 111, 112, 113, 114, 115, 116, 117, 118, 119, 120, 121, 122, 123, 124, 125, 126] rfl (by decide +kernel) (by decide +kernel)
set_option maxRecDepth 20000 in
theorem gX5_others_X5_move : GoodIn wsX5_others (wsV RX5 69 RX5 yX5_move wsX5_move) := goodIn_app (goodIn_of _ (by decide +kernel)) ggX5_others_X5_move
set_option maxRecDepth 20000 in
theorem ggX5_others_X5_back : GoodIn wsX5_others wsX5_back := goodIn_pq _ [109, 32, 17, 37, 28] [2, 29, 30, 31, 7, 10, 33, 14, 15, 16, 34, 35, 36, 25, 26, 27, 24, 110, 111, 112, 113, 114, 115, 116, 117, 118, 119, 120, 121, 122, 123, 124, 125, 126] rfl (by decide +kernel) (by decide +kernel)
set_option maxRecDepth 20000 in
theorem gX5_others_X5_back : GoodIn wsX5_others (wsV RX5 168 RX5 yX5_back wsX5_back) := goodIn_app (goodIn_of _ (by decide +kernel)) ggX5_others_X5_back
set_option maxRecDepth 20000 in
theorem ggX5_others_X5_fail : GoodIn wsX5_others wsX5_fail := goodIn_pq _ [17] [10, 110, 111, 112, 113, 114, 115, 116, 117, 118, 119, 120, 121, 122, 123, 124, 125, 126] rfl (by decide +kernel) (by decide +kernel)
set_option maxRecDepth 20000 in
theorem gX5_others_X5_fail : GoodIn wsX5_others (wsV RX5 51 RX5 yX5_fail wsX5_fail) := goodIn_app (goodIn_of _ (by decide +kernel)) ggX5_others_X5_fail
set_option maxRecDepth 20000 in
theorem ggX5_step_X5_fetch : GoodIn wsX5_step wsX5_fetch := goodIn_pq _ [20, 24, 28, 32] [1, 14, 21, 22, 23, 19, 5, 9, 25, 26, 27, 29, 30, 31, 143, 144, 145, 146, 147, 148, 149, 150, 151, 152, 153, 154, 155, 156, 157, 158, 159] rfl (by decide +kernel) (by decide +kernel)
set_option maxRecDepth 20000 in
theorem gX5_step_X5_fetch : GoodIn wsX5_step (wsV RX5 72 RX5 yX5_fetch wsX5_fetch) := goodIn_app (goodIn_of _ (by decide +kernel)) ggX5_step_X5_fetch
set_option maxRecDepth 20000 in
theorem ggX5_step_X5_does : GoodIn wsX5_step wsX5_does := goodIn_pq _ [36, 40, 46, 51, 24, 28, 32, 20, 55, 59, 63, 67, 71, 76, 80, 84, 88, 92, 96, 100, 104, 108, 112, 116, 119, 124, 130, 134, 138] [8, 37, 38, 39, 19, 41, 1, 42, 43, 44, 45, 47, 5, 14, 48, 49, 50, 21, 22, 23, 9, 25, 26, 27, 29, 30, 31, 16, 17, 18, 52, 53, 54, 56, 57, 58, 4, 60, 61, 62, 64, 65, 66, 68, 69, 70, 72, 73, 74, 75, 77, 78, 79, 81, 82, 83, 10, 6, 11, 85, 86, 87, 89, 90, 91, 93, 94, 95, 97, 98, 99, 7, 101, 102, 103, 105, 106, 107, 109, 110, 111, 113, 114, 115, 117, 118, 120, 121, 122, 123, 125, 126, 127, 128, 129, 131, 132, 133, 135, 136, 137, 143, 144, 145, 146, 147, 148, 149, 150, 151, 152, 153, 154, 155, 156, 157, 158, 159] rfl (by decide +kernel) (by decide +kernel)
set_option maxRecDepth 20000 in
theorem gX5_step_X5_does : GoodIn wsX5_step (wsV RX5 171 RX5 yX5_does wsX5_does) := goodIn_app (goodIn_of _ (by decide +kernel)) ggX5_step_X5_does
set_option maxRecDepth 20000 in
theorem ggX5_step_X5_setWord : GoodIn wsX5_step wsX5_setWord := goodIn_pq _ [142] [9, 143, 144, 145, 146, 147, 148, 149, 150, 151, 152, 153, 154, 155, 156, 157, 158, 159] rfl (by decide +kernel) (by decide +kernel)
set_option maxRecDepth 20000 in
theorem gX5_step_X5_setWord : GoodIn wsX5_step (wsV RX5 31 RX5 yX5_setWord wsX5_setWord) := goodIn_app (goodIn_of _ (by decide +kernel)) ggX5_step_X5_setWord
set_option maxRecDepth 20000 in
theorem ggX5_run_X5_step : GoodIn wsX5_run wsX5_step := goodIn_pq _ [9, 25, 29, 33, 37, 41, 45, 51, 56, 60, 64, 68, 72, 76, 81, 85, 89, 93, 97, 101, 105, 109, 113, 117, 121, 124, 129, 135, 139, 143, 147] [10, 11, 12, 13, 3, 14, 4, 15, 16, 17, 18, 19, 20, 21, 2, 22, 23, 24, 8, 26, 27, 28, 30, 31, 32, 34, 35, 36, 38, 39, 40, 42, 43, 44, 46, 47, 48, 49, 50, 52, 53, 54, 55, 57, 58, 59, 61, 62, 63, 65, 66, 67, 69, 70, 71, 73, 74, 75, 77, 78, 79, 80, 82, 83, 84, 86, 87, 88, 90, 91, 92, 94, 95, 96, 98, 99, 100, 102, 103, 104, 106, 107, 108, 110, 111, 112, 114, 115, 116, 118, 119, 120, 122, 123, 125, 126, 127, 128, 130, 131, 132, 133, 134, 136, 137, 138, 140, 141, 142, 144, 145, 146, 148, 149, 150, 151, 152, 153, 154, 155, 156, 157, 158, 159, 160, 161, 162, 163, 164] rfl (by decide +kernel) (by decide +kernel)
set_option maxRecDepth 20000 in
theorem gX5_run_X5_step : GoodIn wsX5_run (wsV RX5 174 RX5 yX5_step wsX5_step) := goodIn_app (goodIn_of _ (by decide +kernel)) ggX5_run_X5_step
set_option maxRecDepth 20000 in
theorem ggL_load_X4_load : GoodIn wsL_load wsX4_load := goodIn_ca (goodIn_pq _ [6, 11, 19, 24, 28, 33] [7, 8, 9, 10, 5, 12, 13, 14, 15, 16, 17, 18, 20, 21, 22, 23, 25, 26, 27, 29, 30, 31, 32, 34, 35, 36, 37, 38, 39, 40] rfl (by decide +kernel) (by decide +kernel)) (goodIn_sub (fun _ h => List.mem_cons_of_mem _ (List.mem_append_right _ h)) (by decide +kernel))
set_option maxRecDepth 20000 in
theorem gL_load_X4_load : GoodIn wsL_load (wsV RL 7 RX4 yX4_load wsX4_load) := goodIn_app (goodIn_of _ (by decide +kernel)) ggL_load_X4_load
set_option maxRecDepth 20000 in
theorem ggL_word_X4_word : GoodIn wsL_word wsX4_word := goodIn_ca (goodIn_pq _ [6, 12, 19, 24] [7, 8, 9, 10, 11, 5, 13, 14, 15, 16, 17, 18, 20, 21, 22, 23, 25, 26, 27, 28, 29, 30, 31] rfl (by decide +kernel) (by decide +kernel)) (goodIn_sub (fun _ h => List.mem_cons_of_mem _ (List.mem_append_right _ h)) (by decide +kernel))
set_option maxRecDepth 20000 in
theorem gL_word_X4_word : GoodIn wsL_word (wsV RL 15 RX4 yX4_word wsX4_word) := goodIn_app (goodIn_of _ (by decide +kernel)) ggL_word_X4_word
set_option maxRecDepth 20000 in
theorem ggL_poke_X4_poke : GoodIn wsL_poke wsX4_poke := goodIn_ca (goodIn_pq _ [6, 12, 19, 24, 29] [7, 8, 9, 10, 11, 5, 13, 14, 15, 16, 17, 18, 20, 21, 22, 23, 25, 26, 27, 28, 30, 31, 32, 33, 34, 35] rfl (by decide +kernel) (by decide +kernel)) (goodIn_sub (fun _ h => List.mem_cons_of_mem _ (List.mem_append_right _ h)) (by decide +kernel))
set_option maxRecDepth 20000 in
theorem gL_poke_X4_poke : GoodIn wsL_poke (wsV RL 19 RX4 yX4_poke wsX4_poke) := goodIn_app (goodIn_of _ (by decide +kernel)) ggL_poke_X4_poke
set_option maxRecDepth 20000 in
theorem ggL_register_X4_register : GoodIn wsL_register wsX4_register := goodIn_ca (goodIn_pq _ [6, 11] [7, 8, 9, 10, 5, 12, 13, 14, 15, 16, 17, 18, 19, 20, 21, 22] rfl (by decide +kernel) (by decide +kernel)) (goodIn_sub (fun _ h => List.mem_cons_of_mem _ (List.mem_append_right _ h)) (by decide +kernel))
set_option maxRecDepth 20000 in
theorem gL_register_X4_register : GoodIn wsL_register (wsV RL 23 RX4 yX4_register wsX4_register) := goodIn_app (goodIn_of _ (by decide +kernel)) ggL_register_X4_register
set_option maxRecDepth 20000 in
theorem ggL_put_X4_put : GoodIn wsL_put wsX4_put := goodIn_ca (goodIn_pq _ [6, 12] [7, 8, 9, 10, 11, 5, 13, 14, 15, 16, 17, 18, 19, 20, 21, 22, 23] rfl (by decide +kernel) (by decide +kernel)) (goodIn_sub (fun _ h => List.mem_cons_of_mem _ (List.mem_append_right _ h)) (by decide +kernel))
set_option maxRecDepth 20000 in
theorem gL_put_X4_put : GoodIn wsL_put (wsV RL 26 RX4 yX4_put wsX4_put) := goodIn_app (goodIn_of _ (by decide +kernel)) ggL_put_X4_put
set_option maxRecDepth 20000 in
theorem ggL_run_X4_run : GoodIn wsL_run wsX4_run := goodIn_ca (goodIn_pq _ [6, 15, 22, 34, 42, 47, 51, 58, 63, 68, 71, 76, 79, 84, 87, 91, 95, 100, 104, 108, 110, 115, 119, 123, 127, 131, 135, 139, 143, 149, 153, 157, 159, 164, 168, 172, 175, 179, 184, 188, 192, 196, 200, 204, 208, 212, 216, 220, 223, 229, 234, 238, 242, 246, 249, 253, 257] [7, 8, 9, 10, 11, 12, 13, 14, 16, 17, 18, 19, 20, 21, 23, 24, 25, 26, 27, 28, 29, 30, 31, 32, 33, 35, 36, 37, 38, 39, 40, 41, 43, 44, 45, 46, 48, 49, 50, 52, 53, 54, 55, 56, 57, 59, 60, 61, 62, 64, 65, 66, 67, 69, 70, 72, 73, 74, 75, 77, 78, 80, 81, 82, 83, 85, 86, 88, 89, 90, 92, 93, 94, 96, 97, 98, 99, 101, 102, 103, 105, 106, 107, 109, 5, 111, 112, 113, 114, 116, 117, 118, 120, 121, 122, 124, 125, 126, 128, 129, 130, 132, 133, 134, 136, 137, 138, 140, 141, 142, 144, 145, 146, 147, 148, 150, 151, 152, 154, 155, 156, 158, 160, 161, 162, 163, 165, 166, 167, 169, 170, 171, 173, 174, 176, 177, 178, 180, 181, 182, 183, 185, 186, 187, 189, 190, 191, 193, 194, 195, 197, 198, 199, 201, 202, 203, 205, 206, 207, 209, 210, 211, 213, 214, 215, 217, 218, 219, 221, 222, 224, 225, 226, 227, 228, 230, 231, 232, 233, 235, 236, 237, 239, 240, 241, 243, 244, 245, 247, 248, 250, 251, 252, 254, 255, 256, 258, 259, 260, 261, 262, 263, 264, 265, 266, 267, 268, 269, 270, 271, 272, 273] rfl (by decide +kernel) (by decide +kernel)) (goodIn_sub (fun _ h => List.mem_cons_of_mem _ (List.mem_append_right _ h)) (by decide +kernel))
set_option maxRecDepth 20000 in
theorem gL_run_X4_run : GoodIn wsL_run (wsV RL 30 RX4 yX4_run wsX4_run) := goodIn_app (goodIn_of _ (by decide +kernel)) ggL_run_X4_run
set_option maxRecDepth 20000 in
theorem ggL_output_X4_output : GoodIn wsL_output wsX4_output := goodIn_ca (goodIn_pq _ [6] [7, 8, 9, 10, 11, 12, 13, 14, 15] rfl (by decide +kernel) (by decide +kernel)) (goodIn_sub (fun _ h => List.mem_cons_of_mem _ (List.mem_append_right _ h)) (by decide +kernel))
set_option maxRecDepth 20000 in
theorem gL_output_X4_output : GoodIn wsL_output (wsV RL 35 RX4 yX4_output wsX4_output) := goodIn_app (goodIn_of _ (by decide +kernel)) ggL_output_X4_output
set_option maxRecDepth 20000 in
theorem ggL_law_X4_init : GoodIn wsL_law wsX4_init := goodIn_pq _ [9, 12, 22, 29, 40, 44] [10, 11, 13, 14, 15, 16, 17, 18, 19, 20, 21, 23, 24, 25, 26, 27, 28, 30, 31, 32, 33, 34, 35, 36, 37, 38, 39, 41, 42, 43, 45, 46, 47, 48, 631, 632, 633, 611, 612, 613, 634, 635, 636, 637, 638, 639, 640, 641, 642, 643] rfl (by decide +kernel) (by decide +kernel)
set_option maxRecDepth 20000 in
theorem gL_law_X4_init : GoodIn wsL_law (wsX4_init) := ggL_law_X4_init
set_option maxRecDepth 20000 in
theorem ggL_law_X5_init : GoodIn wsL_law wsX5_init := goodIn_pq _ [51, 12] [52, 11, 24, 53, 54, 55, 56, 614, 615, 616, 617, 618, 619, 620, 621, 622, 623, 624, 625, 626, 627, 628, 629, 630] rfl (by decide +kernel) (by decide +kernel)
set_option maxRecDepth 20000 in
theorem gL_law_X5_init : GoodIn wsL_law (wsX5_init) := ggL_law_X5_init
set_option maxRecDepth 20000 in
theorem ggL_law_L_load : GoodIn wsL_law wsL_load := goodIn_ca (goodIn_pq _ [65, 69, 76, 81, 85, 90] [60, 61, 62, 63, 64, 2, 16, 66, 67, 68, 70, 71, 72, 73, 74, 75, 15, 77, 78, 79, 80, 82, 83, 84, 86, 87, 88, 89, 25, 611, 612, 613, 631, 632, 633] rfl (by decide +kernel) (by decide +kernel)) (goodIn_sub (fun _ h => List.mem_append_left _ (List.mem_append_right _ h)) (by decide +kernel))
set_option maxRecDepth 20000 in
theorem gL_law_L_load : GoodIn wsL_law (va_wsS RL 42 yL_load wsL_load) := goodIn_app (goodIn_of _ (by decide +kernel)) ggL_law_L_load
set_option maxRecDepth 20000 in
theorem ggL_law_X5_load : GoodIn wsL_law wsX5_load := goodIn_pq _ [94, 99, 103] [95, 96, 97, 98, 5, 100, 101, 102, 53, 614, 615, 616, 617, 618, 619, 620, 621, 622, 623, 624, 625, 626, 627, 628, 629, 630] rfl (by decide +kernel) (by decide +kernel)
set_option maxRecDepth 20000 in
theorem gL_law_X5_load : GoodIn wsL_law (wsV RL 47 RX5 yX5_load wsX5_load) := goodIn_app (goodIn_of _ (by decide +kernel)) ggL_law_X5_load
set_option maxRecDepth 20000 in
theorem ggL_law_L_word : GoodIn wsL_law wsL_word := goodIn_ca (goodIn_pq _ [110, 69, 76, 114] [106, 61, 107, 108, 109, 2, 16, 72, 66, 67, 68, 70, 71, 73, 74, 75, 15, 77, 111, 112, 113, 25, 611, 612, 613, 631, 632, 633] rfl (by decide +kernel) (by decide +kernel)) (goodIn_sub (fun _ h => List.mem_append_left _ (List.mem_append_right _ h)) (by decide +kernel))
set_option maxRecDepth 20000 in
theorem gL_law_L_word : GoodIn wsL_law (va_wsS RL 48 yL_word wsL_word) := goodIn_app (goodIn_of _ (by decide +kernel)) ggL_law_L_word
set_option maxRecDepth 20000 in
theorem ggL_law_X5_word : GoodIn wsL_law wsX5_word := goodIn_pq _ [118, 99, 122] [95, 97, 98, 5, 119, 120, 121, 53, 614, 615, 616, 617, 618, 619, 620, 621, 622, 623, 624, 625, 626, 627, 628, 629, 630] rfl (by decide +kernel) (by decide +kernel)
set_option maxRecDepth 20000 in
theorem gL_law_X5_word : GoodIn wsL_law (wsV RL 51 RX5 yX5_word wsX5_word) := goodIn_app (goodIn_of _ (by decide +kernel)) ggL_law_X5_word
