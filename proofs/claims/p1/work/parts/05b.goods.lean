set_option maxRecDepth 20000 in
theorem ggX4_flags_X0_number : GoodIn wsX4_flags wsX0_number := goodIn_pq _ [6] [7, 8, 9, 10, 16, 17, 18, 19] rfl (by decide +kernel) (by decide +kernel)
set_option maxRecDepth 20000 in
theorem gX4_flags_X0_number : GoodIn wsX4_flags (wsV RX4 58 RX0 yX0_number wsX0_number) := goodIn_app (goodIn_of _ (by decide +kernel)) ggX4_flags_X0_number
set_option maxRecDepth 20000 in
theorem ggX4_flag_X0_become : GoodIn wsX4_flag wsX0_become := goodIn_pq _ [6] [7, 8, 9, 10, 16, 17, 18, 19] rfl (by decide +kernel) (by decide +kernel)
set_option maxRecDepth 20000 in
theorem gX4_flag_X0_become : GoodIn wsX4_flag (wsV RX4 64 RX0 yX0_become wsX0_become) := goodIn_app (goodIn_of _ (by decide +kernel)) ggX4_flag_X0_become
set_option maxRecDepth 20000 in
theorem ggX4_run_X3_step : GoodIn wsX4_run wsX3_step := goodIn_pq _ [9, 16, 28, 36, 41, 45, 52, 57, 62, 65, 70, 73, 78, 81, 85, 89, 94, 98, 102, 105, 110, 114, 118, 122, 126, 130, 134, 138, 144, 148, 152, 154, 159, 163, 167, 170, 174, 179, 183, 187, 191, 195, 199, 203, 207, 211, 215, 218, 224, 229, 233, 237, 241, 244, 248, 252] [10, 11, 12, 13, 14, 15, 17, 18, 19, 20, 21, 22, 23, 24, 25, 26, 27, 29, 30, 31, 32, 33, 34, 35, 37, 38, 39, 40, 42, 43, 44, 46, 47, 48, 49, 50, 51, 53, 54, 55, 56, 58, 59, 60, 61, 8, 63, 64, 66, 67, 68, 69, 71, 72, 74, 75, 76, 77, 79, 80, 82, 83, 84, 86, 87, 88, 90, 91, 92, 93, 95, 96, 97, 99, 100, 101, 103, 104, 106, 107, 108, 109, 111, 112, 113, 115, 116, 117, 119, 120, 121, 123, 124, 125, 127, 128, 129, 131, 132, 133, 135, 136, 137, 139, 140, 141, 142, 143, 145, 146, 147, 149, 150, 151, 153, 155, 156, 157, 158, 160, 161, 162, 164, 165, 166, 168, 169, 171, 172, 173, 175, 176, 177, 178, 180, 181, 182, 184, 185, 186, 188, 189, 190, 192, 193, 194, 196, 197, 198, 200, 201, 202, 204, 205, 206, 208, 209, 210, 212, 213, 214, 216, 217, 219, 220, 221, 222, 223, 225, 226, 227, 228, 230, 231, 232, 234, 235, 236, 238, 239, 240, 242, 243, 245, 246, 247, 249, 250, 251, 256, 257, 258, 259, 260, 261, 262, 263, 264, 265, 266, 267, 268] rfl (by decide +kernel) (by decide +kernel)
set_option maxRecDepth 20000 in
theorem gX4_run_X3_step : GoodIn wsX4_run (wsV RX4 74 RX3 yX3_step wsX3_step) := goodIn_app (goodIn_of _ (by decide +kernel)) ggX4_run_X3_step
set_option maxRecDepth 20000 in
theorem ggX4_clear_X1_empty : GoodIn wsX4_clear wsX1_empty := goodIn_pq _ [8, 14] [9, 10, 11, 12, 13, 41, 42, 43] rfl (by decide +kernel) (by decide +kernel)
set_option maxRecDepth 20000 in
theorem gX4_clear_X1_empty : GoodIn wsX4_clear (wsV RX4 86 RX1 yX1_empty wsX1_empty) := goodIn_app (goodIn_of _ (by decide +kernel)) ggX4_clear_X1_empty
set_option maxRecDepth 20000 in
theorem ggX4_clear_X3_empty : GoodIn wsX4_clear wsX3_empty := goodIn_pq _ [19, 26, 14, 33] [20, 21, 22, 23, 24, 25, 27, 28, 12, 13, 29, 30, 31, 32, 34, 35, 36, 37, 44, 45, 46, 47, 48, 49, 50, 51, 52, 53] rfl (by decide +kernel) (by decide +kernel)
set_option maxRecDepth 20000 in
theorem gX4_clear_X3_empty : GoodIn wsX4_clear (wsV RX4 89 RX3 yX3_empty wsX3_empty) := goodIn_app (goodIn_of _ (by decide +kernel)) ggX4_clear_X3_empty
set_option maxRecDepth 20000 in
theorem ggX4_needWordAt_X1_faultAt : GoodIn wsX4_needWordAt wsX1_faultAt := goodIn_pq _ [9] [10] rfl (by decide +kernel) (by decide +kernel)
set_option maxRecDepth 20000 in
theorem gX4_needWordAt_X1_faultAt : GoodIn wsX4_needWordAt (wsV RX4 90 RX1 yX1_faultAt wsX1_faultAt) := goodIn_app (goodIn_of _ (by decide +kernel)) ggX4_needWordAt_X1_faultAt
set_option maxRecDepth 20000 in
theorem ggX5_load_X5_isWord : GoodIn wsX5_load wsX5_isWord := goodIn_pq _ [6] [] rfl (by decide +kernel) (by decide +kernel)
set_option maxRecDepth 20000 in
theorem gX5_load_X5_isWord : GoodIn wsX5_load (va_wsS RX5 26 yX5_isWord wsX5_isWord) := goodIn_app (goodIn_of _ (by decide +kernel)) ggX5_load_X5_isWord
set_option maxRecDepth 20000 in
theorem ggX5_load_X5_setWord : GoodIn wsX5_load wsX5_setWord := goodIn_pq _ [10] [11, 12, 13, 14, 15, 16, 17, 18, 19, 20, 21, 22, 23, 24, 25, 26, 27, 28] rfl (by decide +kernel) (by decide +kernel)
set_option maxRecDepth 20000 in
theorem gX5_load_X5_setWord : GoodIn wsX5_load (wsV RX5 31 RX5 yX5_setWord wsX5_setWord) := goodIn_app (goodIn_of _ (by decide +kernel)) ggX5_load_X5_setWord
set_option maxRecDepth 20000 in
theorem ggX5_word_X5_isWord : GoodIn wsX5_word wsX5_isWord := goodIn_pq _ [5] [] rfl (by decide +kernel) (by decide +kernel)
set_option maxRecDepth 20000 in
theorem gX5_word_X5_isWord : GoodIn wsX5_word (va_wsS RX5 26 yX5_isWord wsX5_isWord) := goodIn_app (goodIn_of _ (by decide +kernel)) ggX5_word_X5_isWord
set_option maxRecDepth 20000 in
theorem ggX5_word_X5_wordAt : GoodIn wsX5_word wsX5_wordAt := goodIn_pq _ [9] [10, 11, 12, 13, 14, 15, 16, 17, 18, 19, 20, 21, 22, 23, 24, 25, 26, 27] rfl (by decide +kernel) (by decide +kernel)
set_option maxRecDepth 20000 in
theorem gX5_word_X5_wordAt : GoodIn wsX5_word (wsV RX5 35 RX5 yX5_wordAt wsX5_wordAt) := goodIn_app (goodIn_of _ (by decide +kernel)) ggX5_word_X5_wordAt
set_option maxRecDepth 20000 in
theorem ggX5_poke_X5_isWord : GoodIn wsX5_poke wsX5_isWord := goodIn_pq _ [6] [] rfl (by decide +kernel) (by decide +kernel)
set_option maxRecDepth 20000 in
theorem gX5_poke_X5_isWord : GoodIn wsX5_poke (va_wsS RX5 26 yX5_isWord wsX5_isWord) := goodIn_app (goodIn_of _ (by decide +kernel)) ggX5_poke_X5_isWord
set_option maxRecDepth 20000 in
theorem ggX5_poke_X5_wordAt : GoodIn wsX5_poke wsX5_wordAt := goodIn_pq _ [10] [11, 16, 17, 18, 19, 20, 21, 22, 23, 24, 25, 26, 27, 28, 29, 30, 31, 32] rfl (by decide +kernel) (by decide +kernel)
set_option maxRecDepth 20000 in
theorem gX5_poke_X5_wordAt : GoodIn wsX5_poke (wsV RX5 35 RX5 yX5_wordAt wsX5_wordAt) := goodIn_app (goodIn_of _ (by decide +kernel)) ggX5_poke_X5_wordAt
set_option maxRecDepth 20000 in
theorem ggX5_poke_X5_setWord : GoodIn wsX5_poke wsX5_setWord := goodIn_pq _ [15] [11, 16, 17, 18, 19, 20, 21, 22, 23, 24, 25, 26, 27, 28, 29, 30, 31, 32] rfl (by decide +kernel) (by decide +kernel)
set_option maxRecDepth 20000 in
theorem gX5_poke_X5_setWord : GoodIn wsX5_poke (wsV RX5 31 RX5 yX5_setWord wsX5_setWord) := goodIn_app (goodIn_of _ (by decide +kernel)) ggX5_poke_X5_setWord
set_option maxRecDepth 20000 in
theorem ggX5_read_X5_wordAt : GoodIn wsX5_read wsX5_wordAt := goodIn_pq _ [11] [2, 12, 13, 14, 15, 16, 17, 18, 19, 20, 21, 22, 23, 24, 25, 26, 27, 28] rfl (by decide +kernel) (by decide +kernel)
set_option maxRecDepth 20000 in
theorem gX5_read_X5_wordAt : GoodIn wsX5_read (wsV RX5 35 RX5 yX5_wordAt wsX5_wordAt) := goodIn_app (goodIn_of _ (by decide +kernel)) ggX5_read_X5_wordAt
set_option maxRecDepth 20000 in
theorem ggX5_fetch_X5_read : GoodIn wsX5_fetch wsX5_read := goodIn_pq _ [7, 13, 17] [8, 9, 10, 11, 12, 6, 14, 15, 16, 18, 19, 20, 21, 22, 23, 24, 25, 26, 27, 28, 29, 30, 31, 32, 33, 34] rfl (by decide +kernel) (by decide +kernel)
set_option maxRecDepth 20000 in
theorem gX5_fetch_X5_read : GoodIn wsX5_fetch (wsV RX5 55 RX5 yX5_read wsX5_read) := goodIn_app (goodIn_of _ (by decide +kernel)) ggX5_fetch_X5_read
set_option maxRecDepth 20000 in
theorem ggX5_does_X5_others : GoodIn wsX5_does wsX5_others := goodIn_pq _ [90, 95, 29, 13, 20, 24, 33, 37, 99, 41, 67, 71, 103, 45, 107, 110, 115, 121, 125, 63, 54, 58, 50, 129] [91, 8, 46, 92, 93, 94, 5, 14, 15, 72, 73, 74, 26, 27, 28, 10, 11, 12, 1, 7, 16, 17, 18, 19, 21, 22, 23, 25, 30, 31, 32, 34, 35, 36, 96, 97, 98, 9, 38, 39, 40, 64, 65, 66, 68, 69, 70, 100, 101, 102, 42, 43, 44, 104, 105, 106, 108, 109, 111, 112, 113, 114, 116, 117, 118, 119, 120, 59, 122, 123, 124, 60, 61, 62, 51, 52, 53, 55, 56, 57, 47, 48, 49, 126, 127, 128, 130, 131, 132, 133, 134, 135, 136, 137, 138, 139, 140, 141, 142, 143, 144, 145, 146] rfl (by decide +kernel) (by decide +kernel)
set_option maxRecDepth 20000 in
theorem gX5_does_X5_others : GoodIn wsX5_does (wsV RX5 140 RX5 yX5_others wsX5_others) := goodIn_app (goodIn_of _ (by decide +kernel)) ggX5_does_X5_others
set_option maxRecDepth 20000 in
theorem ggX5_step_X5_fetch : GoodIn wsX5_step wsX5_fetch := goodIn_pq _ [20, 24, 28, 32] [1, 14, 21, 22, 23, 19, 5, 9, 25, 26, 27, 29, 30, 31, 143, 144, 145, 146, 147, 148, 149, 150, 151, 152, 153, 154, 155, 156, 157, 158, 159] rfl (by decide +kernel) (by decide +kernel)
set_option maxRecDepth 20000 in
theorem gX5_step_X5_fetch : GoodIn wsX5_step (wsV RX5 72 RX5 yX5_fetch wsX5_fetch) := goodIn_app (goodIn_of _ (by decide +kernel)) ggX5_step_X5_fetch
set_option maxRecDepth 20000 in
theorem ggX5_step_X5_does : GoodIn wsX5_step wsX5_does := goodIn_pq _ [36, 40, 46, 51, 24, 28, 32, 20, 55, 59, 63, 67, 71, 76, 80, 84, 88, 92, 96, 100, 104, 108, 112, 116, 119, 124, 130, 134, 138] [8, 37, 38, 39, 19, 41, 1, 42, 43, 44, 45, 47, 5, 14, 48, 49, 50, 21, 22, 23, 9, 25, 26, 27, 29, 30, 31, 16, 17, 18, 52, 53, 54, 56, 57, 58, 4, 60, 61, 62, 64, 65, 66, 68, 69, 70, 72, 73, 74, 75, 77, 78, 79, 81, 82, 83, 10, 6, 11, 85, 86, 87, 89, 90, 91, 93, 94, 95, 97, 98, 99, 7, 101, 102, 103, 105, 106, 107, 109, 110, 111, 113, 114, 115, 117, 118, 120, 121, 122, 123, 125, 126, 127, 128, 129, 131, 132, 133, 135, 136, 137, 143, 144, 145, 146, 147, 148, 149, 150, 151, 152, 153, 154, 155, 156, 157, 158, 159] rfl (by decide +kernel) (by decide +kernel)
set_option maxRecDepth 20000 in
theorem gX5_step_X5_does : GoodIn wsX5_step (wsV RX5 171 RX5 yX5_does wsX5_does) := goodIn_app (goodIn_of _ (by decide +kernel)) ggX5_step_X5_does
set_option maxRecDepth 20000 in
theorem ggX5_step_X5_setWord : GoodIn wsX5_step wsX5_setWord := goodIn_pq _ [142] [9, 143, 144, 145, 146, 147, 148, 149, 150, 151, 152, 153, 154, 155, 156, 157, 158, 159] rfl (by decide +kernel) (by decide +kernel)
set_option maxRecDepth 20000 in
theorem gX5_step_X5_setWord : GoodIn wsX5_step (wsV RX5 31 RX5 yX5_setWord wsX5_setWord) := goodIn_app (goodIn_of _ (by decide +kernel)) ggX5_step_X5_setWord
set_option maxRecDepth 20000 in
theorem ggX5_run_X5_step : GoodIn wsX5_run wsX5_step := goodIn_pq _ [9, 25, 29, 33, 37, 41, 45, 51, 56, 60, 64, 68, 72, 76, 81, 85, 89, 93, 97, 101, 105, 109, 113, 117, 121, 124, 129, 135, 139, 143, 147] [10, 11, 12, 13, 3, 14, 4, 15, 16, 17, 18, 19, 20, 21, 2, 22, 23, 24, 8, 26, 27, 28, 30, 31, 32, 34, 35, 36, 38, 39, 40, 42, 43, 44, 46, 47, 48, 49, 50, 52, 53, 54, 55, 57, 58, 59, 61, 62, 63, 65, 66, 67, 69, 70, 71, 73, 74, 75, 77, 78, 79, 80, 82, 83, 84, 86, 87, 88, 90, 91, 92, 94, 95, 96, 98, 99, 100, 102, 103, 104, 106, 107, 108, 110, 111, 112, 114, 115, 116, 118, 119, 120, 122, 123, 125, 126, 127, 128, 130, 131, 132, 133, 134, 136, 137, 138, 140, 141, 142, 144, 145, 146, 148, 149, 150, 151, 152, 153, 154, 155, 156, 157, 158, 159, 160, 161, 162, 163, 164] rfl (by decide +kernel) (by decide +kernel)
set_option maxRecDepth 20000 in
theorem gX5_run_X5_step : GoodIn wsX5_run (wsV RX5 174 RX5 yX5_step wsX5_step) := goodIn_app (goodIn_of _ (by decide +kernel)) ggX5_run_X5_step
set_option maxRecDepth 20000 in
theorem ggL_load_X4_load : GoodIn wsL_load wsX4_load := goodIn_ca (goodIn_pq _ [6, 11, 19, 24, 28, 33] [7, 8, 9, 10, 5, 12, 13, 14, 15, 16, 17, 18, 20, 21, 22, 23, 25, 26, 27, 29, 30, 31, 32, 34, 35, 36, 37, 38, 39, 40] rfl (by decide +kernel) (by decide +kernel)) (goodIn_sub (fun _ h => List.mem_cons_of_mem _ (List.mem_append_right _ h)) (by decide +kernel))
set_option maxRecDepth 20000 in
theorem gL_load_X4_load : GoodIn wsL_load (wsV RL 7 RX4 yX4_load wsX4_load) := goodIn_app (goodIn_of _ (by decide +kernel)) ggL_load_X4_load
set_option maxRecDepth 20000 in
theorem ggL_word_X4_word : GoodIn wsL_word wsX4_word := goodIn_ca (goodIn_pq _ [6, 12, 19, 24] [7, 8, 9, 10, 11, 5, 13, 14, 15, 16, 17, 18, 20, 21, 22, 23, 25, 26, 27, 28, 29, 30, 31] rfl (by decide +kernel) (by decide +kernel)) (goodIn_sub (fun _ h => List.mem_cons_of_mem _ (List.mem_append_right _ h)) (by decide +kernel))
set_option maxRecDepth 20000 in
theorem gL_word_X4_word : GoodIn wsL_word (wsV RL 15 RX4 yX4_word wsX4_word) := goodIn_app (goodIn_of _ (by decide +kernel)) ggL_word_X4_word
set_option maxRecDepth 20000 in
theorem ggL_poke_X4_poke : GoodIn wsL_poke wsX4_poke := goodIn_ca (goodIn_pq _ [6, 12, 19, 24, 29] [7, 8, 9, 10, 11, 5, 13, 14, 15, 16, 17, 18, 20, 21, 22, 23, 25, 26, 27, 28, 30, 31, 32, 33, 34, 35] rfl (by decide +kernel) (by decide +kernel)) (goodIn_sub (fun _ h => List.mem_cons_of_mem _ (List.mem_append_right _ h)) (by decide +kernel))
set_option maxRecDepth 20000 in
theorem gL_poke_X4_poke : GoodIn wsL_poke (wsV RL 19 RX4 yX4_poke wsX4_poke) := goodIn_app (goodIn_of _ (by decide +kernel)) ggL_poke_X4_poke
set_option maxRecDepth 20000 in
theorem ggL_register_X4_register : GoodIn wsL_register wsX4_register := goodIn_ca (goodIn_pq _ [6, 11] [7, 8, 9, 10, 5, 12, 13, 14, 15, 16, 17, 18, 19, 20, 21, 22] rfl (by decide +kernel) (by decide +kernel)) (goodIn_sub (fun _ h => List.mem_cons_of_mem _ (List.mem_append_right _ h)) (by decide +kernel))
set_option maxRecDepth 20000 in
theorem gL_register_X4_register : GoodIn wsL_register (wsV RL 23 RX4 yX4_register wsX4_register) := goodIn_app (goodIn_of _ (by decide +kernel)) ggL_register_X4_register
set_option maxRecDepth 20000 in
theorem ggL_put_X4_put : GoodIn wsL_put wsX4_put := goodIn_ca (goodIn_pq _ [6, 12] [7, 8, 9, 10, 11, 5, 13, 14, 15, 16, 17, 18, 19, 20, 21, 22, 23] rfl (by decide +kernel) (by decide +kernel)) (goodIn_sub (fun _ h => List.mem_cons_of_mem _ (List.mem_append_right _ h)) (by decide +kernel))
set_option maxRecDepth 20000 in
theorem gL_put_X4_put : GoodIn wsL_put (wsV RL 26 RX4 yX4_put wsX4_put) := goodIn_app (goodIn_of _ (by decide +kernel)) ggL_put_X4_put
set_option maxRecDepth 20000 in
theorem ggL_run_X4_run : GoodIn wsL_run wsX4_run := goodIn_ca (goodIn_pq _ [6, 15, 22, 34, 42, 47, 51, 58, 63, 68, 71, 76, 79, 84, 87, 91, 95, 100, 104, 108, 110, 115, 119, 123, 127, 131, 135, 139, 143, 149, 153, 157, 159, 164, 168, 172, 175, 179, 184, 188, 192, 196, 200, 204, 208, 212, 216, 220, 223, 229, 234, 238, 242, 246, 249, 253, 257] [7, 8, 9, 10, 11, 12, 13, 14, 16, 17, 18, 19, 20, 21, 23, 24, 25, 26, 27, 28, 29, 30, 31, 32, 33, 35, 36, 37, 38, 39, 40, 41, 43, 44, 45, 46, 48, 49, 50, 52, 53, 54, 55, 56, 57, 59, 60, 61, 62, 64, 65, 66, 67, 69, 70, 72, 73, 74, 75, 77, 78, 80, 81, 82, 83, 85, 86, 88, 89, 90, 92, 93, 94, 96, 97, 98, 99, 101, 102, 103, 105, 106, 107, 109, 5, 111, 112, 113, 114, 116, 117, 118, 120, 121, 122, 124, 125, 126, 128, 129, 130, 132, 133, 134, 136, 137, 138, 140, 141, 142, 144, 145, 146, 147, 148, 150, 151, 152, 154, 155, 156, 158, 160, 161, 162, 163, 165, 166, 167, 169, 170, 171, 173, 174, 176, 177, 178, 180, 181, 182, 183, 185, 186, 187, 189, 190, 191, 193, 194, 195, 197, 198, 199, 201, 202, 203, 205, 206, 207, 209, 210, 211, 213, 214, 215, 217, 218, 219, 221, 222, 224, 225, 226, 227, 228, 230, 231, 232, 233, 235, 236, 237, 239, 240, 241, 243, 244, 245, 247, 248, 250, 251, 252, 254, 255, 256, 258, 259, 260, 261, 262, 263, 264, 265, 266, 267, 268, 269, 270, 271, 272, 273] rfl (by decide +kernel) (by decide +kernel)) (goodIn_sub (fun _ h => List.mem_cons_of_mem _ (List.mem_append_right _ h)) (by decide +kernel))
set_option maxRecDepth 20000 in
theorem gL_run_X4_run : GoodIn wsL_run (wsV RL 30 RX4 yX4_run wsX4_run) := goodIn_app (goodIn_of _ (by decide +kernel)) ggL_run_X4_run
set_option maxRecDepth 20000 in
theorem ggL_output_X4_output : GoodIn wsL_output wsX4_output := goodIn_ca (goodIn_pq _ [6] [7, 8, 9, 10, 11, 12, 13, 14, 15] rfl (by decide +kernel) (by decide +kernel)) (goodIn_sub (fun _ h => List.mem_cons_of_mem _ (List.mem_append_right _ h)) (by decide +kernel))
set_option maxRecDepth 20000 in
theorem gL_output_X4_output : GoodIn wsL_output (wsV RL 35 RX4 yX4_output wsX4_output) := goodIn_app (goodIn_of _ (by decide +kernel)) ggL_output_X4_output
set_option maxRecDepth 20000 in
theorem ggL_law_X4_init : GoodIn wsL_law wsX4_init := goodIn_pq _ [9, 12, 22, 29, 40, 44] [10, 11, 13, 14, 15, 16, 17, 18, 19, 20, 21, 23, 24, 25, 26, 27, 28, 30, 31, 32, 33, 34, 35, 36, 37, 38, 39, 41, 42, 43, 45, 46, 47, 48, 631, 632, 633, 611, 612, 613, 634, 635, 636, 637, 638, 639, 640, 641, 642, 643] rfl (by decide +kernel) (by decide +kernel)
set_option maxRecDepth 20000 in
theorem gL_law_X4_init : GoodIn wsL_law (wsX4_init) := ggL_law_X4_init
