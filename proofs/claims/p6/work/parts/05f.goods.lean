set_option maxRecDepth 20000 in
theorem ggX4_flag_X0_become : GoodIn wsX4_flag wsX0_become := goodIn_pq _ [6] [7, 8, 9, 10, 16, 17, 18, 19] rfl (by decide +kernel) (by decide +kernel)
set_option maxRecDepth 20000 in
theorem gX4_flag_X0_become : GoodIn wsX4_flag (wsV RX4 64 RX0 yX0_become wsX0_become) := goodIn_app (goodIn_of _ (by decide +kernel)) ggX4_flag_X0_become
set_option maxRecDepth 20000 in
theorem ggX4_run_X3_step : GoodIn wsX4_run wsX3_step := goodIn_pq _ [9, 16, 28, 36, 41, 45, 52, 57, 62, 65, 70, 73, 78, 81, 85, 89, 94, 98, 102, 105, 110, 114, 118, 122, 126, 130, 134, 138, 144, 148, 152, 154, 159, 163, 167, 170, 174, 179, 183, 187, 191, 195, 199, 203, 207, 211, 215, 218, 224, 229, 233, 237, 241, 244, 248, 252] [10, 11, 12, 13, 14, 15, 17, 18, 19, 20, 21, 22, 23, 24, 25, 26, 27, 29, 30, 31, 32, 33, 34, 35, 37, 38, 39, 40, 42, 43, 44, 46, 47, 48, 49, 50, 51, 53, 54, 55, 56, 58, 59, 60, 61, 8, 63, 64, 66, 67, 68, 69, 71, 72, 74, 75, 76, 77, 79, 80, 82, 83, 84, 86, 87, 88, 90, 91, 92, 93, 95, 96, 97, 99, 100, 101, 103, 104, 106, 107, 108, 109, 111, 112, 113, 115, 116, 117, 119, 120, 121, 123, 124, 125, 127, 128, 129, 131, 132, 133, 135, 136, 137, 139, 140, 141, 142, 143, 145, 146, 147, 149, 150, 151, 153, 155, 156, 157, 158, 160, 161, 162, 164, 165, 166, 168, 169, 171, 172, 173, 175, 176, 177, 178, 180, 181, 182, 184, 185, 186, 188, 189, 190, 192, 193, 194, 196, 197, 198, 200, 201, 202, 204, 205, 206, 208, 209, 210, 212, 213, 214, 216, 217, 219, 220, 221, 222, 223, 225, 226, 227, 228, 230, 231, 232, 234, 235, 236, 238, 239, 240, 242, 243, 245, 246, 247, 249, 250, 251, 256, 257, 258, 259, 260, 261, 262, 263, 264, 265, 266, 267, 268] rfl (by decide +kernel) (by decide +kernel)
set_option maxRecDepth 20000 in
theorem gX4_run_X3_step : GoodIn wsX4_run (wsV RX4 74 RX3 yX3_step wsX3_step) := goodIn_app (goodIn_of _ (by decide +kernel)) ggX4_run_X3_step
set_option maxRecDepth 20000 in
theorem ggX4_clear_X1_empty : GoodIn wsX4_clear wsX1_empty := goodIn_pq _ [8, 14] [9, 10, 11, 12, 13, 41, 42, 43] rfl (by decide +kernel) (by decide +kernel)
set_option maxRecDepth 20000 in
theorem gX4_clear_X1_empty : GoodIn wsX4_clear (wsV RX4 86 RX1 yX1_empty wsX1_empty) := goodIn_app (goodIn_of _ (by decide +kernel)) ggX4_clear_X1_empty
set_option maxRecDepth 20000 in
theorem ggX4_clear_X3_empty : GoodIn wsX4_clear wsX3_empty := goodIn_pq _ [19, 26, 14, 33] [20, 21, 22, 23, 24, 25, 27, 28, 12, 13, 29, 30, 31, 32, 34, 35, 36, 37, 44, 45, 46, 47, 48, 49, 50, 51, 52, 53] rfl (by decide +kernel) (by decide +kernel)
set_option maxRecDepth 20000 in
theorem gX4_clear_X3_empty : GoodIn wsX4_clear (wsV RX4 89 RX3 yX3_empty wsX3_empty) := goodIn_app (goodIn_of _ (by decide +kernel)) ggX4_clear_X3_empty
set_option maxRecDepth 20000 in
theorem ggX4_needWordAt_X1_faultAt : GoodIn wsX4_needWordAt wsX1_faultAt := goodIn_pq _ [9] [10] rfl (by decide +kernel) (by decide +kernel)
set_option maxRecDepth 20000 in
theorem gX4_needWordAt_X1_faultAt : GoodIn wsX4_needWordAt (wsV RX4 90 RX1 yX1_faultAt wsX1_faultAt) := goodIn_app (goodIn_of _ (by decide +kernel)) ggX4_needWordAt_X1_faultAt
set_option maxRecDepth 20000 in
theorem ggX4_signed_X4_signOf : GoodIn wsX4_signed wsX4_signOf := goodIn_pq _ [4] [5] rfl (by decide +kernel) (by decide +kernel)
set_option maxRecDepth 20000 in
theorem gX4_signed_X4_signOf : GoodIn wsX4_signed (va_wsS RX4 94 yX4_signOf wsX4_signOf) := goodIn_app (goodIn_of _ (by decide +kernel)) ggX4_signed_X4_signOf
set_option maxRecDepth 20000 in
theorem ggX5_load_X5_isWord : GoodIn wsX5_load wsX5_isWord := goodIn_pq _ [6] [] rfl (by decide +kernel) (by decide +kernel)
set_option maxRecDepth 20000 in
theorem gX5_load_X5_isWord : GoodIn wsX5_load (va_wsS RX5 26 yX5_isWord wsX5_isWord) := goodIn_app (goodIn_of _ (by decide +kernel)) ggX5_load_X5_isWord
set_option maxRecDepth 20000 in
theorem ggX5_load_X5_setWord : GoodIn wsX5_load wsX5_setWord := goodIn_pq _ [10] [11, 12, 13, 14, 15, 16, 17, 18, 19, 20, 21, 22, 23, 24, 25, 26, 27, 28] rfl (by decide +kernel) (by decide +kernel)
set_option maxRecDepth 20000 in
theorem gX5_load_X5_setWord : GoodIn wsX5_load (wsV RX5 31 RX5 yX5_setWord wsX5_setWord) := goodIn_app (goodIn_of _ (by decide +kernel)) ggX5_load_X5_setWord
set_option maxRecDepth 20000 in
theorem ggX5_word_X5_isWord : GoodIn wsX5_word wsX5_isWord := goodIn_pq _ [5] [] rfl (by decide +kernel) (by decide +kernel)
set_option maxRecDepth 20000 in
theorem gX5_word_X5_isWord : GoodIn wsX5_word (va_wsS RX5 26 yX5_isWord wsX5_isWord) := goodIn_app (goodIn_of _ (by decide +kernel)) ggX5_word_X5_isWord
set_option maxRecDepth 20000 in
theorem ggX5_word_X5_wordAt : GoodIn wsX5_word wsX5_wordAt := goodIn_pq _ [9] [10, 11, 12, 13, 14, 15, 16, 17, 18, 19, 20, 21, 22, 23, 24, 25, 26, 27] rfl (by decide +kernel) (by decide +kernel)
set_option maxRecDepth 20000 in
theorem gX5_word_X5_wordAt : GoodIn wsX5_word (wsV RX5 35 RX5 yX5_wordAt wsX5_wordAt) := goodIn_app (goodIn_of _ (by decide +kernel)) ggX5_word_X5_wordAt
set_option maxRecDepth 20000 in
theorem ggX5_poke_X5_isWord : GoodIn wsX5_poke wsX5_isWord := goodIn_pq _ [6] [] rfl (by decide +kernel) (by decide +kernel)
set_option maxRecDepth 20000 in
theorem gX5_poke_X5_isWord : GoodIn wsX5_poke (va_wsS RX5 26 yX5_isWord wsX5_isWord) := goodIn_app (goodIn_of _ (by decide +kernel)) ggX5_poke_X5_isWord
set_option maxRecDepth 20000 in
theorem ggX5_poke_X5_wordAt : GoodIn wsX5_poke wsX5_wordAt := goodIn_pq _ [10] [11, 16, 17, 18, 19, 20, 21, 22, 23, 24, 25, 26, 27, 28, 29, 30, 31, 32] rfl (by decide +kernel) (by decide +kernel)
set_option maxRecDepth 20000 in
theorem gX5_poke_X5_wordAt : GoodIn wsX5_poke (wsV RX5 35 RX5 yX5_wordAt wsX5_wordAt) := goodIn_app (goodIn_of _ (by decide +kernel)) ggX5_poke_X5_wordAt
set_option maxRecDepth 20000 in
theorem ggX5_poke_X5_setWord : GoodIn wsX5_poke wsX5_setWord := goodIn_pq _ [15] [11, 16, 17, 18, 19, 20, 21, 22, 23, 24, 25, 26, 27, 28, 29, 30, 31, 32] rfl (by decide +kernel) (by decide +kernel)
set_option maxRecDepth 20000 in
theorem gX5_poke_X5_setWord : GoodIn wsX5_poke (wsV RX5 31 RX5 yX5_setWord wsX5_setWord) := goodIn_app (goodIn_of _ (by decide +kernel)) ggX5_poke_X5_setWord
set_option maxRecDepth 20000 in
theorem ggX5_read_X5_fail : GoodIn wsX5_read wsX5_fail := goodIn_pq _ [7] [1, 12, 13, 14, 15, 16, 17, 18, 19, 20, 21, 22, 23, 24, 25, 26, 27, 28] rfl (by decide +kernel) (by decide +kernel)
set_option maxRecDepth 20000 in
theorem gX5_read_X5_fail : GoodIn wsX5_read (wsV RX5 51 RX5 yX5_fail wsX5_fail) := goodIn_app (goodIn_of _ (by decide +kernel)) ggX5_read_X5_fail
set_option maxRecDepth 20000 in
theorem ggX5_read_X5_wordAt : GoodIn wsX5_read wsX5_wordAt := goodIn_pq _ [11] [2, 12, 13, 14, 15, 16, 17, 18, 19, 20, 21, 22, 23, 24, 25, 26, 27, 28] rfl (by decide +kernel) (by decide +kernel)
set_option maxRecDepth 20000 in
theorem gX5_read_X5_wordAt : GoodIn wsX5_read (wsV RX5 35 RX5 yX5_wordAt wsX5_wordAt) := goodIn_app (goodIn_of _ (by decide +kernel)) ggX5_read_X5_wordAt
set_option maxRecDepth 20000 in
theorem ggX5_fetch_X5_read : GoodIn wsX5_fetch wsX5_read := goodIn_pq _ [7, 13, 17] [8, 9, 10, 11, 12, 6, 14, 15, 16, 18, 19, 20, 21, 22, 23, 24, 25, 26, 27, 28, 29, 30, 31, 32, 33, 34] rfl (by decide +kernel) (by decide +kernel)
set_option maxRecDepth 20000 in
theorem gX5_fetch_X5_read : GoodIn wsX5_fetch (wsV RX5 55 RX5 yX5_read wsX5_read) := goodIn_app (goodIn_of _ (by decide +kernel)) ggX5_fetch_X5_read
set_option maxRecDepth 20000 in
theorem ggX5_find_X5_move : GoodIn wsX5_find wsX5_move := goodIn_pq _ [11] [5, 6, 29, 30, 31, 32, 33, 34, 35, 36, 37, 38, 39, 40, 41, 42, 43, 44, 45] rfl (by decide +kernel) (by decide +kernel)
set_option maxRecDepth 20000 in
theorem gX5_find_X5_move : GoodIn wsX5_find (wsV RX5 69 RX5 yX5_move wsX5_move) := goodIn_app (goodIn_of _ (by decide +kernel)) ggX5_find_X5_move
set_option maxRecDepth 20000 in
theorem ggX5_find_X5_read : GoodIn wsX5_find wsX5_read := goodIn_pq _ [15, 20, 24] [4, 16, 17, 18, 19, 10, 21, 22, 23, 29, 30, 31, 32, 33, 34, 35, 36, 37, 38, 39, 40, 41, 42, 43, 44, 45] rfl (by decide +kernel) (by decide +kernel)
set_option maxRecDepth 20000 in
theorem gX5_find_X5_read : GoodIn wsX5_find (wsV RX5 55 RX5 yX5_read wsX5_read) := goodIn_app (goodIn_of _ (by decide +kernel)) ggX5_find_X5_read
set_option maxRecDepth 20000 in
theorem ggX5_find_X5_fetch : GoodIn wsX5_find wsX5_fetch := goodIn_pq _ [28, 15, 20, 24] [5, 6, 12, 13, 14, 10, 4, 16, 17, 18, 19, 21, 22, 23, 29, 30, 31, 32, 33, 34, 35, 36, 37, 38, 39, 40, 41, 42, 43, 44, 45] rfl (by decide +kernel) (by decide +kernel)
set_option maxRecDepth 20000 in
theorem gX5_find_X5_fetch : GoodIn wsX5_find (wsV RX5 72 RX5 yX5_fetch wsX5_fetch) := goodIn_app (goodIn_of _ (by decide +kernel)) ggX5_find_X5_fetch
set_option maxRecDepth 20000 in
theorem ggX5_get_X5_read : GoodIn wsX5_get wsX5_read := goodIn_pq _ [10, 15, 19] [1, 11, 12, 13, 14, 9, 16, 17, 18, 20, 21, 22, 23, 24, 25, 26, 27, 28, 29, 30, 31, 32, 33, 34, 35, 36] rfl (by decide +kernel) (by decide +kernel)
set_option maxRecDepth 20000 in
theorem gX5_get_X5_read : GoodIn wsX5_get (wsV RX5 55 RX5 yX5_read wsX5_read) := goodIn_app (goodIn_of _ (by decide +kernel)) ggX5_get_X5_read
set_option maxRecDepth 20000 in
theorem ggX5_write_X5_read : GoodIn wsX5_write wsX5_read := goodIn_pq _ [15, 20, 24] [1, 16, 17, 18, 19, 14, 21, 22, 23, 25, 26, 27, 28, 29, 30, 31, 32, 33, 34, 35, 36, 37, 38, 39, 40, 41] rfl (by decide +kernel) (by decide +kernel)
set_option maxRecDepth 20000 in
theorem gX5_write_X5_read : GoodIn wsX5_write (wsV RX5 55 RX5 yX5_read wsX5_read) := goodIn_app (goodIn_of _ (by decide +kernel)) ggX5_write_X5_read
set_option maxRecDepth 20000 in
theorem ggX5_negative_X5_top : GoodIn wsX5_negative wsX5_top := goodIn_pq _ [5] [6, 7, 8, 9, 10, 11, 12, 13, 14, 15, 16, 17, 18, 19, 20, 21, 22, 23, 24] rfl (by decide +kernel) (by decide +kernel)
set_option maxRecDepth 20000 in
theorem gX5_negative_X5_top : GoodIn wsX5_negative (wsV RX5 87 RX5 yX5_top wsX5_top) := goodIn_app (goodIn_of _ (by decide +kernel)) ggX5_negative_X5_top
set_option maxRecDepth 20000 in
theorem ggX5_setBy_X5_negative : GoodIn wsX5_setBy wsX5_negative := goodIn_pq _ [5, 9] [6, 7, 8, 4, 10, 11, 22, 23, 24, 25, 26, 27, 28, 29, 30, 31, 32, 33, 34, 35, 36, 37, 38] rfl (by decide +kernel) (by decide +kernel)
set_option maxRecDepth 20000 in
theorem gX5_setBy_X5_negative : GoodIn wsX5_setBy (wsV RX5 93 RX5 yX5_negative wsX5_negative) := goodIn_app (goodIn_of _ (by decide +kernel)) ggX5_setBy_X5_negative
set_option maxRecDepth 20000 in
theorem ggX5_setBy_X5_mask : GoodIn wsX5_setBy wsX5_mask := goodIn_pq _ [15] [10, 16, 22, 23, 24, 25, 26, 27, 28, 29, 30, 31, 32, 33, 34, 35, 36, 37, 38] rfl (by decide +kernel) (by decide +kernel)
set_option maxRecDepth 20000 in
theorem gX5_setBy_X5_mask : GoodIn wsX5_setBy (wsV RX5 96 RX5 yX5_mask wsX5_mask) := goodIn_app (goodIn_of _ (by decide +kernel)) ggX5_setBy_X5_mask
set_option maxRecDepth 20000 in
theorem ggX5_setBy_X5_set : GoodIn wsX5_setBy wsX5_set := goodIn_pq _ [20] [21, 22, 23, 24, 25, 26, 27, 28, 29, 30, 31, 32, 33, 34, 35, 36, 37, 38] rfl (by decide +kernel) (by decide +kernel)
set_option maxRecDepth 20000 in
theorem gX5_setBy_X5_set : GoodIn wsX5_setBy (wsV RX5 99 RX5 yX5_set wsX5_set) := goodIn_app (goodIn_of _ (by decide +kernel)) ggX5_setBy_X5_set
set_option maxRecDepth 20000 in
theorem ggX5_two_X5_find : GoodIn wsX5_two wsX5_find := goodIn_pq _ [9, 16, 20, 25, 29, 33] [1, 2, 10, 11, 3, 12, 13, 14, 15, 8, 17, 18, 19, 21, 22, 23, 24, 26, 27, 28, 30, 31, 32, 71, 72, 73, 74, 75, 76, 77, 78, 79, 80, 81, 82, 83, 84, 85, 86, 87] rfl (by decide +kernel) (by decide +kernel)
set_option maxRecDepth 20000 in
theorem gX5_two_X5_find : GoodIn wsX5_two (wsV RX5 103 RX5 yX5_find wsX5_find) := goodIn_app (goodIn_of _ (by decide +kernel)) ggX5_two_X5_find
set_option maxRecDepth 20000 in
theorem ggX5_two_X5_get : GoodIn wsX5_two wsX5_get := goodIn_pq _ [37, 20, 25, 29] [11, 2, 1, 3, 10, 17, 18, 19, 8, 21, 22, 23, 24, 26, 27, 28, 71, 72, 73, 74, 75, 76, 77, 78, 79, 80, 81, 82, 83, 84, 85, 86, 87] rfl (by decide +kernel) (by decide +kernel)
set_option maxRecDepth 20000 in
theorem gX5_two_X5_get : GoodIn wsX5_two (wsV RX5 106 RX5 yX5_get wsX5_get) := goodIn_app (goodIn_of _ (by decide +kernel)) ggX5_two_X5_get
set_option maxRecDepth 20000 in
theorem ggX5_two_X5_has : GoodIn wsX5_two wsX5_has := goodIn_pq _ [41] [42, 71, 72, 73, 74, 75, 76, 77, 78, 79, 80, 81, 82, 83, 84, 85, 86, 87] rfl (by decide +kernel) (by decide +kernel)
set_option maxRecDepth 20000 in
theorem gX5_two_X5_has : GoodIn wsX5_two (wsV RX5 109 RX5 yX5_has wsX5_has) := goodIn_app (goodIn_of _ (by decide +kernel)) ggX5_two_X5_has
