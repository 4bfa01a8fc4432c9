set_option maxRecDepth 20000 in
theorem ggX5_product_X5_signed : GoodIn wsX5_product wsX5_signed := goodIn_pq _ [39] [40] rfl (by decide +kernel) (by decide +kernel)
set_option maxRecDepth 20000 in
theorem gX5_product_X5_signed : GoodIn wsX5_product (va_wsS RX5 120 yX5_signed wsX5_signed) := goodIn_app (goodIn_of _ (by decide +kernel)) ggX5_product_X5_signed
set_option maxRecDepth 20000 in
theorem ggX5_product_X5_set : GoodIn wsX5_product wsX5_set := goodIn_pq _ [44] [45, 46, 47, 48, 49, 50, 51, 52, 53, 54, 55, 56, 57, 58, 59, 60, 61, 62] rfl (by decide +kernel) (by decide +kernel)
set_option maxRecDepth 20000 in
theorem gX5_product_X5_set : GoodIn wsX5_product (wsV RX5 99 RX5 yX5_set wsX5_set) := goodIn_app (goodIn_of _ (by decide +kernel)) ggX5_product_X5_set
set_option maxRecDepth 20000 in
theorem ggX5_quotient_X5_fail : GoodIn wsX5_quotient wsX5_fail := goodIn_pq _ [11] [2, 48, 49, 50, 51, 52, 53, 54, 55, 56, 57, 58, 59, 60, 61, 62, 63, 64] rfl (by decide +kernel) (by decide +kernel)
set_option maxRecDepth 20000 in
theorem gX5_quotient_X5_fail : GoodIn wsX5_quotient (wsV RX5 51 RX5 yX5_fail wsX5_fail) := goodIn_app (goodIn_of _ (by decide +kernel)) ggX5_quotient_X5_fail
set_option maxRecDepth 20000 in
theorem ggX5_quotient_X5_find : GoodIn wsX5_quotient wsX5_find := goodIn_pq _ [15, 22, 26, 11, 31, 35] [16, 17, 18, 2, 1, 6, 19, 20, 21, 10, 23, 24, 25, 27, 7, 8, 9, 28, 29, 30, 32, 33, 34, 48, 49, 50, 51, 52, 53, 54, 55, 56, 57, 58, 59, 60, 61, 62, 63, 64] rfl (by decide +kernel) (by decide +kernel)
set_option maxRecDepth 20000 in
theorem gX5_quotient_X5_find : GoodIn wsX5_quotient (wsV RX5 103 RX5 yX5_find wsX5_find) := goodIn_app (goodIn_of _ (by decide +kernel)) ggX5_quotient_X5_find
set_option maxRecDepth 20000 in
theorem ggX5_quotient_X5_get : GoodIn wsX5_quotient wsX5_get := goodIn_pq _ [39, 26, 11, 31] [2, 17, 16, 1, 18, 23, 24, 25, 10, 27, 7, 8, 9, 28, 29, 30, 48, 49, 50, 51, 52, 53, 54, 55, 56, 57, 58, 59, 60, 61, 62, 63, 64] rfl (by decide +kernel) (by decide +kernel)
set_option maxRecDepth 20000 in
theorem gX5_quotient_X5_get : GoodIn wsX5_quotient (wsV RX5 106 RX5 yX5_get wsX5_get) := goodIn_app (goodIn_of _ (by decide +kernel)) ggX5_quotient_X5_get
set_option maxRecDepth 20000 in
theorem ggX5_quotient_X5_signed : GoodIn wsX5_quotient wsX5_signed := goodIn_pq _ [42] [43] rfl (by decide +kernel) (by decide +kernel)
set_option maxRecDepth 20000 in
theorem gX5_quotient_X5_signed : GoodIn wsX5_quotient (va_wsS RX5 120 yX5_signed wsX5_signed) := goodIn_app (goodIn_of _ (by decide +kernel)) ggX5_quotient_X5_signed
set_option maxRecDepth 20000 in
theorem ggX5_quotient_X5_set : GoodIn wsX5_quotient wsX5_set := goodIn_pq _ [47] [3, 48, 49, 50, 51, 52, 53, 54, 55, 56, 57, 58, 59, 60, 61, 62, 63, 64] rfl (by decide +kernel) (by decide +kernel)
set_option maxRecDepth 20000 in
theorem gX5_quotient_X5_set : GoodIn wsX5_quotient (wsV RX5 99 RX5 yX5_set wsX5_set) := goodIn_app (goodIn_of _ (by decide +kernel)) ggX5_quotient_X5_set
set_option maxRecDepth 20000 in
theorem ggX5_shift_X5_find : GoodIn wsX5_shift wsX5_find := goodIn_pq _ [8, 16, 20, 25, 29, 33] [9, 10, 11, 12, 1, 2, 13, 14, 15, 7, 17, 18, 19, 21, 22, 23, 24, 26, 27, 28, 30, 31, 32, 43, 44, 45, 46, 47, 48, 49, 50, 51, 52, 53, 54, 55, 56, 57, 58, 59] rfl (by decide +kernel) (by decide +kernel)
set_option maxRecDepth 20000 in
theorem gX5_shift_X5_find : GoodIn wsX5_shift (wsV RX5 103 RX5 yX5_find wsX5_find) := goodIn_app (goodIn_of _ (by decide +kernel)) ggX5_shift_X5_find
set_option maxRecDepth 20000 in
theorem ggX5_shift_X5_get : GoodIn wsX5_shift wsX5_get := goodIn_pq _ [37, 20, 25, 29] [12, 10, 9, 1, 11, 17, 18, 19, 7, 21, 22, 23, 24, 26, 27, 28, 43, 44, 45, 46, 47, 48, 49, 50, 51, 52, 53, 54, 55, 56, 57, 58, 59] rfl (by decide +kernel) (by decide +kernel)
set_option maxRecDepth 20000 in
theorem gX5_shift_X5_get : GoodIn wsX5_shift (wsV RX5 106 RX5 yX5_get wsX5_get) := goodIn_app (goodIn_of _ (by decide +kernel)) ggX5_shift_X5_get
set_option maxRecDepth 20000 in
theorem ggX5_shift_X5_set : GoodIn wsX5_shift wsX5_set := goodIn_pq _ [41] [42, 43, 44, 45, 46, 47, 48, 49, 50, 51, 52, 53, 54, 55, 56, 57, 58, 59] rfl (by decide +kernel) (by decide +kernel)
set_option maxRecDepth 20000 in
theorem gX5_shift_X5_set : GoodIn wsX5_shift (wsV RX5 99 RX5 yX5_set wsX5_set) := goodIn_app (goodIn_of _ (by decide +kernel)) ggX5_shift_X5_set
set_option maxRecDepth 20000 in
theorem ggX5_either_X5_find : GoodIn wsX5_either wsX5_find := goodIn_pq _ [6, 15, 19, 24, 28, 32] [7, 8, 9, 10, 1, 11, 12, 13, 14, 5, 16, 17, 18, 20, 21, 22, 23, 25, 26, 27, 29, 30, 31, 71, 72, 73, 74, 75, 76, 77, 78, 79, 80, 81, 82, 83, 84, 85, 86, 87] rfl (by decide +kernel) (by decide +kernel)
set_option maxRecDepth 20000 in
theorem gX5_either_X5_find : GoodIn wsX5_either (wsV RX5 103 RX5 yX5_find wsX5_find) := goodIn_app (goodIn_of _ (by decide +kernel)) ggX5_either_X5_find
set_option maxRecDepth 20000 in
theorem ggX5_either_X5_get : GoodIn wsX5_either wsX5_get := goodIn_pq _ [36, 19, 24, 28] [10, 8, 7, 1, 9, 16, 17, 18, 5, 20, 21, 22, 23, 25, 26, 27, 71, 72, 73, 74, 75, 76, 77, 78, 79, 80, 81, 82, 83, 84, 85, 86, 87] rfl (by decide +kernel) (by decide +kernel)
set_option maxRecDepth 20000 in
theorem gX5_either_X5_get : GoodIn wsX5_either (wsV RX5 106 RX5 yX5_get wsX5_get) := goodIn_app (goodIn_of _ (by decide +kernel)) ggX5_either_X5_get
set_option maxRecDepth 20000 in
theorem ggX5_either_X5_has : GoodIn wsX5_either wsX5_has := goodIn_pq _ [40] [41, 71, 72, 73, 74, 75, 76, 77, 78, 79, 80, 81, 82, 83, 84, 85, 86, 87] rfl (by decide +kernel) (by decide +kernel)
set_option maxRecDepth 20000 in
theorem gX5_either_X5_has : GoodIn wsX5_either (wsV RX5 109 RX5 yX5_has wsX5_has) := goodIn_app (goodIn_of _ (by decide +kernel)) ggX5_either_X5_has
set_option maxRecDepth 20000 in
theorem ggX5_either_X5_setBy : GoodIn wsX5_either wsX5_setBy := goodIn_pq _ [45, 49, 53, 58, 62] [46, 47, 48, 5, 50, 51, 52, 7, 54, 55, 56, 57, 11, 59, 60, 61, 41, 71, 72, 73, 74, 75, 76, 77, 78, 79, 80, 81, 82, 83, 84, 85, 86, 87] rfl (by decide +kernel) (by decide +kernel)
set_option maxRecDepth 20000 in
theorem gX5_either_X5_setBy : GoodIn wsX5_either (wsV RX5 112 RX5 yX5_setBy wsX5_setBy) := goodIn_app (goodIn_of _ (by decide +kernel)) ggX5_either_X5_setBy
set_option maxRecDepth 20000 in
theorem ggX5_either_X5_write : GoodIn wsX5_either wsX5_write := goodIn_pq _ [66, 19, 24, 28] [10, 8, 1, 7, 67, 11, 9, 68, 69, 70, 16, 17, 18, 5, 20, 21, 22, 23, 25, 26, 27, 71, 72, 73, 74, 75, 76, 77, 78, 79, 80, 81, 82, 83, 84, 85, 86, 87] rfl (by decide +kernel) (by decide +kernel)
set_option maxRecDepth 20000 in
theorem gX5_either_X5_write : GoodIn wsX5_either (wsV RX5 116 RX5 yX5_write wsX5_write) := goodIn_app (goodIn_of _ (by decide +kernel)) ggX5_either_X5_write
set_option maxRecDepth 20000 in
theorem ggX5_jump_X5_fail : GoodIn wsX5_jump wsX5_fail := goodIn_pq _ [11] [2, 36, 37, 38, 39, 40, 41, 42, 43, 44, 45, 46, 47, 48, 49, 50, 51, 52] rfl (by decide +kernel) (by decide +kernel)
set_option maxRecDepth 20000 in
theorem gX5_jump_X5_fail : GoodIn wsX5_jump (wsV RX5 51 RX5 yX5_fail wsX5_fail) := goodIn_app (goodIn_of _ (by decide +kernel)) ggX5_jump_X5_fail
set_option maxRecDepth 20000 in
theorem ggX5_jump_X5_find : GoodIn wsX5_jump wsX5_find := goodIn_pq _ [15, 22, 26, 11, 31, 35] [16, 17, 1, 2, 3, 18, 19, 20, 21, 10, 23, 24, 25, 27, 7, 8, 9, 28, 29, 30, 32, 33, 34, 36, 37, 38, 39, 40, 41, 42, 43, 44, 45, 46, 47, 48, 49, 50, 51, 52] rfl (by decide +kernel) (by decide +kernel)
set_option maxRecDepth 20000 in
theorem gX5_jump_X5_find : GoodIn wsX5_jump (wsV RX5 103 RX5 yX5_find wsX5_find) := goodIn_app (goodIn_of _ (by decide +kernel)) ggX5_jump_X5_find
set_option maxRecDepth 20000 in
theorem ggX5_jump_X5_move : GoodIn wsX5_jump wsX5_move := goodIn_pq _ [22] [3, 18, 36, 37, 38, 39, 40, 41, 42, 43, 44, 45, 46, 47, 48, 49, 50, 51, 52] rfl (by decide +kernel) (by decide +kernel)
set_option maxRecDepth 20000 in
theorem gX5_jump_X5_move : GoodIn wsX5_jump (wsV RX5 69 RX5 yX5_move wsX5_move) := goodIn_app (goodIn_of _ (by decide +kernel)) ggX5_jump_X5_move
set_option maxRecDepth 20000 in
theorem ggX5_jump_X5_read : GoodIn wsX5_jump wsX5_read := goodIn_pq _ [26, 11, 31] [2, 27, 7, 8, 9, 10, 28, 29, 30, 36, 37, 38, 39, 40, 41, 42, 43, 44, 45, 46, 47, 48, 49, 50, 51, 52] rfl (by decide +kernel) (by decide +kernel)
set_option maxRecDepth 20000 in
theorem gX5_jump_X5_read : GoodIn wsX5_jump (wsV RX5 55 RX5 yX5_read wsX5_read) := goodIn_app (goodIn_of _ (by decide +kernel)) ggX5_jump_X5_read
set_option maxRecDepth 20000 in
theorem ggX5_back_X5_read : GoodIn wsX5_back wsX5_read := goodIn_pq _ [6, 12, 16] [7, 8, 9, 10, 11, 5, 13, 14, 15, 22, 23, 24, 25, 26, 27, 28, 29, 30, 31, 32, 33, 34, 35, 36, 37, 38] rfl (by decide +kernel) (by decide +kernel)
set_option maxRecDepth 20000 in
theorem gX5_back_X5_read : GoodIn wsX5_back (wsV RX5 55 RX5 yX5_read wsX5_read) := goodIn_app (goodIn_of _ (by decide +kernel)) ggX5_back_X5_read
set_option maxRecDepth 20000 in
theorem ggX5_back_X5_move : GoodIn wsX5_back wsX5_move := goodIn_pq _ [20] [1, 21, 22, 23, 24, 25, 26, 27, 28, 29, 30, 31, 32, 33, 34, 35, 36, 37, 38] rfl (by decide +kernel) (by decide +kernel)
set_option maxRecDepth 20000 in
theorem gX5_back_X5_move : GoodIn wsX5_back (wsV RX5 69 RX5 yX5_move wsX5_move) := goodIn_app (goodIn_of _ (by decide +kernel)) ggX5_back_X5_move
set_option maxRecDepth 20000 in
theorem ggX5_goes_X5_has : GoodIn wsX5_goes wsX5_has := goodIn_pq _ [5] [6, 7, 8, 9, 10, 11, 12, 13, 14, 15, 16, 17, 18, 19, 20, 21, 22, 23] rfl (by decide +kernel) (by decide +kernel)
set_option maxRecDepth 20000 in
theorem gX5_goes_X5_has : GoodIn wsX5_goes (wsV RX5 109 RX5 yX5_has wsX5_has) := goodIn_app (goodIn_of _ (by decide +kernel)) ggX5_goes_X5_has
set_option maxRecDepth 20000 in
theorem ggX5_does_X5_two : GoodIn wsX5_does wsX5_two := goodIn_pq _ [6, 13, 20, 24, 29, 33, 37, 41, 45, 50, 54, 58, 63, 67, 71] [1, 7, 8, 9, 10, 11, 12, 5, 14, 15, 16, 17, 18, 19, 21, 22, 23, 25, 26, 27, 28, 30, 31, 32, 34, 35, 36, 38, 39, 40, 42, 43, 44, 46, 47, 48, 49, 51, 52, 53, 55, 56, 57, 59, 60, 61, 62, 64, 65, 66, 68, 69, 70, 72, 73, 74, 130, 131, 132, 133, 134, 135, 136, 137, 138, 139, 140, 141, 142, 143, 144, 145, 146] rfl (by decide +kernel) (by decide +kernel)
set_option maxRecDepth 20000 in
theorem gX5_does_X5_two : GoodIn wsX5_does (wsV RX5 127 RX5 yX5_two wsX5_two) := goodIn_app (goodIn_of _ (by decide +kernel)) ggX5_does_X5_two
set_option maxRecDepth 20000 in
theorem ggX5_does_X5_sum : GoodIn wsX5_does wsX5_sum := goodIn_pq _ [78, 13, 20, 24, 29, 33, 37, 41, 54, 58, 63, 50, 67, 71] [16, 10, 11, 12, 5, 1, 7, 14, 15, 8, 17, 18, 19, 21, 22, 23, 25, 26, 27, 28, 30, 31, 32, 34, 35, 36, 38, 39, 40, 51, 52, 53, 55, 56, 57, 59, 60, 61, 62, 47, 48, 49, 64, 65, 66, 46, 68, 69, 70, 9, 72, 73, 74, 130, 131, 132, 133, 134, 135, 136, 137, 138, 139, 140, 141, 142, 143, 144, 145, 146] rfl (by decide +kernel) (by decide +kernel)
set_option maxRecDepth 20000 in
theorem gX5_does_X5_sum : GoodIn wsX5_does (wsV RX5 130 RX5 yX5_sum wsX5_sum) := goodIn_app (goodIn_of _ (by decide +kernel)) ggX5_does_X5_sum
set_option maxRecDepth 20000 in
theorem ggX5_does_X5_goes : GoodIn wsX5_does wsX5_goes := goodIn_pq _ [82, 45] [42, 43, 44, 5, 46, 130, 131, 132, 133, 134, 135, 136, 137, 138, 139, 140, 141, 142, 143, 144, 145, 146] rfl (by decide +kernel) (by decide +kernel)
set_option maxRecDepth 20000 in
theorem gX5_does_X5_goes : GoodIn wsX5_does (wsV RX5 134 RX5 yX5_goes wsX5_goes) := goodIn_app (goodIn_of _ (by decide +kernel)) ggX5_does_X5_goes
set_option maxRecDepth 20000 in
theorem ggX5_does_X5_move : GoodIn wsX5_does wsX5_move := goodIn_pq _ [20] [8, 16, 130, 131, 132, 133, 134, 135, 136, 137, 138, 139, 140, 141, 142, 143, 144, 145, 146] rfl (by decide +kernel) (by decide +kernel)
set_option maxRecDepth 20000 in
theorem gX5_does_X5_move : GoodIn wsX5_does (wsV RX5 69 RX5 yX5_move wsX5_move) := goodIn_app (goodIn_of _ (by decide +kernel)) ggX5_does_X5_move
set_option maxRecDepth 20000 in
theorem ggX5_does_X5_one : GoodIn wsX5_does wsX5_one := goodIn_pq _ [86, 13, 20, 24, 29, 33, 37, 41, 45, 58, 50, 63, 54, 67, 71] [10, 11, 12, 5, 1, 7, 14, 15, 8, 16, 17, 18, 19, 21, 22, 23, 25, 26, 27, 28, 30, 31, 32, 34, 35, 36, 38, 39, 40, 42, 43, 44, 46, 55, 56, 57, 59, 47, 48, 49, 60, 61, 62, 51, 52, 53, 64, 65, 66, 68, 69, 70, 9, 72, 73, 74, 130, 131, 132, 133, 134, 135, 136, 137, 138, 139, 140, 141, 142, 143, 144, 145, 146] rfl (by decide +kernel) (by decide +kernel)
set_option maxRecDepth 20000 in
theorem gX5_does_X5_one : GoodIn wsX5_does (wsV RX5 137 RX5 yX5_one wsX5_one) := goodIn_app (goodIn_of _ (by decide +kernel)) ggX5_does_X5_one
set_option maxRecDepth 20000 in
theorem ggX5_does_X5_fail : GoodIn wsX5_does wsX5_fail := goodIn_pq _ [29] [15, 130, 131, 132, 133, 134, 135, 136, 137, 138, 139, 140, 141, 142, 143, 144, 145, 146] rfl (by decide +kernel) (by decide +kernel)
set_option maxRecDepth 20000 in
theorem gX5_does_X5_fail : GoodIn wsX5_does (wsV RX5 51 RX5 yX5_fail wsX5_fail) := goodIn_app (goodIn_of _ (by decide +kernel)) ggX5_does_X5_fail
