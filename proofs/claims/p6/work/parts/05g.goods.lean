set_option maxRecDepth 20000 in
theorem ggX5_two_X5_mask : GoodIn wsX5_two wsX5_mask := goodIn_pq _ [46] [1, 12, 71, 72, 73, 74, 75, 76, 77, 78, 79, 80, 81, 82, 83, 84, 85, 86, 87] rfl (by decide +kernel) (by decide +kernel)
set_option maxRecDepth 20000 in
theorem gX5_two_X5_mask : GoodIn wsX5_two (wsV RX5 96 RX5 yX5_mask wsX5_mask) := goodIn_app (goodIn_of _ (by decide +kernel)) ggX5_two_X5_mask
set_option maxRecDepth 20000 in
theorem ggX5_two_X5_negative : GoodIn wsX5_two wsX5_negative := goodIn_pq _ [50, 54] [51, 52, 53, 8, 1, 55, 71, 72, 73, 74, 75, 76, 77, 78, 79, 80, 81, 82, 83, 84, 85, 86, 87] rfl (by decide +kernel) (by decide +kernel)
set_option maxRecDepth 20000 in
theorem gX5_two_X5_negative : GoodIn wsX5_two (wsV RX5 93 RX5 yX5_negative wsX5_negative) := goodIn_app (goodIn_of _ (by decide +kernel)) ggX5_two_X5_negative
set_option maxRecDepth 20000 in
theorem ggX5_two_X5_setBy : GoodIn wsX5_two wsX5_setBy := goodIn_pq _ [59, 50, 54, 46, 63] [47, 48, 49, 8, 51, 52, 53, 1, 55, 43, 44, 45, 12, 60, 61, 62, 42, 71, 72, 73, 74, 75, 76, 77, 78, 79, 80, 81, 82, 83, 84, 85, 86, 87] rfl (by decide +kernel) (by decide +kernel)
set_option maxRecDepth 20000 in
theorem gX5_two_X5_setBy : GoodIn wsX5_two (wsV RX5 112 RX5 yX5_setBy wsX5_setBy) := goodIn_app (goodIn_of _ (by decide +kernel)) ggX5_two_X5_setBy
set_option maxRecDepth 20000 in
theorem ggX5_two_X5_write : GoodIn wsX5_two wsX5_write := goodIn_pq _ [67, 20, 25, 29] [11, 2, 3, 1, 4, 12, 10, 68, 69, 70, 17, 18, 19, 8, 21, 22, 23, 24, 26, 27, 28, 71, 72, 73, 74, 75, 76, 77, 78, 79, 80, 81, 82, 83, 84, 85, 86, 87] rfl (by decide +kernel) (by decide +kernel)
set_option maxRecDepth 20000 in
theorem gX5_two_X5_write : GoodIn wsX5_two (wsV RX5 116 RX5 yX5_write wsX5_write) := goodIn_app (goodIn_of _ (by decide +kernel)) ggX5_two_X5_write
set_option maxRecDepth 20000 in
theorem ggX5_sum_X5_find : GoodIn wsX5_sum wsX5_find := goodIn_pq _ [6, 15, 19, 24, 28, 32] [7, 8, 9, 10, 11, 1, 12, 13, 14, 5, 16, 17, 18, 20, 21, 22, 23, 25, 26, 27, 29, 30, 31, 67, 68, 69, 70, 71, 72, 73, 74, 75, 76, 77, 78, 79, 80, 81, 82, 83] rfl (by decide +kernel) (by decide +kernel)
set_option maxRecDepth 20000 in
theorem gX5_sum_X5_find : GoodIn wsX5_sum (wsV RX5 103 RX5 yX5_find wsX5_find) := goodIn_app (goodIn_of _ (by decide +kernel)) ggX5_sum_X5_find
set_option maxRecDepth 20000 in
theorem ggX5_sum_X5_get : GoodIn wsX5_sum wsX5_get := goodIn_pq _ [36, 19, 24, 28] [10, 8, 7, 11, 9, 16, 17, 18, 5, 20, 21, 22, 23, 25, 26, 27, 67, 68, 69, 70, 71, 72, 73, 74, 75, 76, 77, 78, 79, 80, 81, 82, 83] rfl (by decide +kernel) (by decide +kernel)
set_option maxRecDepth 20000 in
theorem gX5_sum_X5_get : GoodIn wsX5_sum (wsV RX5 106 RX5 yX5_get wsX5_get) := goodIn_app (goodIn_of _ (by decide +kernel)) ggX5_sum_X5_get
set_option maxRecDepth 20000 in
theorem ggX5_sum_X5_negative : GoodIn wsX5_sum wsX5_negative := goodIn_pq _ [40, 44] [41, 42, 43, 5, 7, 45, 67, 68, 69, 70, 71, 72, 73, 74, 75, 76, 77, 78, 79, 80, 81, 82, 83] rfl (by decide +kernel) (by decide +kernel)
set_option maxRecDepth 20000 in
theorem gX5_sum_X5_negative : GoodIn wsX5_sum (wsV RX5 93 RX5 yX5_negative wsX5_negative) := goodIn_app (goodIn_of _ (by decide +kernel)) ggX5_sum_X5_negative
set_option maxRecDepth 20000 in
theorem ggX5_sum_X5_setBy : GoodIn wsX5_sum wsX5_setBy := goodIn_pq _ [49, 40, 44, 53, 57] [37, 38, 39, 5, 41, 42, 43, 7, 45, 50, 51, 52, 1, 54, 55, 56, 58, 67, 68, 69, 70, 71, 72, 73, 74, 75, 76, 77, 78, 79, 80, 81, 82, 83] rfl (by decide +kernel) (by decide +kernel)
set_option maxRecDepth 20000 in
theorem gX5_sum_X5_setBy : GoodIn wsX5_sum (wsV RX5 112 RX5 yX5_setBy wsX5_setBy) := goodIn_app (goodIn_of _ (by decide +kernel)) ggX5_sum_X5_setBy
set_option maxRecDepth 20000 in
theorem ggX5_sum_X5_write : GoodIn wsX5_sum wsX5_write := goodIn_pq _ [62, 19, 24, 28] [10, 8, 11, 7, 63, 1, 9, 64, 65, 66, 16, 17, 18, 5, 20, 21, 22, 23, 25, 26, 27, 67, 68, 69, 70, 71, 72, 73, 74, 75, 76, 77, 78, 79, 80, 81, 82, 83] rfl (by decide +kernel) (by decide +kernel)
set_option maxRecDepth 20000 in
theorem gX5_sum_X5_write : GoodIn wsX5_sum (wsV RX5 116 RX5 yX5_write wsX5_write) := goodIn_app (goodIn_of _ (by decide +kernel)) ggX5_sum_X5_write
set_option maxRecDepth 20000 in
theorem ggX5_one_X5_find : GoodIn wsX5_one wsX5_find := goodIn_pq _ [5, 15, 19, 24, 28, 32] [6, 7, 8, 9, 10, 11, 12, 13, 14, 4, 16, 17, 18, 20, 21, 22, 23, 25, 26, 27, 29, 30, 31, 71, 72, 73, 74, 75, 76, 77, 78, 79, 80, 81, 82, 83, 84, 85, 86, 87] rfl (by decide +kernel) (by decide +kernel)
set_option maxRecDepth 20000 in
theorem gX5_one_X5_find : GoodIn wsX5_one (wsV RX5 103 RX5 yX5_find wsX5_find) := goodIn_app (goodIn_of _ (by decide +kernel)) ggX5_one_X5_find
set_option maxRecDepth 20000 in
theorem ggX5_one_X5_get : GoodIn wsX5_one wsX5_get := goodIn_pq _ [36, 19, 24, 28] [9, 7, 6, 10, 8, 16, 17, 18, 4, 20, 21, 22, 23, 25, 26, 27, 71, 72, 73, 74, 75, 76, 77, 78, 79, 80, 81, 82, 83, 84, 85, 86, 87] rfl (by decide +kernel) (by decide +kernel)
set_option maxRecDepth 20000 in
theorem gX5_one_X5_get : GoodIn wsX5_one (wsV RX5 106 RX5 yX5_get wsX5_get) := goodIn_app (goodIn_of _ (by decide +kernel)) ggX5_one_X5_get
set_option maxRecDepth 20000 in
theorem ggX5_one_X5_has : GoodIn wsX5_one wsX5_has := goodIn_pq _ [40] [41, 71, 72, 73, 74, 75, 76, 77, 78, 79, 80, 81, 82, 83, 84, 85, 86, 87] rfl (by decide +kernel) (by decide +kernel)
set_option maxRecDepth 20000 in
theorem gX5_one_X5_has : GoodIn wsX5_one (wsV RX5 109 RX5 yX5_has wsX5_has) := goodIn_app (goodIn_of _ (by decide +kernel)) ggX5_one_X5_has
set_option maxRecDepth 20000 in
theorem ggX5_one_X5_top : GoodIn wsX5_one wsX5_top := goodIn_pq _ [45] [6, 46, 71, 72, 73, 74, 75, 76, 77, 78, 79, 80, 81, 82, 83, 84, 85, 86, 87] rfl (by decide +kernel) (by decide +kernel)
set_option maxRecDepth 20000 in
theorem gX5_one_X5_top : GoodIn wsX5_one (wsV RX5 87 RX5 yX5_top wsX5_top) := goodIn_app (goodIn_of _ (by decide +kernel)) ggX5_one_X5_top
set_option maxRecDepth 20000 in
theorem ggX5_one_X5_mask : GoodIn wsX5_one wsX5_mask := goodIn_pq _ [50] [6, 11, 71, 72, 73, 74, 75, 76, 77, 78, 79, 80, 81, 82, 83, 84, 85, 86, 87] rfl (by decide +kernel) (by decide +kernel)
set_option maxRecDepth 20000 in
theorem gX5_one_X5_mask : GoodIn wsX5_one (wsV RX5 96 RX5 yX5_mask wsX5_mask) := goodIn_app (goodIn_of _ (by decide +kernel)) ggX5_one_X5_mask
set_option maxRecDepth 20000 in
theorem ggX5_one_X5_setBy : GoodIn wsX5_one wsX5_setBy := goodIn_pq _ [54, 58, 45, 50, 62] [55, 56, 57, 4, 42, 43, 44, 6, 46, 47, 48, 49, 11, 59, 60, 61, 41, 71, 72, 73, 74, 75, 76, 77, 78, 79, 80, 81, 82, 83, 84, 85, 86, 87] rfl (by decide +kernel) (by decide +kernel)
set_option maxRecDepth 20000 in
theorem gX5_one_X5_setBy : GoodIn wsX5_one (wsV RX5 112 RX5 yX5_setBy wsX5_setBy) := goodIn_app (goodIn_of _ (by decide +kernel)) ggX5_one_X5_setBy
set_option maxRecDepth 20000 in
theorem ggX5_one_X5_negative : GoodIn wsX5_one wsX5_negative := goodIn_pq _ [58, 45] [42, 43, 44, 4, 6, 46, 71, 72, 73, 74, 75, 76, 77, 78, 79, 80, 81, 82, 83, 84, 85, 86, 87] rfl (by decide +kernel) (by decide +kernel)
set_option maxRecDepth 20000 in
theorem gX5_one_X5_negative : GoodIn wsX5_one (wsV RX5 93 RX5 yX5_negative wsX5_negative) := goodIn_app (goodIn_of _ (by decide +kernel)) ggX5_one_X5_negative
set_option maxRecDepth 20000 in
theorem ggX5_one_X5_write : GoodIn wsX5_one wsX5_write := goodIn_pq _ [66, 19, 24, 28] [9, 7, 10, 6, 67, 11, 8, 68, 69, 70, 16, 17, 18, 4, 20, 21, 22, 23, 25, 26, 27, 71, 72, 73, 74, 75, 76, 77, 78, 79, 80, 81, 82, 83, 84, 85, 86, 87] rfl (by decide +kernel) (by decide +kernel)
set_option maxRecDepth 20000 in
theorem gX5_one_X5_write : GoodIn wsX5_one (wsV RX5 116 RX5 yX5_write wsX5_write) := goodIn_app (goodIn_of _ (by decide +kernel)) ggX5_one_X5_write
set_option maxRecDepth 20000 in
theorem ggX5_exchangeBytes_X5_find : GoodIn wsX5_exchangeBytes wsX5_find := goodIn_pq _ [6, 16, 20, 25, 29, 33] [7, 8, 9, 10, 11, 12, 13, 14, 15, 5, 17, 18, 19, 21, 22, 23, 24, 26, 27, 28, 30, 31, 32, 50, 51, 52, 53, 54, 55, 56, 57, 58, 59, 60, 61, 62, 63, 64, 65, 66] rfl (by decide +kernel) (by decide +kernel)
set_option maxRecDepth 20000 in
theorem gX5_exchangeBytes_X5_find : GoodIn wsX5_exchangeBytes (wsV RX5 103 RX5 yX5_find wsX5_find) := goodIn_app (goodIn_of _ (by decide +kernel)) ggX5_exchangeBytes_X5_find
set_option maxRecDepth 20000 in
theorem ggX5_exchangeBytes_X5_get : GoodIn wsX5_exchangeBytes wsX5_get := goodIn_pq _ [37, 20, 25, 29] [10, 8, 7, 11, 9, 17, 18, 19, 5, 21, 22, 23, 24, 26, 27, 28, 50, 51, 52, 53, 54, 55, 56, 57, 58, 59, 60, 61, 62, 63, 64, 65, 66] rfl (by decide +kernel) (by decide +kernel)
set_option maxRecDepth 20000 in
theorem gX5_exchangeBytes_X5_get : GoodIn wsX5_exchangeBytes (wsV RX5 106 RX5 yX5_get wsX5_get) := goodIn_app (goodIn_of _ (by decide +kernel)) ggX5_exchangeBytes_X5_get
set_option maxRecDepth 20000 in
theorem ggX5_exchangeBytes_X5_set : GoodIn wsX5_exchangeBytes wsX5_set := goodIn_pq _ [41] [42, 50, 51, 52, 53, 54, 55, 56, 57, 58, 59, 60, 61, 62, 63, 64, 65, 66] rfl (by decide +kernel) (by decide +kernel)
set_option maxRecDepth 20000 in
theorem gX5_exchangeBytes_X5_set : GoodIn wsX5_exchangeBytes (wsV RX5 99 RX5 yX5_set wsX5_set) := goodIn_app (goodIn_of _ (by decide +kernel)) ggX5_exchangeBytes_X5_set
set_option maxRecDepth 20000 in
theorem ggX5_exchangeBytes_X5_write : GoodIn wsX5_exchangeBytes wsX5_write := goodIn_pq _ [46, 20, 25, 29] [10, 8, 11, 7, 1, 12, 9, 47, 48, 49, 17, 18, 19, 5, 21, 22, 23, 24, 26, 27, 28, 50, 51, 52, 53, 54, 55, 56, 57, 58, 59, 60, 61, 62, 63, 64, 65, 66] rfl (by decide +kernel) (by decide +kernel)
set_option maxRecDepth 20000 in
theorem gX5_exchangeBytes_X5_write : GoodIn wsX5_exchangeBytes (wsV RX5 116 RX5 yX5_write wsX5_write) := goodIn_app (goodIn_of _ (by decide +kernel)) ggX5_exchangeBytes_X5_write
set_option maxRecDepth 20000 in
theorem ggX5_signOut_X5_find : GoodIn wsX5_signOut wsX5_find := goodIn_pq _ [6, 15, 19, 24, 28, 32] [7, 8, 9, 10, 11, 1, 12, 13, 14, 5, 16, 17, 18, 20, 21, 22, 23, 25, 26, 27, 29, 30, 31, 54, 55, 56, 57, 58, 59, 60, 61, 62, 63, 64, 65, 66, 67, 68, 69, 70] rfl (by decide +kernel) (by decide +kernel)
set_option maxRecDepth 20000 in
theorem gX5_signOut_X5_find : GoodIn wsX5_signOut (wsV RX5 103 RX5 yX5_find wsX5_find) := goodIn_app (goodIn_of _ (by decide +kernel)) ggX5_signOut_X5_find
set_option maxRecDepth 20000 in
theorem ggX5_signOut_X5_get : GoodIn wsX5_signOut wsX5_get := goodIn_pq _ [36, 19, 24, 28] [10, 8, 7, 11, 9, 16, 17, 18, 5, 20, 21, 22, 23, 25, 26, 27, 54, 55, 56, 57, 58, 59, 60, 61, 62, 63, 64, 65, 66, 67, 68, 69, 70] rfl (by decide +kernel) (by decide +kernel)
set_option maxRecDepth 20000 in
theorem gX5_signOut_X5_get : GoodIn wsX5_signOut (wsV RX5 106 RX5 yX5_get wsX5_get) := goodIn_app (goodIn_of _ (by decide +kernel)) ggX5_signOut_X5_get
set_option maxRecDepth 20000 in
theorem ggX5_signOut_X5_has : GoodIn wsX5_signOut wsX5_has := goodIn_pq _ [40] [41, 54, 55, 56, 57, 58, 59, 60, 61, 62, 63, 64, 65, 66, 67, 68, 69, 70] rfl (by decide +kernel) (by decide +kernel)
set_option maxRecDepth 20000 in
theorem gX5_signOut_X5_has : GoodIn wsX5_signOut (wsV RX5 109 RX5 yX5_has wsX5_has) := goodIn_app (goodIn_of _ (by decide +kernel)) ggX5_signOut_X5_has
set_option maxRecDepth 20000 in
theorem ggX5_signOut_X5_set : GoodIn wsX5_signOut wsX5_set := goodIn_pq _ [45] [41, 54, 55, 56, 57, 58, 59, 60, 61, 62, 63, 64, 65, 66, 67, 68, 69, 70] rfl (by decide +kernel) (by decide +kernel)
set_option maxRecDepth 20000 in
theorem gX5_signOut_X5_set : GoodIn wsX5_signOut (wsV RX5 99 RX5 yX5_set wsX5_set) := goodIn_app (goodIn_of _ (by decide +kernel)) ggX5_signOut_X5_set
set_option maxRecDepth 20000 in
theorem ggX5_signOut_X5_write : GoodIn wsX5_signOut wsX5_write := goodIn_pq _ [49, 19, 24, 28] [10, 8, 11, 7, 50, 1, 9, 51, 52, 53, 16, 17, 18, 5, 20, 21, 22, 23, 25, 26, 27, 54, 55, 56, 57, 58, 59, 60, 61, 62, 63, 64, 65, 66, 67, 68, 69, 70] rfl (by decide +kernel) (by decide +kernel)
set_option maxRecDepth 20000 in
theorem gX5_signOut_X5_write : GoodIn wsX5_signOut (wsV RX5 116 RX5 yX5_write wsX5_write) := goodIn_app (goodIn_of _ (by decide +kernel)) ggX5_signOut_X5_write
set_option maxRecDepth 20000 in
theorem ggX5_product_X5_find : GoodIn wsX5_product wsX5_find := goodIn_pq _ [7, 15, 19, 24, 28, 32] [8, 9, 10, 11, 1, 2, 12, 13, 14, 6, 16, 17, 18, 20, 21, 22, 23, 25, 26, 27, 29, 30, 31, 46, 47, 48, 49, 50, 51, 52, 53, 54, 55, 56, 57, 58, 59, 60, 61, 62] rfl (by decide +kernel) (by decide +kernel)
set_option maxRecDepth 20000 in
theorem gX5_product_X5_find : GoodIn wsX5_product (wsV RX5 103 RX5 yX5_find wsX5_find) := goodIn_app (goodIn_of _ (by decide +kernel)) ggX5_product_X5_find
set_option maxRecDepth 20000 in
theorem ggX5_product_X5_get : GoodIn wsX5_product wsX5_get := goodIn_pq _ [36, 19, 24, 28] [11, 9, 8, 1, 10, 16, 17, 18, 6, 20, 21, 22, 23, 25, 26, 27, 46, 47, 48, 49, 50, 51, 52, 53, 54, 55, 56, 57, 58, 59, 60, 61, 62] rfl (by decide +kernel) (by decide +kernel)
set_option maxRecDepth 20000 in
theorem gX5_product_X5_get : GoodIn wsX5_product (wsV RX5 106 RX5 yX5_get wsX5_get) := goodIn_app (goodIn_of _ (by decide +kernel)) ggX5_product_X5_get
