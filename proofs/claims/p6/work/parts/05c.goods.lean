set_option maxRecDepth 20000 in
theorem ggX3_performByHead_X3_refuse : GoodIn wsX3_performByHead wsX3_refuse := goodIn_pq _ [133] [10, 175, 176, 181, 182, 183, 184] rfl (by decide +kernel) (by decide +kernel)
set_option maxRecDepth 20000 in
theorem gX3_performByHead_X3_refuse : GoodIn wsX3_performByHead (wsV RX3 114 RX3 yX3_refuse wsX3_refuse) := goodIn_app (goodIn_of _ (by decide +kernel)) ggX3_performByHead_X3_refuse
set_option maxRecDepth 20000 in
theorem ggX3_performByHead_X3_callPart : GoodIn wsX3_performByHead wsX3_callPart := goodIn_pq _ [137, 140, 133, 20, 26, 30, 34, 41, 46, 51, 55, 144, 103, 107] [10, 15, 138, 139, 3, 130, 131, 132, 16, 17, 18, 19, 21, 22, 23, 24, 25, 27, 28, 29, 31, 32, 33, 35, 36, 37, 38, 39, 40, 42, 43, 44, 45, 47, 48, 49, 50, 52, 53, 54, 141, 142, 143, 145, 101, 102, 104, 105, 106, 108, 109, 175, 176, 181, 182, 183, 184, 185, 186, 187] rfl (by decide +kernel) (by decide +kernel)
set_option maxRecDepth 20000 in
theorem gX3_performByHead_X3_callPart : GoodIn wsX3_performByHead (wsV RX3 117 RX3 yX3_callPart wsX3_callPart) := goodIn_app (goodIn_of _ (by decide +kernel)) ggX3_performByHead_X3_callPart
set_option maxRecDepth 20000 in
theorem ggX3_performByHead_X3_jump : GoodIn wsX3_performByHead wsX3_jump := goodIn_pq _ [149, 140, 133, 20, 26, 30, 34, 41, 46, 51, 55] [10, 15, 138, 139, 3, 130, 131, 132, 16, 17, 18, 19, 21, 22, 23, 24, 25, 27, 28, 29, 31, 32, 33, 35, 36, 37, 38, 39, 40, 42, 43, 44, 45, 47, 48, 49, 50, 52, 53, 54, 175, 176, 181, 182, 183, 184, 185, 186, 187] rfl (by decide +kernel) (by decide +kernel)
set_option maxRecDepth 20000 in
theorem gX3_performByHead_X3_jump : GoodIn wsX3_performByHead (wsV RX3 120 RX3 yX3_jump wsX3_jump) := goodIn_app (goodIn_of _ (by decide +kernel)) ggX3_performByHead_X3_jump
set_option maxRecDepth 20000 in
theorem ggX3_performByHead_X3_returnOrSetFlags : GoodIn wsX3_performByHead wsX3_returnOrSetFlags := goodIn_pq _ [153, 157, 30, 34, 41, 46, 133, 161, 166] [10, 11, 154, 155, 156, 19, 23, 27, 28, 29, 22, 31, 32, 33, 21, 35, 36, 37, 38, 39, 40, 42, 43, 44, 45, 47, 130, 131, 132, 3, 158, 159, 160, 92, 94, 95, 122, 162, 163, 164, 165, 175, 176, 181, 182, 183, 184, 185, 186, 187, 177, 178, 179, 180] rfl (by decide +kernel) (by decide +kernel)
set_option maxRecDepth 20000 in
theorem gX3_performByHead_X3_returnOrSetFlags : GoodIn wsX3_performByHead (wsV RX3 123 RX3 yX3_returnOrSetFlags wsX3_returnOrSetFlags) := goodIn_app (goodIn_of _ (by decide +kernel)) ggX3_performByHead_X3_returnOrSetFlags
set_option maxRecDepth 20000 in
theorem ggX3_performByHead_X3_exchangeBytes : GoodIn wsX3_performByHead wsX3_exchangeBytes := goodIn_pq _ [170, 20, 26, 30, 34, 41, 46, 51, 55, 93, 71, 103, 107] [10, 15, 11, 16, 17, 18, 19, 21, 22, 23, 24, 25, 27, 28, 29, 31, 32, 33, 35, 36, 37, 38, 39, 40, 42, 43, 44, 45, 47, 48, 49, 50, 52, 53, 54, 56, 89, 90, 91, 92, 94, 95, 69, 70, 72, 100, 101, 102, 104, 105, 106, 108, 109, 175, 176, 177, 178, 179, 180, 181, 182, 183, 184, 185, 186, 187] rfl (by decide +kernel) (by decide +kernel)
set_option maxRecDepth 20000 in
theorem gX3_performByHead_X3_exchangeBytes : GoodIn wsX3_performByHead (wsV RX3 126 RX3 yX3_exchangeBytes wsX3_exchangeBytes) := goodIn_app (goodIn_of _ (by decide +kernel)) ggX3_performByHead_X3_exchangeBytes
set_option maxRecDepth 20000 in
theorem ggX3_performByHead_X3_spreadSign : GoodIn wsX3_performByHead wsX3_spreadSign := goodIn_pq _ [174, 20, 26, 30, 34, 41, 46, 51, 55, 103, 107] [10, 15, 11, 16, 17, 18, 19, 21, 22, 23, 24, 25, 27, 28, 29, 31, 32, 33, 35, 36, 37, 38, 39, 40, 42, 43, 44, 45, 47, 48, 49, 50, 52, 53, 54, 100, 101, 102, 104, 105, 106, 108, 109, 175, 176, 177, 178, 179, 180, 181, 182, 183, 184, 185, 186, 187] rfl (by decide +kernel) (by decide +kernel)
set_option maxRecDepth 20000 in
theorem gX3_performByHead_X3_spreadSign : GoodIn wsX3_performByHead (wsV RX3 129 RX3 yX3_spreadSign wsX3_spreadSign) := goodIn_app (goodIn_of _ (by decide +kernel)) ggX3_performByHead_X3_spreadSign
set_option maxRecDepth 20000 in
theorem ggX3_performOne_X3_sizeIn : GoodIn wsX3_performOne wsX3_sizeIn := goodIn_pq _ [6, 10] [7, 8, 9, 5, 11] rfl (by decide +kernel) (by decide +kernel)
set_option maxRecDepth 20000 in
theorem gX3_performOne_X3_sizeIn : GoodIn wsX3_performOne (va_wsS RX3 70 yX3_sizeIn wsX3_sizeIn) := goodIn_app (goodIn_of _ (by decide +kernel)) ggX3_performOne_X3_sizeIn
set_option maxRecDepth 20000 in
theorem ggX3_performOne_X2_locate : GoodIn wsX3_performOne wsX2_locate := goodIn_pq _ [16, 22, 26, 30, 37, 42, 47, 51] [17, 18, 19, 20, 21, 15, 23, 24, 25, 27, 28, 29, 31, 32, 33, 34, 35, 36, 38, 39, 40, 41, 43, 44, 45, 46, 48, 49, 50, 112, 113, 114, 115, 116, 117, 118] rfl (by decide +kernel) (by decide +kernel)
set_option maxRecDepth 20000 in
theorem gX3_performOne_X2_locate : GoodIn wsX3_performOne (wsV RX3 74 RX2 yX2_locate wsX2_locate) := goodIn_app (goodIn_of _ (by decide +kernel)) ggX3_performOne_X2_locate
set_option maxRecDepth 20000 in
theorem ggX3_performOne_X2_fetch : GoodIn wsX3_performOne wsX2_fetch := goodIn_pq _ [30, 37, 42] [17, 18, 31, 32, 33, 34, 35, 36, 38, 39, 40, 41, 43, 112, 113, 114, 115, 116, 117, 118] rfl (by decide +kernel) (by decide +kernel)
set_option maxRecDepth 20000 in
theorem gX3_performOne_X2_fetch : GoodIn wsX3_performOne (wsV RX3 78 RX2 yX2_fetch wsX2_fetch) := goodIn_app (goodIn_of _ (by decide +kernel)) ggX3_performOne_X2_fetch
set_option maxRecDepth 20000 in
theorem ggX3_performOne_X3_count : GoodIn wsX3_performOne wsX3_count := goodIn_pq _ [56, 60, 64, 67, 72, 76, 80, 84] [57, 58, 59, 5, 2, 61, 62, 63, 65, 66, 68, 69, 70, 71, 73, 74, 75, 77, 78, 79, 81, 82, 83, 106, 107, 108, 109, 110, 111] rfl (by decide +kernel) (by decide +kernel)
set_option maxRecDepth 20000 in
theorem gX3_performOne_X3_count : GoodIn wsX3_performOne (wsV RX3 132 RX3 yX3_count wsX3_count) := goodIn_app (goodIn_of _ (by decide +kernel)) ggX3_performOne_X3_count
set_option maxRecDepth 20000 in
theorem ggX3_performOne_X0_setByResult : GoodIn wsX3_performOne wsX0_setByResult := goodIn_pq _ [89, 67] [90, 91, 65, 66, 68, 108, 109, 110, 111] rfl (by decide +kernel) (by decide +kernel)
set_option maxRecDepth 20000 in
theorem gX3_performOne_X0_setByResult : GoodIn wsX3_performOne (wsV RX3 89 RX0 yX0_setByResult wsX0_setByResult) := goodIn_app (goodIn_of _ (by decide +kernel)) ggX3_performOne_X0_setByResult
set_option maxRecDepth 20000 in
theorem ggX3_performOne_X3_shiftByOne : GoodIn wsX3_performOne wsX3_shiftByOne := goodIn_pq _ [95, 67] [2, 65, 66, 68, 106, 107, 108, 109, 110, 111] rfl (by decide +kernel) (by decide +kernel)
set_option maxRecDepth 20000 in
theorem gX3_performOne_X3_shiftByOne : GoodIn wsX3_performOne (wsV RX3 135 RX3 yX3_shiftByOne wsX3_shiftByOne) := goodIn_app (goodIn_of _ (by decide +kernel)) ggX3_performOne_X3_shiftByOne
set_option maxRecDepth 20000 in
theorem ggX3_performOne_X2_store : GoodIn wsX3_performOne wsX2_store := goodIn_pq _ [99, 37, 103] [17, 18, 31, 32, 33, 34, 35, 36, 38, 100, 101, 102, 43, 104, 105, 112, 113, 114, 115, 116, 117, 118] rfl (by decide +kernel) (by decide +kernel)
set_option maxRecDepth 20000 in
theorem gX3_performOne_X2_store : GoodIn wsX3_performOne (wsV RX3 99 RX2 yX2_store wsX2_store) := goodIn_app (goodIn_of _ (by decide +kernel)) ggX3_performOne_X2_store
set_option maxRecDepth 20000 in
theorem ggX3_count_X3_withoutOverflow : GoodIn wsX3_count wsX3_withoutOverflow := goodIn_pq _ [5] [6, 31, 32, 33, 34, 35, 36] rfl (by decide +kernel) (by decide +kernel)
set_option maxRecDepth 20000 in
theorem gX3_count_X3_withoutOverflow : GoodIn wsX3_count (wsV RX3 141 RX3 yX3_withoutOverflow wsX3_withoutOverflow) := goodIn_app (goodIn_of _ (by decide +kernel)) ggX3_count_X3_withoutOverflow
set_option maxRecDepth 20000 in
theorem ggX3_count_X3_oneMore : GoodIn wsX3_count wsX3_oneMore := goodIn_pq _ [10, 13] [6, 11, 12, 14, 31, 32, 33, 34, 35, 36] rfl (by decide +kernel) (by decide +kernel)
set_option maxRecDepth 20000 in
theorem gX3_count_X3_oneMore : GoodIn wsX3_count (wsV RX3 145 RX3 yX3_oneMore wsX3_oneMore) := goodIn_app (goodIn_of _ (by decide +kernel)) ggX3_count_X3_oneMore
set_option maxRecDepth 20000 in
theorem ggX3_count_X3_oneLess : GoodIn wsX3_count wsX3_oneLess := goodIn_pq _ [18, 13] [6, 11, 12, 14, 31, 32, 33, 34, 35, 36] rfl (by decide +kernel) (by decide +kernel)
set_option maxRecDepth 20000 in
theorem gX3_count_X3_oneLess : GoodIn wsX3_count (wsV RX3 148 RX3 yX3_oneLess wsX3_oneLess) := goodIn_app (goodIn_of _ (by decide +kernel)) ggX3_count_X3_oneLess
set_option maxRecDepth 20000 in
theorem ggX3_count_X3_minus : GoodIn wsX3_count wsX3_minus := goodIn_pq _ [22, 13] [6, 11, 12, 14, 31, 32, 33, 34, 35, 36] rfl (by decide +kernel) (by decide +kernel)
set_option maxRecDepth 20000 in
theorem gX3_count_X3_minus : GoodIn wsX3_count (wsV RX3 151 RX3 yX3_minus wsX3_minus) := goodIn_app (goodIn_of _ (by decide +kernel)) ggX3_count_X3_minus
set_option maxRecDepth 20000 in
theorem ggX3_count_X3_carryMore : GoodIn wsX3_count wsX3_carryMore := goodIn_pq _ [26, 13] [6, 11, 12, 14, 31, 32, 33, 34, 35, 36] rfl (by decide +kernel) (by decide +kernel)
set_option maxRecDepth 20000 in
theorem gX3_count_X3_carryMore : GoodIn wsX3_count (wsV RX3 154 RX3 yX3_carryMore wsX3_carryMore) := goodIn_app (goodIn_of _ (by decide +kernel)) ggX3_count_X3_carryMore
set_option maxRecDepth 20000 in
theorem ggX3_count_X3_carryLess : GoodIn wsX3_count wsX3_carryLess := goodIn_pq _ [30, 13] [6, 11, 12, 14, 31, 32, 33, 34, 35, 36] rfl (by decide +kernel) (by decide +kernel)
set_option maxRecDepth 20000 in
theorem gX3_count_X3_carryLess : GoodIn wsX3_count (wsV RX3 157 RX3 yX3_carryLess wsX3_carryLess) := goodIn_app (goodIn_of _ (by decide +kernel)) ggX3_count_X3_carryLess
set_option maxRecDepth 20000 in
theorem ggX3_oneMore_X4_signOf : GoodIn wsX3_oneMore wsX4_signOf := goodIn_pq _ [4] [5] rfl (by decide +kernel) (by decide +kernel)
set_option maxRecDepth 20000 in
theorem gX3_oneMore_X4_signOf_n105 : GoodIn wsX3_oneMore (wsX4_signOf) := ggX3_oneMore_X4_signOf
set_option maxRecDepth 20000 in
theorem ggX3_oneLess_X4_signOf : GoodIn wsX3_oneLess wsX4_signOf := goodIn_pq _ [4] [5] rfl (by decide +kernel) (by decide +kernel)
set_option maxRecDepth 20000 in
theorem gX3_oneLess_X4_signOf_n105 : GoodIn wsX3_oneLess (wsX4_signOf) := ggX3_oneLess_X4_signOf
set_option maxRecDepth 20000 in
theorem ggX3_minus_X4_signOf : GoodIn wsX3_minus wsX4_signOf := goodIn_pq _ [4] [5] rfl (by decide +kernel) (by decide +kernel)
set_option maxRecDepth 20000 in
theorem gX3_minus_X4_signOf_n105 : GoodIn wsX3_minus (wsX4_signOf) := ggX3_minus_X4_signOf
set_option maxRecDepth 20000 in
theorem ggX3_carryMore_X4_signOf : GoodIn wsX3_carryMore wsX4_signOf := goodIn_pq _ [4] [5] rfl (by decide +kernel) (by decide +kernel)
set_option maxRecDepth 20000 in
theorem gX3_carryMore_X4_signOf_n105 : GoodIn wsX3_carryMore (wsX4_signOf) := ggX3_carryMore_X4_signOf
set_option maxRecDepth 20000 in
theorem ggX3_carryLess_X4_signOf : GoodIn wsX3_carryLess wsX4_signOf := goodIn_pq _ [4] [5] rfl (by decide +kernel) (by decide +kernel)
set_option maxRecDepth 20000 in
theorem gX3_carryLess_X4_signOf_n105 : GoodIn wsX3_carryLess (wsX4_signOf) := ggX3_carryLess_X4_signOf
set_option maxRecDepth 20000 in
theorem ggX3_shiftByOne_X4_signOf : GoodIn wsX3_shiftByOne wsX4_signOf := goodIn_pq _ [4] [5] rfl (by decide +kernel) (by decide +kernel)
set_option maxRecDepth 20000 in
theorem gX3_shiftByOne_X4_signOf_n105 : GoodIn wsX3_shiftByOne (wsX4_signOf) := ggX3_shiftByOne_X4_signOf
set_option maxRecDepth 20000 in
theorem ggX3_exchangeBytes_X2_locate : GoodIn wsX3_exchangeBytes wsX2_locate := goodIn_pq _ [8, 14, 18, 22, 29, 34, 39, 43] [9, 10, 11, 12, 13, 7, 15, 16, 17, 19, 20, 21, 23, 24, 25, 26, 27, 28, 30, 31, 32, 33, 35, 36, 37, 38, 40, 41, 42, 72, 73, 74, 75, 76, 77, 78] rfl (by decide +kernel) (by decide +kernel)
set_option maxRecDepth 20000 in
theorem gX3_exchangeBytes_X2_locate : GoodIn wsX3_exchangeBytes (wsV RX3 74 RX2 yX2_locate wsX2_locate) := goodIn_app (goodIn_of _ (by decide +kernel)) ggX3_exchangeBytes_X2_locate
set_option maxRecDepth 20000 in
theorem ggX3_exchangeBytes_X2_fetch : GoodIn wsX3_exchangeBytes wsX2_fetch := goodIn_pq _ [22, 29, 34] [9, 10, 23, 24, 25, 26, 27, 28, 30, 31, 32, 33, 35, 72, 73, 74, 75, 76, 77, 78] rfl (by decide +kernel) (by decide +kernel)
set_option maxRecDepth 20000 in
theorem gX3_exchangeBytes_X2_fetch : GoodIn wsX3_exchangeBytes (wsV RX3 78 RX2 yX2_fetch wsX2_fetch) := goodIn_app (goodIn_of _ (by decide +kernel)) ggX3_exchangeBytes_X2_fetch
set_option maxRecDepth 20000 in
theorem ggX3_exchangeBytes_X0_setByResult : GoodIn wsX3_exchangeBytes wsX0_setByResult := goodIn_pq _ [49, 54] [50, 51, 52, 53, 55, 68, 69, 70, 71] rfl (by decide +kernel) (by decide +kernel)
set_option maxRecDepth 20000 in
theorem gX3_exchangeBytes_X0_setByResult : GoodIn wsX3_exchangeBytes (wsV RX3 89 RX0 yX0_setByResult wsX0_setByResult) := goodIn_app (goodIn_of _ (by decide +kernel)) ggX3_exchangeBytes_X0_setByResult
