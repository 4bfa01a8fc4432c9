set_option maxRecDepth 20000 in
theorem ggX3_exchangeBytes_X2_store : GoodIn wsX3_exchangeBytes wsX2_store := goodIn_pq _ [59, 29, 63] [9, 10, 23, 24, 25, 26, 27, 28, 30, 60, 61, 62, 35, 64, 65, 72, 73, 74, 75, 76, 77, 78] rfl (by decide +kernel) (by decide +kernel)
set_option maxRecDepth 20000 in
theorem gX3_exchangeBytes_X2_store : GoodIn wsX3_exchangeBytes (wsV RX3 99 RX2 yX2_store wsX2_store) := goodIn_app (goodIn_of _ (by decide +kernel)) ggX3_exchangeBytes_X2_store
set_option maxRecDepth 20000 in
theorem ggX3_spreadSign_X2_locate : GoodIn wsX3_spreadSign wsX2_locate := goodIn_pq _ [8, 14, 18, 22, 29, 34, 39, 43] [9, 10, 11, 12, 13, 7, 15, 16, 17, 19, 20, 21, 23, 24, 25, 26, 27, 28, 30, 31, 32, 33, 35, 36, 37, 38, 40, 41, 42, 60, 61, 62, 63, 64, 65, 66] rfl (by decide +kernel) (by decide +kernel)
set_option maxRecDepth 20000 in
theorem gX3_spreadSign_X2_locate : GoodIn wsX3_spreadSign (wsV RX3 74 RX2 yX2_locate wsX2_locate) := goodIn_app (goodIn_of _ (by decide +kernel)) ggX3_spreadSign_X2_locate
set_option maxRecDepth 20000 in
theorem ggX3_spreadSign_X2_store : GoodIn wsX3_spreadSign wsX2_store := goodIn_pq _ [47, 29, 51] [9, 10, 23, 24, 25, 26, 27, 28, 30, 48, 49, 50, 35, 52, 53, 60, 61, 62, 63, 64, 65, 66] rfl (by decide +kernel) (by decide +kernel)
set_option maxRecDepth 20000 in
theorem gX3_spreadSign_X2_store : GoodIn wsX3_spreadSign (wsV RX3 99 RX2 yX2_store wsX2_store) := goodIn_app (goodIn_of _ (by decide +kernel)) ggX3_spreadSign_X2_store
set_option maxRecDepth 20000 in
theorem ggX3_performWithRegister_X3_hasHighestBit : GoodIn wsX3_performWithRegister wsX3_hasHighestBit := goodIn_pq _ [4] [5] rfl (by decide +kernel) (by decide +kernel)
set_option maxRecDepth 20000 in
theorem gX3_performWithRegister_X3_hasHighestBit : GoodIn wsX3_performWithRegister (va_wsS RX3 65 yX3_hasHighestBit wsX3_hasHighestBit) := goodIn_app (goodIn_of _ (by decide +kernel)) ggX3_performWithRegister_X3_hasHighestBit
set_option maxRecDepth 20000 in
theorem ggX3_performWithRegister_X3_refuse : GoodIn wsX3_performWithRegister wsX3_refuse := goodIn_pq _ [9] [10, 108, 109, 110, 111, 112, 113] rfl (by decide +kernel) (by decide +kernel)
set_option maxRecDepth 20000 in
theorem gX3_performWithRegister_X3_refuse : GoodIn wsX3_performWithRegister (wsV RX3 114 RX3 yX3_refuse wsX3_refuse) := goodIn_app (goodIn_of _ (by decide +kernel)) ggX3_performWithRegister_X3_refuse
set_option maxRecDepth 20000 in
theorem ggX3_performWithRegister_X3_multiply : GoodIn wsX3_performWithRegister wsX3_multiply := goodIn_pq _ [14, 21, 27, 31, 35, 42, 47, 52, 56, 60, 63, 67] [10, 15, 16, 17, 18, 19, 20, 22, 23, 24, 25, 26, 28, 29, 30, 32, 33, 34, 36, 37, 38, 39, 40, 41, 43, 44, 45, 46, 48, 49, 50, 51, 53, 54, 55, 57, 58, 59, 61, 62, 64, 65, 66, 3, 68, 69, 108, 109, 110, 111, 112, 113, 114, 115, 116, 117, 118, 119, 120] rfl (by decide +kernel) (by decide +kernel)
set_option maxRecDepth 20000 in
theorem gX3_performWithRegister_X3_multiply : GoodIn wsX3_performWithRegister (wsV RX3 163 RX3 yX3_multiply wsX3_multiply) := goodIn_app (goodIn_of _ (by decide +kernel)) ggX3_performWithRegister_X3_multiply
set_option maxRecDepth 20000 in
theorem ggX3_performWithRegister_X3_divide : GoodIn wsX3_performWithRegister wsX3_divide := goodIn_pq _ [73, 9, 21, 27, 31, 35, 42, 47, 52, 56, 60, 63, 67] [10, 15, 16, 74, 6, 7, 8, 3, 17, 18, 19, 20, 22, 23, 24, 25, 26, 28, 29, 30, 32, 33, 34, 36, 37, 38, 39, 40, 41, 43, 44, 45, 46, 48, 49, 50, 51, 53, 54, 55, 57, 58, 59, 61, 62, 64, 65, 66, 68, 69, 108, 109, 114, 115, 116, 117, 110, 111, 112, 113, 118, 119, 120] rfl (by decide +kernel) (by decide +kernel)
set_option maxRecDepth 20000 in
theorem gX3_performWithRegister_X3_divide : GoodIn wsX3_performWithRegister (wsV RX3 166 RX3 yX3_divide wsX3_divide) := goodIn_app (goodIn_of _ (by decide +kernel)) ggX3_performWithRegister_X3_divide
set_option maxRecDepth 20000 in
theorem ggX3_performWithRegister_X3_shift : GoodIn wsX3_performWithRegister wsX3_shift := goodIn_pq _ [78, 21, 27, 31, 35, 42, 47, 52, 56, 60, 63, 83] [10, 15, 16, 74, 5, 17, 18, 19, 20, 22, 23, 24, 25, 26, 28, 29, 30, 32, 33, 34, 36, 37, 38, 39, 40, 41, 43, 44, 45, 46, 48, 49, 50, 51, 53, 54, 55, 57, 58, 59, 61, 62, 64, 79, 80, 81, 82, 84, 85, 108, 109, 110, 111, 112, 113, 114, 115, 116, 117, 118, 119, 120] rfl (by decide +kernel) (by decide +kernel)
set_option maxRecDepth 20000 in
theorem gX3_performWithRegister_X3_shift : GoodIn wsX3_performWithRegister (wsV RX3 169 RX3 yX3_shift wsX3_shift) := goodIn_app (goodIn_of _ (by decide +kernel)) ggX3_performWithRegister_X3_shift
set_option maxRecDepth 20000 in
theorem ggX3_performWithRegister_X3_exclude : GoodIn wsX3_performWithRegister wsX3_exclude := goodIn_pq _ [89, 21, 27, 31, 35, 42, 47, 52, 56, 83, 63, 93, 97] [10, 15, 16, 17, 18, 19, 20, 22, 23, 24, 25, 26, 28, 29, 30, 32, 33, 34, 36, 37, 38, 39, 40, 41, 43, 44, 45, 46, 48, 49, 50, 51, 53, 54, 55, 57, 79, 80, 81, 82, 84, 85, 62, 59, 64, 90, 91, 92, 94, 95, 96, 98, 99, 108, 109, 110, 111, 112, 113, 114, 115, 116, 117, 118, 119, 120] rfl (by decide +kernel) (by decide +kernel)
set_option maxRecDepth 20000 in
theorem gX3_performWithRegister_X3_exclude : GoodIn wsX3_performWithRegister (wsV RX3 172 RX3 yX3_exclude wsX3_exclude) := goodIn_app (goodIn_of _ (by decide +kernel)) ggX3_performWithRegister_X3_exclude
set_option maxRecDepth 20000 in
theorem ggX3_performWithRegister_X3_countDown : GoodIn wsX3_performWithRegister wsX3_countDown := goodIn_pq _ [103, 107] [10, 15, 104, 105, 106, 20, 23, 24, 108, 109, 110, 111, 112, 113] rfl (by decide +kernel) (by decide +kernel)
set_option maxRecDepth 20000 in
theorem gX3_performWithRegister_X3_countDown : GoodIn wsX3_performWithRegister (wsV RX3 175 RX3 yX3_countDown wsX3_countDown) := goodIn_app (goodIn_of _ (by decide +kernel)) ggX3_performWithRegister_X3_countDown
set_option maxRecDepth 20000 in
theorem ggX3_multiply_X2_locate : GoodIn wsX3_multiply wsX2_locate := goodIn_pq _ [8, 14, 18, 22, 29, 34, 39, 43] [9, 10, 11, 12, 13, 7, 15, 16, 17, 19, 20, 21, 23, 24, 25, 26, 27, 28, 30, 31, 32, 33, 35, 36, 37, 38, 40, 41, 42, 60, 61, 62, 63, 68, 69, 70] rfl (by decide +kernel) (by decide +kernel)
set_option maxRecDepth 20000 in
theorem gX3_multiply_X2_locate : GoodIn wsX3_multiply (wsV RX3 74 RX2 yX2_locate wsX2_locate) := goodIn_app (goodIn_of _ (by decide +kernel)) ggX3_multiply_X2_locate
set_option maxRecDepth 20000 in
theorem ggX3_multiply_X2_fetch : GoodIn wsX3_multiply wsX2_fetch := goodIn_pq _ [22, 29, 34] [9, 10, 23, 24, 25, 26, 27, 28, 30, 31, 32, 33, 35, 60, 61, 62, 63, 68, 69, 70] rfl (by decide +kernel) (by decide +kernel)
set_option maxRecDepth 20000 in
theorem gX3_multiply_X2_fetch : GoodIn wsX3_multiply (wsV RX3 78 RX2 yX2_fetch wsX2_fetch) := goodIn_app (goodIn_of _ (by decide +kernel)) ggX3_multiply_X2_fetch
set_option maxRecDepth 20000 in
theorem ggX3_multiply_X4_signed : GoodIn wsX3_multiply wsX4_signed := goodIn_pq _ [47, 50] [48, 49, 46, 51] rfl (by decide +kernel) (by decide +kernel)
set_option maxRecDepth 20000 in
theorem gX3_multiply_X4_signed_n178 : GoodIn wsX3_multiply (wsX4_signed) := ggX3_multiply_X4_signed
set_option maxRecDepth 20000 in
theorem ggX3_multiply_X3_fitsWord : GoodIn wsX3_multiply wsX3_fitsWord := goodIn_pq _ [55] [56, 57] rfl (by decide +kernel) (by decide +kernel)
set_option maxRecDepth 20000 in
theorem gX3_multiply_X3_fitsWord : GoodIn wsX3_multiply (va_wsS RX3 185 yX3_fitsWord wsX3_fitsWord) := goodIn_app (goodIn_of _ (by decide +kernel)) ggX3_multiply_X3_fitsWord
set_option maxRecDepth 20000 in
theorem ggX3_divide_X3_refuse : GoodIn wsX3_divide wsX3_refuse := goodIn_pq _ [9] [1, 63, 64, 69, 70, 71, 72] rfl (by decide +kernel) (by decide +kernel)
set_option maxRecDepth 20000 in
theorem gX3_divide_X3_refuse : GoodIn wsX3_divide (wsV RX3 114 RX3 yX3_refuse wsX3_refuse) := goodIn_app (goodIn_of _ (by decide +kernel)) ggX3_divide_X3_refuse
set_option maxRecDepth 20000 in
theorem ggX3_divide_X2_locate : GoodIn wsX3_divide wsX2_locate := goodIn_pq _ [14, 20, 24, 28, 35, 40, 45, 49] [15, 16, 17, 18, 19, 13, 21, 22, 23, 25, 26, 27, 29, 30, 31, 32, 33, 34, 36, 37, 38, 39, 41, 42, 43, 44, 46, 47, 48, 69, 70, 71, 72, 73, 74, 75] rfl (by decide +kernel) (by decide +kernel)
set_option maxRecDepth 20000 in
theorem gX3_divide_X2_locate : GoodIn wsX3_divide (wsV RX3 74 RX2 yX2_locate wsX2_locate) := goodIn_app (goodIn_of _ (by decide +kernel)) ggX3_divide_X2_locate
set_option maxRecDepth 20000 in
theorem ggX3_divide_X2_fetch : GoodIn wsX3_divide wsX2_fetch := goodIn_pq _ [28, 35, 40] [15, 16, 29, 30, 31, 32, 33, 34, 36, 37, 38, 39, 41, 69, 70, 71, 72, 73, 74, 75] rfl (by decide +kernel) (by decide +kernel)
set_option maxRecDepth 20000 in
theorem gX3_divide_X2_fetch : GoodIn wsX3_divide (wsV RX3 78 RX2 yX2_fetch wsX2_fetch) := goodIn_app (goodIn_of _ (by decide +kernel)) ggX3_divide_X2_fetch
set_option maxRecDepth 20000 in
theorem ggX3_divide_X4_signed : GoodIn wsX3_divide wsX4_signed := goodIn_pq _ [53, 56] [54, 55, 52, 57] rfl (by decide +kernel) (by decide +kernel)
set_option maxRecDepth 20000 in
theorem gX3_divide_X4_signed_n178 : GoodIn wsX3_divide (wsX4_signed) := ggX3_divide_X4_signed
set_option maxRecDepth 20000 in
theorem ggX3_divide_X3_fitsWord : GoodIn wsX3_divide wsX3_fitsWord := goodIn_pq _ [60] [61, 62] rfl (by decide +kernel) (by decide +kernel)
set_option maxRecDepth 20000 in
theorem gX3_divide_X3_fitsWord : GoodIn wsX3_divide (va_wsS RX3 185 yX3_fitsWord wsX3_fitsWord) := goodIn_app (goodIn_of _ (by decide +kernel)) ggX3_divide_X3_fitsWord
set_option maxRecDepth 20000 in
theorem ggX3_shift_X2_locate : GoodIn wsX3_shift wsX2_locate := goodIn_pq _ [10, 16, 20, 24, 31, 36, 41, 45] [11, 12, 13, 14, 15, 9, 17, 18, 19, 21, 22, 23, 25, 26, 27, 28, 29, 30, 32, 33, 34, 35, 37, 38, 39, 40, 42, 43, 44, 63, 64, 65, 66, 71, 72, 73] rfl (by decide +kernel) (by decide +kernel)
set_option maxRecDepth 20000 in
theorem gX3_shift_X2_locate : GoodIn wsX3_shift (wsV RX3 74 RX2 yX2_locate wsX2_locate) := goodIn_app (goodIn_of _ (by decide +kernel)) ggX3_shift_X2_locate
set_option maxRecDepth 20000 in
theorem ggX3_shift_X2_fetch : GoodIn wsX3_shift wsX2_fetch := goodIn_pq _ [24, 31, 36] [11, 12, 25, 26, 27, 28, 29, 30, 32, 33, 34, 35, 37, 63, 64, 65, 66, 71, 72, 73] rfl (by decide +kernel) (by decide +kernel)
set_option maxRecDepth 20000 in
theorem gX3_shift_X2_fetch : GoodIn wsX3_shift (wsV RX3 78 RX2 yX2_fetch wsX2_fetch) := goodIn_app (goodIn_of _ (by decide +kernel)) ggX3_shift_X2_fetch
set_option maxRecDepth 20000 in
theorem ggX3_shift_X4_signed : GoodIn wsX3_shift wsX4_signed := goodIn_pq _ [49, 52] [50, 51, 48, 53] rfl (by decide +kernel) (by decide +kernel)
set_option maxRecDepth 20000 in
theorem gX3_shift_X4_signed_n178 : GoodIn wsX3_shift (wsX4_signed) := ggX3_shift_X4_signed
set_option maxRecDepth 20000 in
theorem ggX3_shift_X0_setByResult : GoodIn wsX3_shift wsX0_setByResult := goodIn_pq _ [58, 52] [59, 60, 51, 48, 53, 67, 68, 69, 70] rfl (by decide +kernel) (by decide +kernel)
set_option maxRecDepth 20000 in
theorem gX3_shift_X0_setByResult : GoodIn wsX3_shift (wsV RX3 89 RX0 yX0_setByResult wsX0_setByResult) := goodIn_app (goodIn_of _ (by decide +kernel)) ggX3_shift_X0_setByResult
set_option maxRecDepth 20000 in
theorem ggX3_exclude_X2_locate : GoodIn wsX3_exclude wsX2_locate := goodIn_pq _ [8, 14, 18, 22, 29, 34, 39, 43] [9, 10, 11, 12, 13, 7, 15, 16, 17, 19, 20, 21, 23, 24, 25, 26, 27, 28, 30, 31, 32, 33, 35, 36, 37, 38, 40, 41, 42, 68, 69, 70, 71, 76, 77, 78] rfl (by decide +kernel) (by decide +kernel)
set_option maxRecDepth 20000 in
theorem gX3_exclude_X2_locate : GoodIn wsX3_exclude (wsV RX3 74 RX2 yX2_locate wsX2_locate) := goodIn_app (goodIn_of _ (by decide +kernel)) ggX3_exclude_X2_locate
set_option maxRecDepth 20000 in
theorem ggX3_exclude_X2_fetch : GoodIn wsX3_exclude wsX2_fetch := goodIn_pq _ [22, 29, 34] [9, 10, 23, 24, 25, 26, 27, 28, 30, 31, 32, 33, 35, 68, 69, 70, 71, 76, 77, 78] rfl (by decide +kernel) (by decide +kernel)
set_option maxRecDepth 20000 in
theorem gX3_exclude_X2_fetch : GoodIn wsX3_exclude (wsV RX3 78 RX2 yX2_fetch wsX2_fetch) := goodIn_app (goodIn_of _ (by decide +kernel)) ggX3_exclude_X2_fetch
set_option maxRecDepth 20000 in
theorem ggX3_exclude_X0_setByResult : GoodIn wsX3_exclude wsX0_setByResult := goodIn_pq _ [49, 54] [50, 51, 52, 53, 55, 72, 73, 74, 75] rfl (by decide +kernel) (by decide +kernel)
set_option maxRecDepth 20000 in
theorem gX3_exclude_X0_setByResult : GoodIn wsX3_exclude (wsV RX3 89 RX0 yX0_setByResult wsX0_setByResult) := goodIn_app (goodIn_of _ (by decide +kernel)) ggX3_exclude_X0_setByResult
set_option maxRecDepth 20000 in
theorem ggX3_exclude_X2_store : GoodIn wsX3_exclude wsX2_store := goodIn_pq _ [59, 29, 63] [9, 10, 23, 24, 25, 26, 27, 28, 30, 60, 61, 62, 35, 64, 65, 68, 69, 70, 71, 76, 77, 78] rfl (by decide +kernel) (by decide +kernel)
set_option maxRecDepth 20000 in
theorem gX3_exclude_X2_store : GoodIn wsX3_exclude (wsV RX3 99 RX2 yX2_store wsX2_store) := goodIn_app (goodIn_of _ (by decide +kernel)) ggX3_exclude_X2_store
set_option maxRecDepth 20000 in
theorem ggX3_countDown_X2_goOn : GoodIn wsX3_countDown wsX2_goOn := goodIn_pq _ [7] [8, 9, 12, 13, 14, 15] rfl (by decide +kernel) (by decide +kernel)
set_option maxRecDepth 20000 in
theorem gX3_countDown_X2_goOn : GoodIn wsX3_countDown (wsV RX3 195 RX2 yX2_goOn wsX2_goOn) := goodIn_app (goodIn_of _ (by decide +kernel)) ggX3_countDown_X2_goOn
