set_option maxRecDepth 20000 in
theorem ggX3_step_X0_number : GoodIn wsX3_step wsX0_number := goodIn_pq _ [19] [20, 21, 22, 23, 251, 252, 253, 254] rfl (by decide +kernel) (by decide +kernel)
set_option maxRecDepth 20000 in
theorem gX3_step_X0_number : GoodIn wsX3_step (wsV RX3 37 RX0 yX0_number wsX0_number) := goodIn_app (goodIn_of _ (by decide +kernel)) ggX3_step_X0_number
set_option maxRecDepth 20000 in
theorem ggX3_step_X2_takeNext : GoodIn wsX3_step wsX2_takeNext := goodIn_pq _ [27, 32, 36, 43, 48] [28, 29, 30, 31, 6, 8, 33, 34, 35, 37, 14, 38, 39, 40, 41, 42, 44, 45, 46, 47, 49, 247, 248, 249, 250, 255, 256, 257] rfl (by decide +kernel) (by decide +kernel)
set_option maxRecDepth 20000 in
theorem gX3_step_X2_takeNext : GoodIn wsX3_step (wsV RX3 41 RX2 yX2_takeNext wsX2_takeNext) := goodIn_app (goodIn_of _ (by decide +kernel)) ggX3_step_X2_takeNext
set_option maxRecDepth 20000 in
theorem ggX3_step_X3_performByHead : GoodIn wsX3_step wsX3_performByHead := goodIn_pq _ [54, 57, 62, 65, 70, 73, 32, 36, 43, 48, 77, 81, 86, 90, 94, 97, 102, 106, 110, 114, 118, 122, 126, 130, 136, 140, 144, 146, 151, 155, 159, 162, 166, 171, 175, 179, 19, 183, 187, 191] [55, 56, 53, 58, 59, 60, 61, 1, 2, 63, 64, 66, 67, 68, 69, 6, 37, 8, 28, 71, 72, 29, 30, 31, 33, 34, 35, 14, 38, 39, 40, 41, 42, 44, 45, 46, 47, 49, 74, 75, 76, 78, 79, 80, 82, 83, 84, 85, 87, 88, 89, 91, 92, 93, 95, 96, 98, 99, 100, 101, 103, 104, 105, 107, 108, 109, 111, 112, 113, 115, 116, 117, 18, 20, 21, 119, 120, 121, 123, 124, 125, 127, 128, 129, 131, 132, 133, 134, 135, 137, 138, 139, 141, 142, 143, 22, 145, 147, 148, 149, 150, 152, 153, 154, 156, 157, 158, 160, 161, 163, 164, 165, 167, 168, 169, 170, 172, 173, 174, 176, 177, 178, 15, 16, 17, 23, 180, 181, 182, 184, 185, 186, 188, 189, 190, 245, 246, 251, 252, 253, 254, 247, 248, 249, 250, 255, 256, 257] rfl (by decide +kernel) (by decide +kernel)
set_option maxRecDepth 20000 in
theorem gX3_step_X3_performByHead : GoodIn wsX3_step (wsV RX3 48 RX3 yX3_performByHead wsX3_performByHead) := goodIn_app (goodIn_of _ (by decide +kernel)) ggX3_step_X3_performByHead
set_option maxRecDepth 20000 in
theorem ggX3_step_X3_addOrSubtract : GoodIn wsX3_step wsX3_addOrSubtract := goodIn_pq _ [195, 70, 73, 32, 36, 43, 48, 77, 81, 57, 199, 118, 97, 126, 130] [1, 66, 2, 58, 67, 68, 69, 6, 37, 8, 28, 71, 72, 29, 30, 31, 33, 34, 35, 14, 38, 39, 40, 41, 42, 44, 45, 46, 47, 49, 74, 75, 76, 78, 79, 80, 82, 55, 56, 53, 196, 197, 198, 115, 116, 117, 18, 20, 21, 95, 96, 98, 123, 124, 125, 127, 128, 129, 131, 132, 245, 246, 251, 252, 253, 254, 247, 248, 249, 250, 255, 256, 257] rfl (by decide +kernel) (by decide +kernel)
set_option maxRecDepth 20000 in
theorem gX3_step_X3_addOrSubtract : GoodIn wsX3_step (wsV RX3 51 RX3 yX3_addOrSubtract wsX3_addOrSubtract) := goodIn_app (goodIn_of _ (by decide +kernel)) ggX3_step_X3_addOrSubtract
set_option maxRecDepth 20000 in
theorem ggX3_step_X3_performWithRegister : GoodIn wsX3_step wsX3_performWithRegister := goodIn_pq _ [203, 57, 155, 207, 70, 73, 32, 36, 43, 48, 77, 81, 146, 97, 210, 216, 221, 118, 225, 126, 130, 229, 151] [55, 56, 53, 58, 152, 153, 154, 1, 204, 205, 206, 66, 2, 67, 68, 69, 6, 37, 8, 28, 71, 72, 29, 30, 31, 33, 34, 35, 14, 38, 39, 40, 41, 42, 44, 45, 46, 47, 49, 74, 75, 76, 78, 79, 80, 82, 145, 96, 147, 95, 98, 208, 209, 211, 212, 213, 214, 215, 217, 218, 219, 220, 115, 116, 117, 18, 20, 21, 222, 223, 224, 123, 124, 125, 127, 128, 129, 131, 132, 226, 227, 228, 148, 149, 150, 245, 246, 247, 248, 249, 250, 251, 252, 253, 254, 255, 256, 257] rfl (by decide +kernel) (by decide +kernel)
set_option maxRecDepth 20000 in
theorem gX3_step_X3_performWithRegister : GoodIn wsX3_step (wsV RX3 54 RX3 yX3_performWithRegister wsX3_performWithRegister) := goodIn_app (goodIn_of _ (by decide +kernel)) ggX3_step_X3_performWithRegister
set_option maxRecDepth 20000 in
theorem ggX3_step_X3_performTwo : GoodIn wsX3_step wsX3_performTwo := goodIn_pq _ [233, 65, 57, 70, 73, 32, 36, 43, 48, 77, 81, 199, 118, 97, 236, 240, 146, 126, 130] [1, 2, 63, 64, 53, 66, 55, 56, 58, 67, 68, 69, 6, 37, 8, 28, 71, 72, 29, 30, 31, 33, 34, 35, 14, 38, 39, 40, 41, 42, 44, 45, 46, 47, 49, 74, 75, 76, 78, 79, 80, 82, 196, 197, 198, 115, 116, 117, 18, 20, 21, 95, 96, 98, 234, 235, 237, 238, 239, 145, 147, 167, 124, 125, 127, 128, 129, 131, 132, 123, 245, 246, 251, 252, 253, 254, 247, 248, 249, 250, 255, 256, 257] rfl (by decide +kernel) (by decide +kernel)
set_option maxRecDepth 20000 in
theorem gX3_step_X3_performTwo : GoodIn wsX3_step (wsV RX3 57 RX3 yX3_performTwo wsX3_performTwo) := goodIn_app (goodIn_of _ (by decide +kernel)) ggX3_step_X3_performTwo
set_option maxRecDepth 20000 in
theorem ggX3_step_X2_takeBack : GoodIn wsX3_step wsX2_takeBack := goodIn_pq _ [244] [9, 8, 10, 11, 12, 13, 247, 248, 249, 250] rfl (by decide +kernel) (by decide +kernel)
set_option maxRecDepth 20000 in
theorem gX3_step_X2_takeBack : GoodIn wsX3_step (wsV RX3 61 RX2 yX2_takeBack wsX2_takeBack) := goodIn_app (goodIn_of _ (by decide +kernel)) ggX3_step_X2_takeBack
set_option maxRecDepth 20000 in
theorem ggX3_step_X0_become : GoodIn wsX3_step wsX0_become := goodIn_pq _ [183] [20, 21, 22, 23, 251, 252, 253, 254] rfl (by decide +kernel) (by decide +kernel)
set_option maxRecDepth 20000 in
theorem gX3_step_X0_become : GoodIn wsX3_step (wsV RX3 30 RX0 yX0_become wsX0_become) := goodIn_app (goodIn_of _ (by decide +kernel)) ggX3_step_X0_become
set_option maxRecDepth 20000 in
theorem ggX3_sizeIn_X3_hasHighestBit : GoodIn wsX3_sizeIn wsX3_hasHighestBit := goodIn_pq _ [5] [6] rfl (by decide +kernel) (by decide +kernel)
set_option maxRecDepth 20000 in
theorem gX3_sizeIn_X3_hasHighestBit : GoodIn wsX3_sizeIn (va_wsS RX3 65 yX3_hasHighestBit wsX3_hasHighestBit) := goodIn_app (goodIn_of _ (by decide +kernel)) ggX3_sizeIn_X3_hasHighestBit
set_option maxRecDepth 20000 in
theorem ggX3_performTwo_X3_sizeIn : GoodIn wsX3_performTwo wsX3_sizeIn := goodIn_pq _ [6, 10] [7, 8, 9, 5, 11] rfl (by decide +kernel) (by decide +kernel)
set_option maxRecDepth 20000 in
theorem gX3_performTwo_X3_sizeIn : GoodIn wsX3_performTwo (va_wsS RX3 70 yX3_sizeIn wsX3_sizeIn) := goodIn_app (goodIn_of _ (by decide +kernel)) ggX3_performTwo_X3_sizeIn
set_option maxRecDepth 20000 in
theorem ggX3_performTwo_X2_locate : GoodIn wsX3_performTwo wsX2_locate := goodIn_pq _ [16, 22, 26, 30, 37, 42, 47, 51] [17, 18, 19, 20, 21, 15, 23, 24, 25, 27, 28, 29, 31, 32, 33, 34, 35, 36, 38, 39, 40, 41, 43, 44, 45, 46, 48, 49, 50, 95, 96, 97, 98, 99, 100, 101] rfl (by decide +kernel) (by decide +kernel)
set_option maxRecDepth 20000 in
theorem gX3_performTwo_X2_locate : GoodIn wsX3_performTwo (wsV RX3 74 RX2 yX2_locate wsX2_locate) := goodIn_app (goodIn_of _ (by decide +kernel)) ggX3_performTwo_X2_locate
set_option maxRecDepth 20000 in
theorem ggX3_performTwo_X2_fetch : GoodIn wsX3_performTwo wsX2_fetch := goodIn_pq _ [30, 37, 42] [17, 18, 31, 32, 33, 34, 35, 36, 38, 39, 40, 41, 43, 95, 96, 97, 98, 99, 100, 101] rfl (by decide +kernel) (by decide +kernel)
set_option maxRecDepth 20000 in
theorem gX3_performTwo_X2_fetch : GoodIn wsX3_performTwo (wsV RX3 78 RX2 yX2_fetch wsX2_fetch) := goodIn_app (goodIn_of _ (by decide +kernel)) ggX3_performTwo_X2_fetch
set_option maxRecDepth 20000 in
theorem ggX3_performTwo_X3_setByDifference : GoodIn wsX3_performTwo wsX3_setByDifference := goodIn_pq _ [56, 61, 66] [2, 57, 58, 59, 60, 62, 63, 64, 65, 67, 89, 90, 91, 92, 93, 94] rfl (by decide +kernel) (by decide +kernel)
set_option maxRecDepth 20000 in
theorem gX3_performTwo_X3_setByDifference : GoodIn wsX3_performTwo (wsV RX3 81 RX3 yX3_setByDifference wsX3_setByDifference) := goodIn_app (goodIn_of _ (by decide +kernel)) ggX3_performTwo_X3_setByDifference
set_option maxRecDepth 20000 in
theorem ggX3_performTwo_X3_combine : GoodIn wsX3_performTwo wsX3_combine := goodIn_pq _ [70] [] rfl (by decide +kernel) (by decide +kernel)
set_option maxRecDepth 20000 in
theorem gX3_performTwo_X3_combine : GoodIn wsX3_performTwo (va_wsS RX3 85 yX3_combine wsX3_combine) := goodIn_app (goodIn_of _ (by decide +kernel)) ggX3_performTwo_X3_combine
set_option maxRecDepth 20000 in
theorem ggX3_performTwo_X0_setByResult : GoodIn wsX3_performTwo wsX0_setByResult := goodIn_pq _ [61, 66] [62, 63, 64, 65, 67, 91, 92, 93, 94] rfl (by decide +kernel) (by decide +kernel)
set_option maxRecDepth 20000 in
theorem gX3_performTwo_X0_setByResult : GoodIn wsX3_performTwo (wsV RX3 89 RX0 yX0_setByResult wsX0_setByResult) := goodIn_app (goodIn_of _ (by decide +kernel)) ggX3_performTwo_X0_setByResult
set_option maxRecDepth 20000 in
theorem ggX3_performTwo_X2_storeMoved : GoodIn wsX3_performTwo wsX2_storeMoved := goodIn_pq _ [74, 76, 66, 81, 37, 85] [17, 18, 19, 75, 65, 77, 64, 67, 78, 79, 80, 15, 31, 32, 33, 34, 35, 36, 38, 82, 83, 84, 43, 86, 87, 95, 96, 97, 98, 99, 100, 101] rfl (by decide +kernel) (by decide +kernel)
set_option maxRecDepth 20000 in
theorem gX3_performTwo_X2_storeMoved : GoodIn wsX3_performTwo (wsV RX3 96 RX2 yX2_storeMoved wsX2_storeMoved) := goodIn_app (goodIn_of _ (by decide +kernel)) ggX3_performTwo_X2_storeMoved
set_option maxRecDepth 20000 in
theorem ggX3_performTwo_X2_store : GoodIn wsX3_performTwo wsX2_store := goodIn_pq _ [81, 37, 85] [17, 18, 31, 32, 33, 34, 35, 36, 38, 82, 83, 84, 43, 86, 87, 95, 96, 97, 98, 99, 100, 101] rfl (by decide +kernel) (by decide +kernel)
set_option maxRecDepth 20000 in
theorem gX3_performTwo_X2_store : GoodIn wsX3_performTwo (wsV RX3 99 RX2 yX2_store wsX2_store) := goodIn_app (goodIn_of _ (by decide +kernel)) ggX3_performTwo_X2_store
set_option maxRecDepth 20000 in
theorem ggX3_addOrSubtract_X2_locate : GoodIn wsX3_addOrSubtract wsX2_locate := goodIn_pq _ [9, 15, 19, 23, 30, 35, 40, 44] [10, 11, 12, 13, 14, 8, 16, 17, 18, 20, 21, 22, 24, 25, 26, 27, 28, 29, 31, 32, 33, 34, 36, 37, 38, 39, 41, 42, 43, 81, 82, 83, 84, 85, 86, 87] rfl (by decide +kernel) (by decide +kernel)
set_option maxRecDepth 20000 in
theorem gX3_addOrSubtract_X2_locate : GoodIn wsX3_addOrSubtract (wsV RX3 74 RX2 yX2_locate wsX2_locate) := goodIn_app (goodIn_of _ (by decide +kernel)) ggX3_addOrSubtract_X2_locate
set_option maxRecDepth 20000 in
theorem ggX3_addOrSubtract_X2_fetch : GoodIn wsX3_addOrSubtract wsX2_fetch := goodIn_pq _ [23, 30, 35] [10, 11, 24, 25, 26, 27, 28, 29, 31, 32, 33, 34, 36, 81, 82, 83, 84, 85, 86, 87] rfl (by decide +kernel) (by decide +kernel)
set_option maxRecDepth 20000 in
theorem gX3_addOrSubtract_X2_fetch : GoodIn wsX3_addOrSubtract (wsV RX3 78 RX2 yX2_fetch wsX2_fetch) := goodIn_app (goodIn_of _ (by decide +kernel)) ggX3_addOrSubtract_X2_fetch
set_option maxRecDepth 20000 in
theorem ggX3_addOrSubtract_X3_hasHighestBit : GoodIn wsX3_addOrSubtract wsX3_hasHighestBit := goodIn_pq _ [49] [4] rfl (by decide +kernel) (by decide +kernel)
set_option maxRecDepth 20000 in
theorem gX3_addOrSubtract_X3_hasHighestBit : GoodIn wsX3_addOrSubtract (va_wsS RX3 65 yX3_hasHighestBit wsX3_hasHighestBit) := goodIn_app (goodIn_of _ (by decide +kernel)) ggX3_addOrSubtract_X3_hasHighestBit
set_option maxRecDepth 20000 in
theorem ggX3_addOrSubtract_X3_setByDifference : GoodIn wsX3_addOrSubtract wsX3_setByDifference := goodIn_pq _ [53, 58, 63] [3, 54, 55, 56, 57, 59, 60, 61, 62, 64, 75, 76, 77, 78, 79, 80] rfl (by decide +kernel) (by decide +kernel)
set_option maxRecDepth 20000 in
theorem gX3_addOrSubtract_X3_setByDifference : GoodIn wsX3_addOrSubtract (wsV RX3 81 RX3 yX3_setByDifference wsX3_setByDifference) := goodIn_app (goodIn_of _ (by decide +kernel)) ggX3_addOrSubtract_X3_setByDifference
set_option maxRecDepth 20000 in
theorem ggX3_addOrSubtract_X0_setByResult : GoodIn wsX3_addOrSubtract wsX0_setByResult := goodIn_pq _ [58, 63] [59, 60, 61, 62, 64, 77, 78, 79, 80] rfl (by decide +kernel) (by decide +kernel)
set_option maxRecDepth 20000 in
theorem gX3_addOrSubtract_X0_setByResult : GoodIn wsX3_addOrSubtract (wsV RX3 89 RX0 yX0_setByResult wsX0_setByResult) := goodIn_app (goodIn_of _ (by decide +kernel)) ggX3_addOrSubtract_X0_setByResult
set_option maxRecDepth 20000 in
theorem ggX3_addOrSubtract_X2_store : GoodIn wsX3_addOrSubtract wsX2_store := goodIn_pq _ [68, 30, 72] [10, 11, 24, 25, 26, 27, 28, 29, 31, 69, 70, 71, 36, 73, 74, 81, 82, 83, 84, 85, 86, 87] rfl (by decide +kernel) (by decide +kernel)
set_option maxRecDepth 20000 in
theorem gX3_addOrSubtract_X2_store : GoodIn wsX3_addOrSubtract (wsV RX3 99 RX2 yX2_store wsX2_store) := goodIn_app (goodIn_of _ (by decide +kernel)) ggX3_addOrSubtract_X2_store
set_option maxRecDepth 20000 in
theorem ggX3_setByDifference_X0_setByResult : GoodIn wsX3_setByDifference wsX0_setByResult := goodIn_pq _ [6, 11] [7, 8, 9, 10, 12, 15, 16, 17, 18] rfl (by decide +kernel) (by decide +kernel)
set_option maxRecDepth 20000 in
theorem gX3_setByDifference_X0_setByResult : GoodIn wsX3_setByDifference (wsV RX3 89 RX0 yX0_setByResult wsX0_setByResult) := goodIn_app (goodIn_of _ (by decide +kernel)) ggX3_setByDifference_X0_setByResult
set_option maxRecDepth 20000 in
theorem ggX3_setByDifference_X4_signOf : GoodIn wsX3_setByDifference wsX4_signOf := goodIn_pq _ [11] [12] rfl (by decide +kernel) (by decide +kernel)
set_option maxRecDepth 20000 in
theorem gX3_setByDifference_X4_signOf_n105 : GoodIn wsX3_setByDifference (wsX4_signOf) := ggX3_setByDifference_X4_signOf
set_option maxRecDepth 20000 in
theorem ggX3_performByHead_X3_hasHighestBit : GoodIn wsX3_performByHead wsX3_hasHighestBit := goodIn_pq _ [4] [5] rfl (by decide +kernel) (by decide +kernel)
set_option maxRecDepth 20000 in
theorem gX3_performByHead_X3_hasHighestBit : GoodIn wsX3_performByHead (va_wsS RX3 65 yX3_hasHighestBit wsX3_hasHighestBit) := goodIn_app (goodIn_of _ (by decide +kernel)) ggX3_performByHead_X3_hasHighestBit
set_option maxRecDepth 20000 in
theorem ggX3_performByHead_X3_performOne : GoodIn wsX3_performByHead wsX3_performOne := goodIn_pq _ [9, 14, 4, 20, 26, 30, 34, 41, 46, 51, 55, 60, 64, 68, 71, 76, 80, 84, 88, 93, 99, 103, 107] [10, 11, 12, 13, 3, 15, 1, 2, 5, 16, 17, 18, 19, 21, 22, 23, 24, 25, 27, 28, 29, 31, 32, 33, 35, 36, 37, 38, 39, 40, 42, 43, 44, 45, 47, 48, 49, 50, 52, 53, 54, 56, 57, 58, 59, 61, 62, 63, 65, 66, 67, 69, 70, 72, 73, 74, 75, 77, 78, 79, 81, 82, 83, 85, 86, 87, 89, 90, 91, 92, 94, 95, 96, 97, 98, 100, 101, 102, 104, 105, 106, 108, 109, 175, 176, 177, 178, 179, 180, 181, 182, 183, 184, 185, 186, 187] rfl (by decide +kernel) (by decide +kernel)
set_option maxRecDepth 20000 in
theorem gX3_performByHead_X3_performOne : GoodIn wsX3_performByHead (wsV RX3 108 RX3 yX3_performOne wsX3_performOne) := goodIn_app (goodIn_of _ (by decide +kernel)) ggX3_performByHead_X3_performOne
set_option maxRecDepth 20000 in
theorem ggX3_performByHead_X3_branch : GoodIn wsX3_performByHead wsX3_branch := goodIn_pq _ [113, 4, 117, 121, 124, 71, 129] [10, 1, 2, 3, 5, 114, 115, 116, 11, 118, 119, 120, 92, 94, 122, 123, 70, 125, 69, 72, 126, 127, 128, 19, 22, 23, 175, 176, 177, 178, 179, 180, 181, 182, 183, 184] rfl (by decide +kernel) (by decide +kernel)
set_option maxRecDepth 20000 in
theorem gX3_performByHead_X3_branch : GoodIn wsX3_performByHead (wsV RX3 111 RX3 yX3_branch wsX3_branch) := goodIn_app (goodIn_of _ (by decide +kernel)) ggX3_performByHead_X3_branch
