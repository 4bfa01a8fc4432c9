set_option maxRecDepth 20000 in
theorem ggX1_setPair_X1_setIfThere : GoodIn wsX1_setPair wsX1_setIfThere := goodIn_r _ [5, 6, 7, 8, 9, 4, 10, 11, 12, 13, 14, 15, 16, 17, 18] (by decide +kernel) (by decide +kernel)
set_option maxRecDepth 20000 in
theorem gX1_setPair_X1_setIfThere : GoodIn wsX1_setPair (wsV RX1 19 RX1 yX1_setIfThere wsX1_setIfThere) := goodIn_app (goodIn_of _ (by decide +kernel)) ggX1_setPair_X1_setIfThere
set_option maxRecDepth 20000 in
theorem ggX1_empty_J7_fill_53178 : GoodIn wsX1_empty wsJ7_fill_53178 := goodIn_r _ [6] (by decide +kernel) (by decide +kernel)
set_option maxRecDepth 20000 in
theorem gX1_empty_J7_fill_53178 : GoodIn wsX1_empty (va_wsS RX1 27 yJ7_fill_53178 wsJ7_fill_53178) := goodIn_app (goodIn_of _ (by decide +kernel)) ggX1_empty_J7_fill_53178
set_option maxRecDepth 20000 in
theorem ggX1_setIfThere_X1_faultAt : GoodIn wsX1_setIfThere wsX1_faultAt := goodIn_r _ [6, 1] (by decide +kernel) (by decide +kernel)
set_option maxRecDepth 20000 in
theorem gX1_setIfThere_X1_faultAt : GoodIn wsX1_setIfThere (wsV RX1 33 RX1 yX1_faultAt wsX1_faultAt) := goodIn_app (goodIn_of _ (by decide +kernel)) ggX1_setIfThere_X1_faultAt
set_option maxRecDepth 20000 in
theorem ggX1_setIfThere_X1_setWord : GoodIn wsX1_setIfThere wsX1_setWord := goodIn_r _ [10, 11, 1, 12, 13, 14] (by decide +kernel) (by decide +kernel)
set_option maxRecDepth 20000 in
theorem gX1_setIfThere_X1_setWord : GoodIn wsX1_setIfThere (wsV RX1 36 RX1 yX1_setWord wsX1_setWord) := goodIn_app (goodIn_of _ (by decide +kernel)) ggX1_setIfThere_X1_setWord
set_option maxRecDepth 20000 in
theorem ggX2_empty_J7_fill_53178 : GoodIn wsX2_empty wsJ7_fill_53178 := goodIn_r _ [5] (by decide +kernel) (by decide +kernel)
set_option maxRecDepth 20000 in
theorem gX2_empty_J7_fill_53178 : GoodIn wsX2_empty (va_wsS RX2 32 yJ7_fill_53178 wsJ7_fill_53178) := goodIn_app (goodIn_of _ (by decide +kernel)) ggX2_empty_J7_fill_53178
set_option maxRecDepth 20000 in
theorem ggX2_fetch_X1_faultAt : GoodIn wsX2_fetch wsX1_faultAt := goodIn_r _ [9, 10] (by decide +kernel) (by decide +kernel)
set_option maxRecDepth 20000 in
theorem gX2_fetch_X1_faultAt : GoodIn wsX2_fetch (wsV RX2 56 RX1 yX1_faultAt wsX1_faultAt) := goodIn_app (goodIn_of _ (by decide +kernel)) ggX2_fetch_X1_faultAt
set_option maxRecDepth 20000 in
theorem ggX2_fetch_X1_valueAt : GoodIn wsX2_fetch wsX1_valueAt := goodIn_r _ [14, 15, 20, 21, 22] (by decide +kernel) (by decide +kernel)
set_option maxRecDepth 20000 in
theorem gX2_fetch_X1_valueAt : GoodIn wsX2_fetch (wsV RX2 61 RX1 yX1_valueAt wsX1_valueAt) := goodIn_app (goodIn_of _ (by decide +kernel)) ggX2_fetch_X1_valueAt
set_option maxRecDepth 20000 in
theorem ggX2_takeNext_X2_grow : GoodIn wsX2_takeNext wsX2_grow := goodIn_r _ [6, 7, 1, 26, 27, 28, 29] (by decide +kernel) (by decide +kernel)
set_option maxRecDepth 20000 in
theorem gX2_takeNext_X2_grow : GoodIn wsX2_takeNext (wsV RX2 43 RX2 yX2_grow wsX2_grow) := goodIn_app (goodIn_of _ (by decide +kernel)) ggX2_takeNext_X2_grow
set_option maxRecDepth 20000 in
theorem ggX2_takeNext_X2_fetch : GoodIn wsX2_takeNext wsX2_fetch := goodIn_r _ [11, 12, 7, 13, 14, 15, 16, 17, 18, 19, 20, 21, 22, 23, 24, 25, 26, 27, 28, 29, 30, 31, 32] (by decide +kernel) (by decide +kernel)
set_option maxRecDepth 20000 in
theorem gX2_takeNext_X2_fetch : GoodIn wsX2_takeNext (wsV RX2 47 RX2 yX2_fetch wsX2_fetch) := goodIn_app (goodIn_of _ (by decide +kernel)) ggX2_takeNext_X2_fetch
set_option maxRecDepth 20000 in
theorem ggX3_init_X0_init : GoodIn wsX3_init wsX0_init := goodIn_r _ [13, 14, 2, 3] (by decide +kernel) (by decide +kernel)
set_option maxRecDepth 20000 in
theorem gX3_init_X0_init_n11 : GoodIn wsX3_init (wsX0_init) := ggX3_init_X0_init
set_option maxRecDepth 20000 in
theorem ggX3_init_X2_init : GoodIn wsX3_init wsX2_init := goodIn_r _ [17, 18, 2, 3, 19, 20, 21, 22, 29, 30, 31, 32] (by decide +kernel) (by decide +kernel)
set_option maxRecDepth 20000 in
theorem gX3_init_X2_init : GoodIn wsX3_init (wsX2_init) := ggX3_init_X2_init
set_option maxRecDepth 20000 in
theorem ggX3_empty_X2_empty : GoodIn wsX3_empty wsX2_empty := goodIn_r _ [7, 8, 9, 10, 11, 12, 24, 25, 26, 27] (by decide +kernel) (by decide +kernel)
set_option maxRecDepth 20000 in
theorem gX3_empty_X2_empty : GoodIn wsX3_empty (wsV RX3 27 RX2 yX2_empty wsX2_empty) := goodIn_app (goodIn_of _ (by decide +kernel)) ggX3_empty_X2_empty
set_option maxRecDepth 20000 in
theorem ggX3_empty_X0_become : GoodIn wsX3_empty wsX0_become := goodIn_r _ [17, 18, 19, 20, 21, 28, 29, 30, 31] (by decide +kernel) (by decide +kernel)
set_option maxRecDepth 20000 in
theorem gX3_empty_X0_become : GoodIn wsX3_empty (wsV RX3 30 RX0 yX0_become wsX0_become) := goodIn_app (goodIn_of _ (by decide +kernel)) ggX3_empty_X0_become
set_option maxRecDepth 20000 in
theorem ggX3_step_X2_begin : GoodIn wsX3_step wsX2_begin := goodIn_r _ [7, 8, 9, 10, 11, 12, 13, 14, 247, 248, 249, 250] (by decide +kernel) (by decide +kernel)
set_option maxRecDepth 20000 in
theorem gX3_step_X2_begin : GoodIn wsX3_step (wsV RX3 34 RX2 yX2_begin wsX2_begin) := goodIn_app (goodIn_of _ (by decide +kernel)) ggX3_step_X2_begin
set_option maxRecDepth 20000 in
theorem ggX3_step_X0_number : GoodIn wsX3_step wsX0_number := goodIn_r _ [19, 20, 21, 22, 23, 251, 252, 253, 254] (by decide +kernel) (by decide +kernel)
set_option maxRecDepth 20000 in
theorem gX3_step_X0_number : GoodIn wsX3_step (wsV RX3 37 RX0 yX0_number wsX0_number) := goodIn_app (goodIn_of _ (by decide +kernel)) ggX3_step_X0_number
set_option maxRecDepth 20000 in
theorem ggX3_step_X2_takeNext : GoodIn wsX3_step wsX2_takeNext := goodIn_r _ [27, 28, 29, 30, 31, 6, 32, 8, 33, 34, 35, 36, 37, 14, 38, 39, 40, 41, 42, 43, 44, 45, 46, 47, 48, 49, 247, 248, 249, 250, 255, 256, 257] (by decide +kernel) (by decide +kernel)
set_option maxRecDepth 20000 in
theorem gX3_step_X2_takeNext : GoodIn wsX3_step (wsV RX3 41 RX2 yX2_takeNext wsX2_takeNext) := goodIn_app (goodIn_of _ (by decide +kernel)) ggX3_step_X2_takeNext
set_option maxRecDepth 20000 in
theorem ggX3_step_X3_performByHead : GoodIn wsX3_step wsX3_performByHead := goodIn_r _ [54, 55, 56, 53, 57, 58, 59, 60, 61, 62, 1, 2, 63, 64, 65, 66, 67, 68, 69, 6, 70, 37, 8, 28, 71, 72, 73, 29, 30, 31, 32, 33, 34, 35, 36, 14, 38, 39, 40, 41, 42, 43, 44, 45, 46, 47, 48, 49, 74, 75, 76, 77, 78, 79, 80, 81, 82, 83, 84, 85, 86, 87, 88, 89, 90, 91, 92, 93, 94, 95, 96, 97, 98, 99, 100, 101, 102, 103, 104, 105, 106, 107, 108, 109, 110, 111, 112, 113, 114, 115, 116, 117, 18, 118, 20, 21, 119, 120, 121, 122, 123, 124, 125, 126, 127, 128, 129, 130, 131, 132, 133, 134, 135, 136, 137, 138, 139, 140, 141, 142, 143, 144, 22, 145, 146, 147, 148, 149, 150, 151, 152, 153, 154, 155, 156, 157, 158, 159, 160, 161, 162, 163, 164, 165, 166, 167, 168, 169, 170, 171, 172, 173, 174, 175, 176, 177, 178, 179, 15, 16, 17, 19, 23, 180, 181, 182, 183, 184, 185, 186, 187, 188, 189, 190, 191, 245, 246, 251, 252, 253, 254, 247, 248, 249, 250, 255, 256, 257] (by decide +kernel) (by decide +kernel)
set_option maxRecDepth 20000 in
theorem gX3_step_X3_performByHead : GoodIn wsX3_step (wsV RX3 48 RX3 yX3_performByHead wsX3_performByHead) := goodIn_app (goodIn_of _ (by decide +kernel)) ggX3_step_X3_performByHead
set_option maxRecDepth 20000 in
theorem ggX3_step_X3_addOrSubtract : GoodIn wsX3_step wsX3_addOrSubtract := goodIn_r _ [195, 1, 66, 2, 58, 67, 68, 69, 6, 70, 37, 8, 28, 71, 72, 73, 29, 30, 31, 32, 33, 34, 35, 36, 14, 38, 39, 40, 41, 42, 43, 44, 45, 46, 47, 48, 49, 74, 75, 76, 77, 78, 79, 80, 81, 82, 55, 56, 53, 57, 196, 197, 198, 199, 115, 116, 117, 18, 118, 20, 21, 95, 96, 97, 98, 123, 124, 125, 126, 127, 128, 129, 130, 131, 132, 245, 246, 251, 252, 253, 254, 247, 248, 249, 250, 255, 256, 257] (by decide +kernel) (by decide +kernel)
set_option maxRecDepth 20000 in
theorem gX3_step_X3_addOrSubtract : GoodIn wsX3_step (wsV RX3 51 RX3 yX3_addOrSubtract wsX3_addOrSubtract) := goodIn_app (goodIn_of _ (by decide +kernel)) ggX3_step_X3_addOrSubtract
set_option maxRecDepth 20000 in
theorem ggX3_step_X3_performWithRegister : GoodIn wsX3_step wsX3_performWithRegister := goodIn_r _ [203, 55, 56, 53, 57, 58, 152, 153, 154, 155, 1, 204, 205, 206, 207, 66, 2, 67, 68, 69, 6, 70, 37, 8, 28, 71, 72, 73, 29, 30, 31, 32, 33, 34, 35, 36, 14, 38, 39, 40, 41, 42, 43, 44, 45, 46, 47, 48, 49, 74, 75, 76, 77, 78, 79, 80, 81, 82, 145, 96, 146, 147, 95, 97, 98, 208, 209, 210, 211, 212, 213, 214, 215, 216, 217, 218, 219, 220, 221, 115, 116, 117, 18, 118, 20, 21, 222, 223, 224, 225, 123, 124, 125, 126, 127, 128, 129, 130, 131, 132, 226, 227, 228, 229, 148, 149, 150, 151, 245, 246, 247, 248, 249, 250, 251, 252, 253, 254, 255, 256, 257] (by decide +kernel) (by decide +kernel)
set_option maxRecDepth 20000 in
theorem gX3_step_X3_performWithRegister : GoodIn wsX3_step (wsV RX3 54 RX3 yX3_performWithRegister wsX3_performWithRegister) := goodIn_app (goodIn_of _ (by decide +kernel)) ggX3_step_X3_performWithRegister
set_option maxRecDepth 20000 in
theorem ggX3_step_X3_performTwo : GoodIn wsX3_step wsX3_performTwo := goodIn_r _ [233, 1, 2, 63, 64, 53, 65, 66, 55, 56, 57, 58, 67, 68, 69, 6, 70, 37, 8, 28, 71, 72, 73, 29, 30, 31, 32, 33, 34, 35, 36, 14, 38, 39, 40, 41, 42, 43, 44, 45, 46, 47, 48, 49, 74, 75, 76, 77, 78, 79, 80, 81, 82, 196, 197, 198, 199, 115, 116, 117, 18, 118, 20, 21, 95, 96, 97, 98, 234, 235, 236, 237, 238, 239, 240, 145, 146, 147, 167, 124, 125, 126, 127, 128, 129, 130, 131, 132, 123, 245, 246, 251, 252, 253, 254, 247, 248, 249, 250, 255, 256, 257] (by decide +kernel) (by decide +kernel)
set_option maxRecDepth 20000 in
theorem gX3_step_X3_performTwo : GoodIn wsX3_step (wsV RX3 57 RX3 yX3_performTwo wsX3_performTwo) := goodIn_app (goodIn_of _ (by decide +kernel)) ggX3_step_X3_performTwo
set_option maxRecDepth 20000 in
theorem ggX3_step_X2_takeBack : GoodIn wsX3_step wsX2_takeBack := goodIn_r _ [244, 9, 8, 10, 11, 12, 13, 247, 248, 249, 250] (by decide +kernel) (by decide +kernel)
set_option maxRecDepth 20000 in
theorem gX3_step_X2_takeBack : GoodIn wsX3_step (wsV RX3 61 RX2 yX2_takeBack wsX2_takeBack) := goodIn_app (goodIn_of _ (by decide +kernel)) ggX3_step_X2_takeBack
set_option maxRecDepth 20000 in
theorem ggX3_step_X0_become : GoodIn wsX3_step wsX0_become := goodIn_r _ [183, 20, 21, 22, 23, 251, 252, 253, 254] (by decide +kernel) (by decide +kernel)
set_option maxRecDepth 20000 in
theorem gX3_step_X0_become : GoodIn wsX3_step (wsV RX3 30 RX0 yX0_become wsX0_become) := goodIn_app (goodIn_of _ (by decide +kernel)) ggX3_step_X0_become
set_option maxRecDepth 20000 in
theorem ggX4_init_X1_init : GoodIn wsX4_init wsX1_init := goodIn_r _ [13, 14, 2, 3, 15, 16, 17, 40, 41, 42] (by decide +kernel) (by decide +kernel)
set_option maxRecDepth 20000 in
theorem gX4_init_X1_init_n11 : GoodIn wsX4_init (wsX1_init) := ggX4_init_X1_init
set_option maxRecDepth 20000 in
theorem ggX4_init_X3_init : GoodIn wsX4_init wsX3_init := goodIn_r _ [20, 21, 2, 3, 22, 23, 24, 25, 26, 27, 28, 29, 30, 31, 32, 33, 34, 35, 36, 15, 37, 38, 39, 48, 49, 50, 51, 46, 47, 52, 53, 54, 55] (by decide +kernel) (by decide +kernel)
set_option maxRecDepth 20000 in
theorem gX4_init_X3_init : GoodIn wsX4_init (wsX3_init) := ggX4_init_X3_init
set_option maxRecDepth 20000 in
theorem ggX4_load_X4_needWordAt : GoodIn wsX4_load wsX4_needWordAt := goodIn_ca (goodIn_r _ [6, 7, 8, 1, 9, 10, 11, 12, 13, 14, 15, 30, 31, 32] (by decide +kernel) (by decide +kernel)) (goodIn_sub (fun _ h => List.mem_cons_of_mem _ (List.mem_append_right _ h)) (by decide +kernel))
set_option maxRecDepth 20000 in
theorem gX4_load_X4_needWordAt : GoodIn wsX4_load (wsV RX4 25 RX4 yX4_needWordAt wsX4_needWordAt) := goodIn_app (goodIn_of _ (by decide +kernel)) ggX4_load_X4_needWordAt
set_option maxRecDepth 20000 in
theorem ggX4_load_X1_setPair : GoodIn wsX4_load wsX1_setPair := goodIn_r _ [19, 20, 21, 22, 13, 23, 15, 24, 11, 12, 14, 25, 26, 27, 28, 29, 33, 34, 35] (by decide +kernel) (by decide +kernel)
set_option maxRecDepth 20000 in
theorem gX4_load_X1_setPair : GoodIn wsX4_load (wsV RX4 29 RX1 yX1_setPair wsX1_setPair) := goodIn_app (goodIn_of _ (by decide +kernel)) ggX4_load_X1_setPair
set_option maxRecDepth 20000 in
theorem ggX4_word_X4_needWordAt : GoodIn wsX4_word wsX4_needWordAt := goodIn_ca (goodIn_r _ [7, 8, 9, 1, 2, 10, 11, 12, 13, 14, 15, 21, 22, 23] (by decide +kernel) (by decide +kernel)) (goodIn_sub (fun _ h => List.mem_cons_of_mem _ (List.mem_append_right _ h)) (by decide +kernel))
set_option maxRecDepth 20000 in
theorem gX4_word_X4_needWordAt : GoodIn wsX4_word (wsV RX4 25 RX4 yX4_needWordAt wsX4_needWordAt) := goodIn_app (goodIn_of _ (by decide +kernel)) ggX4_word_X4_needWordAt
set_option maxRecDepth 20000 in
theorem ggX4_word_X1_valueAt : GoodIn wsX4_word wsX1_valueAt := goodIn_r _ [19, 20, 24, 25, 26] (by decide +kernel) (by decide +kernel)
set_option maxRecDepth 20000 in
theorem gX4_word_X1_valueAt : GoodIn wsX4_word (wsV RX4 34 RX1 yX1_valueAt wsX1_valueAt) := goodIn_app (goodIn_of _ (by decide +kernel)) ggX4_word_X1_valueAt
set_option maxRecDepth 20000 in
theorem ggX4_poke_X4_needWordAt : GoodIn wsX4_poke wsX4_needWordAt := goodIn_ca (goodIn_r _ [7, 8, 9, 1, 2, 10, 11, 12, 13, 14, 15, 25, 26, 27] (by decide +kernel) (by decide +kernel)) (goodIn_sub (fun _ h => List.mem_cons_of_mem _ (List.mem_append_right _ h)) (by decide +kernel))
set_option maxRecDepth 20000 in
theorem gX4_poke_X4_needWordAt : GoodIn wsX4_poke (wsV RX4 25 RX4 yX4_needWordAt wsX4_needWordAt) := goodIn_app (goodIn_of _ (by decide +kernel)) ggX4_poke_X4_needWordAt
set_option maxRecDepth 20000 in
theorem ggX4_poke_X1_valueAt : GoodIn wsX4_poke wsX1_valueAt := goodIn_r _ [19, 20, 28, 29, 30] (by decide +kernel) (by decide +kernel)
set_option maxRecDepth 20000 in
theorem gX4_poke_X1_valueAt : GoodIn wsX4_poke (wsV RX4 34 RX1 yX1_valueAt wsX1_valueAt) := goodIn_app (goodIn_of _ (by decide +kernel)) ggX4_poke_X1_valueAt
set_option maxRecDepth 20000 in
theorem ggX4_poke_X1_setWord : GoodIn wsX4_poke wsX1_setWord := goodIn_r _ [24, 20, 15, 28, 29, 30] (by decide +kernel) (by decide +kernel)
set_option maxRecDepth 20000 in
theorem gX4_poke_X1_setWord : GoodIn wsX4_poke (wsV RX4 37 RX1 yX1_setWord wsX1_setWord) := goodIn_app (goodIn_of _ (by decide +kernel)) ggX4_poke_X1_setWord
set_option maxRecDepth 20000 in
theorem ggX4_register_X4_needRegister : GoodIn wsX4_register wsX4_needRegister := goodIn_ca (goodIn_r _ [6, 7, 8] (by decide +kernel) (by decide +kernel)) (goodIn_sub (fun _ h => List.mem_cons_of_mem _ (List.mem_append_right _ h)) (by decide +kernel))
set_option maxRecDepth 20000 in
theorem gX4_register_X4_needRegister : GoodIn wsX4_register (wsV RX4 41 RX4 yX4_needRegister wsX4_needRegister) := goodIn_app (goodIn_of _ (by decide +kernel)) ggX4_register_X4_needRegister
set_option maxRecDepth 20000 in
theorem ggX4_put_X4_needRegister : GoodIn wsX4_put wsX4_needRegister := goodIn_ca (goodIn_r _ [7, 8, 9] (by decide +kernel) (by decide +kernel)) (goodIn_sub (fun _ h => List.mem_cons_of_mem _ (List.mem_append_right _ h)) (by decide +kernel))
set_option maxRecDepth 20000 in
theorem gX4_put_X4_needRegister : GoodIn wsX4_put (wsV RX4 41 RX4 yX4_needRegister wsX4_needRegister) := goodIn_app (goodIn_of _ (by decide +kernel)) ggX4_put_X4_needRegister
set_option maxRecDepth 20000 in
theorem ggX4_flags_X0_number : GoodIn wsX4_flags wsX0_number := goodIn_r _ [6, 7, 8, 9, 10, 16, 17, 18, 19] (by decide +kernel) (by decide +kernel)
set_option maxRecDepth 20000 in
theorem gX4_flags_X0_number : GoodIn wsX4_flags (wsV RX4 58 RX0 yX0_number wsX0_number) := goodIn_app (goodIn_of _ (by decide +kernel)) ggX4_flags_X0_number
set_option maxRecDepth 20000 in
theorem ggX4_flag_X0_become : GoodIn wsX4_flag wsX0_become := goodIn_r _ [6, 7, 8, 9, 10, 16, 17, 18, 19] (by decide +kernel) (by decide +kernel)
set_option maxRecDepth 20000 in
theorem gX4_flag_X0_become : GoodIn wsX4_flag (wsV RX4 64 RX0 yX0_become wsX0_become) := goodIn_app (goodIn_of _ (by decide +kernel)) ggX4_flag_X0_become
set_option maxRecDepth 20000 in
theorem ggX4_run_X3_step : GoodIn wsX4_run wsX3_step := goodIn_r _ [9, 10, 11, 12, 13, 14, 15, 16, 17, 18, 19, 20, 21, 22, 23, 24, 25, 26, 27, 28, 29, 30, 31, 32, 33, 34, 35, 36, 37, 38, 39, 40, 41, 42, 43, 44, 45, 46, 47, 48, 49, 50, 51, 52, 53, 54, 55, 56, 57, 58, 59, 60, 61, 8, 62, 63, 64, 65, 66, 67, 68, 69, 70, 71, 72, 73, 74, 75, 76, 77, 78, 79, 80, 81, 82, 83, 84, 85, 86, 87, 88, 89, 90, 91, 92, 93, 94, 95, 96, 97, 98, 99, 100, 101, 102, 103, 104, 105, 106, 107, 108, 109, 110, 111, 112, 113, 114, 115, 116, 117, 118, 119, 120, 121, 122, 123, 124, 125, 126, 127, 128, 129, 130, 131, 132, 133, 134, 135, 136, 137, 138, 139, 140, 141, 142, 143, 144, 145, 146, 147, 148, 149, 150, 151, 152, 153, 154, 155, 156, 157, 158, 159, 160, 161, 162, 163, 164, 165, 166, 167, 168, 169, 170, 171, 172, 173, 174, 175, 176, 177, 178, 179, 180, 181, 182, 183, 184, 185, 186, 187, 188, 189, 190, 191, 192, 193, 194, 195, 196, 197, 198, 199, 200, 201, 202, 203, 204, 205, 206, 207, 208, 209, 210, 211, 212, 213, 214, 215, 216, 217, 218, 219, 220, 221, 222, 223, 224, 225, 226, 227, 228, 229, 230, 231, 232, 233, 234, 235, 236, 237, 238, 239, 240, 241, 242, 243, 244, 245, 246, 247, 248, 249, 250, 251, 252, 256, 257, 258, 259, 260, 261, 262, 263, 264, 265, 266, 267, 268] (by decide +kernel) (by decide +kernel)
set_option maxRecDepth 20000 in
theorem gX4_run_X3_step : GoodIn wsX4_run (wsV RX4 74 RX3 yX3_step wsX3_step) := goodIn_app (goodIn_of _ (by decide +kernel)) ggX4_run_X3_step
set_option maxRecDepth 20000 in
theorem ggX4_clear_X1_empty : GoodIn wsX4_clear wsX1_empty := goodIn_r _ [8, 9, 10, 11, 12, 13, 14, 41, 42, 43] (by decide +kernel) (by decide +kernel)
set_option maxRecDepth 20000 in
theorem gX4_clear_X1_empty : GoodIn wsX4_clear (wsV RX4 86 RX1 yX1_empty wsX1_empty) := goodIn_app (goodIn_of _ (by decide +kernel)) ggX4_clear_X1_empty
set_option maxRecDepth 20000 in
theorem ggX4_clear_X3_empty : GoodIn wsX4_clear wsX3_empty := goodIn_r _ [19, 20, 21, 22, 23, 24, 25, 26, 27, 28, 12, 13, 14, 29, 30, 31, 32, 33, 34, 35, 36, 37, 44, 45, 46, 47, 48, 49, 50, 51, 52, 53] (by decide +kernel) (by decide +kernel)
set_option maxRecDepth 20000 in
theorem gX4_clear_X3_empty : GoodIn wsX4_clear (wsV RX4 89 RX3 yX3_empty wsX3_empty) := goodIn_app (goodIn_of _ (by decide +kernel)) ggX4_clear_X3_empty
set_option maxRecDepth 20000 in
theorem ggX4_needWordAt_X1_faultAt : GoodIn wsX4_needWordAt wsX1_faultAt := goodIn_r _ [9, 10] (by decide +kernel) (by decide +kernel)
set_option maxRecDepth 20000 in
theorem gX4_needWordAt_X1_faultAt : GoodIn wsX4_needWordAt (wsV RX4 90 RX1 yX1_faultAt wsX1_faultAt) := goodIn_app (goodIn_of _ (by decide +kernel)) ggX4_needWordAt_X1_faultAt
set_option maxRecDepth 20000 in
theorem ggX5_load_X5_isWord : GoodIn wsX5_load wsX5_isWord := goodIn_r _ [6] (by decide +kernel) (by decide +kernel)
set_option maxRecDepth 20000 in
theorem gX5_load_X5_isWord : GoodIn wsX5_load (va_wsS RX5 26 yX5_isWord wsX5_isWord) := goodIn_app (goodIn_of _ (by decide +kernel)) ggX5_load_X5_isWord
set_option maxRecDepth 20000 in
theorem ggX5_load_X5_setWord : GoodIn wsX5_load wsX5_setWord := goodIn_r _ [10, 11, 12, 13, 14, 15, 16, 17, 18, 19, 20, 21, 22, 23, 24, 25, 26, 27, 28] (by decide +kernel) (by decide +kernel)
set_option maxRecDepth 20000 in
theorem gX5_load_X5_setWord : GoodIn wsX5_load (wsV RX5 31 RX5 yX5_setWord wsX5_setWord) := goodIn_app (goodIn_of _ (by decide +kernel)) ggX5_load_X5_setWord
set_option maxRecDepth 20000 in
theorem ggX5_word_X5_isWord : GoodIn wsX5_word wsX5_isWord := goodIn_r _ [5] (by decide +kernel) (by decide +kernel)
set_option maxRecDepth 20000 in
theorem gX5_word_X5_isWord : GoodIn wsX5_word (va_wsS RX5 26 yX5_isWord wsX5_isWord) := goodIn_app (goodIn_of _ (by decide +kernel)) ggX5_word_X5_isWord
set_option maxRecDepth 20000 in
theorem ggX5_word_X5_wordAt : GoodIn wsX5_word wsX5_wordAt := goodIn_r _ [9, 10, 11, 12, 13, 14, 15, 16, 17, 18, 19, 20, 21, 22, 23, 24, 25, 26, 27] (by decide +kernel) (by decide +kernel)
set_option maxRecDepth 20000 in
theorem gX5_word_X5_wordAt : GoodIn wsX5_word (wsV RX5 35 RX5 yX5_wordAt wsX5_wordAt) := goodIn_app (goodIn_of _ (by decide +kernel)) ggX5_word_X5_wordAt
set_option maxRecDepth 20000 in
theorem ggX5_poke_X5_isWord : GoodIn wsX5_poke wsX5_isWord := goodIn_r _ [6] (by decide +kernel) (by decide +kernel)
set_option maxRecDepth 20000 in
theorem gX5_poke_X5_isWord : GoodIn wsX5_poke (va_wsS RX5 26 yX5_isWord wsX5_isWord) := goodIn_app (goodIn_of _ (by decide +kernel)) ggX5_poke_X5_isWord
set_option maxRecDepth 20000 in
theorem ggX5_poke_X5_wordAt : GoodIn wsX5_poke wsX5_wordAt := goodIn_r _ [10, 11, 16, 17, 18, 19, 20, 21, 22, 23, 24, 25, 26, 27, 28, 29, 30, 31, 32] (by decide +kernel) (by decide +kernel)
set_option maxRecDepth 20000 in
theorem gX5_poke_X5_wordAt : GoodIn wsX5_poke (wsV RX5 35 RX5 yX5_wordAt wsX5_wordAt) := goodIn_app (goodIn_of _ (by decide +kernel)) ggX5_poke_X5_wordAt
set_option maxRecDepth 20000 in
theorem ggX5_poke_X5_setWord : GoodIn wsX5_poke wsX5_setWord := goodIn_r _ [15, 11, 16, 17, 18, 19, 20, 21, 22, 23, 24, 25, 26, 27, 28, 29, 30, 31, 32] (by decide +kernel) (by decide +kernel)
set_option maxRecDepth 20000 in
theorem gX5_poke_X5_setWord : GoodIn wsX5_poke (wsV RX5 31 RX5 yX5_setWord wsX5_setWord) := goodIn_app (goodIn_of _ (by decide +kernel)) ggX5_poke_X5_setWord
set_option maxRecDepth 20000 in
theorem ggX5_read_X5_fail : GoodIn wsX5_read wsX5_fail := goodIn_r _ [7, 1, 12, 13, 14, 15, 16, 17, 18, 19, 20, 21, 22, 23, 24, 25, 26, 27, 28] (by decide +kernel) (by decide +kernel)
set_option maxRecDepth 20000 in
theorem gX5_read_X5_fail : GoodIn wsX5_read (wsV RX5 51 RX5 yX5_fail wsX5_fail) := goodIn_app (goodIn_of _ (by decide +kernel)) ggX5_read_X5_fail
set_option maxRecDepth 20000 in
theorem ggX5_read_X5_wordAt : GoodIn wsX5_read wsX5_wordAt := goodIn_r _ [11, 2, 12, 13, 14, 15, 16, 17, 18, 19, 20, 21, 22, 23, 24, 25, 26, 27, 28] (by decide +kernel) (by decide +kernel)
set_option maxRecDepth 20000 in
theorem gX5_read_X5_wordAt : GoodIn wsX5_read (wsV RX5 35 RX5 yX5_wordAt wsX5_wordAt) := goodIn_app (goodIn_of _ (by decide +kernel)) ggX5_read_X5_wordAt
set_option maxRecDepth 20000 in
theorem ggX5_fetch_X5_read : GoodIn wsX5_fetch wsX5_read := goodIn_r _ [7, 8, 9, 10, 11, 12, 6, 13, 14, 15, 16, 17, 18, 19, 20, 21, 22, 23, 24, 25, 26, 27, 28, 29, 30, 31, 32, 33, 34] (by decide +kernel) (by decide +kernel)
set_option maxRecDepth 20000 in
theorem gX5_fetch_X5_read : GoodIn wsX5_fetch (wsV RX5 55 RX5 yX5_read wsX5_read) := goodIn_app (goodIn_of _ (by decide +kernel)) ggX5_fetch_X5_read
set_option maxRecDepth 20000 in
theorem ggX5_does_X5_two : GoodIn wsX5_does wsX5_two := goodIn_r _ [6, 1, 7, 8, 9, 10, 11, 12, 5, 13, 14, 15, 16, 17, 18, 19, 20, 21, 22, 23, 24, 25, 26, 27, 28, 29, 30, 31, 32, 33, 34, 35, 36, 37, 38, 39, 40, 41, 42, 43, 44, 45, 46, 47, 48, 49, 50, 51, 52, 53, 54, 55, 56, 57, 58, 59, 60, 61, 62, 63, 64, 65, 66, 67, 68, 69, 70, 71, 72, 73, 74, 130, 131, 132, 133, 134, 135, 136, 137, 138, 139, 140, 141, 142, 143, 144, 145, 146] (by decide +kernel) (by decide +kernel)
set_option maxRecDepth 20000 in
theorem gX5_does_X5_two : GoodIn wsX5_does (wsV RX5 127 RX5 yX5_two wsX5_two) := goodIn_app (goodIn_of _ (by decide +kernel)) ggX5_does_X5_two
set_option maxRecDepth 20000 in
theorem ggX5_does_X5_sum : GoodIn wsX5_does wsX5_sum := goodIn_r _ [78, 16, 10, 11, 12, 5, 13, 1, 7, 14, 15, 8, 17, 18, 19, 20, 21, 22, 23, 24, 25, 26, 27, 28, 29, 30, 31, 32, 33, 34, 35, 36, 37, 38, 39, 40, 41, 51, 52, 53, 54, 55, 56, 57, 58, 59, 60, 61, 62, 63, 47, 48, 49, 50, 64, 65, 66, 67, 46, 68, 69, 70, 71, 9, 72, 73, 74, 130, 131, 132, 133, 134, 135, 136, 137, 138, 139, 140, 141, 142, 143, 144, 145, 146] (by decide +kernel) (by decide +kernel)
set_option maxRecDepth 20000 in
theorem gX5_does_X5_sum : GoodIn wsX5_does (wsV RX5 130 RX5 yX5_sum wsX5_sum) := goodIn_app (goodIn_of _ (by decide +kernel)) ggX5_does_X5_sum
set_option maxRecDepth 20000 in
theorem ggX5_does_X5_goes : GoodIn wsX5_does wsX5_goes := goodIn_r _ [82, 42, 43, 44, 5, 45, 46, 130, 131, 132, 133, 134, 135, 136, 137, 138, 139, 140, 141, 142, 143, 144, 145, 146] (by decide +kernel) (by decide +kernel)
set_option maxRecDepth 20000 in
theorem gX5_does_X5_goes : GoodIn wsX5_does (wsV RX5 134 RX5 yX5_goes wsX5_goes) := goodIn_app (goodIn_of _ (by decide +kernel)) ggX5_does_X5_goes
set_option maxRecDepth 20000 in
theorem ggX5_does_X5_move : GoodIn wsX5_does wsX5_move := goodIn_r _ [20, 8, 16, 130, 131, 132, 133, 134, 135, 136, 137, 138, 139, 140, 141, 142, 143, 144, 145, 146] (by decide +kernel) (by decide +kernel)
set_option maxRecDepth 20000 in
theorem gX5_does_X5_move : GoodIn wsX5_does (wsV RX5 69 RX5 yX5_move wsX5_move) := goodIn_app (goodIn_of _ (by decide +kernel)) ggX5_does_X5_move
set_option maxRecDepth 20000 in
theorem ggX5_does_X5_one : GoodIn wsX5_does wsX5_one := goodIn_r _ [86, 10, 11, 12, 5, 13, 1, 7, 14, 15, 8, 16, 17, 18, 19, 20, 21, 22, 23, 24, 25, 26, 27, 28, 29, 30, 31, 32, 33, 34, 35, 36, 37, 38, 39, 40, 41, 42, 43, 44, 45, 46, 55, 56, 57, 58, 59, 47, 48, 49, 50, 60, 61, 62, 63, 51, 52, 53, 54, 64, 65, 66, 67, 68, 69, 70, 71, 9, 72, 73, 74, 130, 131, 132, 133, 134, 135, 136, 137, 138, 139, 140, 141, 142, 143, 144, 145, 146] (by decide +kernel) (by decide +kernel)
set_option maxRecDepth 20000 in
theorem gX5_does_X5_one : GoodIn wsX5_does (wsV RX5 137 RX5 yX5_one wsX5_one) := goodIn_app (goodIn_of _ (by decide +kernel)) ggX5_does_X5_one
set_option maxRecDepth 20000 in
theorem ggX5_does_X5_fail : GoodIn wsX5_does wsX5_fail := goodIn_r _ [29, 15, 130, 131, 132, 133, 134, 135, 136, 137, 138, 139, 140, 141, 142, 143, 144, 145, 146] (by decide +kernel) (by decide +kernel)
set_option maxRecDepth 20000 in
theorem gX5_does_X5_fail : GoodIn wsX5_does (wsV RX5 51 RX5 yX5_fail wsX5_fail) := goodIn_app (goodIn_of _ (by decide +kernel)) ggX5_does_X5_fail
set_option maxRecDepth 20000 in
theorem ggX5_does_X5_others : GoodIn wsX5_does wsX5_others := goodIn_r _ [90, 91, 8, 46, 92, 93, 94, 5, 95, 14, 15, 72, 73, 74, 26, 27, 28, 29, 10, 11, 12, 13, 1, 7, 16, 17, 18, 19, 20, 21, 22, 23, 24, 25, 30, 31, 32, 33, 34, 35, 36, 37, 96, 97, 98, 99, 9, 38, 39, 40, 41, 64, 65, 66, 67, 68, 69, 70, 71, 100, 101, 102, 103, 42, 43, 44, 45, 104, 105, 106, 107, 108, 109, 110, 111, 112, 113, 114, 115, 116, 117, 118, 119, 120, 121, 59, 122, 123, 124, 125, 60, 61, 62, 63, 51, 52, 53, 54, 55, 56, 57, 58, 47, 48, 49, 50, 126, 127, 128, 129, 130, 131, 132, 133, 134, 135, 136, 137, 138, 139, 140, 141, 142, 143, 144, 145, 146] (by decide +kernel) (by decide +kernel)
set_option maxRecDepth 20000 in
theorem gX5_does_X5_others : GoodIn wsX5_does (wsV RX5 140 RX5 yX5_others wsX5_others) := goodIn_app (goodIn_of _ (by decide +kernel)) ggX5_does_X5_others
set_option maxRecDepth 20000 in
theorem ggX5_others_X5_jump : GoodIn wsX5_others wsX5_jump := goodIn_r _ [8, 9, 10, 2, 11, 12, 13, 14, 15, 16, 7, 17, 18, 19, 20, 21, 22, 23, 24, 25, 26, 27, 28, 29, 30, 31, 32, 33, 34, 35, 36, 37, 38, 39, 40, 41, 110, 111, 112, 113, 114, 115, 116, 117, 118, 119, 120, 121, 122, 123, 124, 125, 126] (by decide +kernel) (by decide +kernel)
set_option maxRecDepth 20000 in
theorem gX5_others_X5_jump : GoodIn wsX5_others (wsV RX5 146 RX5 yX5_jump wsX5_jump) := goodIn_app (goodIn_of _ (by decide +kernel)) ggX5_others_X5_jump
set_option maxRecDepth 20000 in
theorem ggX5_others_X5_exchangeBytes : GoodIn wsX5_others wsX5_exchangeBytes := goodIn_r _ [45, 46, 18, 19, 20, 7, 21, 22, 23, 9, 10, 2, 24, 25, 26, 27, 28, 29, 30, 31, 32, 33, 14, 15, 16, 17, 34, 35, 36, 37, 38, 39, 40, 41, 47, 48, 49, 50, 51, 52, 53, 54, 3, 55, 56, 57, 58, 11, 12, 13, 110, 111, 112, 113, 114, 115, 116, 117, 118, 119, 120, 121, 122, 123, 124, 125, 126] (by decide +kernel) (by decide +kernel)
set_option maxRecDepth 20000 in
theorem gX5_others_X5_exchangeBytes : GoodIn wsX5_others (wsV RX5 150 RX5 yX5_exchangeBytes wsX5_exchangeBytes) := goodIn_app (goodIn_of _ (by decide +kernel)) ggX5_others_X5_exchangeBytes
set_option maxRecDepth 20000 in
theorem ggX5_others_X5_signOut : GoodIn wsX5_others wsX5_signOut := goodIn_r _ [62, 24, 18, 19, 20, 7, 21, 22, 23, 9, 10, 2, 25, 26, 27, 28, 29, 30, 31, 32, 33, 14, 15, 16, 17, 34, 35, 36, 37, 38, 39, 40, 41, 47, 48, 49, 50, 63, 64, 65, 66, 3, 51, 52, 53, 54, 55, 56, 57, 58, 46, 11, 12, 13, 110, 111, 112, 113, 114, 115, 116, 117, 118, 119, 120, 121, 122, 123, 124, 125, 126] (by decide +kernel) (by decide +kernel)
set_option maxRecDepth 20000 in
theorem gX5_others_X5_signOut : GoodIn wsX5_others (wsV RX5 153 RX5 yX5_signOut wsX5_signOut) := goodIn_app (goodIn_of _ (by decide +kernel)) ggX5_others_X5_signOut
set_option maxRecDepth 20000 in
theorem ggX5_others_X5_product : GoodIn wsX5_others wsX5_product := goodIn_r _ [70, 2, 24, 18, 19, 20, 7, 21, 22, 23, 9, 10, 25, 26, 27, 28, 29, 30, 31, 32, 33, 14, 15, 16, 17, 34, 35, 36, 37, 38, 39, 40, 41, 47, 48, 49, 50, 71, 72, 73, 74, 51, 52, 53, 54, 3, 110, 111, 112, 113, 114, 115, 116, 117, 118, 119, 120, 121, 122, 123, 124, 125, 126] (by decide +kernel) (by decide +kernel)
set_option maxRecDepth 20000 in
theorem gX5_others_X5_product : GoodIn wsX5_others (wsV RX5 156 RX5 yX5_product wsX5_product) := goodIn_app (goodIn_of _ (by decide +kernel)) ggX5_others_X5_product
set_option maxRecDepth 20000 in
theorem ggX5_others_X5_quotient : GoodIn wsX5_others wsX5_quotient := goodIn_r _ [78, 2, 10, 3, 79, 80, 24, 14, 15, 16, 7, 17, 18, 19, 20, 21, 22, 23, 9, 25, 26, 27, 28, 29, 30, 31, 32, 33, 34, 35, 36, 37, 38, 39, 40, 41, 47, 48, 49, 50, 71, 72, 73, 74, 51, 52, 53, 54, 110, 111, 112, 113, 114, 115, 116, 117, 118, 119, 120, 121, 122, 123, 124, 125, 126] (by decide +kernel) (by decide +kernel)
set_option maxRecDepth 20000 in
theorem gX5_others_X5_quotient : GoodIn wsX5_others (wsV RX5 159 RX5 yX5_quotient wsX5_quotient) := goodIn_app (goodIn_of _ (by decide +kernel)) ggX5_others_X5_quotient
set_option maxRecDepth 20000 in
theorem ggX5_others_X5_shift : GoodIn wsX5_others wsX5_shift := goodIn_r _ [84, 2, 24, 85, 18, 19, 20, 7, 21, 22, 23, 9, 10, 25, 26, 27, 28, 29, 30, 31, 32, 33, 14, 15, 16, 17, 34, 35, 36, 37, 38, 39, 40, 41, 47, 48, 49, 50, 51, 52, 53, 54, 3, 110, 111, 112, 113, 114, 115, 116, 117, 118, 119, 120, 121, 122, 123, 124, 125, 126] (by decide +kernel) (by decide +kernel)
set_option maxRecDepth 20000 in
theorem gX5_others_X5_shift : GoodIn wsX5_others (wsV RX5 162 RX5 yX5_shift wsX5_shift) := goodIn_app (goodIn_of _ (by decide +kernel)) ggX5_others_X5_shift
set_option maxRecDepth 20000 in
theorem ggX5_others_X5_either : GoodIn wsX5_others wsX5_either := goodIn_r _ [89, 2, 18, 19, 20, 7, 21, 22, 23, 9, 10, 24, 25, 26, 27, 28, 29, 30, 31, 32, 33, 14, 15, 16, 17, 34, 35, 36, 37, 38, 39, 40, 41, 47, 48, 49, 50, 63, 64, 65, 66, 3, 90, 91, 92, 93, 94, 95, 96, 97, 98, 99, 100, 101, 85, 102, 103, 104, 105, 51, 52, 53, 54, 55, 56, 57, 58, 46, 11, 12, 13, 110, 111, 112, 113, 114, 115, 116, 117, 118, 119, 120, 121, 122, 123, 124, 125, 126] (by decide +kernel) (by decide +kernel)
set_option maxRecDepth 20000 in
theorem gX5_others_X5_either : GoodIn wsX5_others (wsV RX5 165 RX5 yX5_either wsX5_either) := goodIn_app (goodIn_of _ (by decide +kernel)) ggX5_others_X5_either
set_option maxRecDepth 20000 in
theorem ggX5_others_X5_move : GoodIn wsX5_others wsX5_move := goodIn_r _ [28, 2, 24, 110, 111, 112, 113, 114, 115, 116, 117, 118, 119, 120, 121, 122, 123, 124, 125, 126] (by decide +kernel) (by decide +kernel)
set_option maxRecDepth 20000 in
theorem gX5_others_X5_move : GoodIn wsX5_others (wsV RX5 69 RX5 yX5_move wsX5_move) := goodIn_app (goodIn_of _ (by decide +kernel)) ggX5_others_X5_move
set_option maxRecDepth 20000 in
theorem ggX5_others_X5_back : GoodIn wsX5_others wsX5_back := goodIn_r _ [109, 2, 29, 30, 31, 7, 32, 10, 33, 14, 15, 16, 17, 34, 35, 36, 37, 25, 26, 27, 28, 24, 110, 111, 112, 113, 114, 115, 116, 117, 118, 119, 120, 121, 122, 123, 124, 125, 126] (by decide +kernel) (by decide +kernel)
set_option maxRecDepth 20000 in
theorem gX5_others_X5_back : GoodIn wsX5_others (wsV RX5 168 RX5 yX5_back wsX5_back) := goodIn_app (goodIn_of _ (by decide +kernel)) ggX5_others_X5_back
set_option maxRecDepth 20000 in
theorem ggX5_others_X5_fail : GoodIn wsX5_others wsX5_fail := goodIn_r _ [17, 10, 110, 111, 112, 113, 114, 115, 116, 117, 118, 119, 120, 121, 122, 123, 124, 125, 126] (by decide +kernel) (by decide +kernel)
set_option maxRecDepth 20000 in
theorem gX5_others_X5_fail : GoodIn wsX5_others (wsV RX5 51 RX5 yX5_fail wsX5_fail) := goodIn_app (goodIn_of _ (by decide +kernel)) ggX5_others_X5_fail
set_option maxRecDepth 20000 in
theorem ggX5_step_X5_fetch : GoodIn wsX5_step wsX5_fetch := goodIn_r _ [20, 1, 14, 21, 22, 23, 19, 24, 5, 9, 25, 26, 27, 28, 29, 30, 31, 32, 143, 144, 145, 146, 147, 148, 149, 150, 151, 152, 153, 154, 155, 156, 157, 158, 159] (by decide +kernel) (by decide +kernel)
set_option maxRecDepth 20000 in
theorem gX5_step_X5_fetch : GoodIn wsX5_step (wsV RX5 72 RX5 yX5_fetch wsX5_fetch) := goodIn_app (goodIn_of _ (by decide +kernel)) ggX5_step_X5_fetch
set_option maxRecDepth 20000 in
theorem ggX5_step_X5_does : GoodIn wsX5_step wsX5_does := goodIn_r _ [36, 8, 37, 38, 39, 19, 40, 41, 1, 42, 43, 44, 45, 46, 47, 5, 14, 48, 49, 50, 51, 21, 22, 23, 24, 9, 25, 26, 27, 28, 29, 30, 31, 32, 16, 17, 18, 20, 52, 53, 54, 55, 56, 57, 58, 59, 4, 60, 61, 62, 63, 64, 65, 66, 67, 68, 69, 70, 71, 72, 73, 74, 75, 76, 77, 78, 79, 80, 81, 82, 83, 84, 10, 6, 11, 85, 86, 87, 88, 89, 90, 91, 92, 93, 94, 95, 96, 97, 98, 99, 100, 7, 101, 102, 103, 104, 105, 106, 107, 108, 109, 110, 111, 112, 113, 114, 115, 116, 117, 118, 119, 120, 121, 122, 123, 124, 125, 126, 127, 128, 129, 130, 131, 132, 133, 134, 135, 136, 137, 138, 143, 144, 145, 146, 147, 148, 149, 150, 151, 152, 153, 154, 155, 156, 157, 158, 159] (by decide +kernel) (by decide +kernel)
set_option maxRecDepth 20000 in
theorem gX5_step_X5_does : GoodIn wsX5_step (wsV RX5 171 RX5 yX5_does wsX5_does) := goodIn_app (goodIn_of _ (by decide +kernel)) ggX5_step_X5_does
set_option maxRecDepth 20000 in
theorem ggX5_step_X5_setWord : GoodIn wsX5_step wsX5_setWord := goodIn_r _ [142, 9, 143, 144, 145, 146, 147, 148, 149, 150, 151, 152, 153, 154, 155, 156, 157, 158, 159] (by decide +kernel) (by decide +kernel)
set_option maxRecDepth 20000 in
theorem gX5_step_X5_setWord : GoodIn wsX5_step (wsV RX5 31 RX5 yX5_setWord wsX5_setWord) := goodIn_app (goodIn_of _ (by decide +kernel)) ggX5_step_X5_setWord
set_option maxRecDepth 20000 in
theorem ggX5_run_X5_step : GoodIn wsX5_run wsX5_step := goodIn_r _ [9, 10, 11, 12, 13, 3, 14, 4, 15, 16, 17, 18, 19, 20, 21, 2, 22, 23, 24, 8, 25, 26, 27, 28, 29, 30, 31, 32, 33, 34, 35, 36, 37, 38, 39, 40, 41, 42, 43, 44, 45, 46, 47, 48, 49, 50, 51, 52, 53, 54, 55, 56, 57, 58, 59, 60, 61, 62, 63, 64, 65, 66, 67, 68, 69, 70, 71, 72, 73, 74, 75, 76, 77, 78, 79, 80, 81, 82, 83, 84, 85, 86, 87, 88, 89, 90, 91, 92, 93, 94, 95, 96, 97, 98, 99, 100, 101, 102, 103, 104, 105, 106, 107, 108, 109, 110, 111, 112, 113, 114, 115, 116, 117, 118, 119, 120, 121, 122, 123, 124, 125, 126, 127, 128, 129, 130, 131, 132, 133, 134, 135, 136, 137, 138, 139, 140, 141, 142, 143, 144, 145, 146, 147, 148, 149, 150, 151, 152, 153, 154, 155, 156, 157, 158, 159, 160, 161, 162, 163, 164] (by decide +kernel) (by decide +kernel)
set_option maxRecDepth 20000 in
theorem gX5_run_X5_step : GoodIn wsX5_run (wsV RX5 174 RX5 yX5_step wsX5_step) := goodIn_app (goodIn_of _ (by decide +kernel)) ggX5_run_X5_step
set_option maxRecDepth 20000 in
theorem ggL_load_X4_load : GoodIn wsL_load wsX4_load := goodIn_ca (goodIn_r _ [6, 7, 8, 9, 10, 5, 11, 12, 13, 14, 15, 16, 17, 18, 19, 20, 21, 22, 23, 24, 25, 26, 27, 28, 29, 30, 31, 32, 33, 34, 35, 36, 37, 38, 39, 40] (by decide +kernel) (by decide +kernel)) (goodIn_sub (fun _ h => List.mem_cons_of_mem _ (List.mem_append_right _ h)) (by decide +kernel))
set_option maxRecDepth 20000 in
theorem gL_load_X4_load : GoodIn wsL_load (wsV RL 7 RX4 yX4_load wsX4_load) := goodIn_app (goodIn_of _ (by decide +kernel)) ggL_load_X4_load
set_option maxRecDepth 20000 in
theorem ggL_word_X4_word : GoodIn wsL_word wsX4_word := goodIn_ca (goodIn_r _ [6, 7, 8, 9, 10, 11, 5, 12, 13, 14, 15, 16, 17, 18, 19, 20, 21, 22, 23, 24, 25, 26, 27, 28, 29, 30, 31] (by decide +kernel) (by decide +kernel)) (goodIn_sub (fun _ h => List.mem_cons_of_mem _ (List.mem_append_right _ h)) (by decide +kernel))
set_option maxRecDepth 20000 in
theorem gL_word_X4_word : GoodIn wsL_word (wsV RL 15 RX4 yX4_word wsX4_word) := goodIn_app (goodIn_of _ (by decide +kernel)) ggL_word_X4_word
set_option maxRecDepth 20000 in
theorem ggL_poke_X4_poke : GoodIn wsL_poke wsX4_poke := goodIn_ca (goodIn_r _ [6, 7, 8, 9, 10, 11, 5, 12, 13, 14, 15, 16, 17, 18, 19, 20, 21, 22, 23, 24, 25, 26, 27, 28, 29, 30, 31, 32, 33, 34, 35] (by decide +kernel) (by decide +kernel)) (goodIn_sub (fun _ h => List.mem_cons_of_mem _ (List.mem_append_right _ h)) (by decide +kernel))
set_option maxRecDepth 20000 in
theorem gL_poke_X4_poke : GoodIn wsL_poke (wsV RL 19 RX4 yX4_poke wsX4_poke) := goodIn_app (goodIn_of _ (by decide +kernel)) ggL_poke_X4_poke
set_option maxRecDepth 20000 in
theorem ggL_register_X4_register : GoodIn wsL_register wsX4_register := goodIn_ca (goodIn_r _ [6, 7, 8, 9, 10, 5, 11, 12, 13, 14, 15, 16, 17, 18, 19, 20, 21, 22] (by decide +kernel) (by decide +kernel)) (goodIn_sub (fun _ h => List.mem_cons_of_mem _ (List.mem_append_right _ h)) (by decide +kernel))
set_option maxRecDepth 20000 in
theorem gL_register_X4_register : GoodIn wsL_register (wsV RL 23 RX4 yX4_register wsX4_register) := goodIn_app (goodIn_of _ (by decide +kernel)) ggL_register_X4_register
set_option maxRecDepth 20000 in
theorem ggL_put_X4_put : GoodIn wsL_put wsX4_put := goodIn_ca (goodIn_r _ [6, 7, 8, 9, 10, 11, 5, 12, 13, 14, 15, 16, 17, 18, 19, 20, 21, 22, 23] (by decide +kernel) (by decide +kernel)) (goodIn_sub (fun _ h => List.mem_cons_of_mem _ (List.mem_append_right _ h)) (by decide +kernel))
set_option maxRecDepth 20000 in
theorem gL_put_X4_put : GoodIn wsL_put (wsV RL 26 RX4 yX4_put wsX4_put) := goodIn_app (goodIn_of _ (by decide +kernel)) ggL_put_X4_put
set_option maxRecDepth 20000 in
theorem ggL_run_X4_run : GoodIn wsL_run wsX4_run := goodIn_ca (goodIn_r _ [6, 7, 8, 9, 10, 11, 12, 13, 14, 15, 16, 17, 18, 19, 20, 21, 22, 23, 24, 25, 26, 27, 28, 29, 30, 31, 32, 33, 34, 35, 36, 37, 38, 39, 40, 41, 42, 43, 44, 45, 46, 47, 48, 49, 50, 51, 52, 53, 54, 55, 56, 57, 58, 59, 60, 61, 62, 63, 64, 65, 66, 67, 68, 69, 70, 71, 72, 73, 74, 75, 76, 77, 78, 79, 80, 81, 82, 83, 84, 85, 86, 87, 88, 89, 90, 91, 92, 93, 94, 95, 96, 97, 98, 99, 100, 101, 102, 103, 104, 105, 106, 107, 108, 109, 5, 110, 111, 112, 113, 114, 115, 116, 117, 118, 119, 120, 121, 122, 123, 124, 125, 126, 127, 128, 129, 130, 131, 132, 133, 134, 135, 136, 137, 138, 139, 140, 141, 142, 143, 144, 145, 146, 147, 148, 149, 150, 151, 152, 153, 154, 155, 156, 157, 158, 159, 160, 161, 162, 163, 164, 165, 166, 167, 168, 169, 170, 171, 172, 173, 174, 175, 176, 177, 178, 179, 180, 181, 182, 183, 184, 185, 186, 187, 188, 189, 190, 191, 192, 193, 194, 195, 196, 197, 198, 199, 200, 201, 202, 203, 204, 205, 206, 207, 208, 209, 210, 211, 212, 213, 214, 215, 216, 217, 218, 219, 220, 221, 222, 223, 224, 225, 226, 227, 228, 229, 230, 231, 232, 233, 234, 235, 236, 237, 238, 239, 240, 241, 242, 243, 244, 245, 246, 247, 248, 249, 250, 251, 252, 253, 254, 255, 256, 257, 258, 259, 260, 261, 262, 263, 264, 265, 266, 267, 268, 269, 270, 271, 272, 273] (by decide +kernel) (by decide +kernel)) (goodIn_sub (fun _ h => List.mem_cons_of_mem _ (List.mem_append_right _ h)) (by decide +kernel))
set_option maxRecDepth 20000 in
theorem gL_run_X4_run : GoodIn wsL_run (wsV RL 30 RX4 yX4_run wsX4_run) := goodIn_app (goodIn_of _ (by decide +kernel)) ggL_run_X4_run
set_option maxRecDepth 20000 in
theorem ggL_output_X4_output : GoodIn wsL_output wsX4_output := goodIn_ca (goodIn_r _ [6, 7, 8, 9, 10, 11, 12, 13, 14, 15] (by decide +kernel) (by decide +kernel)) (goodIn_sub (fun _ h => List.mem_cons_of_mem _ (List.mem_append_right _ h)) (by decide +kernel))
set_option maxRecDepth 20000 in
theorem gL_output_X4_output : GoodIn wsL_output (wsV RL 35 RX4 yX4_output wsX4_output) := goodIn_app (goodIn_of _ (by decide +kernel)) ggL_output_X4_output
set_option maxRecDepth 20000 in
theorem ggL_law_X4_init : GoodIn wsL_law wsX4_init := goodIn_r _ [9, 10, 11, 12, 13, 14, 15, 16, 17, 18, 19, 20, 21, 22, 23, 24, 25, 26, 27, 28, 29, 30, 31, 32, 33, 34, 35, 36, 37, 38, 39, 40, 41, 42, 43, 44, 45, 46, 47, 48, 631, 632, 633, 611, 612, 613, 634, 635, 636, 637, 638, 639, 640, 641, 642, 643] (by decide +kernel) (by decide +kernel)
set_option maxRecDepth 20000 in
theorem gL_law_X4_init : GoodIn wsL_law (wsX4_init) := ggL_law_X4_init
set_option maxRecDepth 20000 in
theorem ggL_law_X5_init : GoodIn wsL_law wsX5_init := goodIn_r _ [51, 52, 11, 12, 24, 53, 54, 55, 56, 614, 615, 616, 617, 618, 619, 620, 621, 622, 623, 624, 625, 626, 627, 628, 629, 630] (by decide +kernel) (by decide +kernel)
set_option maxRecDepth 20000 in
theorem gL_law_X5_init : GoodIn wsL_law (wsX5_init) := ggL_law_X5_init
set_option maxRecDepth 20000 in
theorem ggL_law_L_load : GoodIn wsL_law wsL_load := goodIn_ca (goodIn_r _ [60, 61, 62, 63, 64, 2, 65, 16, 66, 67, 68, 69, 70, 71, 72, 73, 74, 75, 15, 76, 77, 78, 79, 80, 81, 82, 83, 84, 85, 86, 87, 88, 89, 90, 25, 611, 612, 613, 631, 632, 633] (by decide +kernel) (by decide +kernel)) (goodIn_sub (fun _ h => List.mem_append_left _ (List.mem_append_right _ h)) (by decide +kernel))
set_option maxRecDepth 20000 in
theorem gL_law_L_load : GoodIn wsL_law (va_wsS RL 42 yL_load wsL_load) := goodIn_app (goodIn_of _ (by decide +kernel)) ggL_law_L_load
set_option maxRecDepth 20000 in
theorem ggL_law_X5_load : GoodIn wsL_law wsX5_load := goodIn_r _ [94, 95, 96, 97, 98, 5, 99, 100, 101, 102, 103, 53, 614, 615, 616, 617, 618, 619, 620, 621, 622, 623, 624, 625, 626, 627, 628, 629, 630] (by decide +kernel) (by decide +kernel)
set_option maxRecDepth 20000 in
theorem gL_law_X5_load : GoodIn wsL_law (wsV RL 47 RX5 yX5_load wsX5_load) := goodIn_app (goodIn_of _ (by decide +kernel)) ggL_law_X5_load
set_option maxRecDepth 20000 in
theorem ggL_law_X5_thrown : GoodIn wsL_law wsX5_thrown := goodIn_r _ [107, 95, 614, 615, 616, 617, 618, 619, 620, 621, 622, 623, 624, 625, 626, 627, 628, 629, 630] (by decide +kernel) (by decide +kernel)
set_option maxRecDepth 20000 in
theorem gL_law_X5_thrown : GoodIn wsL_law (wsV RL 48 RX5 yX5_thrown wsX5_thrown) := goodIn_app (goodIn_of _ (by decide +kernel)) ggL_law_X5_thrown
set_option maxRecDepth 20000 in
theorem ggL_law_L_word : GoodIn wsL_law wsL_word := goodIn_ca (goodIn_r _ [110, 61, 111, 112, 113, 2, 114, 16, 72, 66, 67, 68, 69, 70, 71, 73, 74, 75, 15, 76, 77, 115, 116, 117, 118, 25, 611, 612, 613, 631, 632, 633] (by decide +kernel) (by decide +kernel)) (goodIn_sub (fun _ h => List.mem_append_left _ (List.mem_append_right _ h)) (by decide +kernel))
set_option maxRecDepth 20000 in
theorem gL_law_L_word : GoodIn wsL_law (va_wsS RL 52 yL_word wsL_word) := goodIn_app (goodIn_of _ (by decide +kernel)) ggL_law_L_word
set_option maxRecDepth 20000 in
theorem ggL_law_X5_word : GoodIn wsL_law wsX5_word := goodIn_r _ [122, 95, 97, 98, 5, 99, 123, 124, 125, 126, 53, 614, 615, 616, 617, 618, 619, 620, 621, 622, 623, 624, 625, 626, 627, 628, 629, 630] (by decide +kernel) (by decide +kernel)
set_option maxRecDepth 20000 in
theorem gL_law_X5_word : GoodIn wsL_law (wsV RL 55 RX5 yX5_word wsX5_word) := goodIn_app (goodIn_of _ (by decide +kernel)) ggL_law_X5_word
set_option maxRecDepth 20000 in
theorem ggL_law_L_poke : GoodIn wsL_law wsL_poke := goodIn_ca (goodIn_r _ [129, 61, 130, 131, 132, 2, 133, 16, 72, 66, 67, 68, 69, 70, 71, 73, 74, 75, 15, 76, 77, 115, 116, 117, 118, 25, 134, 88, 89, 90, 611, 612, 613, 631, 632, 633] (by decide +kernel) (by decide +kernel)) (goodIn_sub (fun _ h => List.mem_append_left _ (List.mem_append_right _ h)) (by decide +kernel))
set_option maxRecDepth 20000 in
theorem gL_law_L_poke : GoodIn wsL_law (va_wsS RL 56 yL_poke wsL_poke) := goodIn_app (goodIn_of _ (by decide +kernel)) ggL_law_L_poke
set_option maxRecDepth 20000 in
theorem ggL_law_X5_poke : GoodIn wsL_law wsX5_poke := goodIn_r _ [138, 95, 96, 97, 98, 5, 99, 123, 124, 125, 126, 53, 100, 101, 102, 103, 614, 615, 616, 617, 618, 619, 620, 621, 622, 623, 624, 625, 626, 627, 628, 629, 630] (by decide +kernel) (by decide +kernel)
set_option maxRecDepth 20000 in
theorem gL_law_X5_poke : GoodIn wsL_law (wsV RL 59 RX5 yX5_poke wsX5_poke) := goodIn_app (goodIn_of _ (by decide +kernel)) ggL_law_X5_poke
set_option maxRecDepth 20000 in
theorem ggL_law_L_register : GoodIn wsL_law wsL_register := goodIn_ca (goodIn_r _ [141, 61, 142, 143, 144, 2, 145, 20, 146, 147, 148, 149, 70, 71, 611, 612, 613, 634, 635, 640, 641, 642, 643] (by decide +kernel) (by decide +kernel)) (goodIn_sub (fun _ h => List.mem_append_left _ (List.mem_append_right _ h)) (by decide +kernel))
set_option maxRecDepth 20000 in
theorem gL_law_L_register : GoodIn wsL_law (va_wsS RL 60 yL_register wsL_register) := goodIn_app (goodIn_of _ (by decide +kernel)) ggL_law_L_register
set_option maxRecDepth 20000 in
theorem ggL_law_X5_register : GoodIn wsL_law wsX5_register := goodIn_r _ [153, 95, 54, 614, 615, 616, 617, 618, 619, 620, 621, 622, 623, 624, 625, 626, 627, 628, 629, 630] (by decide +kernel) (by decide +kernel)
set_option maxRecDepth 20000 in
theorem gL_law_X5_register : GoodIn wsL_law (wsV RL 62 RX5 yX5_register wsX5_register) := goodIn_app (goodIn_of _ (by decide +kernel)) ggL_law_X5_register
set_option maxRecDepth 20000 in
theorem ggL_law_L_put : GoodIn wsL_law wsL_put := goodIn_ca (goodIn_r _ [156, 61, 157, 158, 159, 2, 160, 20, 72, 146, 147, 148, 149, 70, 71, 611, 612, 613, 634, 635, 640, 641, 642, 643] (by decide +kernel) (by decide +kernel)) (goodIn_sub (fun _ h => List.mem_append_left _ (List.mem_append_right _ h)) (by decide +kernel))
set_option maxRecDepth 20000 in
theorem gL_law_L_put : GoodIn wsL_law (va_wsS RL 63 yL_put wsL_put) := goodIn_app (goodIn_of _ (by decide +kernel)) ggL_law_L_put
set_option maxRecDepth 20000 in
theorem ggL_law_X5_put : GoodIn wsL_law wsX5_put := goodIn_r _ [164, 95, 54, 96, 614, 615, 616, 617, 618, 619, 620, 621, 622, 623, 624, 625, 626, 627, 628, 629, 630] (by decide +kernel) (by decide +kernel)
set_option maxRecDepth 20000 in
theorem gL_law_X5_put : GoodIn wsL_law (wsV RL 66 RX5 yX5_put wsX5_put) := goodIn_app (goodIn_of _ (by decide +kernel)) ggL_law_X5_put
set_option maxRecDepth 20000 in
theorem ggL_law_X4_flags : GoodIn wsL_law wsX4_flags := goodIn_r _ [168, 20, 169, 170, 171, 33, 172, 173, 174, 175, 176, 611, 612, 613, 634, 635, 636, 637, 638, 639] (by decide +kernel) (by decide +kernel)
set_option maxRecDepth 20000 in
theorem gL_law_X4_flags : GoodIn wsL_law (wsV RL 67 RX4 yX4_flags wsX4_flags) := goodIn_app (goodIn_of _ (by decide +kernel)) ggL_law_X4_flags
set_option maxRecDepth 20000 in
theorem ggL_law_X5_flags : GoodIn wsL_law wsX5_flags := goodIn_r _ [180, 95, 181, 614, 615, 616, 617, 618, 619, 620, 621, 622, 623, 624, 625, 626, 627, 628, 629, 630] (by decide +kernel) (by decide +kernel)
set_option maxRecDepth 20000 in
theorem gL_law_X5_flags : GoodIn wsL_law (wsV RL 70 RX5 yX5_flags wsX5_flags) := goodIn_app (goodIn_of _ (by decide +kernel)) ggL_law_X5_flags
set_option maxRecDepth 20000 in
theorem ggL_law_X4_flag : GoodIn wsL_law wsX4_flag := goodIn_r _ [185, 20, 186, 187, 188, 33, 189, 173, 174, 175, 176, 611, 612, 613, 634, 635, 636, 637, 638, 639] (by decide +kernel) (by decide +kernel)
set_option maxRecDepth 20000 in
theorem gL_law_X4_flag : GoodIn wsL_law (wsV RL 71 RX4 yX4_flag wsX4_flag) := goodIn_app (goodIn_of _ (by decide +kernel)) ggL_law_X4_flag
set_option maxRecDepth 20000 in
theorem ggL_law_X5_flag : GoodIn wsL_law wsX5_flag := goodIn_r _ [193, 95, 181, 614, 615, 616, 617, 618, 619, 620, 621, 622, 623, 624, 625, 626, 627, 628, 629, 630] (by decide +kernel) (by decide +kernel)
set_option maxRecDepth 20000 in
theorem gL_law_X5_flag : GoodIn wsL_law (wsV RL 75 RX5 yX5_flag wsX5_flag) := goodIn_app (goodIn_of _ (by decide +kernel)) ggL_law_X5_flag
set_option maxRecDepth 20000 in
theorem ggL_law_L_run : GoodIn wsL_law wsL_run := goodIn_ca (goodIn_r _ [196, 197, 198, 199, 200, 2, 201, 202, 203, 204, 20, 205, 206, 207, 19, 208, 38, 34, 209, 210, 211, 37, 212, 46, 47, 213, 214, 215, 216, 217, 218, 170, 171, 33, 172, 173, 174, 175, 176, 219, 220, 221, 222, 223, 224, 225, 226, 227, 228, 229, 230, 231, 232, 48, 233, 74, 75, 15, 76, 77, 234, 116, 117, 118, 25, 235, 236, 237, 238, 239, 240, 241, 242, 243, 244, 245, 246, 247, 248, 249, 250, 251, 252, 253, 254, 255, 256, 257, 258, 259, 260, 261, 262, 263, 264, 265, 266, 267, 268, 269, 270, 271, 272, 273, 274, 275, 276, 277, 278, 279, 280, 281, 282, 283, 284, 285, 286, 287, 288, 289, 290, 291, 292, 293, 294, 295, 296, 297, 298, 299, 300, 301, 302, 303, 304, 305, 306, 307, 308, 309, 310, 311, 312, 313, 314, 26, 315, 316, 317, 318, 319, 320, 321, 322, 323, 324, 325, 326, 327, 328, 329, 330, 331, 332, 333, 334, 335, 336, 337, 338, 339, 340, 341, 342, 343, 344, 345, 346, 347, 348, 349, 350, 351, 352, 353, 354, 355, 356, 357, 358, 359, 360, 361, 362, 187, 188, 189, 363, 364, 365, 366, 367, 368, 369, 370, 371, 372, 373, 374, 375, 376, 377, 378, 379, 380, 381, 382, 383, 384, 385, 386, 387, 388, 389, 390, 391, 392, 393, 394, 395, 396, 397, 398, 399, 400, 401, 402, 403, 404, 405, 406, 407, 408, 409, 410, 411, 412, 413, 414, 415, 416, 417, 418, 419, 420, 421, 422, 423, 611, 612, 613, 634, 635, 640, 641, 642, 643, 636, 637, 638, 639, 631, 632, 633] (by decide +kernel) (by decide +kernel)) (goodIn_sub (fun _ h => List.mem_append_right _ h) (by decide +kernel))
set_option maxRecDepth 20000 in
theorem gL_law_L_run : GoodIn wsL_law (va_wsS RL 76 yL_run wsL_run) := goodIn_app (goodIn_of _ (by decide +kernel)) ggL_law_L_run
set_option maxRecDepth 20000 in
theorem ggL_law_X5_run : GoodIn wsL_law wsX5_run := goodIn_r _ [427, 95, 428, 429, 430, 431, 432, 433, 5, 434, 56, 54, 181, 435, 436, 437, 53, 438, 439, 440, 55, 96, 441, 442, 443, 444, 445, 446, 447, 448, 449, 450, 451, 452, 123, 124, 125, 126, 453, 454, 455, 456, 457, 458, 459, 460, 461, 462, 463, 464, 465, 466, 467, 468, 469, 470, 471, 472, 473, 474, 475, 476, 477, 478, 479, 480, 481, 482, 483, 484, 485, 486, 487, 488, 489, 490, 491, 492, 493, 494, 495, 496, 497, 498, 499, 500, 501, 502, 503, 504, 505, 506, 507, 508, 509, 510, 511, 512, 513, 514, 515, 516, 517, 518, 519, 520, 521, 522, 523, 524, 525, 526, 527, 528, 529, 530, 531, 532, 533, 534, 535, 536, 537, 538, 539, 540, 541, 542, 543, 544, 545, 546, 547, 548, 549, 550, 551, 552, 553, 554, 555, 556, 557, 558, 100, 101, 102, 103, 614, 615, 616, 617, 618, 619, 620, 621, 622, 623, 624, 625, 626, 627, 628, 629, 630] (by decide +kernel) (by decide +kernel)
set_option maxRecDepth 20000 in
theorem gL_law_X5_run : GoodIn wsL_law (wsV RL 78 RX5 yX5_run wsX5_run) := goodIn_app (goodIn_of _ (by decide +kernel)) ggL_law_X5_run
set_option maxRecDepth 20000 in
theorem ggL_law_X4_steps : GoodIn wsL_law wsX4_steps := goodIn_r _ [562, 204, 611, 612, 613] (by decide +kernel) (by decide +kernel)
set_option maxRecDepth 20000 in
theorem gL_law_X4_steps : GoodIn wsL_law (wsV RL 79 RX4 yX4_steps wsX4_steps) := goodIn_app (goodIn_of _ (by decide +kernel)) ggL_law_X4_steps
set_option maxRecDepth 20000 in
theorem ggL_law_X5_steps : GoodIn wsL_law wsX5_steps := goodIn_r _ [566, 95, 428, 614, 615, 616, 617, 618, 619, 620, 621, 622, 623, 624, 625, 626, 627, 628, 629, 630] (by decide +kernel) (by decide +kernel)
set_option maxRecDepth 20000 in
theorem gL_law_X5_steps : GoodIn wsL_law (wsV RL 82 RX5 yX5_steps wsX5_steps) := goodIn_app (goodIn_of _ (by decide +kernel)) ggL_law_X5_steps
set_option maxRecDepth 20000 in
theorem ggL_law_L_output : GoodIn wsL_law wsL_output := goodIn_ca (goodIn_r _ [569, 61, 570, 571, 572, 2, 573, 70, 71, 16, 611, 612, 613, 631, 632, 633] (by decide +kernel) (by decide +kernel)) (goodIn_sub (fun _ h => List.mem_append_left _ (List.mem_append_right _ h)) (by decide +kernel))
set_option maxRecDepth 20000 in
theorem gL_law_L_output : GoodIn wsL_law (va_wsS RL 83 yL_output wsL_output) := goodIn_app (goodIn_of _ (by decide +kernel)) ggL_law_L_output
set_option maxRecDepth 20000 in
theorem ggL_law_X5_output : GoodIn wsL_law wsX5_output := goodIn_r _ [577, 440, 95, 55, 614, 615, 616, 617, 618, 619, 620, 621, 622, 623, 624, 625, 626, 627, 628, 629, 630] (by decide +kernel) (by decide +kernel)
set_option maxRecDepth 20000 in
theorem gL_law_X5_output : GoodIn wsL_law (wsV RL 85 RX5 yX5_output wsX5_output) := goodIn_app (goodIn_of _ (by decide +kernel)) ggL_law_X5_output
set_option maxRecDepth 20000 in
theorem ggL_law_X4_outputs : GoodIn wsL_law wsX4_outputs := goodIn_r _ [581, 16, 611, 612, 613, 631, 632, 633] (by decide +kernel) (by decide +kernel)
set_option maxRecDepth 20000 in
theorem gL_law_X4_outputs : GoodIn wsL_law (wsV RL 86 RX4 yX4_outputs wsX4_outputs) := goodIn_app (goodIn_of _ (by decide +kernel)) ggL_law_X4_outputs
set_option maxRecDepth 20000 in
theorem ggL_law_X5_outputs : GoodIn wsL_law wsX5_outputs := goodIn_r _ [585, 95, 440, 614, 615, 616, 617, 618, 619, 620, 621, 622, 623, 624, 625, 626, 627, 628, 629, 630] (by decide +kernel) (by decide +kernel)
set_option maxRecDepth 20000 in
theorem gL_law_X5_outputs : GoodIn wsL_law (wsV RL 89 RX5 yX5_outputs wsX5_outputs) := goodIn_app (goodIn_of _ (by decide +kernel)) ggL_law_X5_outputs
set_option maxRecDepth 20000 in
theorem ggL_law_X4_clear : GoodIn wsL_law wsX4_clear := goodIn_r _ [589, 16, 20, 204, 590, 591, 592, 15, 593, 25, 314, 594, 595, 596, 597, 598, 599, 600, 19, 601, 38, 34, 602, 603, 604, 37, 605, 46, 606, 362, 187, 188, 33, 189, 173, 174, 175, 176, 611, 612, 613, 631, 632, 633, 634, 635, 640, 641, 642, 643, 636, 637, 638, 639] (by decide +kernel) (by decide +kernel)
set_option maxRecDepth 20000 in
theorem gL_law_X4_clear : GoodIn wsL_law (wsV RL 90 RX4 yX4_clear wsX4_clear) := goodIn_app (goodIn_of _ (by decide +kernel)) ggL_law_X4_clear
set_option maxRecDepth 20000 in
theorem ggL_law_X5_clear : GoodIn wsL_law wsX5_clear := goodIn_r _ [610, 95, 53, 54, 181, 440, 428, 614, 615, 616, 617, 618, 619, 620, 621, 622, 623, 624, 625, 626, 627, 628, 629, 630] (by decide +kernel) (by decide +kernel)
set_option maxRecDepth 20000 in
theorem gL_law_X5_clear : GoodIn wsL_law (wsV RL 93 RX5 yX5_clear wsX5_clear) := goodIn_app (goodIn_of _ (by decide +kernel)) ggL_law_X5_clear
