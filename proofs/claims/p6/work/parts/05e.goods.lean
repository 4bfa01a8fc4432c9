set_option maxRecDepth 20000 in
theorem ggX3_branch_X3_hasHighestBit : GoodIn wsX3_branch wsX3_hasHighestBit := goodIn_pq _ [5] [6] rfl (by decide +kernel) (by decide +kernel)
set_option maxRecDepth 20000 in
theorem gX3_branch_X3_hasHighestBit : GoodIn wsX3_branch (va_wsS RX3 65 yX3_hasHighestBit wsX3_hasHighestBit) := goodIn_app (goodIn_of _ (by decide +kernel)) ggX3_branch_X3_hasHighestBit
set_option maxRecDepth 20000 in
theorem ggX3_branch_X3_isMet : GoodIn wsX3_branch wsX3_isMet := goodIn_pq _ [10, 16] [11, 12, 13, 14, 15, 17, 18, 33, 34, 35, 36, 37, 38] rfl (by decide +kernel) (by decide +kernel)
set_option maxRecDepth 20000 in
theorem gX3_branch_X3_isMet : GoodIn wsX3_branch (wsV RX3 198 RX3 yX3_isMet wsX3_isMet) := goodIn_app (goodIn_of _ (by decide +kernel)) ggX3_branch_X3_isMet
set_option maxRecDepth 20000 in
theorem ggX3_branch_X4_signed : GoodIn wsX3_branch wsX4_signed := goodIn_pq _ [21, 24] [22, 23, 20, 25] rfl (by decide +kernel) (by decide +kernel)
set_option maxRecDepth 20000 in
theorem gX3_branch_X4_signed_n178 : GoodIn wsX3_branch (wsX4_signed) := ggX3_branch_X4_signed
set_option maxRecDepth 20000 in
theorem ggX3_branch_X2_goOn : GoodIn wsX3_branch wsX2_goOn := goodIn_pq _ [30] [31, 32, 39, 40, 41, 42] rfl (by decide +kernel) (by decide +kernel)
set_option maxRecDepth 20000 in
theorem gX3_branch_X2_goOn : GoodIn wsX3_branch (wsV RX3 195 RX2 yX2_goOn wsX2_goOn) := goodIn_app (goodIn_of _ (by decide +kernel)) ggX3_branch_X2_goOn
set_option maxRecDepth 20000 in
theorem ggX3_isMet_X0_below : GoodIn wsX3_isMet wsX0_below := goodIn_pq _ [6] [7, 8, 11, 12, 13, 14] rfl (by decide +kernel) (by decide +kernel)
set_option maxRecDepth 20000 in
theorem gX3_isMet_X0_below : GoodIn wsX3_isMet (wsV RX3 201 RX0 yX0_below wsX0_below) := goodIn_app (goodIn_of _ (by decide +kernel)) ggX3_isMet_X0_below
set_option maxRecDepth 20000 in
theorem ggX3_jump_X3_isRegisterWay : GoodIn wsX3_jump wsX3_isRegisterWay := goodIn_pq _ [6] [] rfl (by decide +kernel) (by decide +kernel)
set_option maxRecDepth 20000 in
theorem gX3_jump_X3_isRegisterWay : GoodIn wsX3_jump (va_wsS RX3 205 yX3_isRegisterWay wsX3_isRegisterWay) := goodIn_app (goodIn_of _ (by decide +kernel)) ggX3_jump_X3_isRegisterWay
set_option maxRecDepth 20000 in
theorem ggX3_jump_X3_refuse : GoodIn wsX3_jump wsX3_refuse := goodIn_pq _ [10] [1, 51, 52, 53, 54, 55, 56] rfl (by decide +kernel) (by decide +kernel)
set_option maxRecDepth 20000 in
theorem gX3_jump_X3_refuse : GoodIn wsX3_jump (wsV RX3 114 RX3 yX3_refuse wsX3_refuse) := goodIn_app (goodIn_of _ (by decide +kernel)) ggX3_jump_X3_refuse
set_option maxRecDepth 20000 in
theorem ggX3_jump_X2_locate : GoodIn wsX3_jump wsX2_locate := goodIn_pq _ [15, 21, 25, 29, 36, 41, 46, 50] [16, 17, 18, 19, 20, 14, 22, 23, 24, 26, 27, 28, 30, 31, 32, 33, 34, 35, 37, 38, 39, 40, 42, 43, 44, 45, 47, 48, 49, 53, 54, 55, 56, 57, 58, 59] rfl (by decide +kernel) (by decide +kernel)
set_option maxRecDepth 20000 in
theorem gX3_jump_X2_locate : GoodIn wsX3_jump (wsV RX3 74 RX2 yX2_locate wsX2_locate) := goodIn_app (goodIn_of _ (by decide +kernel)) ggX3_jump_X2_locate
set_option maxRecDepth 20000 in
theorem ggX3_callPart_X3_isRegisterWay : GoodIn wsX3_callPart wsX3_isRegisterWay := goodIn_pq _ [6] [] rfl (by decide +kernel) (by decide +kernel)
set_option maxRecDepth 20000 in
theorem gX3_callPart_X3_isRegisterWay : GoodIn wsX3_callPart (va_wsS RX3 205 yX3_isRegisterWay wsX3_isRegisterWay) := goodIn_app (goodIn_of _ (by decide +kernel)) ggX3_callPart_X3_isRegisterWay
set_option maxRecDepth 20000 in
theorem ggX3_callPart_X3_refuse : GoodIn wsX3_callPart wsX3_refuse := goodIn_pq _ [10] [1, 65, 66, 67, 68, 69, 70] rfl (by decide +kernel) (by decide +kernel)
set_option maxRecDepth 20000 in
theorem gX3_callPart_X3_refuse : GoodIn wsX3_callPart (wsV RX3 114 RX3 yX3_refuse wsX3_refuse) := goodIn_app (goodIn_of _ (by decide +kernel)) ggX3_callPart_X3_refuse
set_option maxRecDepth 20000 in
theorem ggX3_callPart_X2_locate : GoodIn wsX3_callPart wsX2_locate := goodIn_pq _ [15, 21, 25, 29, 36, 41, 46, 50] [16, 17, 18, 19, 20, 14, 22, 23, 24, 26, 27, 28, 30, 31, 32, 33, 34, 35, 37, 38, 39, 40, 42, 43, 44, 45, 47, 48, 49, 67, 68, 69, 70, 71, 72, 73] rfl (by decide +kernel) (by decide +kernel)
set_option maxRecDepth 20000 in
theorem gX3_callPart_X2_locate : GoodIn wsX3_callPart (wsV RX3 74 RX2 yX2_locate wsX2_locate) := goodIn_app (goodIn_of _ (by decide +kernel)) ggX3_callPart_X2_locate
set_option maxRecDepth 20000 in
theorem ggX3_callPart_X2_push : GoodIn wsX3_callPart wsX2_push := goodIn_pq _ [54, 46, 58, 36, 62] [18, 43, 44, 45, 14, 17, 55, 56, 57, 16, 30, 31, 32, 33, 34, 35, 37, 59, 60, 61, 42, 63, 64, 67, 68, 69, 70, 71, 72, 73] rfl (by decide +kernel) (by decide +kernel)
set_option maxRecDepth 20000 in
theorem gX3_callPart_X2_push : GoodIn wsX3_callPart (wsV RX3 208 RX2 yX2_push wsX2_push) := goodIn_app (goodIn_of _ (by decide +kernel)) ggX3_callPart_X2_push
set_option maxRecDepth 20000 in
theorem ggX3_returnOrSetFlags_X2_pop : GoodIn wsX3_returnOrSetFlags wsX2_pop := goodIn_pq _ [7, 12, 17, 25, 30] [8, 9, 10, 11, 6, 13, 14, 15, 16, 18, 19, 20, 21, 22, 23, 24, 26, 27, 28, 29, 31, 52, 53, 54, 55, 56, 57, 58] rfl (by decide +kernel) (by decide +kernel)
set_option maxRecDepth 20000 in
theorem gX3_returnOrSetFlags_X2_pop : GoodIn wsX3_returnOrSetFlags (wsV RX3 211 RX2 yX2_pop wsX2_pop) := goodIn_app (goodIn_of _ (by decide +kernel)) ggX3_returnOrSetFlags_X2_pop
set_option maxRecDepth 20000 in
theorem ggX3_returnOrSetFlags_X3_refuse : GoodIn wsX3_returnOrSetFlags wsX3_refuse := goodIn_pq _ [36] [1, 50, 51, 52, 53, 54, 55] rfl (by decide +kernel) (by decide +kernel)
set_option maxRecDepth 20000 in
theorem gX3_returnOrSetFlags_X3_refuse : GoodIn wsX3_returnOrSetFlags (wsV RX3 114 RX3 yX3_refuse wsX3_refuse) := goodIn_app (goodIn_of _ (by decide +kernel)) ggX3_returnOrSetFlags_X3_refuse
set_option maxRecDepth 20000 in
theorem ggX3_returnOrSetFlags_X0_number : GoodIn wsX3_returnOrSetFlags wsX0_number := goodIn_pq _ [41] [42, 43, 44, 45, 59, 60, 61, 62] rfl (by decide +kernel) (by decide +kernel)
set_option maxRecDepth 20000 in
theorem gX3_returnOrSetFlags_X0_number : GoodIn wsX3_returnOrSetFlags (wsV RX3 37 RX0 yX0_number wsX0_number) := goodIn_app (goodIn_of _ (by decide +kernel)) ggX3_returnOrSetFlags_X0_number
set_option maxRecDepth 20000 in
theorem ggX3_returnOrSetFlags_X0_become : GoodIn wsX3_returnOrSetFlags wsX0_become := goodIn_pq _ [49] [42, 43, 44, 45, 59, 60, 61, 62] rfl (by decide +kernel) (by decide +kernel)
set_option maxRecDepth 20000 in
theorem gX3_returnOrSetFlags_X0_become : GoodIn wsX3_returnOrSetFlags (wsV RX3 30 RX0 yX0_become wsX0_become) := goodIn_app (goodIn_of _ (by decide +kernel)) ggX3_returnOrSetFlags_X0_become
set_option maxRecDepth 20000 in
theorem ggX4_init_X1_init : GoodIn wsX4_init wsX1_init := goodIn_pq _ [13, 3] [14, 2, 15, 16, 17, 40, 41, 42] rfl (by decide +kernel) (by decide +kernel)
set_option maxRecDepth 20000 in
theorem gX4_init_X1_init_n11 : GoodIn wsX4_init (wsX1_init) := ggX4_init_X1_init
set_option maxRecDepth 20000 in
theorem ggX4_init_X3_init : GoodIn wsX4_init wsX3_init := goodIn_pq _ [20, 3, 31, 35] [21, 2, 22, 23, 24, 25, 26, 27, 28, 29, 30, 32, 33, 34, 36, 15, 37, 38, 39, 48, 49, 50, 51, 46, 47, 52, 53, 54, 55] rfl (by decide +kernel) (by decide +kernel)
set_option maxRecDepth 20000 in
theorem gX4_init_X3_init : GoodIn wsX4_init (wsX3_init) := ggX4_init_X3_init
set_option maxRecDepth 20000 in
theorem ggX4_load_X4_needWordAt : GoodIn wsX4_load wsX4_needWordAt := goodIn_ca (goodIn_pq _ [6, 14] [7, 8, 1, 9, 10, 11, 12, 13, 15, 30, 31, 32] rfl (by decide +kernel) (by decide +kernel)) (goodIn_sub (fun _ h => List.mem_cons_of_mem _ (List.mem_append_right _ h)) (by decide +kernel))
set_option maxRecDepth 20000 in
theorem gX4_load_X4_needWordAt : GoodIn wsX4_load (wsV RX4 25 RX4 yX4_needWordAt wsX4_needWordAt) := goodIn_app (goodIn_of _ (by decide +kernel)) ggX4_load_X4_needWordAt
set_option maxRecDepth 20000 in
theorem ggX4_load_X1_setPair : GoodIn wsX4_load wsX1_setPair := goodIn_pq _ [19, 23, 14, 28] [20, 21, 22, 13, 15, 24, 11, 12, 25, 26, 27, 29, 33, 34, 35] rfl (by decide +kernel) (by decide +kernel)
set_option maxRecDepth 20000 in
theorem gX4_load_X1_setPair : GoodIn wsX4_load (wsV RX4 29 RX1 yX1_setPair wsX1_setPair) := goodIn_app (goodIn_of _ (by decide +kernel)) ggX4_load_X1_setPair
set_option maxRecDepth 20000 in
theorem ggX4_word_X4_needWordAt : GoodIn wsX4_word wsX4_needWordAt := goodIn_ca (goodIn_pq _ [7, 14] [8, 9, 1, 2, 10, 11, 12, 13, 15, 21, 22, 23] rfl (by decide +kernel) (by decide +kernel)) (goodIn_sub (fun _ h => List.mem_cons_of_mem _ (List.mem_append_right _ h)) (by decide +kernel))
set_option maxRecDepth 20000 in
theorem gX4_word_X4_needWordAt : GoodIn wsX4_word (wsV RX4 25 RX4 yX4_needWordAt wsX4_needWordAt) := goodIn_app (goodIn_of _ (by decide +kernel)) ggX4_word_X4_needWordAt
set_option maxRecDepth 20000 in
theorem ggX4_word_X1_valueAt : GoodIn wsX4_word wsX1_valueAt := goodIn_pq _ [19] [20, 24, 25, 26] rfl (by decide +kernel) (by decide +kernel)
set_option maxRecDepth 20000 in
theorem gX4_word_X1_valueAt : GoodIn wsX4_word (wsV RX4 34 RX1 yX1_valueAt wsX1_valueAt) := goodIn_app (goodIn_of _ (by decide +kernel)) ggX4_word_X1_valueAt
set_option maxRecDepth 20000 in
theorem ggX4_poke_X4_needWordAt : GoodIn wsX4_poke wsX4_needWordAt := goodIn_ca (goodIn_pq _ [7, 14] [8, 9, 1, 2, 10, 11, 12, 13, 15, 25, 26, 27] rfl (by decide +kernel) (by decide +kernel)) (goodIn_sub (fun _ h => List.mem_cons_of_mem _ (List.mem_append_right _ h)) (by decide +kernel))
set_option maxRecDepth 20000 in
theorem gX4_poke_X4_needWordAt : GoodIn wsX4_poke (wsV RX4 25 RX4 yX4_needWordAt wsX4_needWordAt) := goodIn_app (goodIn_of _ (by decide +kernel)) ggX4_poke_X4_needWordAt
set_option maxRecDepth 20000 in
theorem ggX4_poke_X1_valueAt : GoodIn wsX4_poke wsX1_valueAt := goodIn_pq _ [19] [20, 28, 29, 30] rfl (by decide +kernel) (by decide +kernel)
set_option maxRecDepth 20000 in
theorem gX4_poke_X1_valueAt : GoodIn wsX4_poke (wsV RX4 34 RX1 yX1_valueAt wsX1_valueAt) := goodIn_app (goodIn_of _ (by decide +kernel)) ggX4_poke_X1_valueAt
set_option maxRecDepth 20000 in
theorem ggX4_poke_X1_setWord : GoodIn wsX4_poke wsX1_setWord := goodIn_pq _ [24] [20, 15, 28, 29, 30] rfl (by decide +kernel) (by decide +kernel)
set_option maxRecDepth 20000 in
theorem gX4_poke_X1_setWord : GoodIn wsX4_poke (wsV RX4 37 RX1 yX1_setWord wsX1_setWord) := goodIn_app (goodIn_of _ (by decide +kernel)) ggX4_poke_X1_setWord
set_option maxRecDepth 20000 in
theorem ggX4_register_X4_needRegister : GoodIn wsX4_register wsX4_needRegister := goodIn_ca (goodIn_pq _ [6] [7, 8] rfl (by decide +kernel) (by decide +kernel)) (goodIn_sub (fun _ h => List.mem_cons_of_mem _ (List.mem_append_right _ h)) (by decide +kernel))
set_option maxRecDepth 20000 in
theorem gX4_register_X4_needRegister : GoodIn wsX4_register (wsV RX4 41 RX4 yX4_needRegister wsX4_needRegister) := goodIn_app (goodIn_of _ (by decide +kernel)) ggX4_register_X4_needRegister
set_option maxRecDepth 20000 in
theorem ggX4_put_X4_needRegister : GoodIn wsX4_put wsX4_needRegister := goodIn_ca (goodIn_pq _ [7] [8, 9] rfl (by decide +kernel) (by decide +kernel)) (goodIn_sub (fun _ h => List.mem_cons_of_mem _ (List.mem_append_right _ h)) (by decide +kernel))
set_option maxRecDepth 20000 in
theorem gX4_put_X4_needRegister : GoodIn wsX4_put (wsV RX4 41 RX4 yX4_needRegister wsX4_needRegister) := goodIn_app (goodIn_of _ (by decide +kernel)) ggX4_put_X4_needRegister
set_option maxRecDepth 20000 in
theorem ggX4_flags_X0_number : GoodIn wsX4_flags wsX0_number := goodIn_pq _ [6] [7, 8, 9, 10, 16, 17, 18, 19] rfl (by decide +kernel) (by decide +kernel)
set_option maxRecDepth 20000 in
theorem gX4_flags_X0_number : GoodIn wsX4_flags (wsV RX4 58 RX0 yX0_number wsX0_number) := goodIn_app (goodIn_of _ (by decide +kernel)) ggX4_flags_X0_number
