set_option maxRecDepth 20000 in
theorem ggX1_setPair_X1_setIfThere : GoodIn wsX1_setPair wsX1_setIfThere := goodIn_pq _ [5, 10, 14] [6, 7, 8, 9, 4, 11, 12, 13, 15, 16, 17, 18] rfl (by decide +kernel) (by decide +kernel)
set_option maxRecDepth 20000 in
theorem gX1_setPair_X1_setIfThere : GoodIn wsX1_setPair (wsV RX1 19 RX1 yX1_setIfThere wsX1_setIfThere) := goodIn_app (goodIn_of _ (by decide +kernel)) ggX1_setPair_X1_setIfThere
set_option maxRecDepth 20000 in
theorem ggX1_empty_J7_fill_53178 : GoodIn wsX1_empty wsJ7_fill_53178 := goodIn_pq _ [6] [] rfl (by decide +kernel) (by decide +kernel)
set_option maxRecDepth 20000 in
theorem gX1_empty_J7_fill_53178 : GoodIn wsX1_empty (va_wsS RX1 27 yJ7_fill_53178 wsJ7_fill_53178) := goodIn_app (goodIn_of _ (by decide +kernel)) ggX1_empty_J7_fill_53178
set_option maxRecDepth 20000 in
theorem ggX1_setIfThere_X1_faultAt : GoodIn wsX1_setIfThere wsX1_faultAt := goodIn_pq _ [6] [1] rfl (by decide +kernel) (by decide +kernel)
set_option maxRecDepth 20000 in
theorem gX1_setIfThere_X1_faultAt : GoodIn wsX1_setIfThere (wsV RX1 33 RX1 yX1_faultAt wsX1_faultAt) := goodIn_app (goodIn_of _ (by decide +kernel)) ggX1_setIfThere_X1_faultAt
set_option maxRecDepth 20000 in
theorem ggX1_setIfThere_X1_setWord : GoodIn wsX1_setIfThere wsX1_setWord := goodIn_pq _ [10] [11, 1, 12, 13, 14] rfl (by decide +kernel) (by decide +kernel)
set_option maxRecDepth 20000 in
theorem gX1_setIfThere_X1_setWord : GoodIn wsX1_setIfThere (wsV RX1 36 RX1 yX1_setWord wsX1_setWord) := goodIn_app (goodIn_of _ (by decide +kernel)) ggX1_setIfThere_X1_setWord
set_option maxRecDepth 20000 in
theorem ggX2_empty_J7_fill_53178 : GoodIn wsX2_empty wsJ7_fill_53178 := goodIn_pq _ [5] [] rfl (by decide +kernel) (by decide +kernel)
set_option maxRecDepth 20000 in
theorem gX2_empty_J7_fill_53178 : GoodIn wsX2_empty (va_wsS RX2 32 yJ7_fill_53178 wsJ7_fill_53178) := goodIn_app (goodIn_of _ (by decide +kernel)) ggX2_empty_J7_fill_53178
set_option maxRecDepth 20000 in
theorem ggX2_fetch_X1_faultAt : GoodIn wsX2_fetch wsX1_faultAt := goodIn_pq _ [9] [10] rfl (by decide +kernel) (by decide +kernel)
set_option maxRecDepth 20000 in
theorem gX2_fetch_X1_faultAt : GoodIn wsX2_fetch (wsV RX2 56 RX1 yX1_faultAt wsX1_faultAt) := goodIn_app (goodIn_of _ (by decide +kernel)) ggX2_fetch_X1_faultAt
set_option maxRecDepth 20000 in
theorem ggX2_fetch_X1_valueAt : GoodIn wsX2_fetch wsX1_valueAt := goodIn_pq _ [14] [15, 20, 21, 22] rfl (by decide +kernel) (by decide +kernel)
set_option maxRecDepth 20000 in
theorem gX2_fetch_X1_valueAt : GoodIn wsX2_fetch (wsV RX2 61 RX1 yX1_valueAt wsX1_valueAt) := goodIn_app (goodIn_of _ (by decide +kernel)) ggX2_fetch_X1_valueAt
set_option maxRecDepth 20000 in
theorem ggX2_takeNext_X2_grow : GoodIn wsX2_takeNext wsX2_grow := goodIn_pq _ [6] [7, 1, 26, 27, 28, 29] rfl (by decide +kernel) (by decide +kernel)
set_option maxRecDepth 20000 in
theorem gX2_takeNext_X2_grow : GoodIn wsX2_takeNext (wsV RX2 43 RX2 yX2_grow wsX2_grow) := goodIn_app (goodIn_of _ (by decide +kernel)) ggX2_takeNext_X2_grow
set_option maxRecDepth 20000 in
theorem ggX2_takeNext_X2_fetch : GoodIn wsX2_takeNext wsX2_fetch := goodIn_pq _ [11, 19, 24] [12, 7, 13, 14, 15, 16, 17, 18, 20, 21, 22, 23, 25, 26, 27, 28, 29, 30, 31, 32] rfl (by decide +kernel) (by decide +kernel)
set_option maxRecDepth 20000 in
theorem gX2_takeNext_X2_fetch : GoodIn wsX2_takeNext (wsV RX2 47 RX2 yX2_fetch wsX2_fetch) := goodIn_app (goodIn_of _ (by decide +kernel)) ggX2_takeNext_X2_fetch
set_option maxRecDepth 20000 in
theorem ggX3_init_X0_init : GoodIn wsX3_init wsX0_init := goodIn_pq _ [13, 3] [14, 2] rfl (by decide +kernel) (by decide +kernel)
set_option maxRecDepth 20000 in
theorem gX3_init_X0_init_n11 : GoodIn wsX3_init (wsX0_init) := ggX3_init_X0_init
set_option maxRecDepth 20000 in
theorem ggX3_init_X2_init : GoodIn wsX3_init wsX2_init := goodIn_pq _ [17, 3] [18, 2, 19, 20, 21, 22, 29, 30, 31, 32] rfl (by decide +kernel) (by decide +kernel)
set_option maxRecDepth 20000 in
theorem gX3_init_X2_init : GoodIn wsX3_init (wsX2_init) := ggX3_init_X2_init
set_option maxRecDepth 20000 in
theorem ggX3_empty_X2_empty : GoodIn wsX3_empty wsX2_empty := goodIn_pq _ [7, 12] [8, 9, 10, 11, 24, 25, 26, 27] rfl (by decide +kernel) (by decide +kernel)
set_option maxRecDepth 20000 in
theorem gX3_empty_X2_empty : GoodIn wsX3_empty (wsV RX3 27 RX2 yX2_empty wsX2_empty) := goodIn_app (goodIn_of _ (by decide +kernel)) ggX3_empty_X2_empty
set_option maxRecDepth 20000 in
theorem ggX3_empty_X0_become : GoodIn wsX3_empty wsX0_become := goodIn_pq _ [17] [18, 19, 20, 21, 28, 29, 30, 31] rfl (by decide +kernel) (by decide +kernel)
set_option maxRecDepth 20000 in
theorem gX3_empty_X0_become : GoodIn wsX3_empty (wsV RX3 30 RX0 yX0_become wsX0_become) := goodIn_app (goodIn_of _ (by decide +kernel)) ggX3_empty_X0_become
set_option maxRecDepth 20000 in
theorem ggX3_step_X2_begin : GoodIn wsX3_step wsX2_begin := goodIn_pq _ [7] [8, 9, 10, 11, 12, 13, 14, 247, 248, 249, 250] rfl (by decide +kernel) (by decide +kernel)
set_option maxRecDepth 20000 in
theorem gX3_step_X2_begin : GoodIn wsX3_step (wsV RX3 34 RX2 yX2_begin wsX2_begin) := goodIn_app (goodIn_of _ (by decide +kernel)) ggX3_step_X2_begin
set_option maxRecDepth 20000 in
theorem ggX3_step_X0_number : GoodIn wsX3_step wsX0_number := goodIn_pq _ [19] [20, 21, 22, 23, 251, 252, 253, 254] rfl (by decide +kernel) (by decide +kernel)
set_option maxRecDepth 20000 in
theorem gX3_step_X0_number : GoodIn wsX3_step (wsV RX3 37 RX0 yX0_number wsX0_number) := goodIn_app (goodIn_of _ (by decide +kernel)) ggX3_step_X0_number
set_option maxRecDepth 20000 in
theorem ggX3_step_X2_takeNext : GoodIn wsX3_step wsX2_takeNext := goodIn_pq _ [27, 32, 36, 43, 48] [28, 29, 30, 31, 6, 8, 33, 34, 35, 37, 14, 38, 39, 40, 41, 42, 44, 45, 46, 47, 49, 247, 248, 249, 250, 255, 256, 257] rfl (by decide +kernel) (by decide +kernel)
set_option maxRecDepth 20000 in
theorem gX3_step_X2_takeNext : GoodIn wsX3_step (wsV RX3 41 RX2 yX2_takeNext wsX2_takeNext) := goodIn_app (goodIn_of _ (by decide +kernel)) ggX3_step_X2_takeNext
set_option maxRecDepth 20000 in
theorem ggX3_step_X0_become : GoodIn wsX3_step wsX0_become := goodIn_pq _ [183] [20, 21, 22, 23, 251, 252, 253, 254] rfl (by decide +kernel) (by decide +kernel)
set_option maxRecDepth 20000 in
theorem gX3_step_X0_become : GoodIn wsX3_step (wsV RX3 30 RX0 yX0_become wsX0_become) := goodIn_app (goodIn_of _ (by decide +kernel)) ggX3_step_X0_become
set_option maxRecDepth 20000 in
theorem ggX4_init_X1_init : GoodIn wsX4_init wsX1_init := goodIn_pq _ [13, 3] [14, 2, 15, 16, 17, 40, 41, 42] rfl (by decide +kernel) (by decide +kernel)
set_option maxRecDepth 20000 in
theorem gX4_init_X1_init_n11 : GoodIn wsX4_init (wsX1_init) := ggX4_init_X1_init
set_option maxRecDepth 20000 in
theorem ggX4_init_X3_init : GoodIn wsX4_init wsX3_init := goodIn_pq _ [20, 3, 31, 35] [21, 2, 22, 23, 24, 25, 26, 27, 28, 29, 30, 32, 33, 34, 36, 15, 37, 38, 39, 48, 49, 50, 51, 46, 47, 52, 53, 54, 55] rfl (by decide +kernel) (by decide +kernel)
set_option maxRecDepth 20000 in
theorem gX4_init_X3_init : GoodIn wsX4_init (wsX3_init) := ggX4_init_X3_init
set_option maxRecDepth 20000 in
theorem ggX4_load_X4_needWordAt : GoodIn wsX4_load wsX4_needWordAt := goodIn_ca (goodIn_pq _ [6, 14] [7, 8, 1, 9, 10, 11, 12, 13, 15, 30, 31, 32] rfl (by decide +kernel) (by decide +kernel)) (goodIn_sub (fun _ h => List.mem_cons_of_mem _ (List.mem_append_right _ h)) (by decide +kernel))
set_option maxRecDepth 20000 in
theorem gX4_load_X4_needWordAt : GoodIn wsX4_load (wsV RX4 25 RX4 yX4_needWordAt wsX4_needWordAt) := goodIn_app (goodIn_of _ (by decide +kernel)) ggX4_load_X4_needWordAt
set_option maxRecDepth 20000 in
theorem ggX4_load_X1_setPair : GoodIn wsX4_load wsX1_setPair := goodIn_pq _ [19, 23, 14, 28] [20, 21, 22, 13, 15, 24, 11, 12, 25, 26, 27, 29, 33, 34, 35] rfl (by decide +kernel) (by decide +kernel)
set_option maxRecDepth 20000 in
theorem gX4_load_X1_setPair : GoodIn wsX4_load (wsV RX4 29 RX1 yX1_setPair wsX1_setPair) := goodIn_app (goodIn_of _ (by decide +kernel)) ggX4_load_X1_setPair
set_option maxRecDepth 20000 in
theorem ggX4_word_X4_needWordAt : GoodIn wsX4_word wsX4_needWordAt := goodIn_ca (goodIn_pq _ [7, 14] [8, 9, 1, 2, 10, 11, 12, 13, 15, 21, 22, 23] rfl (by decide +kernel) (by decide +kernel)) (goodIn_sub (fun _ h => List.mem_cons_of_mem _ (List.mem_append_right _ h)) (by decide +kernel))
set_option maxRecDepth 20000 in
theorem gX4_word_X4_needWordAt : GoodIn wsX4_word (wsV RX4 25 RX4 yX4_needWordAt wsX4_needWordAt) := goodIn_app (goodIn_of _ (by decide +kernel)) ggX4_word_X4_needWordAt
set_option maxRecDepth 20000 in
theorem ggX4_word_X1_valueAt : GoodIn wsX4_word wsX1_valueAt := goodIn_pq _ [19] [20, 24, 25, 26] rfl (by decide +kernel) (by decide +kernel)
set_option maxRecDepth 20000 in
theorem gX4_word_X1_valueAt : GoodIn wsX4_word (wsV RX4 34 RX1 yX1_valueAt wsX1_valueAt) := goodIn_app (goodIn_of _ (by decide +kernel)) ggX4_word_X1_valueAt
set_option maxRecDepth 20000 in
theorem ggX4_poke_X4_needWordAt : GoodIn wsX4_poke wsX4_needWordAt := goodIn_ca (goodIn_pq _ [7, 14] [8, 9, 1, 2, 10, 11, 12, 13, 15, 25, 26, 27] rfl (by decide +kernel) (by decide +kernel)) (goodIn_sub (fun _ h => List.mem_cons_of_mem _ (List.mem_append_right _ h)) (by decide +kernel))
set_option maxRecDepth 20000 in
theorem gX4_poke_X4_needWordAt : GoodIn wsX4_poke (wsV RX4 25 RX4 yX4_needWordAt wsX4_needWordAt) := goodIn_app (goodIn_of _ (by decide +kernel)) ggX4_poke_X4_needWordAt
set_option maxRecDepth 20000 in
theorem ggX4_poke_X1_valueAt : GoodIn wsX4_poke wsX1_valueAt := goodIn_pq _ [19] [20, 28, 29, 30] rfl (by decide +kernel) (by decide +kernel)
set_option maxRecDepth 20000 in
theorem gX4_poke_X1_valueAt : GoodIn wsX4_poke (wsV RX4 34 RX1 yX1_valueAt wsX1_valueAt) := goodIn_app (goodIn_of _ (by decide +kernel)) ggX4_poke_X1_valueAt
set_option maxRecDepth 20000 in
theorem ggX4_poke_X1_setWord : GoodIn wsX4_poke wsX1_setWord := goodIn_pq _ [24] [20, 15, 28, 29, 30] rfl (by decide +kernel) (by decide +kernel)
set_option maxRecDepth 20000 in
theorem gX4_poke_X1_setWord : GoodIn wsX4_poke (wsV RX4 37 RX1 yX1_setWord wsX1_setWord) := goodIn_app (goodIn_of _ (by decide +kernel)) ggX4_poke_X1_setWord
set_option maxRecDepth 20000 in
theorem ggX4_register_X4_needRegister : GoodIn wsX4_register wsX4_needRegister := goodIn_ca (goodIn_pq _ [6] [7, 8] rfl (by decide +kernel) (by decide +kernel)) (goodIn_sub (fun _ h => List.mem_cons_of_mem _ (List.mem_append_right _ h)) (by decide +kernel))
set_option maxRecDepth 20000 in
theorem gX4_register_X4_needRegister : GoodIn wsX4_register (wsV RX4 41 RX4 yX4_needRegister wsX4_needRegister) := goodIn_app (goodIn_of _ (by decide +kernel)) ggX4_register_X4_needRegister
set_option maxRecDepth 20000 in
theorem ggX4_put_X4_needRegister : GoodIn wsX4_put wsX4_needRegister := goodIn_ca (goodIn_pq _ [7] [8, 9] rfl (by decide +kernel) (by decide +kernel)) (goodIn_sub (fun _ h => List.mem_cons_of_mem _ (List.mem_append_right _ h)) (by decide +kernel))
set_option maxRecDepth 20000 in
theorem gX4_put_X4_needRegister : GoodIn wsX4_put (wsV RX4 41 RX4 yX4_needRegister wsX4_needRegister) := goodIn_app (goodIn_of _ (by decide +kernel)) ggX4_put_X4_needRegister
