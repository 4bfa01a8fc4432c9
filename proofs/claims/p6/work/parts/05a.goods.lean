set_option maxRecDepth 20000 in
theorem ggX0_setByResult_X4_signOf : GoodIn wsX0_setByResult wsX4_signOf := goodIn_pq _ [5] [6] rfl (by decide +kernel) (by decide +kernel)
set_option maxRecDepth 20000 in
theorem gX0_setByResult_X4_signOf_n22 : GoodIn wsX0_setByResult (wsX4_signOf) := ggX0_setByResult_X4_signOf
set_option maxRecDepth 20000 in
theorem ggX1_setPair_X1_setIfThere : GoodIn wsX1_setPair wsX1_setIfThere := goodIn_pq _ [5, 10, 14] [6, 7, 8, 9, 4, 11, 12, 13, 15, 16, 17, 18] rfl (by decide +kernel) (by decide +kernel)
set_option maxRecDepth 20000 in
theorem gX1_setPair_X1_setIfThere : GoodIn wsX1_setPair (wsV RX1 19 RX1 yX1_setIfThere wsX1_setIfThere) := goodIn_app (goodIn_of _ (by decide +kernel)) ggX1_setPair_X1_setIfThere
set_option maxRecDepth 20000 in
theorem ggX1_empty_J7_fill_53178 : GoodIn wsX1_empty wsJ7_fill_53178 := goodIn_pq _ [6] [] rfl (by decide +kernel) (by decide +kernel)
set_option maxRecDepth 20000 in
theorem gX1_empty_J7_fill_53178 : GoodIn wsX1_empty (va_wsS RX1 27 yJ7_fill_53178 wsJ7_fill_53178) := goodIn_app (goodIn_of _ (by decide +kernel)) ggX1_empty_J7_fill_53178
set_option maxRecDepth 20000 in
theorem ggX1_setIfThere_X1_faultAt : GoodIn wsX1_setIfThere wsX1_faultAt := goodIn_pq _ [6] [1] rfl (by decide +kernel) (by decide +kernel)
set_option maxRecDepth 20000 in
theorem gX1_setIfThere_X1_faultAt : GoodIn wsX1_setIfThere (wsV RX1 33 RX1 yX1_faultAt wsX1_faultAt) := goodIn_app (goodIn_of _ (by decide +kernel)) ggX1_setIfThere_X1_faultAt
set_option maxRecDepth 20000 in
theorem ggX1_setIfThere_X1_setWord : GoodIn wsX1_setIfThere wsX1_setWord := goodIn_pq _ [10] [11, 1, 12, 13, 14] rfl (by decide +kernel) (by decide +kernel)
set_option maxRecDepth 20000 in
theorem gX1_setIfThere_X1_setWord : GoodIn wsX1_setIfThere (wsV RX1 36 RX1 yX1_setWord wsX1_setWord) := goodIn_app (goodIn_of _ (by decide +kernel)) ggX1_setIfThere_X1_setWord
set_option maxRecDepth 20000 in
theorem ggX2_empty_J7_fill_53178 : GoodIn wsX2_empty wsJ7_fill_53178 := goodIn_pq _ [5] [] rfl (by decide +kernel) (by decide +kernel)
set_option maxRecDepth 20000 in
theorem gX2_empty_J7_fill_53178 : GoodIn wsX2_empty (va_wsS RX2 32 yJ7_fill_53178 wsJ7_fill_53178) := goodIn_app (goodIn_of _ (by decide +kernel)) ggX2_empty_J7_fill_53178
set_option maxRecDepth 20000 in
theorem ggX2_locate_X2_strideOf : GoodIn wsX2_locate wsX2_strideOf := goodIn_pq _ [7] [3] rfl (by decide +kernel) (by decide +kernel)
set_option maxRecDepth 20000 in
theorem gX2_locate_X2_strideOf : GoodIn wsX2_locate (va_wsS RX2 39 yX2_strideOf wsX2_strideOf) := goodIn_app (goodIn_of _ (by decide +kernel)) ggX2_locate_X2_strideOf
set_option maxRecDepth 20000 in
theorem ggX2_locate_X2_grow : GoodIn wsX2_locate wsX2_grow := goodIn_pq _ [11] [2, 3, 37, 38, 39, 40] rfl (by decide +kernel) (by decide +kernel)
set_option maxRecDepth 20000 in
theorem gX2_locate_X2_grow : GoodIn wsX2_locate (wsV RX2 43 RX2 yX2_grow wsX2_grow) := goodIn_app (goodIn_of _ (by decide +kernel)) ggX2_locate_X2_grow
set_option maxRecDepth 20000 in
theorem ggX2_locate_X2_fetch : GoodIn wsX2_locate wsX2_fetch := goodIn_pq _ [15, 22, 27] [1, 2, 16, 17, 18, 19, 20, 21, 23, 24, 25, 26, 28, 37, 38, 39, 40, 41, 42, 43] rfl (by decide +kernel) (by decide +kernel)
set_option maxRecDepth 20000 in
theorem gX2_locate_X2_fetch : GoodIn wsX2_locate (wsV RX2 47 RX2 yX2_fetch wsX2_fetch) := goodIn_app (goodIn_of _ (by decide +kernel)) ggX2_locate_X2_fetch
set_option maxRecDepth 20000 in
theorem ggX2_locate_X2_shrink : GoodIn wsX2_locate wsX2_shrink := goodIn_pq _ [32] [2, 3, 37, 38, 39, 40] rfl (by decide +kernel) (by decide +kernel)
set_option maxRecDepth 20000 in
theorem gX2_locate_X2_shrink : GoodIn wsX2_locate (wsV RX2 50 RX2 yX2_shrink wsX2_shrink) := goodIn_app (goodIn_of _ (by decide +kernel)) ggX2_locate_X2_shrink
set_option maxRecDepth 20000 in
theorem ggX2_locate_X2_fromRegister : GoodIn wsX2_locate wsX2_fromRegister := goodIn_pq _ [36] [2, 3, 37, 38, 39, 40] rfl (by decide +kernel) (by decide +kernel)
set_option maxRecDepth 20000 in
theorem gX2_locate_X2_fromRegister : GoodIn wsX2_locate (wsV RX2 53 RX2 yX2_fromRegister wsX2_fromRegister) := goodIn_app (goodIn_of _ (by decide +kernel)) ggX2_locate_X2_fromRegister
set_option maxRecDepth 20000 in
theorem ggX2_fetch_X1_faultAt : GoodIn wsX2_fetch wsX1_faultAt := goodIn_pq _ [9] [10] rfl (by decide +kernel) (by decide +kernel)
set_option maxRecDepth 20000 in
theorem gX2_fetch_X1_faultAt : GoodIn wsX2_fetch (wsV RX2 56 RX1 yX1_faultAt wsX1_faultAt) := goodIn_app (goodIn_of _ (by decide +kernel)) ggX2_fetch_X1_faultAt
set_option maxRecDepth 20000 in
theorem ggX2_fetch_X1_valueAt : GoodIn wsX2_fetch wsX1_valueAt := goodIn_pq _ [14] [15, 20, 21, 22] rfl (by decide +kernel) (by decide +kernel)
set_option maxRecDepth 20000 in
theorem gX2_fetch_X1_valueAt : GoodIn wsX2_fetch (wsV RX2 61 RX1 yX1_valueAt wsX1_valueAt) := goodIn_app (goodIn_of _ (by decide +kernel)) ggX2_fetch_X1_valueAt
set_option maxRecDepth 20000 in
theorem ggX2_store_X1_faultAt : GoodIn wsX2_store wsX1_faultAt := goodIn_pq _ [9] [10] rfl (by decide +kernel) (by decide +kernel)
set_option maxRecDepth 20000 in
theorem gX2_store_X1_faultAt : GoodIn wsX2_store (wsV RX2 56 RX1 yX1_faultAt wsX1_faultAt) := goodIn_app (goodIn_of _ (by decide +kernel)) ggX2_store_X1_faultAt
set_option maxRecDepth 20000 in
theorem ggX2_store_X1_write : GoodIn wsX2_store wsX1_write := goodIn_pq _ [14] [15, 16, 17, 22, 23, 24] rfl (by decide +kernel) (by decide +kernel)
set_option maxRecDepth 20000 in
theorem gX2_store_X1_write : GoodIn wsX2_store (wsV RX2 64 RX1 yX1_write wsX1_write) := goodIn_app (goodIn_of _ (by decide +kernel)) ggX2_store_X1_write
set_option maxRecDepth 20000 in
theorem ggX2_storeMoved_X4_signed : GoodIn wsX2_storeMoved wsX4_signed := goodIn_pq _ [6, 9] [7, 8, 5, 10] rfl (by decide +kernel) (by decide +kernel)
set_option maxRecDepth 20000 in
theorem gX2_storeMoved_X4_signed_n68 : GoodIn wsX2_storeMoved (wsX4_signed) := ggX2_storeMoved_X4_signed
set_option maxRecDepth 20000 in
theorem ggX2_storeMoved_X2_store : GoodIn wsX2_storeMoved wsX2_store := goodIn_pq _ [15, 22, 27] [1, 2, 16, 17, 18, 19, 20, 21, 23, 24, 25, 26, 28, 29, 30, 31, 32, 33, 34, 35, 36, 37] rfl (by decide +kernel) (by decide +kernel)
set_option maxRecDepth 20000 in
theorem gX2_storeMoved_X2_store : GoodIn wsX2_storeMoved (wsV RX2 71 RX2 yX2_store wsX2_store) := goodIn_app (goodIn_of _ (by decide +kernel)) ggX2_storeMoved_X2_store
set_option maxRecDepth 20000 in
theorem ggX2_takeNext_X2_grow : GoodIn wsX2_takeNext wsX2_grow := goodIn_pq _ [6] [7, 1, 26, 27, 28, 29] rfl (by decide +kernel) (by decide +kernel)
set_option maxRecDepth 20000 in
theorem gX2_takeNext_X2_grow : GoodIn wsX2_takeNext (wsV RX2 43 RX2 yX2_grow wsX2_grow) := goodIn_app (goodIn_of _ (by decide +kernel)) ggX2_takeNext_X2_grow
set_option maxRecDepth 20000 in
theorem ggX2_takeNext_X2_fetch : GoodIn wsX2_takeNext wsX2_fetch := goodIn_pq _ [11, 19, 24] [12, 7, 13, 14, 15, 16, 17, 18, 20, 21, 22, 23, 25, 26, 27, 28, 29, 30, 31, 32] rfl (by decide +kernel) (by decide +kernel)
set_option maxRecDepth 20000 in
theorem gX2_takeNext_X2_fetch : GoodIn wsX2_takeNext (wsV RX2 47 RX2 yX2_fetch wsX2_fetch) := goodIn_app (goodIn_of _ (by decide +kernel)) ggX2_takeNext_X2_fetch
set_option maxRecDepth 20000 in
theorem ggX2_push_X2_shrink : GoodIn wsX2_push wsX2_shrink := goodIn_pq _ [6] [7, 1, 28, 29, 30, 31] rfl (by decide +kernel) (by decide +kernel)
set_option maxRecDepth 20000 in
theorem gX2_push_X2_shrink : GoodIn wsX2_push (wsV RX2 50 RX2 yX2_shrink wsX2_shrink) := goodIn_app (goodIn_of _ (by decide +kernel)) ggX2_push_X2_shrink
set_option maxRecDepth 20000 in
theorem ggX2_push_X2_store : GoodIn wsX2_push wsX2_store := goodIn_pq _ [11, 19, 24] [12, 7, 13, 14, 15, 16, 17, 18, 20, 21, 22, 23, 25, 26, 27, 28, 29, 30, 31, 32, 33, 34] rfl (by decide +kernel) (by decide +kernel)
set_option maxRecDepth 20000 in
theorem gX2_push_X2_store : GoodIn wsX2_push (wsV RX2 71 RX2 yX2_store wsX2_store) := goodIn_app (goodIn_of _ (by decide +kernel)) ggX2_push_X2_store
set_option maxRecDepth 20000 in
theorem ggX2_pop_X2_grow : GoodIn wsX2_pop wsX2_grow := goodIn_pq _ [6] [7, 1, 26, 27, 28, 29] rfl (by decide +kernel) (by decide +kernel)
set_option maxRecDepth 20000 in
theorem gX2_pop_X2_grow : GoodIn wsX2_pop (wsV RX2 43 RX2 yX2_grow wsX2_grow) := goodIn_app (goodIn_of _ (by decide +kernel)) ggX2_pop_X2_grow
set_option maxRecDepth 20000 in
theorem ggX2_pop_X2_fetch : GoodIn wsX2_pop wsX2_fetch := goodIn_pq _ [11, 19, 24] [12, 7, 13, 14, 15, 16, 17, 18, 20, 21, 22, 23, 25, 26, 27, 28, 29, 30, 31, 32] rfl (by decide +kernel) (by decide +kernel)
set_option maxRecDepth 20000 in
theorem gX2_pop_X2_fetch : GoodIn wsX2_pop (wsV RX2 47 RX2 yX2_fetch wsX2_fetch) := goodIn_app (goodIn_of _ (by decide +kernel)) ggX2_pop_X2_fetch
set_option maxRecDepth 20000 in
theorem ggX3_init_X0_init : GoodIn wsX3_init wsX0_init := goodIn_pq _ [13, 3] [14, 2] rfl (by decide +kernel) (by decide +kernel)
set_option maxRecDepth 20000 in
theorem gX3_init_X0_init_n11 : GoodIn wsX3_init (wsX0_init) := ggX3_init_X0_init
set_option maxRecDepth 20000 in
theorem ggX3_init_X2_init : GoodIn wsX3_init wsX2_init := goodIn_pq _ [17, 3] [18, 2, 19, 20, 21, 22, 29, 30, 31, 32] rfl (by decide +kernel) (by decide +kernel)
set_option maxRecDepth 20000 in
theorem gX3_init_X2_init : GoodIn wsX3_init (wsX2_init) := ggX3_init_X2_init
set_option maxRecDepth 20000 in
theorem ggX3_empty_X2_empty : GoodIn wsX3_empty wsX2_empty := goodIn_pq _ [7, 12] [8, 9, 10, 11, 24, 25, 26, 27] rfl (by decide +kernel) (by decide +kernel)
set_option maxRecDepth 20000 in
theorem gX3_empty_X2_empty : GoodIn wsX3_empty (wsV RX3 27 RX2 yX2_empty wsX2_empty) := goodIn_app (goodIn_of _ (by decide +kernel)) ggX3_empty_X2_empty
set_option maxRecDepth 20000 in
theorem ggX3_empty_X0_become : GoodIn wsX3_empty wsX0_become := goodIn_pq _ [17] [18, 19, 20, 21, 28, 29, 30, 31] rfl (by decide +kernel) (by decide +kernel)
set_option maxRecDepth 20000 in
theorem gX3_empty_X0_become : GoodIn wsX3_empty (wsV RX3 30 RX0 yX0_become wsX0_become) := goodIn_app (goodIn_of _ (by decide +kernel)) ggX3_empty_X0_become
set_option maxRecDepth 20000 in
theorem ggX3_step_X2_begin : GoodIn wsX3_step wsX2_begin := goodIn_pq _ [7] [8, 9, 10, 11, 12, 13, 14, 247, 248, 249, 250] rfl (by decide +kernel) (by decide +kernel)
set_option maxRecDepth 20000 in
theorem gX3_step_X2_begin : GoodIn wsX3_step (wsV RX3 34 RX2 yX2_begin wsX2_begin) := goodIn_app (goodIn_of _ (by decide +kernel)) ggX3_step_X2_begin
