set_option maxRecDepth 200000 in
theorem ggX0_take_X4_leastPrice : GoodIn wsX0_take wsX4_leastPrice := goodIn_r _ [6, 7, 8, 9, 10, 11, 12, 5, 13, 14, 15, 16, 17, 18, 20, 21, 22] rfl rfl
set_option maxRecDepth 200000 in
theorem gX0_take_X4_leastPrice : GoodIn wsX0_take (wsV RX0 15 RX4 yX4_leastPrice wsX4_leastPrice) := goodIn_app (goodIn_r _ [2, 3, 4, 5] rfl rfl) ggX0_take_X4_leastPrice
set_option maxRecDepth 200000 in
theorem ggX1_askFor_X4_length : GoodIn wsX1_askFor wsX4_length := goodIn_r _ [7, 8, 9, 10, 11, 12, 13, 14, 15, 16, 56, 57, 58] rfl rfl
set_option maxRecDepth 200000 in
theorem gX1_askFor_X4_length : GoodIn wsX1_askFor (wsV RX1 19 RX4 yX4_length wsX4_length) := goodIn_app (goodIn_r _ [3, 4, 5, 6] rfl rfl) ggX1_askFor_X4_length
set_option maxRecDepth 200000 in
theorem ggX1_askFor_X4_between : GoodIn wsX1_askFor wsX4_between := goodIn_r _ [20, 21, 22, 4, 5, 6, 7, 8, 9, 10, 11, 12, 13, 14, 15, 16, 23, 24, 25, 26, 27, 28, 29, 30, 31, 32, 33, 34, 35, 36, 37, 38, 39, 40, 41, 42, 43, 44, 45, 46, 47, 48, 49, 50, 51, 52, 53, 56, 57, 58, 59, 60, 61, 62, 63, 64, 65] rfl rfl
set_option maxRecDepth 200000 in
theorem gX1_askFor_X4_between : GoodIn wsX1_askFor (wsV RX1 25 RX4 yX4_between wsX4_between) := goodIn_app (goodIn_r _ [17, 18, 19, 6] rfl rfl) ggX1_askFor_X4_between
set_option maxRecDepth 200000 in
theorem ggX1_fewest_J6_bitCount_0f7a4 : GoodIn wsX1_fewest wsJ6_bitCount_0f7a4 := goodIn_r _ [4, 5, 6, 7] rfl rfl
set_option maxRecDepth 200000 in
theorem gX1_fewest_J6_bitCount_0f7a4 : GoodIn wsX1_fewest (va_wsS RX1 28 yJ6_bitCount_0f7a4 wsJ6_bitCount_0f7a4) := goodIn_app (goodIn_r _ [1, 2, 3] rfl rfl) ggX1_fewest_J6_bitCount_0f7a4
set_option maxRecDepth 200000 in
theorem ggX1_fewest_X1_meetsAll : GoodIn wsX1_fewest wsX1_meetsAll := goodIn_r _ [12, 13, 14, 15, 16] rfl rfl
set_option maxRecDepth 200000 in
theorem gX1_fewest_X1_meetsAll : GoodIn wsX1_fewest (wsV RX1 34 RX1 yX1_meetsAll wsX1_meetsAll) := goodIn_app (goodIn_r _ [8, 9, 10, 11] rfl rfl) ggX1_fewest_X1_meetsAll
set_option maxRecDepth 200000 in
theorem ggX2_hasPosts_X2_hasPost : GoodIn wsX2_hasPosts wsX2_hasPost := goodIn_r _ [5, 6, 7, 8, 9, 10, 11, 12, 13] rfl rfl
set_option maxRecDepth 200000 in
theorem gX2_hasPosts_X2_hasPost : GoodIn wsX2_hasPosts (wsV RX2 35 RX2 yX2_hasPost wsX2_hasPost) := goodIn_app (goodIn_r _ [1, 2, 3, 4] rfl rfl) ggX2_hasPosts_X2_hasPost
set_option maxRecDepth 200000 in
theorem ggX2_target_X2_hasLine : GoodIn wsX2_target wsX2_hasLine := goodIn_r _ [9, 10, 11, 12, 13, 14, 15, 16, 17] rfl rfl
set_option maxRecDepth 200000 in
theorem gX2_target_X2_hasLine : GoodIn wsX2_target (wsV RX2 39 RX2 yX2_hasLine wsX2_hasLine) := goodIn_app (goodIn_r _ [5, 6, 7, 8] rfl rfl) ggX2_target_X2_hasLine
set_option maxRecDepth 200000 in
theorem ggX3_keep_X3_isFull : GoodIn wsX3_keep wsX3_isFull := goodIn_r _ [10, 2, 39, 40] rfl rfl
set_option maxRecDepth 200000 in
theorem gX3_keep_X3_isFull : GoodIn wsX3_keep (wsV RX3 21 RX3 yX3_isFull wsX3_isFull) := goodIn_app (goodIn_r _ [6, 7, 8, 9] rfl rfl) ggX3_keep_X3_isFull
set_option maxRecDepth 200000 in
theorem ggX3_keep_X0_init : GoodIn wsX3_keep wsX0_init := goodIn_r _ [12, 13, 14, 15, 16, 17, 41] rfl rfl
set_option maxRecDepth 200000 in
theorem gX3_keep_X0_init_n25 : GoodIn wsX3_keep (wsX0_init) := ggX3_keep_X0_init
set_option maxRecDepth 200000 in
theorem ggX3_keep_X0_take : GoodIn wsX3_keep wsX0_take := goodIn_r _ [21, 17, 22, 23, 24, 25, 26, 27, 28, 29, 30, 31, 32, 33, 34, 35, 36, 37, 38, 41, 42, 43, 44] rfl rfl
set_option maxRecDepth 200000 in
theorem gX3_keep_X0_take : GoodIn wsX3_keep (wsV RX3 26 RX0 yX0_take wsX0_take) := goodIn_app (goodIn_r _ [18, 19, 20, 5] rfl rfl) ggX3_keep_X0_take
set_option maxRecDepth 200000 in
theorem ggX3_countMoved_X3_isMoved : GoodIn wsX3_countMoved wsX3_isMoved := goodIn_r _ [5, 6, 7, 8, 4, 9, 10, 11, 12, 13] rfl rfl
set_option maxRecDepth 200000 in
theorem gX3_countMoved_X3_isMoved : GoodIn wsX3_countMoved (wsV RX3 34 RX3 yX3_isMoved wsX3_isMoved) := goodIn_app (goodIn_r _ [1, 2, 3, 4] rfl rfl) ggX3_countMoved_X3_isMoved
set_option maxRecDepth 200000 in
theorem ggX3_movedPair_X3_isMoved : GoodIn wsX3_movedPair wsX3_isMoved := goodIn_r _ [5, 6, 7, 8, 4, 9, 10, 11, 12, 13] rfl rfl
set_option maxRecDepth 200000 in
theorem gX3_movedPair_X3_isMoved : GoodIn wsX3_movedPair (wsV RX3 34 RX3 yX3_isMoved wsX3_isMoved) := goodIn_app (goodIn_r _ [1, 2, 3, 4] rfl rfl) ggX3_movedPair_X3_isMoved
set_option maxRecDepth 200000 in
theorem ggX3_firstWithin_X3_leastAsOf : GoodIn wsX3_firstWithin wsX3_leastAsOf := goodIn_r _ [6, 7, 8, 9, 10] rfl rfl
set_option maxRecDepth 200000 in
theorem gX3_firstWithin_X3_leastAsOf : GoodIn wsX3_firstWithin (wsV RX3 38 RX3 yX3_leastAsOf wsX3_leastAsOf) := goodIn_app (goodIn_r _ [2, 3, 4, 5] rfl rfl) ggX3_firstWithin_X3_leastAsOf
set_option maxRecDepth 200000 in
theorem ggX3_isMoved_X3_leastAsOf : GoodIn wsX3_isMoved wsX3_leastAsOf := goodIn_r _ [5, 6, 7, 8, 9] rfl rfl
set_option maxRecDepth 200000 in
theorem gX3_isMoved_X3_leastAsOf : GoodIn wsX3_isMoved (wsV RX3 38 RX3 yX3_leastAsOf wsX3_leastAsOf) := goodIn_app (goodIn_r _ [1, 2, 3, 4] rfl rfl) ggX3_isMoved_X3_leastAsOf
set_option maxRecDepth 200000 in
theorem ggX4_measure_J7_fill_53178 : GoodIn wsX4_measure wsJ7_fill_53178 := goodIn_r _ [12] rfl rfl
set_option maxRecDepth 200000 in
theorem gX4_measure_J7_fill_53178 : GoodIn wsX4_measure (va_wsS RX4 23 yJ7_fill_53178 wsJ7_fill_53178) := goodIn_app (goodIn_r _ [9, 10, 11] rfl rfl) ggX4_measure_J7_fill_53178
set_option maxRecDepth 200000 in
theorem ggX4_measure_X4_spread : GoodIn wsX4_measure wsX4_spread := goodIn_r _ [17, 4, 2, 3, 9, 10, 11, 12, 18, 19, 20, 21, 22, 23, 24, 25, 26, 27, 16, 28, 29, 30, 31, 32, 33, 34, 35, 36, 40, 41, 42, 43, 44, 45, 46, 47, 48, 49] rfl rfl
set_option maxRecDepth 200000 in
theorem gX4_measure_X4_spread : GoodIn wsX4_measure (wsV RX4 35 RX4 yX4_spread wsX4_spread) := goodIn_app (goodIn_r _ [13, 14, 15, 16] rfl rfl) ggX4_measure_X4_spread
set_option maxRecDepth 200000 in
theorem ggX4_measure_X5_pairOf : GoodIn wsX4_measure wsX5_pairOf := goodIn_r _ [39] rfl rfl
set_option maxRecDepth 200000 in
theorem gX4_measure_X5_pairOf_n39 : GoodIn wsX4_measure (wsX5_pairOf) := ggX4_measure_X5_pairOf
set_option maxRecDepth 200000 in
theorem ggX4_leads_X5_pairOf : GoodIn wsX4_leads wsX5_pairOf := goodIn_r _ [5] rfl rfl
set_option maxRecDepth 200000 in
theorem gX4_leads_X5_pairOf_n39 : GoodIn wsX4_leads (wsX5_pairOf) := ggX4_leads_X5_pairOf
set_option maxRecDepth 200000 in
theorem ggX4_leastPrice_X5_pairOf : GoodIn wsX4_leastPrice wsX5_pairOf := goodIn_r _ [4] rfl rfl
set_option maxRecDepth 200000 in
theorem gX4_leastPrice_X5_pairOf_n39 : GoodIn wsX4_leastPrice (wsX5_pairOf) := ggX4_leastPrice_X5_pairOf
set_option maxRecDepth 200000 in
theorem ggX4_leastPrice_X4_priceIn : GoodIn wsX4_leastPrice wsX4_priceIn := goodIn_r _ [8, 9, 10, 11, 12, 13] rfl rfl
set_option maxRecDepth 200000 in
theorem gX4_leastPrice_X4_priceIn : GoodIn wsX4_leastPrice (va_wsS RX4 49 yX4_priceIn wsX4_priceIn) := goodIn_app (goodIn_r _ [5, 6, 7] rfl rfl) ggX4_leastPrice_X4_priceIn
set_option maxRecDepth 200000 in
theorem ggX4_length_X5_pairOf : GoodIn wsX4_length wsX5_pairOf := goodIn_r _ [5] rfl rfl
set_option maxRecDepth 200000 in
theorem gX4_length_X5_pairOf_n39 : GoodIn wsX4_length (wsX5_pairOf) := ggX4_length_X5_pairOf
set_option maxRecDepth 200000 in
theorem ggX4_length_J9_floorMod_7cf53 : GoodIn wsX4_length wsJ9_floorMod_7cf53 := goodIn_r _ [9] rfl rfl
set_option maxRecDepth 200000 in
theorem gX4_length_J9_floorMod_7cf53 : GoodIn wsX4_length (va_wsS RX4 53 yJ9_floorMod_7cf53 wsJ9_floorMod_7cf53) := goodIn_app (goodIn_r _ [6, 7, 8] rfl rfl) ggX4_length_J9_floorMod_7cf53
set_option maxRecDepth 200000 in
theorem ggX4_lineAt_X4_length : GoodIn wsX4_lineAt wsX4_length := goodIn_r _ [6, 7, 8, 9, 10, 11, 12, 13, 14, 15, 47, 48, 49] rfl rfl
set_option maxRecDepth 200000 in
theorem gX4_lineAt_X4_length : GoodIn wsX4_lineAt (wsV RX4 58 RX4 yX4_length wsX4_length) := goodIn_app (goodIn_r _ [2, 3, 4, 5] rfl rfl) ggX4_lineAt_X4_length
set_option maxRecDepth 200000 in
theorem ggX4_lineAt_X4_lineToward : GoodIn wsX4_lineAt wsX4_lineToward := goodIn_r _ [19, 1, 7, 20, 21, 22, 23, 24, 25, 26, 27, 28, 5, 29, 8, 9, 10, 11, 30, 31, 32, 33, 34, 35, 36, 37, 38, 39, 40, 41, 42, 43, 44, 45, 46, 47, 48, 49, 50, 51, 52, 53, 54, 55, 56] rfl rfl
set_option maxRecDepth 200000 in
theorem gX4_lineAt_X4_lineToward : GoodIn wsX4_lineAt (wsV RX4 61 RX4 yX4_lineToward wsX4_lineToward) := goodIn_app (goodIn_r _ [16, 17, 18, 5] rfl rfl) ggX4_lineAt_X4_lineToward
set_option maxRecDepth 200000 in
theorem ggX4_lineAt_X2_target : GoodIn wsX4_lineAt wsX2_target := goodIn_r _ [33, 34, 35, 36, 37, 38, 39, 40, 23, 41, 42, 50, 51, 52, 53, 54, 55, 56] rfl rfl
set_option maxRecDepth 200000 in
theorem gX4_lineAt_X2_target : GoodIn wsX4_lineAt (wsV RX4 64 RX2 yX2_target wsX2_target) := goodIn_app (goodIn_r _ [30, 31, 32, 23] rfl rfl) ggX4_lineAt_X2_target
set_option maxRecDepth 200000 in
theorem ggX4_between_X4_length : GoodIn wsX4_between wsX4_length := goodIn_r _ [6, 7, 8, 9, 10, 11, 12, 13, 14, 15, 47, 48, 49] rfl rfl
set_option maxRecDepth 200000 in
theorem gX4_between_X4_length : GoodIn wsX4_between (wsV RX4 58 RX4 yX4_length wsX4_length) := goodIn_app (goodIn_r _ [2, 3, 4, 5] rfl rfl) ggX4_between_X4_length
set_option maxRecDepth 200000 in
theorem ggX4_between_X4_lineToward : GoodIn wsX4_between wsX4_lineToward := goodIn_r _ [19, 1, 7, 20, 21, 22, 23, 24, 25, 26, 27, 28, 5, 29, 8, 9, 10, 11, 30, 31, 32, 33, 34, 35, 36, 37, 38, 39, 40, 41, 42, 43, 44, 45, 46, 47, 48, 49, 50, 51, 52, 53, 54, 55, 56] rfl rfl
set_option maxRecDepth 200000 in
theorem gX4_between_X4_lineToward : GoodIn wsX4_between (wsV RX4 61 RX4 yX4_lineToward wsX4_lineToward) := goodIn_app (goodIn_r _ [16, 17, 18, 5] rfl rfl) ggX4_between_X4_lineToward
set_option maxRecDepth 200000 in
theorem ggX4_between_X2_target : GoodIn wsX4_between wsX2_target := goodIn_r _ [33, 34, 35, 36, 37, 38, 39, 40, 23, 41, 42, 50, 51, 52, 53, 54, 55, 56] rfl rfl
set_option maxRecDepth 200000 in
theorem gX4_between_X2_target : GoodIn wsX4_between (wsV RX4 64 RX2 yX2_target wsX2_target) := goodIn_app (goodIn_r _ [30, 31, 32, 23] rfl rfl) ggX4_between_X2_target
set_option maxRecDepth 200000 in
theorem ggX4_leastAvoiding_X4_spread : GoodIn wsX4_leastAvoiding wsX4_spread := goodIn_r _ [6, 1, 7, 8, 9, 10, 11, 12, 13, 14, 15, 16, 17, 18, 19, 20, 21, 22, 5, 23, 24, 25, 26, 27, 28, 29, 30, 31, 39, 40, 41, 42, 43, 44, 45, 46, 47, 48] rfl rfl
set_option maxRecDepth 200000 in
theorem gX4_leastAvoiding_X4_spread : GoodIn wsX4_leastAvoiding (wsV RX4 35 RX4 yX4_spread wsX4_spread) := goodIn_app (goodIn_r _ [2, 3, 4, 5] rfl rfl) ggX4_leastAvoiding_X4_spread
set_option maxRecDepth 200000 in
theorem ggX4_leastAvoiding_X4_priceIn : GoodIn wsX4_leastAvoiding wsX4_priceIn := goodIn_r _ [34, 7, 35, 36, 37, 38] rfl rfl
set_option maxRecDepth 200000 in
theorem gX4_leastAvoiding_X4_priceIn : GoodIn wsX4_leastAvoiding (va_wsS RX4 49 yX4_priceIn wsX4_priceIn) := goodIn_app (goodIn_r _ [32, 33, 5] rfl rfl) ggX4_leastAvoiding_X4_priceIn
set_option maxRecDepth 200000 in
theorem ggX4_isVital_X4_isOnWay : GoodIn wsX4_isVital wsX4_isOnWay := goodIn_r _ [5, 6, 7, 8, 4, 9, 10, 11, 12, 13, 14, 15, 16, 17, 18, 19, 20, 21, 22, 23, 24, 25, 26, 27, 28, 29, 30, 31, 32, 33, 34, 35, 36, 37, 38, 39, 40, 41, 42, 43, 44, 45, 46, 47, 48, 49, 50, 51, 52, 53, 54, 90, 91, 92, 93, 94, 95, 96, 97, 98, 99] rfl rfl
set_option maxRecDepth 200000 in
theorem gX4_isVital_X4_isOnWay : GoodIn wsX4_isVital (wsV RX4 67 RX4 yX4_isOnWay wsX4_isOnWay) := goodIn_app (goodIn_r _ [1, 2, 3, 4] rfl rfl) ggX4_isVital_X4_isOnWay
set_option maxRecDepth 200000 in
theorem ggX4_isVital_X4_leastAvoiding : GoodIn wsX4_isVital wsX4_leastAvoiding := goodIn_r _ [58, 59, 60, 61, 62, 4, 63, 11, 23, 64, 65, 66, 67, 68, 69, 70, 31, 71, 43, 44, 72, 73, 74, 75, 51, 52, 53, 54, 76, 77, 78, 79, 80, 81, 82, 83, 84, 17, 85, 90, 91, 92, 93, 94, 95, 96, 97, 98, 99] rfl rfl
set_option maxRecDepth 200000 in
theorem gX4_isVital_X4_leastAvoiding : GoodIn wsX4_isVital (wsV RX4 71 RX4 yX4_leastAvoiding wsX4_leastAvoiding) := goodIn_app (goodIn_r _ [55, 56, 57, 4] rfl rfl) ggX4_isVital_X4_leastAvoiding
set_option maxRecDepth 200000 in
theorem ggX4_isVital_X4_leastPrice : GoodIn wsX4_isVital wsX4_leastPrice := goodIn_r _ [89, 10, 12, 13, 14, 80, 81, 4, 82, 11, 83, 84, 17, 85, 90, 91, 92] rfl rfl
set_option maxRecDepth 200000 in
theorem gX4_isVital_X4_leastPrice : GoodIn wsX4_isVital (wsV RX4 75 RX4 yX4_leastPrice wsX4_leastPrice) := goodIn_app (goodIn_r _ [86, 87, 88, 4] rfl rfl) ggX4_isVital_X4_leastPrice
set_option maxRecDepth 200000 in
theorem ggX4_wouldSink_X4_leastAvoiding : GoodIn wsX4_wouldSink wsX4_leastAvoiding := goodIn_r _ [5, 6, 7, 8, 9, 4, 10, 11, 12, 13, 14, 15, 16, 17, 18, 19, 20, 21, 22, 23, 24, 25, 26, 27, 28, 29, 30, 31, 32, 33, 34, 35, 36, 37, 38, 39, 40, 41, 42, 46, 47, 48, 49, 50, 51, 52, 53, 54, 55] rfl rfl
set_option maxRecDepth 200000 in
theorem gX4_wouldSink_X4_leastAvoiding : GoodIn wsX4_wouldSink (wsV RX4 71 RX4 yX4_leastAvoiding wsX4_leastAvoiding) := goodIn_app (goodIn_r _ [1, 2, 3, 4] rfl rfl) ggX4_wouldSink_X4_leastAvoiding
set_option maxRecDepth 200000 in
theorem ggX4_wouldSink_X4_closesBelow : GoodIn wsX4_wouldSink wsX4_closesBelow := goodIn_r _ [45] rfl rfl
set_option maxRecDepth 200000 in
theorem gX4_wouldSink_X4_closesBelow : GoodIn wsX4_wouldSink (va_wsS RX4 78 yX4_closesBelow wsX4_closesBelow) := goodIn_app (goodIn_r _ [43, 44, 4] rfl rfl) ggX4_wouldSink_X4_closesBelow
set_option maxRecDepth 200000 in
theorem ggX4_leastRing_X4_ringOver : GoodIn wsX4_leastRing wsX4_ringOver := goodIn_r _ [6, 1, 7, 8, 9, 10, 11, 12, 13, 5, 14, 15, 16, 17, 18, 19, 20, 21, 22, 23, 24, 25, 26, 27, 28, 29, 30, 31, 32, 33, 34, 35, 36] rfl rfl
set_option maxRecDepth 200000 in
theorem gX4_leastRing_X4_ringOver : GoodIn wsX4_leastRing (wsV RX4 85 RX4 yX4_ringOver wsX4_ringOver) := goodIn_app (goodIn_r _ [2, 3, 4, 5] rfl rfl) ggX4_leastRing_X4_ringOver
set_option maxRecDepth 200000 in
theorem ggX4_heightOf_X4_leads : GoodIn wsX4_heightOf wsX4_leads := goodIn_r _ [10, 11, 12, 13, 14, 15, 27, 28, 29] rfl rfl
set_option maxRecDepth 200000 in
theorem gX4_heightOf_X4_leads : GoodIn wsX4_heightOf (wsV RX4 88 RX4 yX4_leads wsX4_leads) := goodIn_app (goodIn_r _ [6, 7, 8, 9] rfl rfl) ggX4_heightOf_X4_leads
set_option maxRecDepth 200000 in
theorem ggX4_heightOf_X4_leastPrice : GoodIn wsX4_heightOf wsX4_leastPrice := goodIn_r _ [19, 11, 13, 14, 15, 20, 21, 9, 22, 12, 23, 24, 25, 26, 27, 28, 29] rfl rfl
set_option maxRecDepth 200000 in
theorem gX4_heightOf_X4_leastPrice : GoodIn wsX4_heightOf (wsV RX4 75 RX4 yX4_leastPrice wsX4_leastPrice) := goodIn_app (goodIn_r _ [16, 17, 18, 9] rfl rfl) ggX4_heightOf_X4_leastPrice
set_option maxRecDepth 200000 in
theorem ggX4_lifted_X4_heightOf : GoodIn wsX4_lifted wsX4_heightOf := goodIn_r _ [10, 1, 2, 3, 4, 5, 11, 12, 13, 9, 14, 15, 16, 17, 18, 19, 20, 21, 22, 23, 24, 25, 26, 27, 28, 29, 30, 31, 32, 33, 34, 35, 36, 37, 38, 39, 40] rfl rfl
set_option maxRecDepth 200000 in
theorem gX4_lifted_X4_heightOf : GoodIn wsX4_lifted (wsV RX4 100 RX4 yX4_heightOf wsX4_heightOf) := goodIn_app (goodIn_r _ [6, 7, 8, 9] rfl rfl) ggX4_lifted_X4_heightOf
set_option maxRecDepth 200000 in
theorem ggX4_leastThrough_X4_leads : GoodIn wsX4_leastThrough wsX4_leads := goodIn_r _ [10, 11, 12, 13, 14, 15, 27, 28, 29] rfl rfl
set_option maxRecDepth 200000 in
theorem gX4_leastThrough_X4_leads : GoodIn wsX4_leastThrough (wsV RX4 88 RX4 yX4_leads wsX4_leads) := goodIn_app (goodIn_r _ [6, 7, 8, 9] rfl rfl) ggX4_leastThrough_X4_leads
set_option maxRecDepth 200000 in
theorem ggX4_leastThrough_X4_leastPrice : GoodIn wsX4_leastThrough wsX4_leastPrice := goodIn_r _ [19, 11, 13, 14, 15, 20, 21, 9, 22, 12, 23, 24, 25, 26, 27, 28, 29] rfl rfl
set_option maxRecDepth 200000 in
theorem gX4_leastThrough_X4_leastPrice : GoodIn wsX4_leastThrough (wsV RX4 75 RX4 yX4_leastPrice wsX4_leastPrice) := goodIn_app (goodIn_r _ [16, 17, 18, 9] rfl rfl) ggX4_leastThrough_X4_leastPrice
set_option maxRecDepth 200000 in
theorem ggX4_countLinked_X4_leads : GoodIn wsX4_countLinked wsX4_leads := goodIn_r _ [6, 7, 8, 9, 10, 11, 12, 13, 14] rfl rfl
set_option maxRecDepth 200000 in
theorem gX4_countLinked_X4_leads : GoodIn wsX4_countLinked (wsV RX4 88 RX4 yX4_leads wsX4_leads) := goodIn_app (goodIn_r _ [2, 3, 4, 5] rfl rfl) ggX4_countLinked_X4_leads
set_option maxRecDepth 200000 in
theorem ggX4_spread_J7_fill_53178 : GoodIn wsX4_spread wsJ7_fill_53178 := goodIn_r _ [7] rfl rfl
set_option maxRecDepth 200000 in
theorem gX4_spread_J7_fill_53178 : GoodIn wsX4_spread (va_wsS RX4 23 yJ7_fill_53178 wsJ7_fill_53178) := goodIn_app (goodIn_r _ [4, 5, 6] rfl rfl) ggX4_spread_J7_fill_53178
set_option maxRecDepth 200000 in
theorem ggX4_spread_X2_touches : GoodIn wsX4_spread wsX2_touches := goodIn_r _ [12, 13, 14, 31, 32, 33, 34, 35, 36, 37] rfl rfl
set_option maxRecDepth 200000 in
theorem gX4_spread_X2_touches : GoodIn wsX4_spread (wsV RX4 113 RX2 yX2_touches wsX2_touches) := goodIn_app (goodIn_r _ [8, 9, 10, 11] rfl rfl) ggX4_spread_X2_touches
set_option maxRecDepth 200000 in
theorem ggX4_spread_X4_relax : GoodIn wsX4_spread wsX4_relax := goodIn_r _ [19, 3, 20, 21, 22, 18, 23, 24, 25, 26, 27, 1, 2, 28, 29, 30, 31, 32, 33, 34, 35, 36, 37] rfl rfl
set_option maxRecDepth 200000 in
theorem gX4_spread_X4_relax : GoodIn wsX4_spread (wsV RX4 116 RX4 yX4_relax wsX4_relax) := goodIn_app (goodIn_r _ [15, 16, 17, 18] rfl rfl) ggX4_spread_X4_relax
set_option maxRecDepth 200000 in
theorem ggX4_relax_X4_costOf : GoodIn wsX4_relax wsX4_costOf := goodIn_r _ [6, 1, 13, 14, 15, 16, 17, 18, 19, 20, 21, 22] rfl rfl
set_option maxRecDepth 200000 in
theorem gX4_relax_X4_costOf : GoodIn wsX4_relax (wsV RX4 120 RX4 yX4_costOf wsX4_costOf) := goodIn_app (goodIn_r _ [2, 3, 4, 5] rfl rfl) ggX4_relax_X4_costOf
set_option maxRecDepth 200000 in
theorem ggX4_relax_X4_lower : GoodIn wsX4_relax wsX4_lower := goodIn_r _ [10, 11, 12, 13, 14, 15] rfl rfl
set_option maxRecDepth 200000 in
theorem gX4_relax_X4_lower : GoodIn wsX4_relax (wsV RX4 123 RX4 yX4_lower wsX4_lower) := goodIn_app (goodIn_r _ [7, 8, 9, 5] rfl rfl) ggX4_relax_X4_lower
set_option maxRecDepth 200000 in
theorem ggX4_lineToward_X2_hasPost : GoodIn wsX4_lineToward wsX2_hasPost := goodIn_r _ [7, 8, 38, 39, 40, 41, 42, 43, 44] rfl rfl
set_option maxRecDepth 200000 in
theorem gX4_lineToward_X2_hasPost : GoodIn wsX4_lineToward (wsV RX4 126 RX2 yX2_hasPost wsX2_hasPost) := goodIn_app (goodIn_r _ [3, 4, 5, 6] rfl rfl) ggX4_lineToward_X2_hasPost
set_option maxRecDepth 200000 in
theorem ggX4_lineToward_X4_leads : GoodIn wsX4_lineToward wsX4_leads := goodIn_r _ [13, 2, 14, 15, 16, 17, 35, 36, 37] rfl rfl
set_option maxRecDepth 200000 in
theorem gX4_lineToward_X4_leads : GoodIn wsX4_lineToward (wsV RX4 88 RX4 yX4_leads wsX4_leads) := goodIn_app (goodIn_r _ [9, 10, 11, 12] rfl rfl) ggX4_lineToward_X4_leads
set_option maxRecDepth 200000 in
theorem ggX4_lineToward_X5_pairOf : GoodIn wsX4_lineToward wsX5_pairOf := goodIn_r _ [17] rfl rfl
set_option maxRecDepth 200000 in
theorem gX4_lineToward_X5_pairOf_n39 : GoodIn wsX4_lineToward (wsX5_pairOf) := ggX4_lineToward_X5_pairOf
set_option maxRecDepth 200000 in
theorem ggX4_lineToward_X2_target : GoodIn wsX4_lineToward wsX2_target := goodIn_r _ [21, 22, 23, 24, 25, 26, 27, 28, 6, 29, 30, 38, 39, 40, 41, 42, 43, 44] rfl rfl
set_option maxRecDepth 200000 in
theorem gX4_lineToward_X2_target : GoodIn wsX4_lineToward (wsV RX4 64 RX2 yX2_target wsX2_target) := goodIn_app (goodIn_r _ [18, 19, 20, 6] rfl rfl) ggX4_lineToward_X2_target
set_option maxRecDepth 200000 in
theorem ggX4_lineToward_X4_costOf : GoodIn wsX4_lineToward wsX4_costOf := goodIn_r _ [34, 1, 35, 36, 37, 38, 39, 40, 41, 42, 43, 44] rfl rfl
set_option maxRecDepth 200000 in
theorem gX4_lineToward_X4_costOf : GoodIn wsX4_lineToward (wsV RX4 120 RX4 yX4_costOf wsX4_costOf) := goodIn_app (goodIn_r _ [31, 32, 33, 12] rfl rfl) ggX4_lineToward_X4_costOf
set_option maxRecDepth 200000 in
theorem ggX4_isOnWay_X4_length : GoodIn wsX4_isOnWay wsX4_length := goodIn_r _ [5, 6, 7, 8, 9, 10, 11, 12, 13, 14, 51, 52, 53] rfl rfl
set_option maxRecDepth 200000 in
theorem gX4_isOnWay_X4_length : GoodIn wsX4_isOnWay (wsV RX4 58 RX4 yX4_length wsX4_length) := goodIn_app (goodIn_r _ [1, 2, 3, 4] rfl rfl) ggX4_isOnWay_X4_length
set_option maxRecDepth 200000 in
theorem ggX4_isOnWay_X4_lineAt : GoodIn wsX4_isOnWay wsX4_lineAt := goodIn_r _ [18, 19, 1, 2, 3, 4, 5, 6, 7, 8, 9, 10, 11, 12, 13, 14, 20, 21, 22, 23, 24, 25, 26, 27, 28, 29, 30, 31, 32, 33, 34, 35, 36, 37, 38, 39, 40, 41, 42, 43, 44, 45, 46, 47, 48, 49, 50, 51, 52, 53, 54, 55, 56, 57, 58, 59, 60] rfl rfl
set_option maxRecDepth 200000 in
theorem gX4_isOnWay_X4_lineAt : GoodIn wsX4_isOnWay (wsV RX4 129 RX4 yX4_lineAt wsX4_lineAt) := goodIn_app (goodIn_r _ [15, 16, 17, 4] rfl rfl) ggX4_isOnWay_X4_lineAt
set_option maxRecDepth 200000 in
theorem ggX4_ringOver_X4_leastPrice : GoodIn wsX4_ringOver wsX4_leastPrice := goodIn_r _ [10, 11, 12, 13, 14, 15, 16, 9, 17, 18, 19, 20, 21, 22, 23, 24, 25] rfl rfl
set_option maxRecDepth 200000 in
theorem gX4_ringOver_X4_leastPrice : GoodIn wsX4_ringOver (wsV RX4 75 RX4 yX4_leastPrice wsX4_leastPrice) := goodIn_app (goodIn_r _ [6, 7, 8, 9] rfl rfl) ggX4_ringOver_X4_leastPrice
set_option maxRecDepth 200000 in
theorem ggX4_priceIn_J9_floorDiv_7cf53 : GoodIn wsX4_priceIn wsJ9_floorDiv_7cf53 := goodIn_r _ [5] rfl rfl
set_option maxRecDepth 200000 in
theorem gX4_priceIn_J9_floorDiv_7cf53 : GoodIn wsX4_priceIn (va_wsS RX4 133 yJ9_floorDiv_7cf53 wsJ9_floorDiv_7cf53) := goodIn_app (goodIn_r _ [2, 3, 4] rfl rfl) ggX4_priceIn_J9_floorDiv_7cf53
set_option maxRecDepth 200000 in
theorem ggX5_init_X2_init : GoodIn wsX5_init wsX2_init := goodIn_r _ [21, 22, 2, 3, 23, 24, 25, 26, 27, 28, 29, 131, 132, 133, 134, 135, 136, 137] rfl rfl
set_option maxRecDepth 200000 in
theorem gX5_init_X2_init_n11 : GoodIn wsX5_init (wsX2_init) := ggX5_init_X2_init
set_option maxRecDepth 200000 in
theorem ggX5_init_X4_init : GoodIn wsX5_init wsX4_init := goodIn_r _ [32, 33, 2, 3, 23, 34, 35, 36, 143, 144, 145] rfl rfl
set_option maxRecDepth 200000 in
theorem gX5_init_X4_init : GoodIn wsX5_init (wsX4_init) := ggX5_init_X4_init
set_option maxRecDepth 200000 in
theorem ggX5_init_X3_init : GoodIn wsX5_init wsX3_init := goodIn_r _ [38, 39, 2, 3, 40, 41, 146, 147] rfl rfl
set_option maxRecDepth 200000 in
theorem gX5_init_X3_init_n27 : GoodIn wsX5_init (wsX3_init) := ggX5_init_X3_init
set_option maxRecDepth 200000 in
theorem ggX5_init_X1_init : GoodIn wsX5_init wsX1_init := goodIn_r _ [43, 44, 2, 3, 23, 45, 148, 149] rfl rfl
set_option maxRecDepth 200000 in
theorem gX5_init_X1_init_n34 : GoodIn wsX5_init (wsX1_init) := ggX5_init_X1_init
set_option maxRecDepth 200000 in
theorem ggX5_init_X5_restart : GoodIn wsX5_init wsX5_restart := goodIn_r _ [50, 7, 15, 51, 52, 53, 54, 6, 55, 56, 57, 58, 59, 60, 14, 61, 62, 63, 64, 65, 49, 66, 11, 67, 68, 69, 10, 70, 34, 71, 36, 35, 72, 73, 74, 75, 76, 77, 78, 79, 80, 81, 82, 83, 84, 85, 86, 87, 24, 25, 88, 89, 90, 91, 92, 93, 94, 95, 96, 97, 98, 99, 100, 101, 102, 103, 104, 105, 41, 40, 106, 107, 108, 109, 110, 111, 112, 113, 114, 2, 3, 23, 115, 116, 117, 118, 119, 120, 121, 122, 123, 124, 125, 126, 127, 128, 129, 130, 138, 139, 140, 141, 142, 131, 132, 133, 134, 135, 136, 137, 146, 147, 143, 144, 145, 150] rfl rfl
set_option maxRecDepth 200000 in
theorem gX5_init_X5_restart : GoodIn wsX5_init (wsV RX5 39 RX5 yX5_restart wsX5_restart) := goodIn_app (goodIn_r _ [46, 47, 48, 49] rfl rfl) ggX5_init_X5_restart
set_option maxRecDepth 200000 in
theorem ggX5_posts_X5_restart : GoodIn wsX5_posts wsX5_restart := goodIn_r _ [6, 1, 7, 8, 9, 10, 11, 12, 13, 14, 15, 16, 17, 18, 19, 20, 21, 22, 23, 24, 5, 25, 26, 27, 28, 29, 30, 31, 32, 33, 34, 35, 36, 37, 38, 39, 40, 41, 42, 43, 44, 45, 46, 47, 48, 49, 50, 51, 52, 53, 54, 55, 56, 57, 58, 59, 60, 61, 62, 63, 64, 65, 66, 67, 68, 69, 70, 71, 72, 73, 74, 75, 76, 77, 78, 79, 80, 81, 82, 83, 84, 85, 86, 87, 88, 89, 90, 91, 92, 93, 94, 95, 96, 97, 98, 99, 100, 101, 102, 103, 104, 105, 106, 107, 108, 109, 110, 111, 112, 113, 114, 115, 116, 117, 118, 119] rfl rfl
set_option maxRecDepth 200000 in
theorem gX5_posts_X5_restart : GoodIn wsX5_posts (wsV RX5 39 RX5 yX5_restart wsX5_restart) := goodIn_app (goodIn_r _ [2, 3, 4, 5] rfl rfl) ggX5_posts_X5_restart
set_option maxRecDepth 200000 in
theorem ggX5_line_X2_hasPosts : GoodIn wsX5_line wsX2_hasPosts := goodIn_r _ [8, 9, 10, 11, 7, 12, 13, 124, 125, 126, 127, 128, 129, 130] rfl rfl
set_option maxRecDepth 200000 in
theorem gX5_line_X2_hasPosts : GoodIn wsX5_line (wsV RX5 47 RX2 yX2_hasPosts wsX2_hasPosts) := goodIn_app (goodIn_r _ [4, 5, 6, 7] rfl rfl) ggX5_line_X2_hasPosts
set_option maxRecDepth 200000 in
theorem ggX5_line_X5_mayCost : GoodIn wsX5_line wsX5_mayCost := goodIn_r _ [17] rfl rfl
set_option maxRecDepth 200000 in
theorem gX5_line_X5_mayCost : GoodIn wsX5_line (va_wsS RX5 51 yX5_mayCost wsX5_mayCost) := goodIn_app (goodIn_r _ [14, 15, 16] rfl rfl) ggX5_line_X5_mayCost
set_option maxRecDepth 200000 in
theorem ggX5_line_X4_wouldSink : GoodIn wsX5_line wsX4_wouldSink := goodIn_r _ [22, 23, 24, 25, 21, 26, 27, 28, 29, 30, 31, 32, 33, 34, 35, 36, 37, 38, 39, 40, 7, 41, 42, 43, 44, 45, 46, 47, 48, 49, 50, 51, 52, 53, 54, 55, 56, 57, 58, 59, 60, 61, 62, 63, 64, 65, 131, 132, 133, 124, 125, 126, 127, 128, 129, 130] rfl rfl
set_option maxRecDepth 200000 in
theorem gX5_line_X4_wouldSink : GoodIn wsX5_line (wsV RX5 55 RX4 yX4_wouldSink wsX4_wouldSink) := goodIn_app (goodIn_r _ [18, 19, 20, 21] rfl rfl) ggX5_line_X4_wouldSink
set_option maxRecDepth 200000 in
theorem ggX5_line_X3_isFull : GoodIn wsX5_line wsX3_isFull := goodIn_r _ [70, 71, 134, 135] rfl rfl
set_option maxRecDepth 200000 in
theorem gX5_line_X3_isFull : GoodIn wsX5_line (wsV RX5 62 RX3 yX3_isFull wsX3_isFull) := goodIn_app (goodIn_r _ [66, 67, 68, 69] rfl rfl) ggX5_line_X3_isFull
set_option maxRecDepth 200000 in
theorem ggX5_line_X2_add : GoodIn wsX5_line wsX2_add := goodIn_r _ [75, 76, 42, 43, 77, 78, 79, 124, 125, 126, 127, 128, 129, 130] rfl rfl
set_option maxRecDepth 200000 in
theorem gX5_line_X2_add : GoodIn wsX5_line (wsV RX5 66 RX2 yX2_add wsX2_add) := goodIn_app (goodIn_r _ [72, 73, 74, 7] rfl rfl) ggX5_line_X2_add
set_option maxRecDepth 200000 in
theorem ggX5_line_X5_keepAct : GoodIn wsX5_line wsX5_keepAct := goodIn_r _ [83, 2, 3, 84, 85, 86, 21, 87, 88, 32, 33, 27, 89, 90, 91, 92, 34, 35, 36, 37, 28, 29, 30, 31, 38, 39, 40, 7, 41, 42, 43, 44, 45, 46, 47, 48, 49, 50, 51, 52, 53, 54, 55, 93, 16, 94, 95, 96, 97, 69, 98, 99, 71, 100, 101, 102, 103, 67, 68, 70, 104, 105, 106, 107, 108, 109, 110, 111, 112, 113, 114, 115, 116, 117, 118, 56, 57, 58, 59, 60, 61, 62, 119, 120, 121, 122, 123, 131, 132, 133, 124, 125, 126, 127, 128, 129, 130, 134, 135, 136] rfl rfl
set_option maxRecDepth 200000 in
theorem gX5_line_X5_keepAct : GoodIn wsX5_line (wsV RX5 70 RX5 yX5_keepAct wsX5_keepAct) := goodIn_app (goodIn_r _ [80, 81, 82, 16] rfl rfl) ggX5_line_X5_keepAct
set_option maxRecDepth 200000 in
theorem ggX5_price_X2_hasLine : GoodIn wsX5_price wsX2_hasLine := goodIn_r _ [7, 8, 116, 117, 118, 119, 120, 121, 122] rfl rfl
set_option maxRecDepth 200000 in
theorem gX5_price_X2_hasLine : GoodIn wsX5_price (wsV RX5 73 RX2 yX2_hasLine wsX2_hasLine) := goodIn_app (goodIn_r _ [3, 4, 5, 6] rfl rfl) ggX5_price_X2_hasLine
set_option maxRecDepth 200000 in
theorem ggX5_price_X5_mayCost : GoodIn wsX5_price wsX5_mayCost := goodIn_r _ [12] rfl rfl
set_option maxRecDepth 200000 in
theorem gX5_price_X5_mayCost : GoodIn wsX5_price (va_wsS RX5 51 yX5_mayCost wsX5_mayCost) := goodIn_app (goodIn_r _ [9, 10, 11] rfl rfl) ggX5_price_X5_mayCost
set_option maxRecDepth 200000 in
theorem ggX5_price_X5_wouldSinkAt : GoodIn wsX5_price wsX5_wouldSinkAt := goodIn_r _ [16, 17, 1, 18, 19, 20, 21, 22, 23, 24, 25, 26, 27, 28, 29, 30, 31, 32, 33, 34, 35, 36, 37, 38, 39, 40, 6, 41, 42, 43, 44, 45, 46, 47, 48, 49, 50, 51, 52, 53, 54, 55, 56, 57, 58, 59, 60, 61, 62, 63, 64, 65, 111, 112, 113, 114, 115, 116, 117, 118, 119, 120, 121, 122, 123, 124, 125] rfl rfl
set_option maxRecDepth 200000 in
theorem gX5_price_X5_wouldSinkAt : GoodIn wsX5_price (wsV RX5 88 RX5 yX5_wouldSinkAt wsX5_wouldSinkAt) := goodIn_app (goodIn_r _ [13, 14, 15, 11] rfl rfl) ggX5_price_X5_wouldSinkAt
set_option maxRecDepth 200000 in
theorem ggX5_price_X3_isFull : GoodIn wsX5_price wsX3_isFull := goodIn_r _ [70, 71, 126, 127] rfl rfl
set_option maxRecDepth 200000 in
theorem gX5_price_X3_isFull : GoodIn wsX5_price (wsV RX5 62 RX3 yX3_isFull wsX3_isFull) := goodIn_app (goodIn_r _ [66, 67, 68, 69] rfl rfl) ggX5_price_X3_isFull
set_option maxRecDepth 200000 in
theorem ggX5_price_X5_keepAct : GoodIn wsX5_price wsX5_keepAct := goodIn_r _ [75, 17, 2, 76, 77, 78, 21, 79, 80, 32, 33, 27, 81, 82, 83, 84, 34, 35, 36, 37, 28, 29, 30, 31, 38, 39, 40, 6, 41, 42, 43, 44, 45, 46, 47, 48, 49, 50, 51, 52, 53, 54, 55, 85, 11, 86, 87, 88, 89, 69, 90, 91, 71, 92, 93, 94, 95, 67, 68, 70, 96, 97, 98, 99, 100, 101, 102, 103, 104, 105, 106, 107, 108, 109, 110, 56, 57, 58, 59, 60, 61, 62, 111, 112, 113, 114, 115, 123, 124, 125, 116, 117, 118, 119, 120, 121, 122, 126, 127, 128] rfl rfl
set_option maxRecDepth 200000 in
theorem gX5_price_X5_keepAct : GoodIn wsX5_price (wsV RX5 70 RX5 yX5_keepAct wsX5_keepAct) := goodIn_app (goodIn_r _ [72, 73, 74, 11] rfl rfl) ggX5_price_X5_keepAct
set_option maxRecDepth 200000 in
theorem ggX5_cut_X2_hasLine : GoodIn wsX5_cut wsX2_hasLine := goodIn_r _ [7, 8, 103, 104, 105, 106, 107, 108, 109] rfl rfl
set_option maxRecDepth 200000 in
theorem gX5_cut_X2_hasLine : GoodIn wsX5_cut (wsV RX5 73 RX2 yX2_hasLine wsX2_hasLine) := goodIn_app (goodIn_r _ [3, 4, 5, 6] rfl rfl) ggX5_cut_X2_hasLine
set_option maxRecDepth 200000 in
theorem ggX5_cut_X3_isFull : GoodIn wsX5_cut wsX3_isFull := goodIn_r _ [13, 14, 110, 111] rfl rfl
set_option maxRecDepth 200000 in
theorem gX5_cut_X3_isFull : GoodIn wsX5_cut (wsV RX5 62 RX3 yX3_isFull wsX3_isFull) := goodIn_app (goodIn_r _ [9, 10, 11, 12] rfl rfl) ggX5_cut_X3_isFull
set_option maxRecDepth 200000 in
theorem ggX5_cut_X5_keepAct : GoodIn wsX5_cut wsX5_keepAct := goodIn_r _ [19, 20, 2, 21, 22, 23, 24, 25, 26, 27, 28, 29, 30, 31, 32, 33, 34, 35, 36, 37, 38, 39, 40, 41, 42, 43, 44, 6, 45, 46, 47, 48, 49, 50, 51, 52, 53, 54, 55, 56, 57, 58, 59, 60, 18, 61, 62, 63, 64, 12, 65, 66, 14, 67, 68, 69, 70, 10, 11, 13, 71, 72, 73, 74, 75, 76, 77, 78, 79, 80, 81, 82, 83, 84, 85, 86, 87, 88, 89, 90, 91, 92, 98, 99, 100, 101, 102, 112, 113, 114, 103, 104, 105, 106, 107, 108, 109, 110, 111, 115] rfl rfl
set_option maxRecDepth 200000 in
theorem gX5_cut_X5_keepAct : GoodIn wsX5_cut (wsV RX5 70 RX5 yX5_keepAct wsX5_keepAct) := goodIn_app (goodIn_r _ [15, 16, 17, 18] rfl rfl) ggX5_cut_X5_keepAct
set_option maxRecDepth 200000 in
theorem ggX5_cut_X2_countThere : GoodIn wsX5_cut wsX2_countThere := goodIn_r _ [96, 8, 97, 103, 104, 105, 106, 107, 108, 109] rfl rfl
set_option maxRecDepth 200000 in
theorem gX5_cut_X2_countThere : GoodIn wsX5_cut (wsV RX5 91 RX2 yX2_countThere wsX2_countThere) := goodIn_app (goodIn_r _ [93, 94, 95, 6] rfl rfl) ggX5_cut_X2_countThere
set_option maxRecDepth 200000 in
theorem ggX5_back_X2_hasLine : GoodIn wsX5_back wsX2_hasLine := goodIn_r _ [7, 8, 118, 119, 120, 121, 122, 123, 124] rfl rfl
set_option maxRecDepth 200000 in
theorem gX5_back_X2_hasLine : GoodIn wsX5_back (wsV RX5 73 RX2 yX2_hasLine wsX2_hasLine) := goodIn_app (goodIn_r _ [3, 4, 5, 6] rfl rfl) ggX5_back_X2_hasLine
set_option maxRecDepth 200000 in
theorem ggX5_back_X5_wouldSinkAt : GoodIn wsX5_back wsX5_wouldSinkAt := goodIn_r _ [13, 14, 1, 15, 16, 17, 18, 19, 20, 21, 22, 23, 24, 25, 26, 27, 28, 29, 30, 31, 32, 33, 34, 35, 36, 37, 6, 38, 39, 40, 41, 42, 43, 44, 45, 46, 47, 48, 49, 50, 51, 52, 53, 54, 55, 56, 57, 58, 59, 60, 61, 62, 113, 114, 115, 116, 117, 118, 119, 120, 121, 122, 123, 124, 125, 126, 127] rfl rfl
set_option maxRecDepth 200000 in
theorem gX5_back_X5_wouldSinkAt : GoodIn wsX5_back (wsV RX5 88 RX5 yX5_wouldSinkAt wsX5_wouldSinkAt) := goodIn_app (goodIn_r _ [9, 10, 11, 12] rfl rfl) ggX5_back_X5_wouldSinkAt
set_option maxRecDepth 200000 in
theorem ggX5_back_X3_isFull : GoodIn wsX5_back wsX3_isFull := goodIn_r _ [67, 68, 128, 129] rfl rfl
set_option maxRecDepth 200000 in
theorem gX5_back_X3_isFull : GoodIn wsX5_back (wsV RX5 62 RX3 yX3_isFull wsX3_isFull) := goodIn_app (goodIn_r _ [63, 64, 65, 66] rfl rfl) ggX5_back_X3_isFull
set_option maxRecDepth 200000 in
theorem ggX5_back_X5_keepAct : GoodIn wsX5_back wsX5_keepAct := goodIn_r _ [72, 14, 2, 73, 74, 75, 18, 76, 77, 29, 30, 24, 78, 79, 80, 81, 31, 32, 33, 34, 25, 26, 27, 28, 35, 36, 37, 6, 38, 39, 40, 41, 42, 43, 44, 45, 46, 47, 48, 49, 50, 51, 52, 82, 12, 83, 84, 85, 86, 66, 87, 88, 68, 89, 90, 91, 92, 64, 65, 67, 93, 94, 95, 96, 97, 98, 99, 100, 101, 102, 103, 104, 105, 106, 107, 53, 54, 55, 56, 57, 58, 59, 113, 114, 115, 116, 117, 125, 126, 127, 118, 119, 120, 121, 122, 123, 124, 128, 129, 130] rfl rfl
set_option maxRecDepth 200000 in
theorem gX5_back_X5_keepAct : GoodIn wsX5_back (wsV RX5 70 RX5 yX5_keepAct wsX5_keepAct) := goodIn_app (goodIn_r _ [69, 70, 71, 12] rfl rfl) ggX5_back_X5_keepAct
set_option maxRecDepth 200000 in
theorem ggX5_back_X2_countThere : GoodIn wsX5_back wsX2_countThere := goodIn_r _ [111, 8, 112, 118, 119, 120, 121, 122, 123, 124] rfl rfl
set_option maxRecDepth 200000 in
theorem gX5_back_X2_countThere : GoodIn wsX5_back (wsV RX5 91 RX2 yX2_countThere wsX2_countThere) := goodIn_app (goodIn_r _ [108, 109, 110, 6] rfl rfl) ggX5_back_X2_countThere
set_option maxRecDepth 200000 in
theorem ggX5_told_X2_hasLine : GoodIn wsX5_told wsX2_hasLine := goodIn_r _ [7, 8, 51, 52, 53, 54, 55, 56, 57] rfl rfl
set_option maxRecDepth 200000 in
theorem gX5_told_X2_hasLine : GoodIn wsX5_told (wsV RX5 73 RX2 yX2_hasLine wsX2_hasLine) := goodIn_app (goodIn_r _ [3, 4, 5, 6] rfl rfl) ggX5_told_X2_hasLine
set_option maxRecDepth 200000 in
theorem ggX5_told_X5_asNumber : GoodIn wsX5_told wsX5_asNumber := goodIn_r _ [12] rfl rfl
set_option maxRecDepth 200000 in
theorem gX5_told_X5_asNumber : GoodIn wsX5_told (va_wsS RX5 101 yX5_asNumber wsX5_asNumber) := goodIn_app (goodIn_r _ [9, 10, 11] rfl rfl) ggX5_told_X5_asNumber
set_option maxRecDepth 200000 in
theorem ggX5_told_X4_lifted : GoodIn wsX5_told wsX4_lifted := goodIn_r _ [17, 18, 19, 20, 21, 22, 23, 24, 25, 16, 26, 27, 28, 29, 30, 31, 32, 33, 11, 34, 35, 36, 37, 38, 39, 40, 41, 42, 43, 44, 45, 58, 59, 60, 51, 52, 53, 54, 55, 56, 57] rfl rfl
set_option maxRecDepth 200000 in
theorem gX5_told_X4_lifted : GoodIn wsX5_told (wsV RX5 105 RX4 yX4_lifted wsX4_lifted) := goodIn_app (goodIn_r _ [13, 14, 15, 16] rfl rfl) ggX5_told_X4_lifted
set_option maxRecDepth 200000 in
theorem ggX5_far_X2_hasPosts : GoodIn wsX5_far wsX2_hasPosts := goodIn_r _ [7, 8, 9, 10, 6, 11, 12, 35, 36, 37, 38, 39, 40, 41] rfl rfl
set_option maxRecDepth 200000 in
theorem gX5_far_X2_hasPosts : GoodIn wsX5_far (wsV RX5 47 RX2 yX2_hasPosts wsX2_hasPosts) := goodIn_app (goodIn_r _ [3, 4, 5, 6] rfl rfl) ggX5_far_X2_hasPosts
set_option maxRecDepth 200000 in
theorem ggX5_far_X4_leastPrice : GoodIn wsX5_far wsX4_leastPrice := goodIn_r _ [17, 18, 19, 20, 21, 22, 23, 16, 24, 25, 26, 27, 28, 29, 42, 43, 44] rfl rfl
set_option maxRecDepth 200000 in
theorem gX5_far_X4_leastPrice : GoodIn wsX5_far (wsV RX5 109 RX4 yX4_leastPrice wsX4_leastPrice) := goodIn_app (goodIn_r _ [13, 14, 15, 16] rfl rfl) ggX5_far_X4_leastPrice
set_option maxRecDepth 200000 in
theorem ggX5_steps_X2_hasPosts : GoodIn wsX5_steps wsX2_hasPosts := goodIn_r _ [7, 8, 9, 10, 6, 11, 12, 32, 33, 34, 35, 36, 37, 38] rfl rfl
set_option maxRecDepth 200000 in
theorem gX5_steps_X2_hasPosts : GoodIn wsX5_steps (wsV RX5 47 RX2 yX2_hasPosts wsX2_hasPosts) := goodIn_app (goodIn_r _ [3, 4, 5, 6] rfl rfl) ggX5_steps_X2_hasPosts
set_option maxRecDepth 200000 in
theorem ggX5_steps_X4_length : GoodIn wsX5_steps wsX4_length := goodIn_r _ [17, 18, 19, 20, 21, 22, 23, 24, 25, 26, 39, 40, 41] rfl rfl
set_option maxRecDepth 200000 in
theorem gX5_steps_X4_length : GoodIn wsX5_steps (wsV RX5 113 RX4 yX4_length wsX4_length) := goodIn_app (goodIn_r _ [13, 14, 15, 16] rfl rfl) ggX5_steps_X4_length
set_option maxRecDepth 200000 in
theorem ggX5_way_X2_hasPosts : GoodIn wsX5_way wsX2_hasPosts := goodIn_r _ [7, 8, 9, 10, 6, 11, 12, 63, 64, 65, 66, 67, 68, 69] rfl rfl
set_option maxRecDepth 200000 in
theorem gX5_way_X2_hasPosts : GoodIn wsX5_way (wsV RX5 47 RX2 yX2_hasPosts wsX2_hasPosts) := goodIn_app (goodIn_r _ [3, 4, 5, 6] rfl rfl) ggX5_way_X2_hasPosts
set_option maxRecDepth 200000 in
theorem ggX5_way_X4_lineAt : GoodIn wsX5_way wsX4_lineAt := goodIn_r _ [17, 18, 19, 20, 21, 16, 22, 23, 24, 25, 26, 27, 28, 29, 30, 31, 32, 33, 34, 35, 36, 9, 10, 6, 11, 12, 37, 38, 39, 40, 41, 42, 43, 44, 45, 46, 47, 48, 49, 50, 51, 52, 53, 54, 55, 56, 57, 70, 71, 72, 63, 64, 65, 66, 67, 68, 69] rfl rfl
set_option maxRecDepth 200000 in
theorem gX5_way_X4_lineAt : GoodIn wsX5_way (wsV RX5 116 RX4 yX4_lineAt wsX4_lineAt) := goodIn_app (goodIn_r _ [13, 14, 15, 16] rfl rfl) ggX5_way_X4_lineAt
set_option maxRecDepth 200000 in
theorem ggX5_without_X2_hasPosts : GoodIn wsX5_without wsX2_hasPosts := goodIn_r _ [7, 8, 9, 10, 6, 11, 12, 64, 65, 66, 67, 68, 69, 70] rfl rfl
set_option maxRecDepth 200000 in
theorem gX5_without_X2_hasPosts : GoodIn wsX5_without (wsV RX5 47 RX2 yX2_hasPosts wsX2_hasPosts) := goodIn_app (goodIn_r _ [3, 4, 5, 6] rfl rfl) ggX5_without_X2_hasPosts
set_option maxRecDepth 200000 in
theorem ggX5_without_X2_hasLine : GoodIn wsX5_without wsX2_hasLine := goodIn_r _ [16, 17, 64, 65, 66, 67, 68, 69, 70] rfl rfl
set_option maxRecDepth 200000 in
theorem gX5_without_X2_hasLine : GoodIn wsX5_without (wsV RX5 73 RX2 yX2_hasLine wsX2_hasLine) := goodIn_app (goodIn_r _ [13, 14, 15, 6] rfl rfl) ggX5_without_X2_hasLine
set_option maxRecDepth 200000 in
theorem ggX5_without_X4_leastAvoiding : GoodIn wsX5_without wsX4_leastAvoiding := goodIn_r _ [22, 23, 24, 25, 26, 21, 27, 28, 29, 30, 31, 32, 33, 34, 35, 36, 6, 37, 38, 39, 40, 41, 42, 43, 44, 45, 46, 47, 48, 49, 50, 51, 52, 53, 54, 55, 56, 57, 58, 71, 72, 73, 64, 65, 66, 67, 68, 69, 70] rfl rfl
set_option maxRecDepth 200000 in
theorem gX5_without_X4_leastAvoiding : GoodIn wsX5_without (wsV RX5 120 RX4 yX4_leastAvoiding wsX4_leastAvoiding) := goodIn_app (goodIn_r _ [18, 19, 20, 21] rfl rfl) ggX5_without_X4_leastAvoiding
set_option maxRecDepth 200000 in
theorem ggX5_vital_X2_hasPosts : GoodIn wsX5_vital wsX2_hasPosts := goodIn_r _ [7, 8, 9, 10, 6, 11, 12, 106, 107, 108, 109, 110, 111, 112] rfl rfl
set_option maxRecDepth 200000 in
theorem gX5_vital_X2_hasPosts : GoodIn wsX5_vital (wsV RX5 47 RX2 yX2_hasPosts wsX2_hasPosts) := goodIn_app (goodIn_r _ [3, 4, 5, 6] rfl rfl) ggX5_vital_X2_hasPosts
set_option maxRecDepth 200000 in
theorem ggX5_vital_X4_isVital : GoodIn wsX5_vital wsX4_isVital := goodIn_r _ [17, 18, 19, 20, 16, 21, 22, 23, 24, 25, 26, 27, 28, 29, 30, 31, 32, 33, 34, 35, 36, 37, 38, 39, 40, 41, 42, 43, 44, 9, 10, 6, 11, 12, 45, 46, 47, 48, 49, 50, 51, 52, 53, 54, 55, 56, 57, 58, 59, 60, 61, 62, 63, 64, 65, 66, 67, 68, 69, 70, 71, 72, 73, 74, 75, 76, 77, 78, 79, 80, 81, 82, 83, 84, 85, 86, 87, 88, 89, 90, 91, 92, 93, 94, 95, 96, 97, 98, 99, 100, 113, 114, 115, 106, 107, 108, 109, 110, 111, 112] rfl rfl
set_option maxRecDepth 200000 in
theorem gX5_vital_X4_isVital : GoodIn wsX5_vital (wsV RX5 124 RX4 yX4_isVital wsX4_isVital) := goodIn_app (goodIn_r _ [13, 14, 15, 16] rfl rfl) ggX5_vital_X4_isVital
set_option maxRecDepth 200000 in
theorem ggX5_about_X2_hasPosts : GoodIn wsX5_about wsX2_hasPosts := goodIn_r _ [7, 8, 9, 10, 6, 11, 12, 60, 61, 62, 63, 64, 65, 66] rfl rfl
set_option maxRecDepth 200000 in
theorem gX5_about_X2_hasPosts : GoodIn wsX5_about (wsV RX5 47 RX2 yX2_hasPosts wsX2_hasPosts) := goodIn_app (goodIn_r _ [3, 4, 5, 6] rfl rfl) ggX5_about_X2_hasPosts
set_option maxRecDepth 200000 in
theorem ggX5_about_X2_hasPost : GoodIn wsX5_about wsX2_hasPost := goodIn_r _ [11, 12, 60, 61, 62, 63, 64, 65, 66] rfl rfl
set_option maxRecDepth 200000 in
theorem gX5_about_X2_hasPost : GoodIn wsX5_about (wsV RX5 128 RX2 yX2_hasPost wsX2_hasPost) := goodIn_app (goodIn_r _ [13, 9, 10, 6] rfl rfl) ggX5_about_X2_hasPost
set_option maxRecDepth 200000 in
theorem ggX5_about_X4_leastAvoiding : GoodIn wsX5_about wsX4_leastAvoiding := goodIn_r _ [18, 19, 20, 21, 22, 17, 23, 24, 25, 26, 27, 28, 29, 30, 31, 32, 6, 33, 34, 35, 36, 37, 38, 39, 40, 41, 42, 43, 44, 45, 46, 47, 48, 49, 50, 51, 52, 53, 54, 67, 68, 69, 60, 61, 62, 63, 64, 65, 66] rfl rfl
set_option maxRecDepth 200000 in
theorem gX5_about_X4_leastAvoiding : GoodIn wsX5_about (wsV RX5 120 RX4 yX4_leastAvoiding wsX4_leastAvoiding) := goodIn_app (goodIn_r _ [14, 15, 16, 17] rfl rfl) ggX5_about_X4_leastAvoiding
set_option maxRecDepth 200000 in
theorem ggX5_ring_X4_leastRing : GoodIn wsX5_ring wsX4_leastRing := goodIn_r _ [6, 7, 8, 9, 10, 5, 11, 12, 13, 14, 15, 16, 17, 18, 19, 20, 21, 22, 23, 24, 25, 26, 27, 28, 29, 30, 31, 37, 38, 39, 40, 41, 42, 43, 44, 45, 46] rfl rfl
set_option maxRecDepth 200000 in
theorem gX5_ring_X4_leastRing : GoodIn wsX5_ring (wsV RX5 131 RX4 yX4_leastRing wsX4_leastRing) := goodIn_app (goodIn_r _ [2, 3, 4, 5] rfl rfl) ggX5_ring_X4_leastRing
set_option maxRecDepth 200000 in
theorem ggX5_height_X2_hasPost : GoodIn wsX5_height wsX2_hasPost := goodIn_r _ [7, 8, 44, 45, 46, 47, 48, 49, 50] rfl rfl
set_option maxRecDepth 200000 in
theorem gX5_height_X2_hasPost : GoodIn wsX5_height (wsV RX5 128 RX2 yX2_hasPost wsX2_hasPost) := goodIn_app (goodIn_r _ [3, 4, 5, 6] rfl rfl) ggX5_height_X2_hasPost
set_option maxRecDepth 200000 in
theorem ggX5_height_X4_heightOf : GoodIn wsX5_height wsX4_heightOf := goodIn_r _ [13, 14, 15, 16, 17, 18, 19, 20, 21, 12, 22, 23, 24, 25, 26, 27, 28, 29, 30, 31, 32, 33, 34, 35, 36, 37, 38, 51, 52, 53, 44, 45, 46, 47, 48, 49, 50] rfl rfl
set_option maxRecDepth 200000 in
theorem gX5_height_X4_heightOf : GoodIn wsX5_height (wsV RX5 134 RX4 yX4_heightOf wsX4_heightOf) := goodIn_app (goodIn_r _ [9, 10, 11, 12] rfl rfl) ggX5_height_X4_heightOf
set_option maxRecDepth 200000 in
theorem ggX5_acts_X3_countActs : GoodIn wsX5_acts wsX3_countActs := goodIn_r _ [6, 7, 13, 14] rfl rfl
set_option maxRecDepth 200000 in
theorem gX5_acts_X3_countActs : GoodIn wsX5_acts (wsV RX5 137 RX3 yX3_countActs wsX3_countActs) := goodIn_app (goodIn_r _ [2, 3, 4, 5] rfl rfl) ggX5_acts_X3_countActs
set_option maxRecDepth 200000 in
theorem ggX5_moved_X3_hasAct : GoodIn wsX5_moved wsX3_hasAct := goodIn_r _ [6, 7, 26, 27] rfl rfl
set_option maxRecDepth 200000 in
theorem gX5_moved_X3_hasAct : GoodIn wsX5_moved (wsV RX5 140 RX3 yX3_hasAct wsX3_hasAct) := goodIn_app (goodIn_r _ [2, 3, 4, 5] rfl rfl) ggX5_moved_X3_hasAct
set_option maxRecDepth 200000 in
theorem ggX5_moved_X3_countMoved : GoodIn wsX5_moved wsX3_countMoved := goodIn_r _ [11, 12, 13, 14, 5, 15, 16, 17, 18, 19, 20, 26, 27, 28] rfl rfl
set_option maxRecDepth 200000 in
theorem gX5_moved_X3_countMoved : GoodIn wsX5_moved (wsV RX5 143 RX3 yX3_countMoved wsX3_countMoved) := goodIn_app (goodIn_r _ [8, 9, 10, 5] rfl rfl) ggX5_moved_X3_countMoved
set_option maxRecDepth 200000 in
theorem ggX5_pair_X3_hasAct : GoodIn wsX5_pair wsX3_hasAct := goodIn_r _ [6, 7, 26, 27] rfl rfl
set_option maxRecDepth 200000 in
theorem gX5_pair_X3_hasAct : GoodIn wsX5_pair (wsV RX5 140 RX3 yX3_hasAct wsX3_hasAct) := goodIn_app (goodIn_r _ [2, 3, 4, 5] rfl rfl) ggX5_pair_X3_hasAct
set_option maxRecDepth 200000 in
theorem ggX5_pair_X3_movedPair : GoodIn wsX5_pair wsX3_movedPair := goodIn_r _ [11, 12, 13, 14, 5, 15, 16, 17, 18, 19, 20, 26, 27, 28] rfl rfl
set_option maxRecDepth 200000 in
theorem gX5_pair_X3_movedPair : GoodIn wsX5_pair (wsV RX5 146 RX3 yX3_movedPair wsX3_movedPair) := goodIn_app (goodIn_r _ [8, 9, 10, 5] rfl rfl) ggX5_pair_X3_movedPair
set_option maxRecDepth 200000 in
theorem ggX5_then_X2_hasPosts : GoodIn wsX5_then wsX2_hasPosts := goodIn_r _ [7, 8, 9, 10, 6, 11, 12, 33, 34, 35, 36, 37, 38, 39] rfl rfl
set_option maxRecDepth 200000 in
theorem gX5_then_X2_hasPosts : GoodIn wsX5_then (wsV RX5 47 RX2 yX2_hasPosts wsX2_hasPosts) := goodIn_app (goodIn_r _ [3, 4, 5, 6] rfl rfl) ggX5_then_X2_hasPosts
set_option maxRecDepth 200000 in
theorem ggX5_then_X3_hasAct : GoodIn wsX5_then wsX3_hasAct := goodIn_r _ [17, 18, 40, 41] rfl rfl
set_option maxRecDepth 200000 in
theorem gX5_then_X3_hasAct : GoodIn wsX5_then (wsV RX5 140 RX3 yX3_hasAct wsX3_hasAct) := goodIn_app (goodIn_r _ [13, 14, 15, 16] rfl rfl) ggX5_then_X3_hasAct
set_option maxRecDepth 200000 in
theorem ggX5_then_X5_pairOf : GoodIn wsX5_then wsX5_pairOf := goodIn_r _ [22] rfl rfl
set_option maxRecDepth 200000 in
theorem gX5_then_X5_pairOf : GoodIn wsX5_then (va_wsS RX5 149 yX5_pairOf wsX5_pairOf) := goodIn_app (goodIn_r _ [19, 20, 21] rfl rfl) ggX5_then_X5_pairOf
set_option maxRecDepth 200000 in
theorem ggX5_then_X3_leastAsOf : GoodIn wsX5_then wsX3_leastAsOf := goodIn_r _ [26, 27, 40, 41, 42] rfl rfl
set_option maxRecDepth 200000 in
theorem gX5_then_X3_leastAsOf : GoodIn wsX5_then (wsV RX5 152 RX3 yX3_leastAsOf wsX3_leastAsOf) := goodIn_app (goodIn_r _ [23, 24, 25, 16] rfl rfl) ggX5_then_X3_leastAsOf
set_option maxRecDepth 200000 in
theorem ggX5_since_X2_hasPosts : GoodIn wsX5_since wsX2_hasPosts := goodIn_r _ [7, 8, 9, 10, 6, 11, 12, 37, 38, 39, 40, 41, 42, 43] rfl rfl
set_option maxRecDepth 200000 in
theorem gX5_since_X2_hasPosts : GoodIn wsX5_since (wsV RX5 47 RX2 yX2_hasPosts wsX2_hasPosts) := goodIn_app (goodIn_r _ [3, 4, 5, 6] rfl rfl) ggX5_since_X2_hasPosts
set_option maxRecDepth 200000 in
theorem ggX5_since_X3_hasAct : GoodIn wsX5_since wsX3_hasAct := goodIn_r _ [17, 18, 44, 45] rfl rfl
set_option maxRecDepth 200000 in
theorem gX5_since_X3_hasAct : GoodIn wsX5_since (wsV RX5 140 RX3 yX3_hasAct wsX3_hasAct) := goodIn_app (goodIn_r _ [13, 14, 15, 16] rfl rfl) ggX5_since_X3_hasAct
set_option maxRecDepth 200000 in
theorem ggX5_since_X5_pairOf : GoodIn wsX5_since wsX5_pairOf := goodIn_r _ [22] rfl rfl
set_option maxRecDepth 200000 in
theorem gX5_since_X5_pairOf : GoodIn wsX5_since (va_wsS RX5 149 yX5_pairOf wsX5_pairOf) := goodIn_app (goodIn_r _ [19, 20, 21] rfl rfl) ggX5_since_X5_pairOf
set_option maxRecDepth 200000 in
theorem ggX5_since_X3_firstWithin : GoodIn wsX5_since wsX3_firstWithin := goodIn_r _ [26, 18, 27, 28, 29, 16, 30, 31, 44, 45, 46] rfl rfl
set_option maxRecDepth 200000 in
theorem gX5_since_X3_firstWithin : GoodIn wsX5_since (wsV RX5 155 RX3 yX3_firstWithin wsX3_firstWithin) := goodIn_app (goodIn_r _ [23, 24, 25, 16] rfl rfl) ggX5_since_X3_firstWithin
set_option maxRecDepth 200000 in
theorem ggX5_near_X2_hasPosts : GoodIn wsX5_near wsX2_hasPosts := goodIn_r _ [8, 9, 10, 11, 7, 12, 13, 49, 50, 51, 52, 53, 54, 55] rfl rfl
set_option maxRecDepth 200000 in
theorem gX5_near_X2_hasPosts : GoodIn wsX5_near (wsV RX5 47 RX2 yX2_hasPosts wsX2_hasPosts) := goodIn_app (goodIn_r _ [4, 5, 6, 7] rfl rfl) ggX5_near_X2_hasPosts
set_option maxRecDepth 200000 in
theorem ggX5_near_X4_leastThrough : GoodIn wsX5_near wsX4_leastThrough := goodIn_r _ [18, 19, 20, 21, 22, 23, 24, 25, 26, 17, 27, 28, 29, 30, 31, 32, 33, 34, 35, 36, 37, 38, 39, 40, 41, 42, 43, 56, 57, 58, 49, 50, 51, 52, 53, 54, 55] rfl rfl
set_option maxRecDepth 200000 in
theorem gX5_near_X4_leastThrough : GoodIn wsX5_near (wsV RX5 161 RX4 yX4_leastThrough wsX4_leastThrough) := goodIn_app (goodIn_r _ [14, 15, 16, 17] rfl rfl) ggX5_near_X4_leastThrough
set_option maxRecDepth 200000 in
theorem ggX5_worst_X4_leads : GoodIn wsX5_worst wsX4_leads := goodIn_r _ [12, 13, 14, 15, 16, 17, 51, 52, 53] rfl rfl
set_option maxRecDepth 200000 in
theorem gX5_worst_X4_leads : GoodIn wsX5_worst (wsV RX5 164 RX4 yX4_leads wsX4_leads) := goodIn_app (goodIn_r _ [8, 9, 10, 11] rfl rfl) ggX5_worst_X4_leads
set_option maxRecDepth 200000 in
theorem ggX5_worst_X4_leastThrough : GoodIn wsX5_worst wsX4_leastThrough := goodIn_r _ [21, 22, 23, 24, 6, 25, 26, 9, 10, 11, 12, 13, 14, 15, 16, 17, 27, 28, 29, 30, 31, 32, 33, 34, 35, 36, 37, 51, 52, 53, 44, 45, 46, 47, 48, 49, 50] rfl rfl
set_option maxRecDepth 200000 in
theorem gX5_worst_X4_leastThrough : GoodIn wsX5_worst (wsV RX5 161 RX4 yX4_leastThrough wsX4_leastThrough) := goodIn_app (goodIn_r _ [18, 19, 20, 11] rfl rfl) ggX5_worst_X4_leastThrough
set_option maxRecDepth 200000 in
theorem ggX5_worst_X4_leastPrice : GoodIn wsX5_worst wsX4_leastPrice := goodIn_r _ [30, 13, 15, 16, 17, 31, 32, 11, 33, 14, 34, 35, 36, 37, 51, 52, 53] rfl rfl
set_option maxRecDepth 200000 in
theorem gX5_worst_X4_leastPrice : GoodIn wsX5_worst (wsV RX5 109 RX4 yX4_leastPrice wsX4_leastPrice) := goodIn_app (goodIn_r _ [38, 28, 29, 11] rfl rfl) ggX5_worst_X4_leastPrice
set_option maxRecDepth 200000 in
theorem ggX5_hits_X1_askFor : GoodIn wsX5_hits wsX1_askFor := goodIn_r _ [8, 9, 10, 11, 12, 13, 14, 15, 16, 17, 18, 19, 20, 21, 22, 23, 24, 25, 26, 27, 28, 29, 30, 31, 32, 33, 34, 35, 36, 37, 38, 39, 40, 41, 42, 43, 44, 45, 46, 47, 48, 49, 50, 51, 52, 53, 54, 55, 56, 57, 58, 59, 60, 61, 89, 90, 91, 92, 93, 82, 83, 84, 85, 86, 87, 88] rfl rfl
set_option maxRecDepth 200000 in
theorem gX5_hits_X1_askFor : GoodIn wsX5_hits (wsV RX5 172 RX1 yX1_askFor wsX1_askFor) := goodIn_app (goodIn_r _ [4, 5, 6, 7] rfl rfl) ggX5_hits_X1_askFor
set_option maxRecDepth 200000 in
theorem ggX5_hits_X1_fewest : GoodIn wsX5_hits wsX1_fewest := goodIn_r _ [65, 66, 67, 68, 69, 70, 71, 72, 73, 74, 75, 7, 76, 9, 10, 89, 90] rfl rfl
set_option maxRecDepth 200000 in
theorem gX5_hits_X1_fewest : GoodIn wsX5_hits (wsV RX5 176 RX1 yX1_fewest wsX1_fewest) := goodIn_app (goodIn_r _ [62, 63, 64, 7] rfl rfl) ggX5_hits_X1_fewest
set_option maxRecDepth 200000 in
theorem ggX5_count_X2_countThere : GoodIn wsX5_count wsX2_countThere := goodIn_r _ [8, 9, 10, 38, 39, 40, 41, 42, 43, 44] rfl rfl
set_option maxRecDepth 200000 in
theorem gX5_count_X2_countThere : GoodIn wsX5_count (wsV RX5 91 RX2 yX2_countThere wsX2_countThere) := goodIn_app (goodIn_r _ [4, 5, 6, 7] rfl rfl) ggX5_count_X2_countThere
set_option maxRecDepth 200000 in
theorem ggX5_count_X4_countLinked : GoodIn wsX5_count wsX4_countLinked := goodIn_r _ [15, 16, 17, 18, 19, 14, 20, 21, 22, 23, 24, 25, 45, 46, 47, 38, 39, 40, 41, 42, 43, 44] rfl rfl
set_option maxRecDepth 200000 in
theorem gX5_count_X4_countLinked : GoodIn wsX5_count (wsV RX5 179 RX4 yX4_countLinked wsX4_countLinked) := goodIn_app (goodIn_r _ [11, 12, 13, 14] rfl rfl) ggX5_count_X4_countLinked
set_option maxRecDepth 200000 in
theorem ggX5_count_J6_bitCount_0f7a4 : GoodIn wsX5_count wsJ6_bitCount_0f7a4 := goodIn_r _ [29, 30, 31, 32] rfl rfl
set_option maxRecDepth 200000 in
theorem gX5_count_J6_bitCount_0f7a4 : GoodIn wsX5_count (va_wsS RX5 182 yJ6_bitCount_0f7a4 wsJ6_bitCount_0f7a4) := goodIn_app (goodIn_r _ [26, 27, 28] rfl rfl) ggX5_count_J6_bitCount_0f7a4
set_option maxRecDepth 200000 in
theorem ggX5_restart_X2_clear : GoodIn wsX5_restart wsX2_clear := goodIn_r _ [8, 9, 10, 103, 104, 105, 106, 107, 108, 109] rfl rfl
set_option maxRecDepth 200000 in
theorem gX5_restart_X2_clear : GoodIn wsX5_restart (wsV RX5 187 RX2 yX2_clear wsX2_clear) := goodIn_app (goodIn_r _ [4, 5, 6, 7] rfl rfl) ggX5_restart_X2_clear
set_option maxRecDepth 200000 in
theorem ggX5_restart_X3_clear : GoodIn wsX5_restart wsX3_clear := goodIn_r _ [15, 16, 110, 111] rfl rfl
set_option maxRecDepth 200000 in
theorem gX5_restart_X3_clear : GoodIn wsX5_restart (wsV RX5 190 RX3 yX3_clear wsX3_clear) := goodIn_app (goodIn_r _ [11, 12, 13, 14] rfl rfl) ggX5_restart_X3_clear
set_option maxRecDepth 200000 in
theorem ggX5_restart_X5_keepAct : GoodIn wsX5_restart wsX5_keepAct := goodIn_r _ [21, 22, 2, 23, 24, 25, 26, 27, 28, 29, 30, 31, 32, 33, 34, 35, 36, 37, 38, 39, 40, 41, 42, 43, 44, 45, 46, 7, 47, 48, 49, 50, 51, 52, 53, 54, 55, 56, 57, 58, 59, 60, 61, 62, 20, 63, 64, 65, 66, 14, 67, 68, 16, 69, 70, 71, 72, 73, 74, 75, 76, 77, 78, 79, 80, 81, 82, 83, 84, 85, 86, 87, 88, 89, 90, 91, 92, 93, 94, 95, 96, 97, 98, 99, 100, 101, 102, 112, 113, 114, 103, 104, 105, 106, 107, 108, 109, 110, 111, 115] rfl rfl
set_option maxRecDepth 200000 in
theorem gX5_restart_X5_keepAct : GoodIn wsX5_restart (wsV RX5 70 RX5 yX5_keepAct wsX5_keepAct) := goodIn_app (goodIn_r _ [17, 18, 19, 20] rfl rfl) ggX5_restart_X5_keepAct
set_option maxRecDepth 200000 in
theorem ggX5_keepAct_X4_measure : GoodIn wsX5_keepAct wsX4_measure := goodIn_r _ [7, 8, 9, 10, 11, 12, 13, 14, 15, 16, 17, 18, 19, 20, 21, 22, 6, 23, 24, 25, 26, 27, 28, 29, 30, 31, 32, 33, 34, 35, 36, 37, 38, 39, 40, 41, 42, 43, 44, 45, 87, 88, 89, 90, 91, 92, 93, 94, 95, 96] rfl rfl
set_option maxRecDepth 200000 in
theorem gX5_keepAct_X4_measure : GoodIn wsX5_keepAct (wsV RX5 192 RX4 yX4_measure wsX4_measure) := goodIn_app (goodIn_r _ [3, 4, 5, 6] rfl rfl) ggX5_keepAct_X4_measure
set_option maxRecDepth 200000 in
theorem ggX5_keepAct_X3_keep : GoodIn wsX5_keepAct wsX3_keep := goodIn_r _ [50, 51, 52, 53, 54, 55, 56, 57, 58, 49, 59, 60, 61, 62, 63, 64, 65, 66, 67, 68, 69, 70, 71, 72, 73, 6, 74, 8, 43, 44, 45, 75, 76, 77, 9, 78, 79, 80, 81, 97, 98, 99, 87, 88, 89] rfl rfl
set_option maxRecDepth 200000 in
theorem gX5_keepAct_X3_keep : GoodIn wsX5_keepAct (wsV RX5 195 RX3 yX3_keep wsX3_keep) := goodIn_app (goodIn_r _ [46, 47, 48, 49] rfl rfl) ggX5_keepAct_X3_keep
set_option maxRecDepth 200000 in
theorem ggX5_wouldSinkAt_X4_wouldSink : GoodIn wsX5_wouldSinkAt wsX4_wouldSink := goodIn_r _ [7, 8, 9, 10, 6, 11, 12, 13, 14, 15, 16, 17, 18, 19, 20, 21, 22, 23, 24, 25, 26, 27, 28, 29, 30, 31, 32, 33, 34, 35, 36, 37, 38, 39, 40, 41, 42, 43, 44, 45, 46, 47, 48, 49, 50, 51, 64, 65, 66, 57, 58, 59, 60, 61, 62, 63] rfl rfl
set_option maxRecDepth 200000 in
theorem gX5_wouldSinkAt_X4_wouldSink : GoodIn wsX5_wouldSinkAt (wsV RX5 55 RX4 yX4_wouldSink wsX4_wouldSink) := goodIn_app (goodIn_r _ [3, 4, 5, 6] rfl rfl) ggX5_wouldSinkAt_X4_wouldSink
set_option maxRecDepth 200000 in
theorem ggX6_init_X6_learn : GoodIn wsX6_init wsX6_learn := goodIn_r _ [20, 12, 21, 22, 11, 6, 7, 8, 10, 4, 31, 32, 33, 34, 35, 36, 37, 38, 39, 40, 41, 42, 43] rfl rfl
set_option maxRecDepth 200000 in
theorem gX6_init_X6_learn : GoodIn wsX6_init (wsV RX6 40 RX6 yX6_learn wsX6_learn) := goodIn_app (goodIn_r _ [16, 17, 18, 19] rfl rfl) ggX6_init_X6_learn
set_option maxRecDepth 200000 in
theorem ggX6_init_X6_keep : GoodIn wsX6_init wsX6_keep := goodIn_r _ [26, 14, 27, 12, 28, 29, 19, 30, 21, 31, 32, 33, 34, 35, 36, 37, 38, 39, 40, 41, 42, 43] rfl rfl
set_option maxRecDepth 200000 in
theorem gX6_init_X6_keep : GoodIn wsX6_init (wsV RX6 44 RX6 yX6_keep wsX6_keep) := goodIn_app (goodIn_r _ [23, 24, 25, 19] rfl rfl) ggX6_init_X6_keep
set_option maxRecDepth 200000 in
theorem ggX6_noPost_X6_in : GoodIn wsX6_noPost wsX6_in := goodIn_r _ [5] rfl rfl
set_option maxRecDepth 200000 in
theorem gX6_noPost_X6_in : GoodIn wsX6_noPost (va_wsS RX6 50 yX6_in wsX6_in) := goodIn_app (goodIn_r _ [2, 3, 4] rfl rfl) ggX6_noPost_X6_in
set_option maxRecDepth 200000 in
theorem ggX6_noLine_X6_in : GoodIn wsX6_noLine wsX6_in := goodIn_r _ [5] rfl rfl
set_option maxRecDepth 200000 in
theorem gX6_noLine_X6_in : GoodIn wsX6_noLine (va_wsS RX6 50 yX6_in wsX6_in) := goodIn_app (goodIn_r _ [2, 3, 4] rfl rfl) ggX6_noLine_X6_in
set_option maxRecDepth 200000 in
theorem ggX6_farOf_X6_coarse : GoodIn wsX6_farOf wsX6_coarse := goodIn_r _ [5, 6] rfl rfl
set_option maxRecDepth 200000 in
theorem gX6_farOf_X6_coarse : GoodIn wsX6_farOf (va_wsS RX6 58 yX6_coarse wsX6_coarse) := goodIn_app (goodIn_r _ [2, 3, 4] rfl rfl) ggX6_farOf_X6_coarse
set_option maxRecDepth 200000 in
theorem ggX6_keep_X6_coarse : GoodIn wsX6_keep wsX6_coarse := goodIn_r _ [7, 8] rfl rfl
set_option maxRecDepth 200000 in
theorem gX6_keep_X6_coarse : GoodIn wsX6_keep (va_wsS RX6 58 yX6_coarse wsX6_coarse) := goodIn_app (goodIn_r _ [4, 5, 6] rfl rfl) ggX6_keep_X6_coarse
set_option maxRecDepth 200000 in
theorem ggX6_did_X6_learn : GoodIn wsX6_did wsX6_learn := goodIn_r _ [6, 7, 8, 9, 10, 11, 12, 13, 14, 15, 24, 25, 26, 27, 28, 29, 30, 31, 32, 33, 34, 35, 36] rfl rfl
set_option maxRecDepth 200000 in
theorem gX6_did_X6_learn : GoodIn wsX6_did (wsV RX6 40 RX6 yX6_learn wsX6_learn) := goodIn_app (goodIn_r _ [2, 3, 4, 5] rfl rfl) ggX6_did_X6_learn
set_option maxRecDepth 200000 in
theorem ggX6_did_X6_keep : GoodIn wsX6_did wsX6_keep := goodIn_r _ [19, 20, 1, 7, 21, 22, 5, 23, 8, 24, 25, 26, 27, 28, 29, 30, 31, 32, 33, 34, 35, 36] rfl rfl
set_option maxRecDepth 200000 in
theorem gX6_did_X6_keep : GoodIn wsX6_did (wsV RX6 44 RX6 yX6_keep wsX6_keep) := goodIn_app (goodIn_r _ [16, 17, 18, 5] rfl rfl) ggX6_did_X6_keep
set_option maxRecDepth 200000 in
theorem ggX6_posts_X6_in : GoodIn wsX6_posts wsX6_in := goodIn_r _ [11] rfl rfl
set_option maxRecDepth 200000 in
theorem gX6_posts_X6_in : GoodIn wsX6_posts (va_wsS RX6 50 yX6_in wsX6_in) := goodIn_app (goodIn_r _ [8, 9, 10] rfl rfl) ggX6_posts_X6_in
set_option maxRecDepth 200000 in
theorem ggX6_posts_X6_learn : GoodIn wsX6_posts wsX6_learn := goodIn_r _ [15, 16, 17, 5, 18, 19, 20, 21, 22, 4, 31, 32, 33, 34, 35, 36, 37, 38, 39, 40, 41, 42, 43] rfl rfl
set_option maxRecDepth 200000 in
theorem gX6_posts_X6_learn : GoodIn wsX6_posts (wsV RX6 40 RX6 yX6_learn wsX6_learn) := goodIn_app (goodIn_r _ [12, 13, 14, 10] rfl rfl) ggX6_posts_X6_learn
set_option maxRecDepth 200000 in
theorem ggX6_posts_X6_keep : GoodIn wsX6_posts wsX6_keep := goodIn_r _ [26, 27, 6, 16, 28, 29, 10, 30, 17, 31, 32, 33, 34, 35, 36, 37, 38, 39, 40, 41, 42, 43] rfl rfl
set_option maxRecDepth 200000 in
theorem gX6_posts_X6_keep : GoodIn wsX6_posts (wsV RX6 44 RX6 yX6_keep wsX6_keep) := goodIn_app (goodIn_r _ [23, 24, 25, 10] rfl rfl) ggX6_posts_X6_keep
set_option maxRecDepth 200000 in
theorem ggX6_line_X6_noPost : GoodIn wsX6_line wsX6_noPost := goodIn_r _ [15, 16, 17, 18, 14, 19, 42, 43, 44, 45, 46, 47, 48, 49, 50, 51, 52, 53, 54] rfl rfl
set_option maxRecDepth 200000 in
theorem gX6_line_X6_noPost : GoodIn wsX6_line (wsV RX6 72 RX6 yX6_noPost wsX6_noPost) := goodIn_app (goodIn_r _ [11, 12, 13, 14] rfl rfl) ggX6_line_X6_noPost
set_option maxRecDepth 200000 in
theorem ggX6_line_X6_in : GoodIn wsX6_line wsX6_in := goodIn_r _ [19] rfl rfl
set_option maxRecDepth 200000 in
theorem gX6_line_X6_in : GoodIn wsX6_line (va_wsS RX6 50 yX6_in wsX6_in) := goodIn_app (goodIn_r _ [17, 18, 14] rfl rfl) ggX6_line_X6_in
set_option maxRecDepth 200000 in
theorem ggX6_line_X6_learn : GoodIn wsX6_line wsX6_learn := goodIn_r _ [23, 24, 25, 4, 10, 6, 7, 8, 9, 16, 42, 43, 44, 45, 46, 47, 48, 49, 50, 51, 52, 53, 54] rfl rfl
set_option maxRecDepth 200000 in
theorem gX6_line_X6_learn : GoodIn wsX6_line (wsV RX6 40 RX6 yX6_learn wsX6_learn) := goodIn_app (goodIn_r _ [20, 21, 22, 14] rfl rfl) ggX6_line_X6_learn
set_option maxRecDepth 200000 in
theorem ggX6_line_X6_farOf : GoodIn wsX6_line wsX6_farOf := goodIn_r _ [29, 24, 30, 31, 14, 32, 25, 42, 43, 44, 45, 46, 47, 48, 49, 50, 51, 52, 53, 54] rfl rfl
set_option maxRecDepth 200000 in
theorem gX6_line_X6_farOf : GoodIn wsX6_line (wsV RX6 80 RX6 yX6_farOf wsX6_farOf) := goodIn_app (goodIn_r _ [26, 27, 28, 14] rfl rfl) ggX6_line_X6_farOf
set_option maxRecDepth 200000 in
theorem ggX6_line_X6_did : GoodIn wsX6_line wsX6_did := goodIn_r _ [36, 5, 20, 21, 22, 14, 23, 24, 25, 4, 10, 6, 7, 8, 9, 16, 37, 38, 39, 40, 41, 30, 31, 32, 42, 43, 44, 45, 46, 47, 48, 49, 50, 51, 52, 53, 54] rfl rfl
set_option maxRecDepth 200000 in
theorem gX6_line_X6_did : GoodIn wsX6_line (wsV RX6 84 RX6 yX6_did wsX6_did) := goodIn_app (goodIn_r _ [33, 34, 35, 14] rfl rfl) ggX6_line_X6_did
set_option maxRecDepth 200000 in
theorem ggX6_price_X6_noLine : GoodIn wsX6_price wsX6_noLine := goodIn_r _ [11, 12, 13, 14, 10, 15, 38, 39, 40, 41, 42, 43, 44, 45, 46, 47, 48, 49, 50] rfl rfl
set_option maxRecDepth 200000 in
theorem gX6_price_X6_noLine : GoodIn wsX6_price (wsV RX6 87 RX6 yX6_noLine wsX6_noLine) := goodIn_app (goodIn_r _ [7, 8, 9, 10] rfl rfl) ggX6_price_X6_noLine
set_option maxRecDepth 200000 in
theorem ggX6_price_X6_in : GoodIn wsX6_price wsX6_in := goodIn_r _ [15] rfl rfl
set_option maxRecDepth 200000 in
theorem gX6_price_X6_in : GoodIn wsX6_price (va_wsS RX6 50 yX6_in wsX6_in) := goodIn_app (goodIn_r _ [13, 14, 10] rfl rfl) ggX6_price_X6_in
set_option maxRecDepth 200000 in
theorem ggX6_price_X6_learn : GoodIn wsX6_price wsX6_learn := goodIn_r _ [19, 20, 21, 12, 22, 23, 24, 5, 2, 25, 38, 39, 40, 41, 42, 43, 44, 45, 46, 47, 48, 49, 50] rfl rfl
set_option maxRecDepth 200000 in
theorem gX6_price_X6_learn : GoodIn wsX6_price (wsV RX6 40 RX6 yX6_learn wsX6_learn) := goodIn_app (goodIn_r _ [16, 17, 18, 10] rfl rfl) ggX6_price_X6_learn
set_option maxRecDepth 200000 in
theorem ggX6_price_X6_did : GoodIn wsX6_price wsX6_did := goodIn_r _ [29, 6, 16, 17, 18, 10, 19, 20, 21, 12, 22, 23, 24, 5, 2, 25, 30, 31, 32, 33, 34, 35, 36, 37, 38, 39, 40, 41, 42, 43, 44, 45, 46, 47, 48, 49, 50] rfl rfl
set_option maxRecDepth 200000 in
theorem gX6_price_X6_did : GoodIn wsX6_price (wsV RX6 84 RX6 yX6_did wsX6_did) := goodIn_app (goodIn_r _ [26, 27, 28, 10] rfl rfl) ggX6_price_X6_did
set_option maxRecDepth 200000 in
theorem ggX6_cut_X6_noLine : GoodIn wsX6_cut wsX6_noLine := goodIn_r _ [8, 9, 10, 11, 7, 12, 40, 41, 42, 43, 44, 45, 46, 47, 48, 49, 50, 51, 52] rfl rfl
set_option maxRecDepth 200000 in
theorem gX6_cut_X6_noLine : GoodIn wsX6_cut (wsV RX6 87 RX6 yX6_noLine wsX6_noLine) := goodIn_app (goodIn_r _ [4, 5, 6, 7] rfl rfl) ggX6_cut_X6_noLine
set_option maxRecDepth 200000 in
theorem ggX6_cut_X6_did : GoodIn wsX6_cut wsX6_did := goodIn_r _ [16, 3, 17, 18, 19, 7, 20, 21, 22, 9, 2, 23, 24, 25, 26, 27, 28, 29, 30, 31, 32, 33, 34, 35, 40, 41, 42, 43, 44, 45, 46, 47, 48, 49, 50, 51, 52] rfl rfl
set_option maxRecDepth 200000 in
theorem gX6_cut_X6_did : GoodIn wsX6_cut (wsV RX6 84 RX6 yX6_did wsX6_did) := goodIn_app (goodIn_r _ [13, 14, 15, 7] rfl rfl) ggX6_cut_X6_did
set_option maxRecDepth 200000 in
theorem ggX6_cut_X6_there : GoodIn wsX6_cut wsX6_there := goodIn_r _ [39, 9, 2, 40, 41, 42, 43, 44, 45, 46, 47, 48, 49, 50, 51, 52] rfl rfl
set_option maxRecDepth 200000 in
theorem gX6_cut_X6_there : GoodIn wsX6_cut (wsV RX6 90 RX6 yX6_there wsX6_there) := goodIn_app (goodIn_r _ [36, 37, 38, 7] rfl rfl) ggX6_cut_X6_there
set_option maxRecDepth 200000 in
theorem ggX6_back_X6_noLine : GoodIn wsX6_back wsX6_noLine := goodIn_r _ [8, 9, 10, 11, 7, 12, 40, 41, 42, 43, 44, 45, 46, 47, 48, 49, 50, 51, 52] rfl rfl
set_option maxRecDepth 200000 in
theorem gX6_back_X6_noLine : GoodIn wsX6_back (wsV RX6 87 RX6 yX6_noLine wsX6_noLine) := goodIn_app (goodIn_r _ [4, 5, 6, 7] rfl rfl) ggX6_back_X6_noLine
set_option maxRecDepth 200000 in
theorem ggX6_back_X6_learn : GoodIn wsX6_back wsX6_learn := goodIn_r _ [16, 17, 18, 9, 2, 19, 20, 21, 22, 23, 40, 41, 42, 43, 44, 45, 46, 47, 48, 49, 50, 51, 52] rfl rfl
set_option maxRecDepth 200000 in
theorem gX6_back_X6_learn : GoodIn wsX6_back (wsV RX6 40 RX6 yX6_learn wsX6_learn) := goodIn_app (goodIn_r _ [13, 14, 15, 7] rfl rfl) ggX6_back_X6_learn
set_option maxRecDepth 200000 in
theorem ggX6_back_X6_did : GoodIn wsX6_back wsX6_did := goodIn_r _ [27, 3, 13, 14, 15, 7, 16, 17, 18, 9, 2, 19, 20, 21, 22, 23, 28, 29, 30, 31, 32, 33, 34, 35, 40, 41, 42, 43, 44, 45, 46, 47, 48, 49, 50, 51, 52] rfl rfl
set_option maxRecDepth 200000 in
theorem gX6_back_X6_did : GoodIn wsX6_back (wsV RX6 84 RX6 yX6_did wsX6_did) := goodIn_app (goodIn_r _ [24, 25, 26, 7] rfl rfl) ggX6_back_X6_did
set_option maxRecDepth 200000 in
theorem ggX6_back_X6_there : GoodIn wsX6_back wsX6_there := goodIn_r _ [39, 9, 2, 40, 41, 42, 43, 44, 45, 46, 47, 48, 49, 50, 51, 52] rfl rfl
set_option maxRecDepth 200000 in
theorem gX6_back_X6_there : GoodIn wsX6_back (wsV RX6 90 RX6 yX6_there wsX6_there) := goodIn_app (goodIn_r _ [36, 37, 38, 7] rfl rfl) ggX6_back_X6_there
set_option maxRecDepth 200000 in
theorem ggX6_heightOf_X6_farOf : GoodIn wsX6_heightOf wsX6_farOf := goodIn_r _ [6, 7, 8, 9, 5, 10, 11, 12, 13, 14, 15, 16, 17, 18, 19, 20, 21, 22, 23, 24] rfl rfl
set_option maxRecDepth 200000 in
theorem gX6_heightOf_X6_farOf : GoodIn wsX6_heightOf (wsV RX6 80 RX6 yX6_farOf wsX6_farOf) := goodIn_app (goodIn_r _ [2, 3, 4, 5] rfl rfl) ggX6_heightOf_X6_farOf
set_option maxRecDepth 200000 in
theorem ggX6_told_X6_noLine : GoodIn wsX6_told wsX6_noLine := goodIn_r _ [11, 12, 13, 14, 10, 15, 34, 35, 36, 37, 38, 39, 40, 41, 42, 43, 44, 45, 46] rfl rfl
set_option maxRecDepth 200000 in
theorem gX6_told_X6_noLine : GoodIn wsX6_told (wsV RX6 87 RX6 yX6_noLine wsX6_noLine) := goodIn_app (goodIn_r _ [7, 8, 9, 10] rfl rfl) ggX6_told_X6_noLine
set_option maxRecDepth 200000 in
theorem ggX6_told_X6_learn : GoodIn wsX6_told wsX6_learn := goodIn_r _ [19, 20, 21, 12, 6, 2, 3, 4, 5, 22, 34, 35, 36, 37, 38, 39, 40, 41, 42, 43, 44, 45, 46] rfl rfl
set_option maxRecDepth 200000 in
theorem gX6_told_X6_learn : GoodIn wsX6_told (wsV RX6 40 RX6 yX6_learn wsX6_learn) := goodIn_app (goodIn_r _ [16, 17, 18, 10] rfl rfl) ggX6_told_X6_learn
set_option maxRecDepth 200000 in
theorem ggX6_told_X6_heightOf : GoodIn wsX6_told wsX6_heightOf := goodIn_r _ [26, 22, 27, 28, 29, 10, 30, 20, 31, 32, 33, 21, 34, 35, 36, 37, 38, 39, 40, 41, 42, 43, 44, 45, 46] rfl rfl
set_option maxRecDepth 200000 in
theorem gX6_told_X6_heightOf : GoodIn wsX6_told (wsV RX6 94 RX6 yX6_heightOf wsX6_heightOf) := goodIn_app (goodIn_r _ [23, 24, 25, 10] rfl rfl) ggX6_told_X6_heightOf
set_option maxRecDepth 200000 in
theorem ggX6_far_X6_noPost : GoodIn wsX6_far wsX6_noPost := goodIn_r _ [6, 7, 8, 9, 5, 10, 30, 31, 32, 33, 34, 35, 36, 37, 38, 39, 40, 41, 42] rfl rfl
set_option maxRecDepth 200000 in
theorem gX6_far_X6_noPost : GoodIn wsX6_far (wsV RX6 72 RX6 yX6_noPost wsX6_noPost) := goodIn_app (goodIn_r _ [2, 3, 4, 5] rfl rfl) ggX6_far_X6_noPost
set_option maxRecDepth 200000 in
theorem ggX6_far_X6_learn : GoodIn wsX6_far wsX6_learn := goodIn_r _ [14, 15, 16, 17, 18, 19, 20, 21, 22, 7, 30, 31, 32, 33, 34, 35, 36, 37, 38, 39, 40, 41, 42] rfl rfl
set_option maxRecDepth 200000 in
theorem gX6_far_X6_learn : GoodIn wsX6_far (wsV RX6 40 RX6 yX6_learn wsX6_learn) := goodIn_app (goodIn_r _ [11, 12, 13, 5] rfl rfl) ggX6_far_X6_learn
set_option maxRecDepth 200000 in
theorem ggX6_far_X6_farOf : GoodIn wsX6_far wsX6_farOf := goodIn_r _ [26, 15, 27, 28, 5, 29, 16, 30, 31, 32, 33, 34, 35, 36, 37, 38, 39, 40, 41, 42] rfl rfl
set_option maxRecDepth 200000 in
theorem gX6_far_X6_farOf : GoodIn wsX6_far (wsV RX6 80 RX6 yX6_farOf wsX6_farOf) := goodIn_app (goodIn_r _ [23, 24, 25, 5] rfl rfl) ggX6_far_X6_farOf
set_option maxRecDepth 200000 in
theorem ggX6_steps_X6_noPost : GoodIn wsX6_steps wsX6_noPost := goodIn_r _ [8, 9, 10, 11, 7, 12, 26, 27, 28, 29, 30, 31, 32, 33, 34, 35, 36, 37, 38] rfl rfl
set_option maxRecDepth 200000 in
theorem gX6_steps_X6_noPost : GoodIn wsX6_steps (wsV RX6 72 RX6 yX6_noPost wsX6_noPost) := goodIn_app (goodIn_r _ [4, 5, 6, 7] rfl rfl) ggX6_steps_X6_noPost
set_option maxRecDepth 200000 in
theorem ggX6_steps_X6_learn : GoodIn wsX6_steps wsX6_learn := goodIn_r _ [16, 2, 3, 17, 18, 19, 20, 21, 22, 9, 26, 27, 28, 29, 30, 31, 32, 33, 34, 35, 36, 37, 38] rfl rfl
set_option maxRecDepth 200000 in
theorem gX6_steps_X6_learn : GoodIn wsX6_steps (wsV RX6 40 RX6 yX6_learn wsX6_learn) := goodIn_app (goodIn_r _ [13, 14, 15, 7] rfl rfl) ggX6_steps_X6_learn
set_option maxRecDepth 200000 in
theorem ggX6_steps_X6_coarse : GoodIn wsX6_steps wsX6_coarse := goodIn_r _ [25, 3] rfl rfl
set_option maxRecDepth 200000 in
theorem gX6_steps_X6_coarse : GoodIn wsX6_steps (va_wsS RX6 58 yX6_coarse wsX6_coarse) := goodIn_app (goodIn_r _ [23, 24, 7] rfl rfl) ggX6_steps_X6_coarse
set_option maxRecDepth 200000 in
theorem ggX6_way_X6_noPost : GoodIn wsX6_way wsX6_noPost := goodIn_r _ [8, 9, 10, 11, 7, 12, 34, 35, 36, 37, 38, 39, 40, 41, 42, 43, 44, 45, 46] rfl rfl
set_option maxRecDepth 200000 in
theorem gX6_way_X6_noPost : GoodIn wsX6_way (wsV RX6 72 RX6 yX6_noPost wsX6_noPost) := goodIn_app (goodIn_r _ [4, 5, 6, 7] rfl rfl) ggX6_way_X6_noPost
set_option maxRecDepth 200000 in
theorem ggX6_way_X6_learn : GoodIn wsX6_way wsX6_learn := goodIn_r _ [16, 2, 3, 17, 18, 19, 20, 21, 22, 9, 34, 35, 36, 37, 38, 39, 40, 41, 42, 43, 44, 45, 46] rfl rfl
set_option maxRecDepth 200000 in
theorem gX6_way_X6_learn : GoodIn wsX6_way (wsV RX6 40 RX6 yX6_learn wsX6_learn) := goodIn_app (goodIn_r _ [13, 14, 15, 7] rfl rfl) ggX6_way_X6_learn
set_option maxRecDepth 200000 in
theorem ggX6_way_X6_coarse : GoodIn wsX6_way wsX6_coarse := goodIn_r _ [25, 3] rfl rfl
set_option maxRecDepth 200000 in
theorem gX6_way_X6_coarse : GoodIn wsX6_way (va_wsS RX6 58 yX6_coarse wsX6_coarse) := goodIn_app (goodIn_r _ [23, 24, 7] rfl rfl) ggX6_way_X6_coarse
set_option maxRecDepth 200000 in
theorem ggX6_way_X6_in : GoodIn wsX6_way wsX6_in := goodIn_r _ [12] rfl rfl
set_option maxRecDepth 200000 in
theorem gX6_way_X6_in : GoodIn wsX6_way (va_wsS RX6 50 yX6_in wsX6_in) := goodIn_app (goodIn_r _ [10, 11, 7] rfl rfl) ggX6_way_X6_in
set_option maxRecDepth 200000 in
theorem ggX6_way_X6_nextOf : GoodIn wsX6_way wsX6_nextOf := goodIn_r _ [29, 17, 19, 20, 22, 18, 2, 3, 21, 34, 35, 36, 37, 38, 39, 40, 41, 42, 43, 44, 45, 46] rfl rfl
set_option maxRecDepth 200000 in
theorem gX6_way_X6_nextOf : GoodIn wsX6_way (wsV RX6 97 RX6 yX6_nextOf wsX6_nextOf) := goodIn_app (goodIn_r _ [26, 27, 28, 7] rfl rfl) ggX6_way_X6_nextOf
set_option maxRecDepth 200000 in
theorem ggX6_way_X6_other : GoodIn wsX6_way wsX6_other := goodIn_r _ [33, 19, 20, 34, 35, 36, 37, 38, 39, 40, 41, 42, 43, 44, 45, 46] rfl rfl
set_option maxRecDepth 200000 in
theorem gX6_way_X6_other : GoodIn wsX6_way (wsV RX6 100 RX6 yX6_other wsX6_other) := goodIn_app (goodIn_r _ [30, 31, 32, 7] rfl rfl) ggX6_way_X6_other
set_option maxRecDepth 200000 in
theorem ggX6_without_X6_noPost : GoodIn wsX6_without wsX6_noPost := goodIn_r _ [6, 7, 8, 9, 5, 10, 34, 35, 36, 37, 38, 39, 40, 41, 42, 43, 44, 45, 46] rfl rfl
set_option maxRecDepth 200000 in
theorem gX6_without_X6_noPost : GoodIn wsX6_without (wsV RX6 72 RX6 yX6_noPost wsX6_noPost) := goodIn_app (goodIn_r _ [2, 3, 4, 5] rfl rfl) ggX6_without_X6_noPost
set_option maxRecDepth 200000 in
theorem ggX6_without_X6_noLine : GoodIn wsX6_without wsX6_noLine := goodIn_r _ [14, 15, 8, 9, 5, 10, 34, 35, 36, 37, 38, 39, 40, 41, 42, 43, 44, 45, 46] rfl rfl
set_option maxRecDepth 200000 in
theorem gX6_without_X6_noLine : GoodIn wsX6_without (wsV RX6 87 RX6 yX6_noLine wsX6_noLine) := goodIn_app (goodIn_r _ [11, 12, 13, 5] rfl rfl) ggX6_without_X6_noLine
set_option maxRecDepth 200000 in
theorem ggX6_without_X6_learn : GoodIn wsX6_without wsX6_learn := goodIn_r _ [19, 20, 21, 15, 22, 23, 24, 25, 26, 7, 34, 35, 36, 37, 38, 39, 40, 41, 42, 43, 44, 45, 46] rfl rfl
set_option maxRecDepth 200000 in
theorem gX6_without_X6_learn : GoodIn wsX6_without (wsV RX6 40 RX6 yX6_learn wsX6_learn) := goodIn_app (goodIn_r _ [16, 17, 18, 5] rfl rfl) ggX6_without_X6_learn
set_option maxRecDepth 200000 in
theorem ggX6_without_X6_farOf : GoodIn wsX6_without wsX6_farOf := goodIn_r _ [30, 20, 31, 32, 5, 33, 21, 34, 35, 36, 37, 38, 39, 40, 41, 42, 43, 44, 45, 46] rfl rfl
set_option maxRecDepth 200000 in
theorem gX6_without_X6_farOf : GoodIn wsX6_without (wsV RX6 80 RX6 yX6_farOf wsX6_farOf) := goodIn_app (goodIn_r _ [27, 28, 29, 5] rfl rfl) ggX6_without_X6_farOf
set_option maxRecDepth 200000 in
theorem ggX6_vital_X6_noPost : GoodIn wsX6_vital wsX6_noPost := goodIn_r _ [7, 8, 9, 10, 6, 11, 30, 31, 32, 33, 34, 35, 36, 37, 38, 39, 40, 41, 42] rfl rfl
set_option maxRecDepth 200000 in
theorem gX6_vital_X6_noPost : GoodIn wsX6_vital (wsV RX6 72 RX6 yX6_noPost wsX6_noPost) := goodIn_app (goodIn_r _ [3, 4, 5, 6] rfl rfl) ggX6_vital_X6_noPost
set_option maxRecDepth 200000 in
theorem ggX6_vital_X6_learn : GoodIn wsX6_vital wsX6_learn := goodIn_r _ [15, 16, 17, 2, 18, 19, 20, 21, 22, 8, 30, 31, 32, 33, 34, 35, 36, 37, 38, 39, 40, 41, 42] rfl rfl
set_option maxRecDepth 200000 in
theorem gX6_vital_X6_learn : GoodIn wsX6_vital (wsV RX6 40 RX6 yX6_learn wsX6_learn) := goodIn_app (goodIn_r _ [12, 13, 14, 6] rfl rfl) ggX6_vital_X6_learn
set_option maxRecDepth 200000 in
theorem ggX6_vital_X6_farOf : GoodIn wsX6_vital wsX6_farOf := goodIn_r _ [26, 16, 27, 28, 6, 29, 17, 30, 31, 32, 33, 34, 35, 36, 37, 38, 39, 40, 41, 42] rfl rfl
set_option maxRecDepth 200000 in
theorem gX6_vital_X6_farOf : GoodIn wsX6_vital (wsV RX6 80 RX6 yX6_farOf wsX6_farOf) := goodIn_app (goodIn_r _ [23, 24, 25, 6] rfl rfl) ggX6_vital_X6_farOf
set_option maxRecDepth 200000 in
theorem ggX6_about_X6_noPost : GoodIn wsX6_about wsX6_noPost := goodIn_r _ [6, 7, 8, 9, 5, 10, 30, 31, 32, 33, 34, 35, 36, 37, 38, 39, 40, 41, 42] rfl rfl
set_option maxRecDepth 200000 in
theorem gX6_about_X6_noPost : GoodIn wsX6_about (wsV RX6 72 RX6 yX6_noPost wsX6_noPost) := goodIn_app (goodIn_r _ [2, 3, 4, 5] rfl rfl) ggX6_about_X6_noPost
set_option maxRecDepth 200000 in
theorem ggX6_about_X6_learn : GoodIn wsX6_about wsX6_learn := goodIn_r _ [14, 15, 16, 17, 18, 19, 20, 21, 22, 7, 30, 31, 32, 33, 34, 35, 36, 37, 38, 39, 40, 41, 42] rfl rfl
set_option maxRecDepth 200000 in
theorem gX6_about_X6_learn : GoodIn wsX6_about (wsV RX6 40 RX6 yX6_learn wsX6_learn) := goodIn_app (goodIn_r _ [11, 12, 13, 5] rfl rfl) ggX6_about_X6_learn
set_option maxRecDepth 200000 in
theorem ggX6_about_X6_farOf : GoodIn wsX6_about wsX6_farOf := goodIn_r _ [26, 15, 27, 28, 5, 29, 16, 30, 31, 32, 33, 34, 35, 36, 37, 38, 39, 40, 41, 42] rfl rfl
set_option maxRecDepth 200000 in
theorem gX6_about_X6_farOf : GoodIn wsX6_about (wsV RX6 80 RX6 yX6_farOf wsX6_farOf) := goodIn_app (goodIn_r _ [23, 24, 25, 5] rfl rfl) ggX6_about_X6_farOf
set_option maxRecDepth 200000 in
theorem ggX6_ring_X6_learn : GoodIn wsX6_ring wsX6_learn := goodIn_r _ [12, 13, 14, 2, 6, 5, 4, 7, 3, 15, 23, 24, 25, 26, 27, 28, 29, 30, 31, 32, 33, 34, 35] rfl rfl
set_option maxRecDepth 200000 in
theorem gX6_ring_X6_learn : GoodIn wsX6_ring (wsV RX6 40 RX6 yX6_learn wsX6_learn) := goodIn_app (goodIn_r _ [8, 9, 10, 11] rfl rfl) ggX6_ring_X6_learn
set_option maxRecDepth 200000 in
theorem ggX6_ring_X6_farOf : GoodIn wsX6_ring wsX6_farOf := goodIn_r _ [19, 13, 20, 21, 11, 22, 14, 23, 24, 25, 26, 27, 28, 29, 30, 31, 32, 33, 34, 35] rfl rfl
set_option maxRecDepth 200000 in
theorem gX6_ring_X6_farOf : GoodIn wsX6_ring (wsV RX6 80 RX6 yX6_farOf wsX6_farOf) := goodIn_app (goodIn_r _ [16, 17, 18, 11] rfl rfl) ggX6_ring_X6_farOf
set_option maxRecDepth 200000 in
theorem ggX6_height_X6_noPost : GoodIn wsX6_height wsX6_noPost := goodIn_r _ [6, 7, 8, 9, 5, 10, 34, 35, 36, 37, 38, 39, 40, 41, 42, 43, 44, 45, 46] rfl rfl
set_option maxRecDepth 200000 in
theorem gX6_height_X6_noPost : GoodIn wsX6_height (wsV RX6 72 RX6 yX6_noPost wsX6_noPost) := goodIn_app (goodIn_r _ [2, 3, 4, 5] rfl rfl) ggX6_height_X6_noPost
set_option maxRecDepth 200000 in
theorem ggX6_height_X6_learn : GoodIn wsX6_height wsX6_learn := goodIn_r _ [14, 15, 16, 17, 18, 19, 20, 21, 22, 7, 34, 35, 36, 37, 38, 39, 40, 41, 42, 43, 44, 45, 46] rfl rfl
set_option maxRecDepth 200000 in
theorem gX6_height_X6_learn : GoodIn wsX6_height (wsV RX6 40 RX6 yX6_learn wsX6_learn) := goodIn_app (goodIn_r _ [11, 12, 13, 5] rfl rfl) ggX6_height_X6_learn
set_option maxRecDepth 200000 in
theorem ggX6_height_X6_heightOf : GoodIn wsX6_height wsX6_heightOf := goodIn_r _ [26, 7, 27, 28, 29, 5, 30, 15, 31, 32, 33, 16, 34, 35, 36, 37, 38, 39, 40, 41, 42, 43, 44, 45, 46] rfl rfl
set_option maxRecDepth 200000 in
theorem gX6_height_X6_heightOf : GoodIn wsX6_height (wsV RX6 94 RX6 yX6_heightOf wsX6_heightOf) := goodIn_app (goodIn_r _ [23, 24, 25, 5] rfl rfl) ggX6_height_X6_heightOf
set_option maxRecDepth 200000 in
theorem ggX6_moved_X6_in : GoodIn wsX6_moved wsX6_in := goodIn_r _ [6] rfl rfl
set_option maxRecDepth 200000 in
theorem gX6_moved_X6_in : GoodIn wsX6_moved (va_wsS RX6 50 yX6_in wsX6_in) := goodIn_app (goodIn_r _ [3, 4, 5] rfl rfl) ggX6_moved_X6_in
set_option maxRecDepth 200000 in
theorem ggX6_moved_X6_isMoved : GoodIn wsX6_moved wsX6_isMoved := goodIn_r _ [10, 11, 12, 13, 14, 15, 16, 17, 18, 19, 20, 21, 22, 23, 24, 25] rfl rfl
set_option maxRecDepth 200000 in
theorem gX6_moved_X6_isMoved : GoodIn wsX6_moved (wsV RX6 103 RX6 yX6_isMoved wsX6_isMoved) := goodIn_app (goodIn_r _ [7, 8, 9, 5] rfl rfl) ggX6_moved_X6_isMoved
set_option maxRecDepth 200000 in
theorem ggX6_pair_X6_in : GoodIn wsX6_pair wsX6_in := goodIn_r _ [6] rfl rfl
set_option maxRecDepth 200000 in
theorem gX6_pair_X6_in : GoodIn wsX6_pair (va_wsS RX6 50 yX6_in wsX6_in) := goodIn_app (goodIn_r _ [3, 4, 5] rfl rfl) ggX6_pair_X6_in
set_option maxRecDepth 200000 in
theorem ggX6_pair_X6_isMoved : GoodIn wsX6_pair wsX6_isMoved := goodIn_r _ [10, 11, 12, 13, 14, 15, 16, 17, 18, 19, 20, 21, 22, 23, 24, 25] rfl rfl
set_option maxRecDepth 200000 in
theorem gX6_pair_X6_isMoved : GoodIn wsX6_pair (wsV RX6 103 RX6 yX6_isMoved wsX6_isMoved) := goodIn_app (goodIn_r _ [7, 8, 9, 5] rfl rfl) ggX6_pair_X6_isMoved
set_option maxRecDepth 200000 in
theorem ggX6_then_X6_noPost : GoodIn wsX6_then wsX6_noPost := goodIn_r _ [8, 9, 10, 11, 7, 12, 13, 14, 15, 16, 17, 18, 19, 20, 21, 22, 23, 24, 25] rfl rfl
set_option maxRecDepth 200000 in
theorem gX6_then_X6_noPost : GoodIn wsX6_then (wsV RX6 72 RX6 yX6_noPost wsX6_noPost) := goodIn_app (goodIn_r _ [4, 5, 6, 7] rfl rfl) ggX6_then_X6_noPost
set_option maxRecDepth 200000 in
theorem ggX6_then_X6_in : GoodIn wsX6_then wsX6_in := goodIn_r _ [12] rfl rfl
set_option maxRecDepth 200000 in
theorem gX6_then_X6_in : GoodIn wsX6_then (va_wsS RX6 50 yX6_in wsX6_in) := goodIn_app (goodIn_r _ [10, 11, 7] rfl rfl) ggX6_then_X6_in
set_option maxRecDepth 200000 in
theorem ggX6_since_X6_noPost : GoodIn wsX6_since wsX6_noPost := goodIn_r _ [10, 11, 12, 13, 9, 14, 15, 16, 17, 18, 19, 20, 21, 22, 23, 24, 25, 26, 27] rfl rfl
set_option maxRecDepth 200000 in
theorem gX6_since_X6_noPost : GoodIn wsX6_since (wsV RX6 72 RX6 yX6_noPost wsX6_noPost) := goodIn_app (goodIn_r _ [6, 7, 8, 9] rfl rfl) ggX6_since_X6_noPost
set_option maxRecDepth 200000 in
theorem ggX6_since_X6_in : GoodIn wsX6_since wsX6_in := goodIn_r _ [14] rfl rfl
set_option maxRecDepth 200000 in
theorem gX6_since_X6_in : GoodIn wsX6_since (va_wsS RX6 50 yX6_in wsX6_in) := goodIn_app (goodIn_r _ [12, 13, 9] rfl rfl) ggX6_since_X6_in
set_option maxRecDepth 200000 in
theorem ggX6_nearOf_X6_farOf : GoodIn wsX6_nearOf wsX6_farOf := goodIn_r _ [7, 8, 9, 10, 6, 11, 12, 13, 14, 15, 16, 17, 18, 19, 20, 21, 22, 23, 24, 25] rfl rfl
set_option maxRecDepth 200000 in
theorem gX6_nearOf_X6_farOf : GoodIn wsX6_nearOf (wsV RX6 80 RX6 yX6_farOf wsX6_farOf) := goodIn_app (goodIn_r _ [3, 4, 5, 6] rfl rfl) ggX6_nearOf_X6_farOf
set_option maxRecDepth 200000 in
theorem ggX6_near_X6_noPost : GoodIn wsX6_near wsX6_noPost := goodIn_r _ [6, 7, 8, 9, 5, 10, 35, 36, 37, 38, 39, 40, 41, 42, 43, 44, 45, 46, 47] rfl rfl
set_option maxRecDepth 200000 in
theorem gX6_near_X6_noPost : GoodIn wsX6_near (wsV RX6 72 RX6 yX6_noPost wsX6_noPost) := goodIn_app (goodIn_r _ [2, 3, 4, 5] rfl rfl) ggX6_near_X6_noPost
set_option maxRecDepth 200000 in
theorem ggX6_near_X6_learn : GoodIn wsX6_near wsX6_learn := goodIn_r _ [14, 15, 16, 17, 18, 19, 20, 21, 22, 7, 35, 36, 37, 38, 39, 40, 41, 42, 43, 44, 45, 46, 47] rfl rfl
set_option maxRecDepth 200000 in
theorem gX6_near_X6_learn : GoodIn wsX6_near (wsV RX6 40 RX6 yX6_learn wsX6_learn) := goodIn_app (goodIn_r _ [11, 12, 13, 5] rfl rfl) ggX6_near_X6_learn
set_option maxRecDepth 200000 in
theorem ggX6_near_X6_nearOf : GoodIn wsX6_near wsX6_nearOf := goodIn_r _ [26, 7, 27, 28, 29, 30, 5, 31, 15, 32, 33, 34, 16, 35, 36, 37, 38, 39, 40, 41, 42, 43, 44, 45, 46, 47] rfl rfl
set_option maxRecDepth 200000 in
theorem gX6_near_X6_nearOf : GoodIn wsX6_near (wsV RX6 110 RX6 yX6_nearOf wsX6_nearOf) := goodIn_app (goodIn_r _ [23, 24, 25, 5] rfl rfl) ggX6_near_X6_nearOf
set_option maxRecDepth 200000 in
theorem ggX6_worst_X6_learn : GoodIn wsX6_worst wsX6_learn := goodIn_r _ [7, 8, 9, 10, 11, 12, 13, 14, 15, 2, 28, 29, 30, 31, 32, 33, 34, 35, 36, 37, 38, 39, 40] rfl rfl
set_option maxRecDepth 200000 in
theorem gX6_worst_X6_learn : GoodIn wsX6_worst (wsV RX6 40 RX6 yX6_learn wsX6_learn) := goodIn_app (goodIn_r _ [3, 4, 5, 6] rfl rfl) ggX6_worst_X6_learn
set_option maxRecDepth 200000 in
theorem ggX6_worst_X6_farOf : GoodIn wsX6_worst wsX6_farOf := goodIn_r _ [19, 8, 20, 21, 6, 22, 9, 28, 29, 30, 31, 32, 33, 34, 35, 36, 37, 38, 39, 40] rfl rfl
set_option maxRecDepth 200000 in
theorem gX6_worst_X6_farOf : GoodIn wsX6_worst (wsV RX6 80 RX6 yX6_farOf wsX6_farOf) := goodIn_app (goodIn_r _ [16, 17, 18, 6] rfl rfl) ggX6_worst_X6_farOf
set_option maxRecDepth 200000 in
theorem ggX6_worst_X6_nearOf : GoodIn wsX6_worst wsX6_nearOf := goodIn_r _ [26, 2, 27, 16, 17, 18, 6, 19, 8, 20, 21, 22, 9, 28, 29, 30, 31, 32, 33, 34, 35, 36, 37, 38, 39, 40] rfl rfl
set_option maxRecDepth 200000 in
theorem gX6_worst_X6_nearOf : GoodIn wsX6_worst (wsV RX6 110 RX6 yX6_nearOf wsX6_nearOf) := goodIn_app (goodIn_r _ [23, 24, 25, 6] rfl rfl) ggX6_worst_X6_nearOf
set_option maxRecDepth 200000 in
theorem ggX6_hits_X6_in : GoodIn wsX6_hits wsX6_in := goodIn_r _ [10] rfl rfl
set_option maxRecDepth 200000 in
theorem gX6_hits_X6_in : GoodIn wsX6_hits (va_wsS RX6 50 yX6_in wsX6_in) := goodIn_app (goodIn_r _ [7, 8, 9] rfl rfl) ggX6_hits_X6_in
set_option maxRecDepth 200000 in
theorem ggX6_hits_X6_learn : GoodIn wsX6_hits wsX6_learn := goodIn_r _ [14, 4, 5, 15, 16, 17, 18, 19, 20, 3, 35, 36, 37, 38, 39, 40, 41, 42, 43, 44, 45, 46, 47] rfl rfl
set_option maxRecDepth 200000 in
theorem gX6_hits_X6_learn : GoodIn wsX6_hits (wsV RX6 40 RX6 yX6_learn wsX6_learn) := goodIn_app (goodIn_r _ [11, 12, 13, 9] rfl rfl) ggX6_hits_X6_learn
set_option maxRecDepth 200000 in
theorem ggX6_hits_X6_coarse : GoodIn wsX6_hits wsX6_coarse := goodIn_r _ [23, 5] rfl rfl
set_option maxRecDepth 200000 in
theorem gX6_hits_X6_coarse : GoodIn wsX6_hits (va_wsS RX6 58 yX6_coarse wsX6_coarse) := goodIn_app (goodIn_r _ [21, 22, 9] rfl rfl) ggX6_hits_X6_coarse
set_option maxRecDepth 200000 in
theorem ggX6_hits_X6_nextOf : GoodIn wsX6_hits wsX6_nextOf := goodIn_r _ [27, 15, 17, 18, 20, 16, 4, 5, 19, 35, 36, 37, 38, 39, 40, 41, 42, 43, 44, 45, 46, 47] rfl rfl
set_option maxRecDepth 200000 in
theorem gX6_hits_X6_nextOf : GoodIn wsX6_hits (wsV RX6 97 RX6 yX6_nextOf wsX6_nextOf) := goodIn_app (goodIn_r _ [24, 25, 26, 9] rfl rfl) ggX6_hits_X6_nextOf
set_option maxRecDepth 200000 in
theorem ggX6_hits_X6_other : GoodIn wsX6_hits wsX6_other := goodIn_r _ [31, 17, 18, 35, 36, 37, 38, 39, 40, 41, 42, 43, 44, 45, 46, 47] rfl rfl
set_option maxRecDepth 200000 in
theorem gX6_hits_X6_other : GoodIn wsX6_hits (wsV RX6 100 RX6 yX6_other wsX6_other) := goodIn_app (goodIn_r _ [28, 29, 30, 9] rfl rfl) ggX6_hits_X6_other
set_option maxRecDepth 200000 in
theorem ggX6_hits_X6_bits : GoodIn wsX6_hits wsX6_bits := goodIn_r _ [34] rfl rfl
set_option maxRecDepth 200000 in
theorem gX6_hits_X6_bits : GoodIn wsX6_hits (va_wsS RX6 115 yX6_bits wsX6_bits) := goodIn_app (goodIn_r _ [32, 33, 9] rfl rfl) ggX6_hits_X6_bits
set_option maxRecDepth 200000 in
theorem ggX6_count_X6_learn : GoodIn wsX6_count wsX6_learn := goodIn_r _ [9, 10, 11, 3, 12, 13, 14, 15, 16, 2, 31, 32, 33, 34, 35, 36, 37, 38, 39, 40, 41, 42, 43] rfl rfl
set_option maxRecDepth 200000 in
theorem gX6_count_X6_learn : GoodIn wsX6_count (wsV RX6 40 RX6 yX6_learn wsX6_learn) := goodIn_app (goodIn_r _ [5, 6, 7, 8] rfl rfl) ggX6_count_X6_learn
set_option maxRecDepth 200000 in
theorem ggX6_count_X6_farOf : GoodIn wsX6_count wsX6_farOf := goodIn_r _ [20, 10, 21, 22, 8, 23, 11, 31, 32, 33, 34, 35, 36, 37, 38, 39, 40, 41, 42, 43] rfl rfl
set_option maxRecDepth 200000 in
theorem gX6_count_X6_farOf : GoodIn wsX6_count (wsV RX6 80 RX6 yX6_farOf wsX6_farOf) := goodIn_app (goodIn_r _ [17, 18, 19, 8] rfl rfl) ggX6_count_X6_farOf
set_option maxRecDepth 200000 in
theorem ggX6_count_X6_there : GoodIn wsX6_count wsX6_there := goodIn_r _ [27, 3, 12, 31, 32, 33, 34, 35, 36, 37, 38, 39, 40, 41, 42, 43] rfl rfl
set_option maxRecDepth 200000 in
theorem gX6_count_X6_there : GoodIn wsX6_count (wsV RX6 90 RX6 yX6_there wsX6_there) := goodIn_app (goodIn_r _ [24, 25, 26, 8] rfl rfl) ggX6_count_X6_there
set_option maxRecDepth 200000 in
theorem ggX6_count_X6_bits : GoodIn wsX6_count wsX6_bits := goodIn_r _ [30] rfl rfl
set_option maxRecDepth 200000 in
theorem gX6_count_X6_bits : GoodIn wsX6_count (va_wsS RX6 115 yX6_bits wsX6_bits) := goodIn_app (goodIn_r _ [28, 29, 8] rfl rfl) ggX6_count_X6_bits
set_option maxRecDepth 200000 in
theorem ggL_law_X5_init : GoodIn wsL_law wsX5_init := goodIn_r _ [8, 9, 10, 11, 12, 13, 14, 15, 16, 17, 18, 19, 20, 21, 22, 23, 24, 25, 26, 27, 28, 29, 30, 31, 32, 33, 34, 35, 36, 37, 38, 39, 40, 41, 42, 43, 44, 45, 46, 47, 48, 49, 50, 51, 52, 53, 54, 55, 56, 2, 57, 58, 59, 60, 61, 62, 63, 64, 65, 66, 67, 68, 69, 70, 71, 72, 73, 74, 75, 76, 77, 78, 79, 80, 81, 82, 83, 84, 85, 86, 87, 88, 89, 90, 91, 92, 93, 94, 95, 96, 97, 98, 99, 100, 101, 102, 103, 104, 105, 106, 107, 108, 109, 110, 111, 112, 113, 114, 115, 116, 117, 118, 119, 120, 121, 122, 123, 124, 125, 126, 127, 128, 129, 130, 131, 132, 133, 134, 135, 136, 137, 601, 602, 603, 604, 605, 606, 607, 583, 584, 585, 586, 587, 608, 609, 610, 611, 612, 613, 614, 615] rfl rfl
set_option maxRecDepth 200000 in
theorem gL_law_X5_init : GoodIn wsL_law (wsX5_init) := ggL_law_X5_init
set_option maxRecDepth 200000 in
theorem ggL_law_X6_init : GoodIn wsL_law wsX6_init := goodIn_r _ [140, 141, 10, 11, 142, 31, 143, 144, 145, 35, 146, 147, 148, 149, 150, 151, 152, 153, 154, 5, 155, 156, 157, 158, 159, 160, 161, 162, 163, 164, 165, 588, 589, 590, 591, 592, 593, 594, 595, 596, 597, 598, 599, 600] rfl rfl
set_option maxRecDepth 200000 in
theorem gL_law_X6_init : GoodIn wsL_law (wsX6_init) := ggL_law_X6_init
set_option maxRecDepth 200000 in
theorem ggL_law_X5_posts : GoodIn wsL_law wsX5_posts := goodIn_r _ [169, 15, 54, 55, 56, 2, 57, 23, 58, 59, 60, 61, 14, 62, 63, 64, 65, 66, 67, 22, 68, 69, 70, 71, 72, 73, 19, 74, 75, 76, 18, 77, 42, 78, 44, 43, 79, 80, 81, 82, 83, 84, 85, 86, 87, 88, 89, 90, 91, 92, 93, 94, 32, 33, 95, 96, 97, 98, 99, 100, 101, 102, 103, 104, 105, 106, 107, 108, 109, 110, 111, 112, 49, 48, 113, 114, 115, 116, 117, 118, 119, 120, 121, 10, 11, 31, 122, 123, 124, 125, 126, 127, 128, 129, 130, 131, 132, 133, 134, 135, 136, 137, 583, 584, 585, 586, 587, 601, 602, 603, 604, 605, 606, 607, 611, 612, 608, 609, 610, 615] rfl rfl
set_option maxRecDepth 200000 in
theorem gL_law_X5_posts : GoodIn wsL_law (wsV RL 13 RX5 yX5_posts wsX5_posts) := goodIn_app (goodIn_r _ [166, 167, 168, 2] rfl rfl) ggL_law_X5_posts
set_option maxRecDepth 200000 in
theorem ggL_law_X6_posts : GoodIn wsL_law wsX6_posts := goodIn_r _ [173, 174, 175, 176, 142, 157, 162, 177, 178, 179, 5, 180, 152, 153, 154, 155, 148, 156, 147, 143, 144, 145, 146, 158, 159, 160, 161, 150, 163, 164, 165, 588, 589, 590, 591, 592, 593, 594, 595, 596, 597, 598, 599, 600] rfl rfl
set_option maxRecDepth 200000 in
theorem gL_law_X6_posts : GoodIn wsL_law (wsV RL 17 RX6 yX6_posts wsX6_posts) := goodIn_app (goodIn_r _ [170, 171, 172, 5] rfl rfl) ggL_law_X6_posts
set_option maxRecDepth 200000 in
theorem ggL_law_X5_line : GoodIn wsL_law wsX5_line := goodIn_r _ [184, 15, 19, 23, 185, 186, 187, 14, 188, 189, 190, 191, 192, 63, 193, 194, 2, 195, 196, 197, 198, 18, 199, 200, 201, 202, 203, 43, 87, 88, 89, 90, 78, 44, 83, 84, 85, 86, 91, 92, 93, 94, 32, 33, 95, 96, 97, 98, 99, 100, 101, 102, 103, 104, 105, 106, 131, 132, 133, 134, 135, 136, 137, 204, 205, 206, 207, 116, 117, 22, 118, 69, 208, 209, 210, 211, 64, 34, 36, 37, 70, 71, 72, 73, 74, 75, 76, 77, 42, 79, 80, 81, 82, 107, 108, 109, 110, 111, 112, 49, 48, 113, 114, 115, 119, 120, 121, 10, 11, 31, 122, 123, 124, 125, 126, 127, 128, 129, 130, 583, 584, 585, 586, 587, 601, 602, 603, 604, 605, 606, 607, 608, 609, 610, 611, 612, 615] rfl rfl
set_option maxRecDepth 200000 in
theorem gL_law_X5_line : GoodIn wsL_law (wsV RL 18 RX5 yX5_line wsX5_line) := goodIn_app (goodIn_r _ [181, 182, 183, 2] rfl rfl) ggL_law_X5_line
set_option maxRecDepth 200000 in
theorem ggL_law_X6_line : GoodIn wsL_law wsX6_line := goodIn_r _ [215, 174, 216, 217, 157, 162, 143, 144, 145, 146, 147, 218, 219, 220, 5, 221, 142, 178, 179, 180, 152, 153, 154, 155, 148, 156, 222, 223, 224, 225, 163, 164, 165, 226, 227, 228, 229, 158, 159, 160, 161, 150, 588, 589, 590, 591, 592, 593, 594, 595, 596, 597, 598, 599, 600] rfl rfl
set_option maxRecDepth 200000 in
theorem gL_law_X6_line : GoodIn wsL_law (wsV RL 22 RX6 yX6_line wsX6_line) := goodIn_app (goodIn_r _ [212, 213, 214, 5] rfl rfl) ggL_law_X6_line
set_option maxRecDepth 200000 in
theorem ggL_law_X5_price : GoodIn wsL_law wsX5_price := goodIn_r _ [233, 15, 23, 234, 235, 236, 14, 237, 64, 193, 194, 2, 195, 238, 239, 240, 241, 19, 196, 197, 198, 18, 199, 200, 201, 202, 203, 43, 87, 88, 89, 90, 78, 44, 83, 84, 85, 86, 91, 92, 93, 94, 32, 33, 95, 96, 97, 98, 99, 100, 101, 102, 103, 104, 105, 106, 131, 132, 133, 134, 135, 136, 137, 204, 205, 206, 207, 116, 117, 22, 118, 69, 70, 71, 72, 73, 74, 75, 76, 77, 42, 79, 80, 81, 82, 107, 108, 109, 110, 111, 112, 49, 48, 113, 114, 115, 119, 120, 121, 10, 11, 31, 122, 123, 124, 125, 126, 127, 128, 129, 130, 583, 584, 585, 586, 587, 601, 602, 603, 604, 605, 606, 607, 608, 609, 610, 611, 612, 615] rfl rfl
set_option maxRecDepth 200000 in
theorem gL_law_X5_price : GoodIn wsL_law (wsV RL 23 RX5 yX5_price wsX5_price) := goodIn_app (goodIn_r _ [230, 231, 232, 2] rfl rfl) ggL_law_X5_price
set_option maxRecDepth 200000 in
theorem ggL_law_X6_price : GoodIn wsL_law wsX6_price := goodIn_r _ [245, 174, 146, 216, 217, 145, 162, 246, 247, 248, 5, 249, 157, 178, 179, 180, 152, 153, 154, 155, 148, 156, 147, 143, 144, 142, 226, 227, 228, 229, 158, 159, 160, 161, 150, 163, 164, 165, 588, 589, 590, 591, 592, 593, 594, 595, 596, 597, 598, 599, 600] rfl rfl
set_option maxRecDepth 200000 in
theorem gL_law_X6_price : GoodIn wsL_law (wsV RL 27 RX6 yX6_price wsX6_price) := goodIn_app (goodIn_r _ [242, 243, 244, 5] rfl rfl) ggL_law_X6_price
set_option maxRecDepth 200000 in
theorem ggL_law_X5_cut : GoodIn wsL_law wsX5_cut := goodIn_r _ [253, 15, 23, 234, 235, 236, 14, 237, 64, 207, 116, 117, 22, 118, 69, 70, 71, 72, 2, 73, 19, 74, 75, 76, 18, 77, 42, 78, 44, 43, 79, 80, 81, 82, 83, 84, 85, 86, 87, 88, 89, 90, 91, 92, 93, 94, 32, 33, 95, 96, 97, 98, 99, 100, 101, 102, 103, 104, 105, 106, 107, 108, 109, 110, 111, 112, 49, 48, 113, 114, 115, 119, 120, 121, 10, 11, 31, 122, 123, 124, 125, 126, 127, 128, 129, 130, 131, 132, 133, 134, 135, 136, 137, 254, 255, 256, 257, 37, 583, 584, 585, 586, 587, 601, 602, 603, 604, 605, 606, 607, 611, 612, 608, 609, 610, 615] rfl rfl
set_option maxRecDepth 200000 in
theorem gL_law_X5_cut : GoodIn wsL_law (wsV RL 28 RX5 yX5_cut wsX5_cut) := goodIn_app (goodIn_r _ [250, 251, 252, 2] rfl rfl) ggL_law_X5_cut
set_option maxRecDepth 200000 in
theorem ggL_law_X6_cut : GoodIn wsL_law wsX6_cut := goodIn_r _ [261, 174, 147, 162, 246, 247, 248, 5, 249, 157, 178, 179, 180, 226, 227, 228, 229, 152, 153, 154, 155, 148, 156, 143, 144, 145, 146, 142, 158, 159, 160, 161, 150, 163, 164, 165, 262, 263, 264, 265, 588, 589, 590, 591, 592, 593, 594, 595, 596, 597, 598, 599, 600] rfl rfl
set_option maxRecDepth 200000 in
theorem gL_law_X6_cut : GoodIn wsL_law (wsV RL 31 RX6 yX6_cut wsX6_cut) := goodIn_app (goodIn_r _ [258, 259, 260, 5] rfl rfl) ggL_law_X6_cut
set_option maxRecDepth 200000 in
theorem ggL_law_X5_back : GoodIn wsL_law wsX5_back := goodIn_r _ [269, 15, 23, 234, 235, 236, 14, 237, 64, 238, 239, 240, 2, 241, 19, 196, 197, 198, 18, 199, 200, 201, 202, 203, 43, 87, 88, 89, 90, 78, 44, 83, 84, 85, 86, 91, 92, 93, 94, 32, 33, 95, 96, 97, 98, 99, 100, 101, 102, 103, 104, 105, 106, 131, 132, 133, 134, 135, 136, 137, 204, 205, 206, 207, 116, 117, 22, 118, 69, 70, 71, 72, 73, 74, 75, 76, 77, 42, 79, 80, 81, 82, 107, 108, 109, 110, 111, 112, 49, 48, 113, 114, 115, 119, 120, 121, 10, 11, 31, 122, 123, 124, 125, 126, 127, 128, 129, 130, 254, 255, 256, 257, 37, 583, 584, 585, 586, 587, 601, 602, 603, 604, 605, 606, 607, 608, 609, 610, 611, 612, 615] rfl rfl
set_option maxRecDepth 200000 in
theorem gL_law_X5_back : GoodIn wsL_law (wsV RL 32 RX5 yX5_back wsX5_back) := goodIn_app (goodIn_r _ [266, 267, 268, 2] rfl rfl) ggL_law_X5_back
set_option maxRecDepth 200000 in
theorem ggL_law_X6_back : GoodIn wsL_law wsX6_back := goodIn_r _ [273, 174, 147, 162, 246, 247, 248, 5, 249, 157, 178, 179, 180, 152, 153, 154, 155, 148, 156, 143, 144, 145, 146, 142, 226, 227, 228, 229, 158, 159, 160, 161, 150, 163, 164, 165, 262, 263, 264, 265, 588, 589, 590, 591, 592, 593, 594, 595, 596, 597, 598, 599, 600] rfl rfl
set_option maxRecDepth 200000 in
theorem gL_law_X6_back : GoodIn wsL_law (wsV RL 35 RX6 yX6_back wsX6_back) := goodIn_app (goodIn_r _ [270, 271, 272, 5] rfl rfl) ggL_law_X6_back
set_option maxRecDepth 200000 in
theorem ggL_law_X5_told : GoodIn wsL_law wsX5_told := goodIn_r _ [277, 15, 19, 234, 235, 236, 14, 237, 64, 278, 279, 2, 280, 281, 282, 283, 18, 284, 44, 285, 286, 287, 288, 289, 290, 291, 292, 293, 294, 295, 296, 42, 78, 107, 108, 297, 128, 129, 130, 131, 132, 133, 134, 135, 136, 137, 583, 584, 585, 586, 587, 601, 602, 603, 604, 605, 606, 607, 608, 609, 610] rfl rfl
set_option maxRecDepth 200000 in
theorem gL_law_X5_told : GoodIn wsL_law (wsV RL 36 RX5 yX5_told wsX5_told) := goodIn_app (goodIn_r _ [274, 275, 276, 2] rfl rfl) ggL_law_X5_told
set_option maxRecDepth 200000 in
theorem ggL_law_X6_told : GoodIn wsL_law wsX6_told := goodIn_r _ [301, 174, 143, 144, 145, 146, 147, 246, 247, 248, 5, 249, 157, 178, 179, 180, 152, 153, 154, 155, 148, 156, 142, 302, 303, 304, 305, 222, 223, 224, 225, 163, 164, 165, 588, 589, 590, 591, 592, 593, 594, 595, 596, 597, 598, 599, 600] rfl rfl
set_option maxRecDepth 200000 in
theorem gL_law_X6_told : GoodIn wsL_law (wsV RL 39 RX6 yX6_told wsX6_told) := goodIn_app (goodIn_r _ [298, 299, 300, 5] rfl rfl) ggL_law_X6_told
set_option maxRecDepth 200000 in
theorem ggL_law_X5_far : GoodIn wsL_law wsX5_far := goodIn_r _ [309, 15, 19, 185, 186, 187, 14, 188, 189, 190, 191, 192, 63, 310, 128, 129, 18, 130, 42, 107, 2, 108, 131, 132, 133, 78, 134, 135, 136, 137, 583, 584, 585, 586, 587, 601, 602, 603, 604, 605, 606, 607, 608, 609, 610] rfl rfl
set_option maxRecDepth 200000 in
theorem gL_law_X5_far : GoodIn wsL_law (wsV RL 40 RX5 yX5_far wsX5_far) := goodIn_app (goodIn_r _ [306, 307, 308, 2] rfl rfl) ggL_law_X5_far
set_option maxRecDepth 200000 in
theorem ggL_law_X6_far : GoodIn wsL_law wsX6_far := goodIn_r _ [314, 174, 218, 219, 220, 5, 221, 142, 178, 179, 180, 152, 153, 154, 155, 148, 156, 157, 147, 143, 144, 145, 146, 222, 223, 224, 225, 163, 164, 165, 588, 589, 590, 591, 592, 593, 594, 595, 596, 597, 598, 599, 600] rfl rfl
set_option maxRecDepth 200000 in
theorem gL_law_X6_far : GoodIn wsL_law (wsV RL 43 RX6 yX6_far wsX6_far) := goodIn_app (goodIn_r _ [311, 312, 313, 5] rfl rfl) ggL_law_X6_far
set_option maxRecDepth 200000 in
theorem ggL_law_X5_steps : GoodIn wsL_law wsX5_steps := goodIn_r _ [318, 15, 19, 185, 186, 187, 14, 188, 189, 190, 191, 192, 63, 319, 320, 321, 18, 322, 42, 78, 107, 2, 108, 323, 324, 136, 325, 583, 584, 585, 586, 587, 601, 602, 603, 604, 605, 606, 607, 608, 609, 610] rfl rfl
set_option maxRecDepth 200000 in
theorem gL_law_X5_steps : GoodIn wsL_law (wsV RL 44 RX5 yX5_steps wsX5_steps) := goodIn_app (goodIn_r _ [315, 316, 317, 2] rfl rfl) ggL_law_X5_steps
set_option maxRecDepth 200000 in
theorem ggL_law_X6_steps : GoodIn wsL_law wsX6_steps := goodIn_r _ [329, 174, 148, 156, 218, 219, 220, 5, 221, 142, 178, 179, 180, 152, 153, 154, 155, 157, 147, 143, 144, 145, 146, 163, 164, 165, 588, 589, 590, 591, 592, 593, 594, 595, 596, 597, 598, 599, 600] rfl rfl
set_option maxRecDepth 200000 in
theorem gL_law_X6_steps : GoodIn wsL_law (wsV RL 47 RX6 yX6_steps wsX6_steps) := goodIn_app (goodIn_r _ [326, 327, 328, 5] rfl rfl) ggL_law_X6_steps
set_option maxRecDepth 200000 in
theorem ggL_law_X5_way : GoodIn wsL_law wsX5_way := goodIn_r _ [333, 15, 19, 185, 186, 187, 14, 188, 189, 190, 191, 192, 63, 334, 335, 336, 18, 337, 44, 338, 320, 321, 322, 42, 78, 107, 2, 108, 323, 324, 136, 325, 339, 340, 341, 342, 343, 293, 294, 295, 296, 344, 345, 346, 347, 37, 32, 33, 36, 348, 235, 236, 237, 64, 99, 100, 101, 102, 583, 584, 585, 586, 587, 601, 602, 603, 604, 605, 606, 607, 608, 609, 610] rfl rfl
set_option maxRecDepth 200000 in
theorem gL_law_X5_way : GoodIn wsL_law (wsV RL 48 RX5 yX5_way wsX5_way) := goodIn_app (goodIn_r _ [330, 331, 332, 2] rfl rfl) ggL_law_X5_way
set_option maxRecDepth 200000 in
theorem ggL_law_X6_way : GoodIn wsL_law wsX6_way := goodIn_r _ [352, 174, 148, 156, 218, 219, 220, 5, 221, 142, 178, 179, 180, 152, 153, 154, 155, 157, 147, 143, 144, 145, 146, 163, 164, 165, 353, 354, 355, 356, 357, 358, 359, 360, 588, 589, 590, 591, 592, 593, 594, 595, 596, 597, 598, 599, 600] rfl rfl
set_option maxRecDepth 200000 in
theorem gL_law_X6_way : GoodIn wsL_law (wsV RL 52 RX6 yX6_way wsX6_way) := goodIn_app (goodIn_r _ [349, 350, 351, 5] rfl rfl) ggL_law_X6_way
set_option maxRecDepth 200000 in
theorem ggL_law_X5_without : GoodIn wsL_law wsX5_without := goodIn_r _ [364, 15, 19, 185, 186, 187, 14, 188, 189, 190, 191, 192, 63, 234, 235, 236, 237, 64, 365, 201, 202, 18, 203, 43, 87, 88, 89, 90, 78, 44, 83, 84, 85, 86, 91, 92, 93, 94, 32, 33, 95, 96, 97, 98, 99, 100, 101, 102, 103, 104, 105, 106, 131, 132, 133, 134, 135, 136, 137, 583, 584, 585, 586, 587, 601, 602, 603, 604, 605, 606, 607, 608, 609, 610] rfl rfl
set_option maxRecDepth 200000 in
theorem gL_law_X5_without : GoodIn wsL_law (wsV RL 53 RX5 yX5_without wsX5_without) := goodIn_app (goodIn_r _ [361, 362, 363, 2] rfl rfl) ggL_law_X5_without
set_option maxRecDepth 200000 in
theorem ggL_law_X6_without : GoodIn wsL_law wsX6_without := goodIn_r _ [369, 174, 218, 219, 220, 5, 221, 142, 178, 179, 180, 246, 247, 248, 249, 157, 152, 153, 154, 155, 148, 156, 147, 143, 144, 145, 146, 222, 223, 224, 225, 163, 164, 165, 588, 589, 590, 591, 592, 593, 594, 595, 596, 597, 598, 599, 600] rfl rfl
set_option maxRecDepth 200000 in
theorem gL_law_X6_without : GoodIn wsL_law (wsV RL 56 RX6 yX6_without wsX6_without) := goodIn_app (goodIn_r _ [366, 367, 368, 5] rfl rfl) ggL_law_X6_without
set_option maxRecDepth 200000 in
theorem ggL_law_X5_vital : GoodIn wsL_law wsX5_vital := goodIn_r _ [373, 15, 19, 185, 186, 187, 14, 188, 189, 190, 191, 192, 63, 374, 375, 376, 18, 377, 378, 379, 380, 381, 338, 320, 321, 322, 42, 78, 107, 2, 108, 323, 324, 136, 325, 382, 335, 336, 337, 44, 339, 340, 341, 342, 343, 293, 294, 295, 296, 344, 345, 346, 347, 37, 32, 33, 36, 348, 235, 236, 237, 64, 99, 100, 101, 102, 200, 201, 202, 203, 43, 87, 88, 89, 90, 83, 84, 85, 86, 91, 92, 93, 94, 95, 96, 97, 98, 103, 104, 105, 106, 131, 132, 133, 134, 135, 137, 297, 128, 129, 130, 583, 584, 585, 586, 587, 601, 602, 603, 604, 605, 606, 607, 608, 609, 610] rfl rfl
set_option maxRecDepth 200000 in
theorem gL_law_X5_vital : GoodIn wsL_law (wsV RL 57 RX5 yX5_vital wsX5_vital) := goodIn_app (goodIn_r _ [370, 371, 372, 2] rfl rfl) ggL_law_X5_vital
set_option maxRecDepth 200000 in
theorem ggL_law_X6_vital : GoodIn wsL_law wsX6_vital := goodIn_r _ [386, 174, 157, 218, 219, 220, 5, 221, 142, 178, 179, 180, 152, 153, 154, 155, 148, 156, 147, 143, 144, 145, 146, 222, 223, 224, 225, 163, 164, 165, 588, 589, 590, 591, 592, 593, 594, 595, 596, 597, 598, 599, 600] rfl rfl
set_option maxRecDepth 200000 in
theorem gL_law_X6_vital : GoodIn wsL_law (wsV RL 60 RX6 yX6_vital wsX6_vital) := goodIn_app (goodIn_r _ [383, 384, 385, 5] rfl rfl) ggL_law_X6_vital
set_option maxRecDepth 200000 in
theorem ggL_law_X5_about : GoodIn wsL_law wsX5_about := goodIn_r _ [390, 15, 19, 185, 186, 187, 14, 188, 189, 190, 191, 192, 63, 391, 365, 201, 202, 18, 203, 43, 87, 88, 89, 90, 78, 44, 83, 84, 85, 86, 91, 92, 93, 94, 32, 33, 95, 96, 97, 98, 99, 100, 101, 102, 103, 104, 105, 106, 131, 132, 133, 134, 135, 136, 137, 583, 584, 585, 586, 587, 601, 602, 603, 604, 605, 606, 607, 608, 609, 610] rfl rfl
set_option maxRecDepth 200000 in
theorem gL_law_X5_about : GoodIn wsL_law (wsV RL 61 RX5 yX5_about wsX5_about) := goodIn_app (goodIn_r _ [387, 388, 389, 2] rfl rfl) ggL_law_X5_about
set_option maxRecDepth 200000 in
theorem ggL_law_X6_about : GoodIn wsL_law wsX6_about := goodIn_r _ [395, 174, 218, 219, 220, 5, 221, 142, 178, 179, 180, 152, 153, 154, 155, 148, 156, 157, 147, 143, 144, 145, 146, 222, 223, 224, 225, 163, 164, 165, 588, 589, 590, 591, 592, 593, 594, 595, 596, 597, 598, 599, 600] rfl rfl
set_option maxRecDepth 200000 in
theorem gL_law_X6_about : GoodIn wsL_law (wsV RL 64 RX6 yX6_about wsX6_about) := goodIn_app (goodIn_r _ [392, 393, 394, 5] rfl rfl) ggL_law_X6_about
set_option maxRecDepth 200000 in
theorem ggL_law_X5_ring : GoodIn wsL_law wsX5_ring := goodIn_r _ [399, 19, 400, 401, 402, 18, 403, 44, 404, 405, 406, 407, 285, 286, 287, 288, 297, 128, 129, 130, 42, 107, 2, 108, 131, 132, 133, 78, 134, 135, 136, 137, 583, 584, 585, 586, 587, 608, 609, 610, 601, 602, 603, 604, 605, 606, 607] rfl rfl
set_option maxRecDepth 200000 in
theorem gL_law_X5_ring : GoodIn wsL_law (wsV RL 65 RX5 yX5_ring wsX5_ring) := goodIn_app (goodIn_r _ [396, 397, 398, 2] rfl rfl) ggL_law_X5_ring
set_option maxRecDepth 200000 in
theorem ggL_law_X6_ring : GoodIn wsL_law wsX6_ring := goodIn_r _ [411, 174, 157, 146, 144, 143, 147, 145, 152, 153, 154, 5, 155, 148, 156, 142, 222, 223, 224, 225, 163, 164, 165, 588, 589, 590, 591, 592, 593, 594, 595, 596, 597, 598, 599, 600] rfl rfl
set_option maxRecDepth 200000 in
theorem gL_law_X6_ring : GoodIn wsL_law (wsV RL 69 RX6 yX6_ring wsX6_ring) := goodIn_app (goodIn_r _ [408, 409, 410, 5] rfl rfl) ggL_law_X6_ring
set_option maxRecDepth 200000 in
theorem ggL_law_X5_height : GoodIn wsL_law wsX5_height := goodIn_r _ [415, 15, 19, 391, 190, 191, 14, 192, 63, 416, 290, 291, 18, 292, 44, 285, 286, 287, 288, 293, 294, 295, 296, 42, 78, 107, 2, 108, 297, 128, 129, 130, 131, 132, 133, 134, 135, 136, 137, 583, 584, 585, 586, 587, 601, 602, 603, 604, 605, 606, 607, 608, 609, 610] rfl rfl
set_option maxRecDepth 200000 in
theorem gL_law_X5_height : GoodIn wsL_law (wsV RL 70 RX5 yX5_height wsX5_height) := goodIn_app (goodIn_r _ [412, 413, 414, 2] rfl rfl) ggL_law_X5_height
set_option maxRecDepth 200000 in
theorem ggL_law_X6_height : GoodIn wsL_law wsX6_height := goodIn_r _ [420, 174, 218, 219, 220, 5, 221, 142, 178, 179, 180, 152, 153, 154, 155, 148, 156, 157, 147, 143, 144, 145, 146, 302, 303, 304, 305, 222, 223, 224, 225, 163, 164, 165, 588, 589, 590, 591, 592, 593, 594, 595, 596, 597, 598, 599, 600] rfl rfl
set_option maxRecDepth 200000 in
theorem gL_law_X6_height : GoodIn wsL_law (wsV RL 73 RX6 yX6_height wsX6_height) := goodIn_app (goodIn_r _ [417, 418, 419, 5] rfl rfl) ggL_law_X6_height
set_option maxRecDepth 200000 in
theorem ggL_law_X5_acts : GoodIn wsL_law wsX5_acts := goodIn_r _ [424, 23, 425, 426, 427, 22, 428, 69, 583, 584, 585, 586, 587, 611, 612] rfl rfl
set_option maxRecDepth 200000 in
theorem gL_law_X5_acts : GoodIn wsL_law (wsV RL 74 RX5 yX5_acts wsX5_acts) := goodIn_app (goodIn_r _ [421, 422, 423, 2] rfl rfl) ggL_law_X5_acts
set_option maxRecDepth 200000 in
theorem ggL_law_X6_acts : GoodIn wsL_law wsX6_acts := goodIn_r _ [432, 174, 162, 588, 589, 590, 591, 592, 593, 594, 595, 596, 597, 598, 599, 600] rfl rfl
set_option maxRecDepth 200000 in
theorem gL_law_X6_acts : GoodIn wsL_law (wsV RL 77 RX6 yX6_acts wsX6_acts) := goodIn_app (goodIn_r _ [429, 430, 431, 5] rfl rfl) ggL_law_X6_acts
set_option maxRecDepth 200000 in
theorem ggL_law_X5_moved : GoodIn wsL_law wsX5_moved := goodIn_r _ [436, 23, 437, 438, 439, 22, 440, 69, 441, 442, 443, 444, 445, 446, 447, 448, 449, 450, 451, 452, 49, 583, 584, 585, 586, 587, 611, 612, 615] rfl rfl
set_option maxRecDepth 200000 in
theorem gL_law_X5_moved : GoodIn wsL_law (wsV RL 78 RX5 yX5_moved wsX5_moved) := goodIn_app (goodIn_r _ [433, 434, 435, 2] rfl rfl) ggL_law_X5_moved
set_option maxRecDepth 200000 in
theorem ggL_law_X6_moved : GoodIn wsL_law wsX6_moved := goodIn_r _ [456, 174, 162, 178, 179, 5, 180, 457, 458, 459, 460, 142, 150, 588, 589, 590, 591, 592, 593, 594, 595, 596, 597, 598, 599, 600] rfl rfl
set_option maxRecDepth 200000 in
theorem gL_law_X6_moved : GoodIn wsL_law (wsV RL 81 RX6 yX6_moved wsX6_moved) := goodIn_app (goodIn_r _ [453, 454, 455, 5] rfl rfl) ggL_law_X6_moved
set_option maxRecDepth 200000 in
theorem ggL_law_X5_pair : GoodIn wsL_law wsX5_pair := goodIn_r _ [464, 23, 437, 438, 439, 22, 440, 69, 465, 466, 467, 468, 445, 446, 447, 448, 449, 450, 451, 452, 49, 583, 584, 585, 586, 587, 611, 612, 615] rfl rfl
set_option maxRecDepth 200000 in
theorem gL_law_X5_pair : GoodIn wsL_law (wsV RL 82 RX5 yX5_pair wsX5_pair) := goodIn_app (goodIn_r _ [461, 462, 463, 2] rfl rfl) ggL_law_X5_pair
set_option maxRecDepth 200000 in
theorem ggL_law_X6_pair : GoodIn wsL_law wsX6_pair := goodIn_r _ [472, 174, 162, 178, 179, 5, 180, 457, 458, 459, 460, 142, 150, 588, 589, 590, 591, 592, 593, 594, 595, 596, 597, 598, 599, 600] rfl rfl
set_option maxRecDepth 200000 in
theorem gL_law_X6_pair : GoodIn wsL_law (wsV RL 85 RX6 yX6_pair wsX6_pair) := goodIn_app (goodIn_r _ [469, 470, 471, 5] rfl rfl) ggL_law_X6_pair
set_option maxRecDepth 200000 in
theorem ggL_law_X5_then : GoodIn wsL_law wsX5_then := goodIn_r _ [476, 15, 23, 185, 186, 187, 14, 188, 189, 190, 191, 192, 63, 437, 438, 439, 22, 440, 69, 477, 107, 2, 108, 478, 450, 451, 452, 49, 583, 584, 585, 586, 587, 601, 602, 603, 604, 605, 606, 607, 611, 612, 615] rfl rfl
set_option maxRecDepth 200000 in
theorem gL_law_X5_then : GoodIn wsL_law (wsV RL 86 RX5 yX5_then wsX5_then) := goodIn_app (goodIn_r _ [473, 474, 475, 2] rfl rfl) ggL_law_X5_then
set_option maxRecDepth 200000 in
theorem ggL_law_X6_then : GoodIn wsL_law wsX6_then := goodIn_r _ [482, 174, 162, 150, 218, 219, 220, 5, 221, 142, 178, 179, 180, 588, 589, 590, 591, 592, 593, 594, 595, 596, 597, 598, 599, 600] rfl rfl
set_option maxRecDepth 200000 in
theorem gL_law_X6_then : GoodIn wsL_law (wsV RL 89 RX6 yX6_then wsX6_then) := goodIn_app (goodIn_r _ [479, 480, 481, 5] rfl rfl) ggL_law_X6_then
set_option maxRecDepth 200000 in
theorem ggL_law_X5_since : GoodIn wsL_law wsX5_since := goodIn_r _ [486, 15, 23, 185, 186, 187, 14, 188, 189, 190, 191, 192, 63, 437, 438, 439, 22, 440, 69, 477, 107, 2, 108, 487, 488, 489, 490, 449, 450, 451, 452, 49, 583, 584, 585, 586, 587, 601, 602, 603, 604, 605, 606, 607, 611, 612, 615] rfl rfl
set_option maxRecDepth 200000 in
theorem gL_law_X5_since : GoodIn wsL_law (wsV RL 90 RX5 yX5_since wsX5_since) := goodIn_app (goodIn_r _ [483, 484, 485, 2] rfl rfl) ggL_law_X5_since
set_option maxRecDepth 200000 in
theorem ggL_law_X6_since : GoodIn wsL_law wsX6_since := goodIn_r _ [494, 174, 162, 495, 496, 150, 218, 219, 220, 5, 221, 142, 178, 179, 180, 588, 589, 590, 591, 592, 593, 594, 595, 596, 597, 598, 599, 600] rfl rfl
set_option maxRecDepth 200000 in
theorem gL_law_X6_since : GoodIn wsL_law (wsV RL 94 RX6 yX6_since wsX6_since) := goodIn_app (goodIn_r _ [491, 492, 493, 5] rfl rfl) ggL_law_X6_since
set_option maxRecDepth 200000 in
theorem ggL_law_X5_marks : GoodIn wsL_law wsX5_marks := goodIn_r _ [500, 15, 58, 583, 584, 585, 586, 587, 601, 602, 603, 604, 605, 606, 607] rfl rfl
set_option maxRecDepth 200000 in
theorem gL_law_X5_marks : GoodIn wsL_law (wsV RL 95 RX5 yX5_marks wsX5_marks) := goodIn_app (goodIn_r _ [497, 498, 499, 2] rfl rfl) ggL_law_X5_marks
set_option maxRecDepth 200000 in
theorem ggL_law_X6_marks : GoodIn wsL_law wsX6_marks := goodIn_r _ [504, 174, 142, 177, 588, 589, 590, 591, 592, 593, 594, 595, 596, 597, 598, 599, 600] rfl rfl
set_option maxRecDepth 200000 in
theorem gL_law_X6_marks : GoodIn wsL_law (wsV RL 98 RX6 yX6_marks wsX6_marks) := goodIn_app (goodIn_r _ [501, 502, 503, 5] rfl rfl) ggL_law_X6_marks
set_option maxRecDepth 200000 in
theorem ggL_law_X5_near : GoodIn wsL_law wsX5_near := goodIn_r _ [508, 15, 19, 58, 185, 186, 187, 14, 188, 189, 190, 191, 192, 63, 509, 510, 511, 18, 512, 44, 285, 286, 287, 288, 293, 294, 295, 296, 42, 78, 107, 2, 108, 297, 128, 129, 130, 131, 132, 133, 134, 135, 136, 137, 583, 584, 585, 586, 587, 601, 602, 603, 604, 605, 606, 607, 608, 609, 610] rfl rfl
set_option maxRecDepth 200000 in
theorem gL_law_X5_near : GoodIn wsL_law (wsV RL 99 RX5 yX5_near wsX5_near) := goodIn_app (goodIn_r _ [505, 506, 507, 2] rfl rfl) ggL_law_X5_near
set_option maxRecDepth 200000 in
theorem ggL_law_X6_near : GoodIn wsL_law wsX6_near := goodIn_r _ [516, 174, 218, 219, 220, 5, 221, 142, 178, 179, 180, 152, 153, 154, 155, 148, 156, 157, 147, 143, 144, 145, 146, 517, 518, 519, 520, 177, 222, 223, 224, 225, 163, 164, 165, 588, 589, 590, 591, 592, 593, 594, 595, 596, 597, 598, 599, 600] rfl rfl
set_option maxRecDepth 200000 in
theorem gL_law_X6_near : GoodIn wsL_law (wsV RL 102 RX6 yX6_near wsX6_near) := goodIn_app (goodIn_r _ [513, 514, 515, 5] rfl rfl) ggL_law_X6_near
set_option maxRecDepth 200000 in
theorem ggL_law_X5_worst : GoodIn wsL_law wsX5_worst := goodIn_r _ [524, 15, 19, 58, 525, 526, 287, 527, 528, 294, 295, 18, 296, 42, 78, 107, 2, 108, 509, 510, 511, 512, 44, 285, 286, 288, 293, 297, 128, 129, 130, 131, 132, 133, 134, 135, 136, 137, 310, 583, 584, 585, 586, 587, 601, 602, 603, 604, 605, 606, 607, 608, 609, 610] rfl rfl
set_option maxRecDepth 200000 in
theorem gL_law_X5_worst : GoodIn wsL_law (wsV RL 103 RX5 yX5_worst wsX5_worst) := goodIn_app (goodIn_r _ [521, 522, 523, 2] rfl rfl) ggL_law_X5_worst
set_option maxRecDepth 200000 in
theorem ggL_law_X6_worst : GoodIn wsL_law wsX6_worst := goodIn_r _ [532, 174, 142, 152, 153, 154, 5, 155, 148, 156, 157, 147, 143, 144, 145, 146, 222, 223, 224, 225, 163, 164, 165, 517, 518, 519, 520, 177, 588, 589, 590, 591, 592, 593, 594, 595, 596, 597, 598, 599, 600] rfl rfl
set_option maxRecDepth 200000 in
theorem gL_law_X6_worst : GoodIn wsL_law (wsV RL 106 RX6 yX6_worst wsX6_worst) := goodIn_app (goodIn_r _ [529, 530, 531, 5] rfl rfl) ggL_law_X6_worst
set_option maxRecDepth 200000 in
theorem ggL_law_X5_hits : GoodIn wsL_law wsX5_hits := goodIn_r _ [536, 27, 19, 15, 537, 538, 539, 26, 540, 541, 53, 542, 320, 321, 18, 322, 42, 78, 107, 2, 108, 323, 324, 136, 325, 543, 544, 545, 546, 44, 338, 339, 340, 341, 342, 343, 190, 191, 14, 192, 63, 293, 294, 295, 296, 344, 345, 346, 347, 37, 32, 33, 36, 348, 235, 236, 237, 64, 99, 100, 101, 102, 547, 548, 549, 550, 551, 552, 553, 554, 555, 556, 557, 558, 559, 560, 561, 583, 584, 585, 586, 587, 601, 602, 603, 604, 605, 606, 607, 613, 614, 608, 609, 610] rfl rfl
set_option maxRecDepth 200000 in
theorem gL_law_X5_hits : GoodIn wsL_law (wsV RL 107 RX5 yX5_hits wsX5_hits) := goodIn_app (goodIn_r _ [533, 534, 535, 2] rfl rfl) ggL_law_X5_hits
set_option maxRecDepth 200000 in
theorem ggL_law_X6_hits : GoodIn wsL_law wsX6_hits := goodIn_r _ [565, 174, 566, 142, 148, 156, 151, 178, 179, 5, 180, 152, 153, 154, 155, 157, 147, 143, 144, 145, 146, 163, 164, 165, 353, 354, 355, 356, 357, 358, 359, 360, 567, 568, 569, 588, 589, 590, 591, 592, 593, 594, 595, 596, 597, 598, 599, 600] rfl rfl
set_option maxRecDepth 200000 in
theorem gL_law_X6_hits : GoodIn wsL_law (wsV RL 110 RX6 yX6_hits wsX6_hits) := goodIn_app (goodIn_r _ [562, 563, 564, 5] rfl rfl) ggL_law_X6_hits
set_option maxRecDepth 200000 in
theorem ggL_law_X5_count : GoodIn wsL_law wsX5_count := goodIn_r _ [573, 15, 19, 58, 254, 255, 256, 14, 257, 64, 37, 574, 575, 576, 18, 577, 44, 293, 294, 295, 296, 42, 78, 107, 2, 108, 578, 552, 553, 554, 555, 556, 557, 583, 584, 585, 586, 587, 601, 602, 603, 604, 605, 606, 607, 608, 609, 610] rfl rfl
set_option maxRecDepth 200000 in
theorem gL_law_X5_count : GoodIn wsL_law (wsV RL 111 RX5 yX5_count wsX5_count) := goodIn_app (goodIn_r _ [570, 571, 572, 2] rfl rfl) ggL_law_X5_count
set_option maxRecDepth 200000 in
theorem ggL_law_X6_count : GoodIn wsL_law wsX6_count := goodIn_r _ [582, 174, 142, 157, 177, 152, 153, 154, 5, 155, 148, 156, 147, 143, 144, 145, 146, 222, 223, 224, 225, 163, 164, 165, 262, 263, 264, 265, 567, 568, 569, 588, 589, 590, 591, 592, 593, 594, 595, 596, 597, 598, 599, 600] rfl rfl
set_option maxRecDepth 200000 in
theorem gL_law_X6_count : GoodIn wsL_law (wsV RL 114 RX6 yX6_count wsX6_count) := goodIn_app (goodIn_r _ [579, 580, 581, 5] rfl rfl) ggL_law_X6_count
