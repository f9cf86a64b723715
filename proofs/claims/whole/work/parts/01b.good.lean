set_option maxRecDepth 200000 in
theorem ggX0_askFor_X3_length : GoodIn wsX0_askFor wsX3_length := goodIn_r _ [7, 8, 9, 10, 11, 12, 13, 14, 15, 16, 56, 57, 58] rfl rfl
set_option maxRecDepth 200000 in
theorem gX0_askFor_X3_length : GoodIn wsX0_askFor (wsV RX0 19 RX3 yX3_length wsX3_length) := goodIn_app (goodIn_r _ [3, 4, 5, 6] rfl rfl) ggX0_askFor_X3_length
set_option maxRecDepth 200000 in
theorem ggX0_askFor_X3_between : GoodIn wsX0_askFor wsX3_between := goodIn_r _ [20, 21, 22, 4, 5, 6, 7, 8, 9, 10, 11, 12, 13, 14, 15, 16, 23, 24, 25, 26, 27, 28, 29, 30, 31, 32, 33, 34, 35, 36, 37, 38, 39, 40, 41, 42, 43, 44, 45, 46, 47, 48, 49, 50, 51, 52, 53, 56, 57, 58, 59, 60, 61, 62, 63, 64, 65] rfl rfl
set_option maxRecDepth 200000 in
theorem gX0_askFor_X3_between : GoodIn wsX0_askFor (wsV RX0 25 RX3 yX3_between wsX3_between) := goodIn_app (goodIn_r _ [17, 18, 19, 6] rfl rfl) ggX0_askFor_X3_between
set_option maxRecDepth 200000 in
theorem ggX0_fewest_J6_bitCount_0f7a4 : GoodIn wsX0_fewest wsJ6_bitCount_0f7a4 := goodIn_r _ [4, 5, 6, 7] rfl rfl
set_option maxRecDepth 200000 in
theorem gX0_fewest_J6_bitCount_0f7a4 : GoodIn wsX0_fewest (va_wsS RX0 28 yJ6_bitCount_0f7a4 wsJ6_bitCount_0f7a4) := goodIn_app (goodIn_r _ [1, 2, 3] rfl rfl) ggX0_fewest_J6_bitCount_0f7a4
set_option maxRecDepth 200000 in
theorem ggX0_fewest_X0_meetsAll : GoodIn wsX0_fewest wsX0_meetsAll := goodIn_r _ [12, 13, 14, 15, 16] rfl rfl
set_option maxRecDepth 200000 in
theorem gX0_fewest_X0_meetsAll : GoodIn wsX0_fewest (wsV RX0 34 RX0 yX0_meetsAll wsX0_meetsAll) := goodIn_app (goodIn_r _ [8, 9, 10, 11] rfl rfl) ggX0_fewest_X0_meetsAll
set_option maxRecDepth 200000 in
theorem ggX1_hasPosts_X1_hasPost : GoodIn wsX1_hasPosts wsX1_hasPost := goodIn_r _ [5, 6, 7, 8, 9, 10, 11, 12, 13] rfl rfl
set_option maxRecDepth 200000 in
theorem gX1_hasPosts_X1_hasPost : GoodIn wsX1_hasPosts (wsV RX1 35 RX1 yX1_hasPost wsX1_hasPost) := goodIn_app (goodIn_r _ [1, 2, 3, 4] rfl rfl) ggX1_hasPosts_X1_hasPost
set_option maxRecDepth 200000 in
theorem ggX1_target_X1_hasLine : GoodIn wsX1_target wsX1_hasLine := goodIn_r _ [9, 10, 11, 12, 13, 14, 15, 16, 17] rfl rfl
set_option maxRecDepth 200000 in
theorem gX1_target_X1_hasLine : GoodIn wsX1_target (wsV RX1 39 RX1 yX1_hasLine wsX1_hasLine) := goodIn_app (goodIn_r _ [5, 6, 7, 8] rfl rfl) ggX1_target_X1_hasLine
set_option maxRecDepth 200000 in
theorem ggX2_keep_X2_isFull : GoodIn wsX2_keep wsX2_isFull := goodIn_r _ [7, 2, 50, 51] rfl rfl
set_option maxRecDepth 200000 in
theorem gX2_keep_X2_isFull : GoodIn wsX2_keep (wsV RX2 19 RX2 yX2_isFull wsX2_isFull) := goodIn_app (goodIn_r _ [3, 4, 5, 6] rfl rfl) ggX2_keep_X2_isFull
set_option maxRecDepth 200000 in
theorem ggX2_keep_X2_makeRoom : GoodIn wsX2_keep wsX2_makeRoom := goodIn_r _ [11, 2, 1, 12, 13, 14, 15, 16, 17, 18, 19, 20, 21, 22, 23, 24, 25, 26, 27, 28, 29, 30, 31, 32, 50, 51] rfl rfl
set_option maxRecDepth 200000 in
theorem gX2_keep_X2_makeRoom : GoodIn wsX2_keep (wsV RX2 23 RX2 yX2_makeRoom wsX2_makeRoom) := goodIn_app (goodIn_r _ [8, 9, 10, 6] rfl rfl) ggX2_keep_X2_makeRoom
set_option maxRecDepth 200000 in
theorem ggX2_keep_X3_leastPrice : GoodIn wsX2_keep wsX3_leastPrice := goodIn_r _ [37, 38, 39, 40, 41, 42, 43, 36, 44, 45, 46, 47, 48, 49, 52, 53, 54] rfl rfl
set_option maxRecDepth 200000 in
theorem gX2_keep_X3_leastPrice : GoodIn wsX2_keep (wsV RX2 26 RX3 yX3_leastPrice wsX3_leastPrice) := goodIn_app (goodIn_r _ [33, 34, 35, 36] rfl rfl) ggX2_keep_X3_leastPrice
set_option maxRecDepth 200000 in
theorem ggX2_countMoved_X2_isMoved : GoodIn wsX2_countMoved wsX2_isMoved := goodIn_r _ [5, 6, 7, 8, 4, 9, 10, 11, 12] rfl rfl
set_option maxRecDepth 200000 in
theorem gX2_countMoved_X2_isMoved : GoodIn wsX2_countMoved (wsV RX2 32 RX2 yX2_isMoved wsX2_isMoved) := goodIn_app (goodIn_r _ [1, 2, 3, 4] rfl rfl) ggX2_countMoved_X2_isMoved
set_option maxRecDepth 200000 in
theorem ggX2_movedPair_X2_isMoved : GoodIn wsX2_movedPair wsX2_isMoved := goodIn_r _ [5, 6, 7, 8, 4, 9, 10, 11, 12] rfl rfl
set_option maxRecDepth 200000 in
theorem gX2_movedPair_X2_isMoved : GoodIn wsX2_movedPair (wsV RX2 32 RX2 yX2_isMoved wsX2_isMoved) := goodIn_app (goodIn_r _ [1, 2, 3, 4] rfl rfl) ggX2_movedPair_X2_isMoved
set_option maxRecDepth 200000 in
theorem ggX2_firstWithin_X2_leastAsOf : GoodIn wsX2_firstWithin wsX2_leastAsOf := goodIn_r _ [6, 7, 8, 9] rfl rfl
set_option maxRecDepth 200000 in
theorem gX2_firstWithin_X2_leastAsOf : GoodIn wsX2_firstWithin (wsV RX2 36 RX2 yX2_leastAsOf wsX2_leastAsOf) := goodIn_app (goodIn_r _ [2, 3, 4, 5] rfl rfl) ggX2_firstWithin_X2_leastAsOf
set_option maxRecDepth 200000 in
theorem ggX2_isMoved_X2_leastAsOf : GoodIn wsX2_isMoved wsX2_leastAsOf := goodIn_r _ [5, 6, 7, 8] rfl rfl
set_option maxRecDepth 200000 in
theorem gX2_isMoved_X2_leastAsOf : GoodIn wsX2_isMoved (wsV RX2 36 RX2 yX2_leastAsOf wsX2_leastAsOf) := goodIn_app (goodIn_r _ [1, 2, 3, 4] rfl rfl) ggX2_isMoved_X2_leastAsOf
set_option maxRecDepth 200000 in
theorem ggX2_makeRoom_J7_copyOf_59c91 : GoodIn wsX2_makeRoom wsJ7_copyOf_59c91 := goodIn_r _ [11, 12, 13, 14, 15, 16, 17, 18, 19, 5, 6, 7, 20, 21, 22, 23] rfl rfl
set_option maxRecDepth 200000 in
theorem gX2_makeRoom_J7_copyOf_59c91 : GoodIn wsX2_makeRoom (va_wsS RX2 45 yJ7_copyOf_59c91 wsJ7_copyOf_59c91) := goodIn_app (goodIn_r _ [8, 9, 10] rfl rfl) ggX2_makeRoom_J7_copyOf_59c91
set_option maxRecDepth 200000 in
theorem ggX3_measure_J7_fill_53178 : GoodIn wsX3_measure wsJ7_fill_53178 := goodIn_r _ [12] rfl rfl
set_option maxRecDepth 200000 in
theorem gX3_measure_J7_fill_53178 : GoodIn wsX3_measure (va_wsS RX3 23 yJ7_fill_53178 wsJ7_fill_53178) := goodIn_app (goodIn_r _ [9, 10, 11] rfl rfl) ggX3_measure_J7_fill_53178
set_option maxRecDepth 200000 in
theorem ggX3_measure_X3_spread : GoodIn wsX3_measure wsX3_spread := goodIn_r _ [17, 4, 2, 3, 9, 10, 11, 12, 18, 19, 20, 21, 22, 23, 24, 25, 26, 27, 16, 28, 29, 30, 31, 32, 33, 34, 35, 36, 40, 41, 42, 43, 44, 45, 46, 47, 48, 49] rfl rfl
set_option maxRecDepth 200000 in
theorem gX3_measure_X3_spread : GoodIn wsX3_measure (wsV RX3 35 RX3 yX3_spread wsX3_spread) := goodIn_app (goodIn_r _ [13, 14, 15, 16] rfl rfl) ggX3_measure_X3_spread
set_option maxRecDepth 200000 in
theorem ggX3_measure_X4_pairOf : GoodIn wsX3_measure wsX4_pairOf := goodIn_r _ [39] rfl rfl
set_option maxRecDepth 200000 in
theorem gX3_measure_X4_pairOf_n39 : GoodIn wsX3_measure (wsX4_pairOf) := ggX3_measure_X4_pairOf
set_option maxRecDepth 200000 in
theorem ggX3_leads_X4_pairOf : GoodIn wsX3_leads wsX4_pairOf := goodIn_r _ [5] rfl rfl
set_option maxRecDepth 200000 in
theorem gX3_leads_X4_pairOf_n39 : GoodIn wsX3_leads (wsX4_pairOf) := ggX3_leads_X4_pairOf
set_option maxRecDepth 200000 in
theorem ggX3_leastPrice_X4_pairOf : GoodIn wsX3_leastPrice wsX4_pairOf := goodIn_r _ [4] rfl rfl
set_option maxRecDepth 200000 in
theorem gX3_leastPrice_X4_pairOf_n39 : GoodIn wsX3_leastPrice (wsX4_pairOf) := ggX3_leastPrice_X4_pairOf
set_option maxRecDepth 200000 in
theorem ggX3_leastPrice_X3_priceIn : GoodIn wsX3_leastPrice wsX3_priceIn := goodIn_r _ [8, 9, 10, 11, 12, 13] rfl rfl
set_option maxRecDepth 200000 in
theorem gX3_leastPrice_X3_priceIn : GoodIn wsX3_leastPrice (va_wsS RX3 49 yX3_priceIn wsX3_priceIn) := goodIn_app (goodIn_r _ [5, 6, 7] rfl rfl) ggX3_leastPrice_X3_priceIn
set_option maxRecDepth 200000 in
theorem ggX3_length_X4_pairOf : GoodIn wsX3_length wsX4_pairOf := goodIn_r _ [5] rfl rfl
set_option maxRecDepth 200000 in
theorem gX3_length_X4_pairOf_n39 : GoodIn wsX3_length (wsX4_pairOf) := ggX3_length_X4_pairOf
set_option maxRecDepth 200000 in
theorem ggX3_length_J9_floorMod_7cf53 : GoodIn wsX3_length wsJ9_floorMod_7cf53 := goodIn_r _ [9] rfl rfl
set_option maxRecDepth 200000 in
theorem gX3_length_J9_floorMod_7cf53 : GoodIn wsX3_length (va_wsS RX3 53 yJ9_floorMod_7cf53 wsJ9_floorMod_7cf53) := goodIn_app (goodIn_r _ [6, 7, 8] rfl rfl) ggX3_length_J9_floorMod_7cf53
set_option maxRecDepth 200000 in
theorem ggX3_lineAt_X3_length : GoodIn wsX3_lineAt wsX3_length := goodIn_r _ [6, 7, 8, 9, 10, 11, 12, 13, 14, 15, 47, 48, 49] rfl rfl
set_option maxRecDepth 200000 in
theorem gX3_lineAt_X3_length : GoodIn wsX3_lineAt (wsV RX3 58 RX3 yX3_length wsX3_length) := goodIn_app (goodIn_r _ [2, 3, 4, 5] rfl rfl) ggX3_lineAt_X3_length
set_option maxRecDepth 200000 in
theorem ggX3_lineAt_X3_lineToward : GoodIn wsX3_lineAt wsX3_lineToward := goodIn_r _ [19, 1, 7, 20, 21, 22, 23, 24, 25, 26, 27, 28, 5, 29, 8, 9, 10, 11, 30, 31, 32, 33, 34, 35, 36, 37, 38, 39, 40, 41, 42, 43, 44, 45, 46, 47, 48, 49, 50, 51, 52, 53, 54, 55, 56] rfl rfl
set_option maxRecDepth 200000 in
theorem gX3_lineAt_X3_lineToward : GoodIn wsX3_lineAt (wsV RX3 61 RX3 yX3_lineToward wsX3_lineToward) := goodIn_app (goodIn_r _ [16, 17, 18, 5] rfl rfl) ggX3_lineAt_X3_lineToward
set_option maxRecDepth 200000 in
theorem ggX3_lineAt_X1_target : GoodIn wsX3_lineAt wsX1_target := goodIn_r _ [33, 34, 35, 36, 37, 38, 39, 40, 23, 41, 42, 50, 51, 52, 53, 54, 55, 56] rfl rfl
set_option maxRecDepth 200000 in
theorem gX3_lineAt_X1_target : GoodIn wsX3_lineAt (wsV RX3 64 RX1 yX1_target wsX1_target) := goodIn_app (goodIn_r _ [30, 31, 32, 23] rfl rfl) ggX3_lineAt_X1_target
set_option maxRecDepth 200000 in
theorem ggX3_between_X3_length : GoodIn wsX3_between wsX3_length := goodIn_r _ [6, 7, 8, 9, 10, 11, 12, 13, 14, 15, 47, 48, 49] rfl rfl
set_option maxRecDepth 200000 in
theorem gX3_between_X3_length : GoodIn wsX3_between (wsV RX3 58 RX3 yX3_length wsX3_length) := goodIn_app (goodIn_r _ [2, 3, 4, 5] rfl rfl) ggX3_between_X3_length
set_option maxRecDepth 200000 in
theorem ggX3_between_X3_lineToward : GoodIn wsX3_between wsX3_lineToward := goodIn_r _ [19, 1, 7, 20, 21, 22, 23, 24, 25, 26, 27, 28, 5, 29, 8, 9, 10, 11, 30, 31, 32, 33, 34, 35, 36, 37, 38, 39, 40, 41, 42, 43, 44, 45, 46, 47, 48, 49, 50, 51, 52, 53, 54, 55, 56] rfl rfl
set_option maxRecDepth 200000 in
theorem gX3_between_X3_lineToward : GoodIn wsX3_between (wsV RX3 61 RX3 yX3_lineToward wsX3_lineToward) := goodIn_app (goodIn_r _ [16, 17, 18, 5] rfl rfl) ggX3_between_X3_lineToward
set_option maxRecDepth 200000 in
theorem ggX3_between_X1_target : GoodIn wsX3_between wsX1_target := goodIn_r _ [33, 34, 35, 36, 37, 38, 39, 40, 23, 41, 42, 50, 51, 52, 53, 54, 55, 56] rfl rfl
set_option maxRecDepth 200000 in
theorem gX3_between_X1_target : GoodIn wsX3_between (wsV RX3 64 RX1 yX1_target wsX1_target) := goodIn_app (goodIn_r _ [30, 31, 32, 23] rfl rfl) ggX3_between_X1_target
set_option maxRecDepth 200000 in
theorem ggX3_leastAvoiding_X3_spread : GoodIn wsX3_leastAvoiding wsX3_spread := goodIn_r _ [6, 1, 7, 8, 9, 10, 11, 12, 13, 14, 15, 16, 17, 18, 19, 20, 21, 22, 5, 23, 24, 25, 26, 27, 28, 29, 30, 31, 39, 40, 41, 42, 43, 44, 45, 46, 47, 48] rfl rfl
set_option maxRecDepth 200000 in
theorem gX3_leastAvoiding_X3_spread : GoodIn wsX3_leastAvoiding (wsV RX3 35 RX3 yX3_spread wsX3_spread) := goodIn_app (goodIn_r _ [2, 3, 4, 5] rfl rfl) ggX3_leastAvoiding_X3_spread
set_option maxRecDepth 200000 in
theorem ggX3_leastAvoiding_X3_priceIn : GoodIn wsX3_leastAvoiding wsX3_priceIn := goodIn_r _ [34, 7, 35, 36, 37, 38] rfl rfl
set_option maxRecDepth 200000 in
theorem gX3_leastAvoiding_X3_priceIn : GoodIn wsX3_leastAvoiding (va_wsS RX3 49 yX3_priceIn wsX3_priceIn) := goodIn_app (goodIn_r _ [32, 33, 5] rfl rfl) ggX3_leastAvoiding_X3_priceIn
set_option maxRecDepth 200000 in
theorem ggX3_isVital_X3_isOnWay : GoodIn wsX3_isVital wsX3_isOnWay := goodIn_r _ [5, 6, 7, 8, 4, 9, 10, 11, 12, 13, 14, 15, 16, 17, 18, 19, 20, 21, 22, 23, 24, 25, 26, 27, 28, 29, 30, 31, 32, 33, 34, 35, 36, 37, 38, 39, 40, 41, 42, 43, 44, 45, 46, 47, 48, 49, 50, 51, 52, 53, 54, 90, 91, 92, 93, 94, 95, 96, 97, 98, 99] rfl rfl
set_option maxRecDepth 200000 in
theorem gX3_isVital_X3_isOnWay : GoodIn wsX3_isVital (wsV RX3 67 RX3 yX3_isOnWay wsX3_isOnWay) := goodIn_app (goodIn_r _ [1, 2, 3, 4] rfl rfl) ggX3_isVital_X3_isOnWay
set_option maxRecDepth 200000 in
theorem ggX3_isVital_X3_leastAvoiding : GoodIn wsX3_isVital wsX3_leastAvoiding := goodIn_r _ [58, 59, 60, 61, 62, 4, 63, 11, 23, 64, 65, 66, 67, 68, 69, 70, 31, 71, 43, 44, 72, 73, 74, 75, 51, 52, 53, 54, 76, 77, 78, 79, 80, 81, 82, 83, 84, 17, 85, 90, 91, 92, 93, 94, 95, 96, 97, 98, 99] rfl rfl
set_option maxRecDepth 200000 in
theorem gX3_isVital_X3_leastAvoiding : GoodIn wsX3_isVital (wsV RX3 71 RX3 yX3_leastAvoiding wsX3_leastAvoiding) := goodIn_app (goodIn_r _ [55, 56, 57, 4] rfl rfl) ggX3_isVital_X3_leastAvoiding
set_option maxRecDepth 200000 in
theorem ggX3_isVital_X3_leastPrice : GoodIn wsX3_isVital wsX3_leastPrice := goodIn_r _ [89, 10, 12, 13, 14, 80, 81, 4, 82, 11, 83, 84, 17, 85, 90, 91, 92] rfl rfl
set_option maxRecDepth 200000 in
theorem gX3_isVital_X3_leastPrice : GoodIn wsX3_isVital (wsV RX3 75 RX3 yX3_leastPrice wsX3_leastPrice) := goodIn_app (goodIn_r _ [86, 87, 88, 4] rfl rfl) ggX3_isVital_X3_leastPrice
set_option maxRecDepth 200000 in
theorem ggX3_wouldSink_X3_leastAvoiding : GoodIn wsX3_wouldSink wsX3_leastAvoiding := goodIn_r _ [5, 6, 7, 8, 9, 4, 10, 11, 12, 13, 14, 15, 16, 17, 18, 19, 20, 21, 22, 23, 24, 25, 26, 27, 28, 29, 30, 31, 32, 33, 34, 35, 36, 37, 38, 39, 40, 41, 42, 46, 47, 48, 49, 50, 51, 52, 53, 54, 55] rfl rfl
set_option maxRecDepth 200000 in
theorem gX3_wouldSink_X3_leastAvoiding : GoodIn wsX3_wouldSink (wsV RX3 71 RX3 yX3_leastAvoiding wsX3_leastAvoiding) := goodIn_app (goodIn_r _ [1, 2, 3, 4] rfl rfl) ggX3_wouldSink_X3_leastAvoiding
set_option maxRecDepth 200000 in
theorem ggX3_wouldSink_X3_closesBelow : GoodIn wsX3_wouldSink wsX3_closesBelow := goodIn_r _ [45] rfl rfl
set_option maxRecDepth 200000 in
theorem gX3_wouldSink_X3_closesBelow : GoodIn wsX3_wouldSink (va_wsS RX3 78 yX3_closesBelow wsX3_closesBelow) := goodIn_app (goodIn_r _ [43, 44, 4] rfl rfl) ggX3_wouldSink_X3_closesBelow
set_option maxRecDepth 200000 in
theorem ggX3_leastRing_X3_ringOver : GoodIn wsX3_leastRing wsX3_ringOver := goodIn_r _ [6, 1, 7, 8, 9, 10, 11, 12, 13, 5, 14, 15, 16, 17, 18, 19, 20, 21, 22, 23, 24, 25, 26, 27, 28, 29, 30, 31, 32, 33, 34, 35, 36] rfl rfl
set_option maxRecDepth 200000 in
theorem gX3_leastRing_X3_ringOver : GoodIn wsX3_leastRing (wsV RX3 85 RX3 yX3_ringOver wsX3_ringOver) := goodIn_app (goodIn_r _ [2, 3, 4, 5] rfl rfl) ggX3_leastRing_X3_ringOver
set_option maxRecDepth 200000 in
theorem ggX3_heightOf_X3_leads : GoodIn wsX3_heightOf wsX3_leads := goodIn_r _ [10, 11, 12, 13, 14, 15, 27, 28, 29] rfl rfl
set_option maxRecDepth 200000 in
theorem gX3_heightOf_X3_leads : GoodIn wsX3_heightOf (wsV RX3 88 RX3 yX3_leads wsX3_leads) := goodIn_app (goodIn_r _ [6, 7, 8, 9] rfl rfl) ggX3_heightOf_X3_leads
set_option maxRecDepth 200000 in
theorem ggX3_heightOf_X3_leastPrice : GoodIn wsX3_heightOf wsX3_leastPrice := goodIn_r _ [19, 11, 13, 14, 15, 20, 21, 9, 22, 12, 23, 24, 25, 26, 27, 28, 29] rfl rfl
set_option maxRecDepth 200000 in
theorem gX3_heightOf_X3_leastPrice : GoodIn wsX3_heightOf (wsV RX3 75 RX3 yX3_leastPrice wsX3_leastPrice) := goodIn_app (goodIn_r _ [16, 17, 18, 9] rfl rfl) ggX3_heightOf_X3_leastPrice
set_option maxRecDepth 200000 in
theorem ggX3_lifted_X3_heightOf : GoodIn wsX3_lifted wsX3_heightOf := goodIn_r _ [10, 1, 2, 3, 4, 5, 11, 12, 13, 9, 14, 15, 16, 17, 18, 19, 20, 21, 22, 23, 24, 25, 26, 27, 28, 29, 30, 31, 32, 33, 34, 35, 36, 37, 38, 39, 40] rfl rfl
set_option maxRecDepth 200000 in
theorem gX3_lifted_X3_heightOf : GoodIn wsX3_lifted (wsV RX3 100 RX3 yX3_heightOf wsX3_heightOf) := goodIn_app (goodIn_r _ [6, 7, 8, 9] rfl rfl) ggX3_lifted_X3_heightOf
set_option maxRecDepth 200000 in
theorem ggX3_leastThrough_X3_leads : GoodIn wsX3_leastThrough wsX3_leads := goodIn_r _ [10, 11, 12, 13, 14, 15, 27, 28, 29] rfl rfl
set_option maxRecDepth 200000 in
theorem gX3_leastThrough_X3_leads : GoodIn wsX3_leastThrough (wsV RX3 88 RX3 yX3_leads wsX3_leads) := goodIn_app (goodIn_r _ [6, 7, 8, 9] rfl rfl) ggX3_leastThrough_X3_leads
set_option maxRecDepth 200000 in
theorem ggX3_leastThrough_X3_leastPrice : GoodIn wsX3_leastThrough wsX3_leastPrice := goodIn_r _ [19, 11, 13, 14, 15, 20, 21, 9, 22, 12, 23, 24, 25, 26, 27, 28, 29] rfl rfl
set_option maxRecDepth 200000 in
theorem gX3_leastThrough_X3_leastPrice : GoodIn wsX3_leastThrough (wsV RX3 75 RX3 yX3_leastPrice wsX3_leastPrice) := goodIn_app (goodIn_r _ [16, 17, 18, 9] rfl rfl) ggX3_leastThrough_X3_leastPrice
set_option maxRecDepth 200000 in
theorem ggX3_countLinked_X3_leads : GoodIn wsX3_countLinked wsX3_leads := goodIn_r _ [6, 7, 8, 9, 10, 11, 12, 13, 14] rfl rfl
set_option maxRecDepth 200000 in
theorem gX3_countLinked_X3_leads : GoodIn wsX3_countLinked (wsV RX3 88 RX3 yX3_leads wsX3_leads) := goodIn_app (goodIn_r _ [2, 3, 4, 5] rfl rfl) ggX3_countLinked_X3_leads
set_option maxRecDepth 200000 in
theorem ggX3_spread_J7_fill_53178 : GoodIn wsX3_spread wsJ7_fill_53178 := goodIn_r _ [7] rfl rfl
set_option maxRecDepth 200000 in
theorem gX3_spread_J7_fill_53178 : GoodIn wsX3_spread (va_wsS RX3 23 yJ7_fill_53178 wsJ7_fill_53178) := goodIn_app (goodIn_r _ [4, 5, 6] rfl rfl) ggX3_spread_J7_fill_53178
set_option maxRecDepth 200000 in
theorem ggX3_spread_X1_touches : GoodIn wsX3_spread wsX1_touches := goodIn_r _ [12, 13, 14, 31, 32, 33, 34, 35, 36, 37] rfl rfl
set_option maxRecDepth 200000 in
theorem gX3_spread_X1_touches : GoodIn wsX3_spread (wsV RX3 113 RX1 yX1_touches wsX1_touches) := goodIn_app (goodIn_r _ [8, 9, 10, 11] rfl rfl) ggX3_spread_X1_touches
set_option maxRecDepth 200000 in
theorem ggX3_spread_X3_relax : GoodIn wsX3_spread wsX3_relax := goodIn_r _ [19, 3, 20, 21, 22, 18, 23, 24, 25, 26, 27, 1, 2, 28, 29, 30, 31, 32, 33, 34, 35, 36, 37] rfl rfl
set_option maxRecDepth 200000 in
theorem gX3_spread_X3_relax : GoodIn wsX3_spread (wsV RX3 116 RX3 yX3_relax wsX3_relax) := goodIn_app (goodIn_r _ [15, 16, 17, 18] rfl rfl) ggX3_spread_X3_relax
set_option maxRecDepth 200000 in
theorem ggX3_relax_X3_costOf : GoodIn wsX3_relax wsX3_costOf := goodIn_r _ [6, 1, 13, 14, 15, 16, 17, 18, 19, 20, 21, 22] rfl rfl
set_option maxRecDepth 200000 in
theorem gX3_relax_X3_costOf : GoodIn wsX3_relax (wsV RX3 120 RX3 yX3_costOf wsX3_costOf) := goodIn_app (goodIn_r _ [2, 3, 4, 5] rfl rfl) ggX3_relax_X3_costOf
set_option maxRecDepth 200000 in
theorem ggX3_relax_X3_lower : GoodIn wsX3_relax wsX3_lower := goodIn_r _ [10, 11, 12, 13, 14, 15] rfl rfl
set_option maxRecDepth 200000 in
theorem gX3_relax_X3_lower : GoodIn wsX3_relax (wsV RX3 123 RX3 yX3_lower wsX3_lower) := goodIn_app (goodIn_r _ [7, 8, 9, 5] rfl rfl) ggX3_relax_X3_lower
set_option maxRecDepth 200000 in
theorem ggX3_lineToward_X1_hasPost : GoodIn wsX3_lineToward wsX1_hasPost := goodIn_r _ [7, 8, 38, 39, 40, 41, 42, 43, 44] rfl rfl
set_option maxRecDepth 200000 in
theorem gX3_lineToward_X1_hasPost : GoodIn wsX3_lineToward (wsV RX3 126 RX1 yX1_hasPost wsX1_hasPost) := goodIn_app (goodIn_r _ [3, 4, 5, 6] rfl rfl) ggX3_lineToward_X1_hasPost
set_option maxRecDepth 200000 in
theorem ggX3_lineToward_X3_leads : GoodIn wsX3_lineToward wsX3_leads := goodIn_r _ [13, 2, 14, 15, 16, 17, 35, 36, 37] rfl rfl
set_option maxRecDepth 200000 in
theorem gX3_lineToward_X3_leads : GoodIn wsX3_lineToward (wsV RX3 88 RX3 yX3_leads wsX3_leads) := goodIn_app (goodIn_r _ [9, 10, 11, 12] rfl rfl) ggX3_lineToward_X3_leads
set_option maxRecDepth 200000 in
theorem ggX3_lineToward_X4_pairOf : GoodIn wsX3_lineToward wsX4_pairOf := goodIn_r _ [17] rfl rfl
set_option maxRecDepth 200000 in
theorem gX3_lineToward_X4_pairOf_n39 : GoodIn wsX3_lineToward (wsX4_pairOf) := ggX3_lineToward_X4_pairOf
set_option maxRecDepth 200000 in
theorem ggX3_lineToward_X1_target : GoodIn wsX3_lineToward wsX1_target := goodIn_r _ [21, 22, 23, 24, 25, 26, 27, 28, 6, 29, 30, 38, 39, 40, 41, 42, 43, 44] rfl rfl
set_option maxRecDepth 200000 in
theorem gX3_lineToward_X1_target : GoodIn wsX3_lineToward (wsV RX3 64 RX1 yX1_target wsX1_target) := goodIn_app (goodIn_r _ [18, 19, 20, 6] rfl rfl) ggX3_lineToward_X1_target
set_option maxRecDepth 200000 in
theorem ggX3_lineToward_X3_costOf : GoodIn wsX3_lineToward wsX3_costOf := goodIn_r _ [34, 1, 35, 36, 37, 38, 39, 40, 41, 42, 43, 44] rfl rfl
set_option maxRecDepth 200000 in
theorem gX3_lineToward_X3_costOf : GoodIn wsX3_lineToward (wsV RX3 120 RX3 yX3_costOf wsX3_costOf) := goodIn_app (goodIn_r _ [31, 32, 33, 12] rfl rfl) ggX3_lineToward_X3_costOf
set_option maxRecDepth 200000 in
theorem ggX3_isOnWay_X3_length : GoodIn wsX3_isOnWay wsX3_length := goodIn_r _ [5, 6, 7, 8, 9, 10, 11, 12, 13, 14, 51, 52, 53] rfl rfl
set_option maxRecDepth 200000 in
theorem gX3_isOnWay_X3_length : GoodIn wsX3_isOnWay (wsV RX3 58 RX3 yX3_length wsX3_length) := goodIn_app (goodIn_r _ [1, 2, 3, 4] rfl rfl) ggX3_isOnWay_X3_length
set_option maxRecDepth 200000 in
theorem ggX3_isOnWay_X3_lineAt : GoodIn wsX3_isOnWay wsX3_lineAt := goodIn_r _ [18, 19, 1, 2, 3, 4, 5, 6, 7, 8, 9, 10, 11, 12, 13, 14, 20, 21, 22, 23, 24, 25, 26, 27, 28, 29, 30, 31, 32, 33, 34, 35, 36, 37, 38, 39, 40, 41, 42, 43, 44, 45, 46, 47, 48, 49, 50, 51, 52, 53, 54, 55, 56, 57, 58, 59, 60] rfl rfl
set_option maxRecDepth 200000 in
theorem gX3_isOnWay_X3_lineAt : GoodIn wsX3_isOnWay (wsV RX3 129 RX3 yX3_lineAt wsX3_lineAt) := goodIn_app (goodIn_r _ [15, 16, 17, 4] rfl rfl) ggX3_isOnWay_X3_lineAt
set_option maxRecDepth 200000 in
theorem ggX3_ringOver_X3_leastPrice : GoodIn wsX3_ringOver wsX3_leastPrice := goodIn_r _ [10, 11, 12, 13, 14, 15, 16, 9, 17, 18, 19, 20, 21, 22, 23, 24, 25] rfl rfl
set_option maxRecDepth 200000 in
theorem gX3_ringOver_X3_leastPrice : GoodIn wsX3_ringOver (wsV RX3 75 RX3 yX3_leastPrice wsX3_leastPrice) := goodIn_app (goodIn_r _ [6, 7, 8, 9] rfl rfl) ggX3_ringOver_X3_leastPrice
set_option maxRecDepth 200000 in
theorem ggX3_priceIn_J9_floorDiv_7cf53 : GoodIn wsX3_priceIn wsJ9_floorDiv_7cf53 := goodIn_r _ [5] rfl rfl
set_option maxRecDepth 200000 in
theorem gX3_priceIn_J9_floorDiv_7cf53 : GoodIn wsX3_priceIn (va_wsS RX3 133 yJ9_floorDiv_7cf53 wsJ9_floorDiv_7cf53) := goodIn_app (goodIn_r _ [2, 3, 4] rfl rfl) ggX3_priceIn_J9_floorDiv_7cf53
set_option maxRecDepth 200000 in
theorem ggX4_init_X1_init : GoodIn wsX4_init wsX1_init := goodIn_r _ [21, 22, 2, 3, 23, 24, 25, 26, 27, 28, 29, 140, 141, 142, 143, 144, 145, 146] rfl rfl
set_option maxRecDepth 200000 in
theorem gX4_init_X1_init_n11 : GoodIn wsX4_init (wsX1_init) := ggX4_init_X1_init
set_option maxRecDepth 200000 in
theorem ggX4_init_X3_init : GoodIn wsX4_init wsX3_init := goodIn_r _ [32, 33, 2, 3, 23, 34, 35, 36, 152, 153, 154] rfl rfl
set_option maxRecDepth 200000 in
theorem gX4_init_X3_init : GoodIn wsX4_init (wsX3_init) := ggX4_init_X3_init
set_option maxRecDepth 200000 in
theorem ggX4_init_X2_init : GoodIn wsX4_init wsX2_init := goodIn_r _ [38, 39, 2, 3, 23, 40, 155, 156] rfl rfl
set_option maxRecDepth 200000 in
theorem gX4_init_X2_init_n27 : GoodIn wsX4_init (wsX2_init) := ggX4_init_X2_init
set_option maxRecDepth 200000 in
theorem ggX4_init_X0_init : GoodIn wsX4_init wsX0_init := goodIn_r _ [42, 43, 2, 3, 23, 44, 157, 158] rfl rfl
set_option maxRecDepth 200000 in
theorem gX4_init_X0_init_n34 : GoodIn wsX4_init (wsX0_init) := ggX4_init_X0_init
set_option maxRecDepth 200000 in
theorem ggX4_init_X4_restart : GoodIn wsX4_init wsX4_restart := goodIn_r _ [49, 7, 15, 50, 51, 52, 53, 6, 54, 55, 56, 57, 58, 59, 14, 60, 61, 62, 63, 64, 48, 65, 11, 66, 67, 68, 10, 69, 34, 70, 36, 35, 71, 72, 73, 74, 75, 76, 77, 78, 79, 80, 81, 82, 83, 84, 85, 86, 24, 25, 87, 88, 89, 90, 91, 92, 93, 94, 95, 96, 97, 98, 99, 100, 101, 102, 103, 104, 40, 105, 106, 107, 108, 109, 110, 111, 112, 113, 114, 115, 116, 117, 118, 119, 120, 121, 122, 123, 124, 125, 126, 23, 127, 128, 129, 130, 131, 132, 133, 134, 135, 136, 137, 138, 139, 147, 148, 149, 150, 151, 140, 141, 142, 143, 144, 145, 146, 155, 156, 152, 153, 154] rfl rfl
set_option maxRecDepth 200000 in
theorem gX4_init_X4_restart : GoodIn wsX4_init (wsV RX4 39 RX4 yX4_restart wsX4_restart) := goodIn_app (goodIn_r _ [45, 46, 47, 48] rfl rfl) ggX4_init_X4_restart
set_option maxRecDepth 200000 in
theorem ggX4_posts_X4_restart : GoodIn wsX4_posts wsX4_restart := goodIn_r _ [6, 1, 7, 8, 9, 10, 11, 12, 13, 14, 15, 16, 17, 18, 19, 20, 21, 22, 23, 24, 5, 25, 26, 27, 28, 29, 30, 31, 32, 33, 34, 35, 36, 37, 38, 39, 40, 41, 42, 43, 44, 45, 46, 47, 48, 49, 50, 51, 52, 53, 54, 55, 56, 57, 58, 59, 60, 61, 62, 63, 64, 65, 66, 67, 68, 69, 70, 71, 72, 73, 74, 75, 76, 77, 78, 79, 80, 81, 82, 83, 84, 85, 86, 87, 88, 89, 90, 91, 92, 93, 94, 95, 96, 97, 98, 99, 100, 101, 102, 103, 104, 105, 106, 107, 108, 109, 110, 111, 112, 113, 114, 115, 116, 117, 118, 119, 120, 121, 122, 123, 124, 125] rfl rfl
set_option maxRecDepth 200000 in
theorem gX4_posts_X4_restart : GoodIn wsX4_posts (wsV RX4 39 RX4 yX4_restart wsX4_restart) := goodIn_app (goodIn_r _ [2, 3, 4, 5] rfl rfl) ggX4_posts_X4_restart
set_option maxRecDepth 200000 in
theorem ggX4_line_X1_hasPosts : GoodIn wsX4_line wsX1_hasPosts := goodIn_r _ [8, 9, 10, 11, 7, 12, 13, 131, 132, 133, 134, 135, 136, 137] rfl rfl
set_option maxRecDepth 200000 in
theorem gX4_line_X1_hasPosts : GoodIn wsX4_line (wsV RX4 47 RX1 yX1_hasPosts wsX1_hasPosts) := goodIn_app (goodIn_r _ [4, 5, 6, 7] rfl rfl) ggX4_line_X1_hasPosts
set_option maxRecDepth 200000 in
theorem ggX4_line_X4_mayCost : GoodIn wsX4_line wsX4_mayCost := goodIn_r _ [17] rfl rfl
set_option maxRecDepth 200000 in
theorem gX4_line_X4_mayCost : GoodIn wsX4_line (va_wsS RX4 51 yX4_mayCost wsX4_mayCost) := goodIn_app (goodIn_r _ [14, 15, 16] rfl rfl) ggX4_line_X4_mayCost
set_option maxRecDepth 200000 in
theorem ggX4_line_X3_wouldSink : GoodIn wsX4_line wsX3_wouldSink := goodIn_r _ [22, 23, 24, 25, 21, 26, 27, 28, 29, 30, 31, 32, 33, 34, 35, 36, 37, 38, 39, 40, 7, 41, 42, 43, 44, 45, 46, 47, 48, 49, 50, 51, 52, 53, 54, 55, 56, 57, 58, 59, 60, 61, 62, 63, 64, 65, 138, 139, 140, 131, 132, 133, 134, 135, 136, 137] rfl rfl
set_option maxRecDepth 200000 in
theorem gX4_line_X3_wouldSink : GoodIn wsX4_line (wsV RX4 55 RX3 yX3_wouldSink wsX3_wouldSink) := goodIn_app (goodIn_r _ [18, 19, 20, 21] rfl rfl) ggX4_line_X3_wouldSink
set_option maxRecDepth 200000 in
theorem ggX4_line_X2_isFull : GoodIn wsX4_line wsX2_isFull := goodIn_r _ [70, 71, 141, 142] rfl rfl
set_option maxRecDepth 200000 in
theorem gX4_line_X2_isFull : GoodIn wsX4_line (wsV RX4 62 RX2 yX2_isFull wsX2_isFull) := goodIn_app (goodIn_r _ [66, 67, 68, 69] rfl rfl) ggX4_line_X2_isFull
set_option maxRecDepth 200000 in
theorem ggX4_line_X1_add : GoodIn wsX4_line wsX1_add := goodIn_r _ [75, 76, 42, 43, 77, 78, 79, 131, 132, 133, 134, 135, 136, 137] rfl rfl
set_option maxRecDepth 200000 in
theorem gX4_line_X1_add : GoodIn wsX4_line (wsV RX4 66 RX1 yX1_add wsX1_add) := goodIn_app (goodIn_r _ [72, 73, 74, 7] rfl rfl) ggX4_line_X1_add
set_option maxRecDepth 200000 in
theorem ggX4_line_X4_keepAct : GoodIn wsX4_line wsX4_keepAct := goodIn_r _ [83, 2, 3, 84, 85, 86, 21, 87, 88, 32, 33, 27, 89, 90, 91, 92, 34, 35, 36, 37, 28, 29, 30, 31, 38, 39, 40, 7, 41, 42, 43, 44, 45, 46, 47, 48, 49, 50, 51, 52, 53, 54, 55, 93, 16, 94, 95, 96, 97, 69, 98, 99, 71, 100, 67, 68, 70, 101, 102, 103, 104, 105, 106, 107, 108, 109, 110, 111, 112, 113, 114, 115, 116, 117, 118, 119, 120, 121, 122, 123, 124, 125, 56, 57, 58, 59, 60, 61, 62, 126, 127, 128, 129, 130, 138, 139, 140, 131, 132, 133, 134, 135, 136, 137, 141, 142] rfl rfl
set_option maxRecDepth 200000 in
theorem gX4_line_X4_keepAct : GoodIn wsX4_line (wsV RX4 70 RX4 yX4_keepAct wsX4_keepAct) := goodIn_app (goodIn_r _ [80, 81, 82, 16] rfl rfl) ggX4_line_X4_keepAct
set_option maxRecDepth 200000 in
theorem ggX4_price_X1_hasLine : GoodIn wsX4_price wsX1_hasLine := goodIn_r _ [7, 8, 123, 124, 125, 126, 127, 128, 129] rfl rfl
set_option maxRecDepth 200000 in
theorem gX4_price_X1_hasLine : GoodIn wsX4_price (wsV RX4 73 RX1 yX1_hasLine wsX1_hasLine) := goodIn_app (goodIn_r _ [3, 4, 5, 6] rfl rfl) ggX4_price_X1_hasLine
set_option maxRecDepth 200000 in
theorem ggX4_price_X4_mayCost : GoodIn wsX4_price wsX4_mayCost := goodIn_r _ [12] rfl rfl
set_option maxRecDepth 200000 in
theorem gX4_price_X4_mayCost : GoodIn wsX4_price (va_wsS RX4 51 yX4_mayCost wsX4_mayCost) := goodIn_app (goodIn_r _ [9, 10, 11] rfl rfl) ggX4_price_X4_mayCost
set_option maxRecDepth 200000 in
theorem ggX4_price_X4_wouldSinkAt : GoodIn wsX4_price wsX4_wouldSinkAt := goodIn_r _ [16, 17, 1, 18, 19, 20, 21, 22, 23, 24, 25, 26, 27, 28, 29, 30, 31, 32, 33, 34, 35, 36, 37, 38, 39, 40, 6, 41, 42, 43, 44, 45, 46, 47, 48, 49, 50, 51, 52, 53, 54, 55, 56, 57, 58, 59, 60, 61, 62, 63, 64, 65, 118, 119, 120, 121, 122, 123, 124, 125, 126, 127, 128, 129, 130, 131, 132] rfl rfl
set_option maxRecDepth 200000 in
theorem gX4_price_X4_wouldSinkAt : GoodIn wsX4_price (wsV RX4 88 RX4 yX4_wouldSinkAt wsX4_wouldSinkAt) := goodIn_app (goodIn_r _ [13, 14, 15, 11] rfl rfl) ggX4_price_X4_wouldSinkAt
set_option maxRecDepth 200000 in
theorem ggX4_price_X2_isFull : GoodIn wsX4_price wsX2_isFull := goodIn_r _ [70, 71, 133, 134] rfl rfl
set_option maxRecDepth 200000 in
theorem gX4_price_X2_isFull : GoodIn wsX4_price (wsV RX4 62 RX2 yX2_isFull wsX2_isFull) := goodIn_app (goodIn_r _ [66, 67, 68, 69] rfl rfl) ggX4_price_X2_isFull
set_option maxRecDepth 200000 in
theorem ggX4_price_X4_keepAct : GoodIn wsX4_price wsX4_keepAct := goodIn_r _ [75, 17, 2, 76, 77, 78, 21, 79, 80, 32, 33, 27, 81, 82, 83, 84, 34, 35, 36, 37, 28, 29, 30, 31, 38, 39, 40, 6, 41, 42, 43, 44, 45, 46, 47, 48, 49, 50, 51, 52, 53, 54, 55, 85, 11, 86, 87, 88, 89, 69, 90, 91, 71, 92, 67, 68, 70, 93, 94, 95, 96, 97, 98, 99, 100, 101, 102, 103, 104, 105, 106, 107, 108, 109, 110, 111, 112, 113, 114, 115, 116, 117, 56, 57, 58, 59, 60, 61, 62, 118, 119, 120, 121, 122, 130, 131, 132, 123, 124, 125, 126, 127, 128, 129, 133, 134] rfl rfl
set_option maxRecDepth 200000 in
theorem gX4_price_X4_keepAct : GoodIn wsX4_price (wsV RX4 70 RX4 yX4_keepAct wsX4_keepAct) := goodIn_app (goodIn_r _ [72, 73, 74, 11] rfl rfl) ggX4_price_X4_keepAct
set_option maxRecDepth 200000 in
theorem ggX4_cut_X1_hasLine : GoodIn wsX4_cut wsX1_hasLine := goodIn_r _ [7, 8, 110, 111, 112, 113, 114, 115, 116] rfl rfl
set_option maxRecDepth 200000 in
theorem gX4_cut_X1_hasLine : GoodIn wsX4_cut (wsV RX4 73 RX1 yX1_hasLine wsX1_hasLine) := goodIn_app (goodIn_r _ [3, 4, 5, 6] rfl rfl) ggX4_cut_X1_hasLine
set_option maxRecDepth 200000 in
theorem ggX4_cut_X2_isFull : GoodIn wsX4_cut wsX2_isFull := goodIn_r _ [13, 14, 117, 118] rfl rfl
set_option maxRecDepth 200000 in
theorem gX4_cut_X2_isFull : GoodIn wsX4_cut (wsV RX4 62 RX2 yX2_isFull wsX2_isFull) := goodIn_app (goodIn_r _ [9, 10, 11, 12] rfl rfl) ggX4_cut_X2_isFull
set_option maxRecDepth 200000 in
theorem ggX4_cut_X4_keepAct : GoodIn wsX4_cut wsX4_keepAct := goodIn_r _ [19, 20, 2, 21, 22, 23, 24, 25, 26, 27, 28, 29, 30, 31, 32, 33, 34, 35, 36, 37, 38, 39, 40, 41, 42, 43, 44, 6, 45, 46, 47, 48, 49, 50, 51, 52, 53, 54, 55, 56, 57, 58, 59, 60, 18, 61, 62, 63, 64, 12, 65, 66, 14, 67, 10, 11, 13, 68, 69, 70, 71, 72, 73, 74, 75, 76, 77, 78, 79, 80, 81, 82, 83, 84, 85, 86, 87, 88, 89, 90, 91, 92, 93, 94, 95, 96, 97, 98, 99, 105, 106, 107, 108, 109, 119, 120, 121, 110, 111, 112, 113, 114, 115, 116, 117, 118] rfl rfl
set_option maxRecDepth 200000 in
theorem gX4_cut_X4_keepAct : GoodIn wsX4_cut (wsV RX4 70 RX4 yX4_keepAct wsX4_keepAct) := goodIn_app (goodIn_r _ [15, 16, 17, 18] rfl rfl) ggX4_cut_X4_keepAct
set_option maxRecDepth 200000 in
theorem ggX4_cut_X1_countThere : GoodIn wsX4_cut wsX1_countThere := goodIn_r _ [103, 8, 104, 110, 111, 112, 113, 114, 115, 116] rfl rfl
set_option maxRecDepth 200000 in
theorem gX4_cut_X1_countThere : GoodIn wsX4_cut (wsV RX4 91 RX1 yX1_countThere wsX1_countThere) := goodIn_app (goodIn_r _ [100, 101, 102, 6] rfl rfl) ggX4_cut_X1_countThere
set_option maxRecDepth 200000 in
theorem ggX4_back_X1_hasLine : GoodIn wsX4_back wsX1_hasLine := goodIn_r _ [7, 8, 125, 126, 127, 128, 129, 130, 131] rfl rfl
set_option maxRecDepth 200000 in
theorem gX4_back_X1_hasLine : GoodIn wsX4_back (wsV RX4 73 RX1 yX1_hasLine wsX1_hasLine) := goodIn_app (goodIn_r _ [3, 4, 5, 6] rfl rfl) ggX4_back_X1_hasLine
set_option maxRecDepth 200000 in
theorem ggX4_back_X4_wouldSinkAt : GoodIn wsX4_back wsX4_wouldSinkAt := goodIn_r _ [13, 14, 1, 15, 16, 17, 18, 19, 20, 21, 22, 23, 24, 25, 26, 27, 28, 29, 30, 31, 32, 33, 34, 35, 36, 37, 6, 38, 39, 40, 41, 42, 43, 44, 45, 46, 47, 48, 49, 50, 51, 52, 53, 54, 55, 56, 57, 58, 59, 60, 61, 62, 120, 121, 122, 123, 124, 125, 126, 127, 128, 129, 130, 131, 132, 133, 134] rfl rfl
set_option maxRecDepth 200000 in
theorem gX4_back_X4_wouldSinkAt : GoodIn wsX4_back (wsV RX4 88 RX4 yX4_wouldSinkAt wsX4_wouldSinkAt) := goodIn_app (goodIn_r _ [9, 10, 11, 12] rfl rfl) ggX4_back_X4_wouldSinkAt
set_option maxRecDepth 200000 in
theorem ggX4_back_X2_isFull : GoodIn wsX4_back wsX2_isFull := goodIn_r _ [67, 68, 135, 136] rfl rfl
set_option maxRecDepth 200000 in
theorem gX4_back_X2_isFull : GoodIn wsX4_back (wsV RX4 62 RX2 yX2_isFull wsX2_isFull) := goodIn_app (goodIn_r _ [63, 64, 65, 66] rfl rfl) ggX4_back_X2_isFull
set_option maxRecDepth 200000 in
theorem ggX4_back_X4_keepAct : GoodIn wsX4_back wsX4_keepAct := goodIn_r _ [72, 14, 2, 73, 74, 75, 18, 76, 77, 29, 30, 24, 78, 79, 80, 81, 31, 32, 33, 34, 25, 26, 27, 28, 35, 36, 37, 6, 38, 39, 40, 41, 42, 43, 44, 45, 46, 47, 48, 49, 50, 51, 52, 82, 12, 83, 84, 85, 86, 66, 87, 88, 68, 89, 64, 65, 67, 90, 91, 92, 93, 94, 95, 96, 97, 98, 99, 100, 101, 102, 103, 104, 105, 106, 107, 108, 109, 110, 111, 112, 113, 114, 53, 54, 55, 56, 57, 58, 59, 120, 121, 122, 123, 124, 132, 133, 134, 125, 126, 127, 128, 129, 130, 131, 135, 136] rfl rfl
set_option maxRecDepth 200000 in
theorem gX4_back_X4_keepAct : GoodIn wsX4_back (wsV RX4 70 RX4 yX4_keepAct wsX4_keepAct) := goodIn_app (goodIn_r _ [69, 70, 71, 12] rfl rfl) ggX4_back_X4_keepAct
set_option maxRecDepth 200000 in
theorem ggX4_back_X1_countThere : GoodIn wsX4_back wsX1_countThere := goodIn_r _ [118, 8, 119, 125, 126, 127, 128, 129, 130, 131] rfl rfl
set_option maxRecDepth 200000 in
theorem gX4_back_X1_countThere : GoodIn wsX4_back (wsV RX4 91 RX1 yX1_countThere wsX1_countThere) := goodIn_app (goodIn_r _ [115, 116, 117, 6] rfl rfl) ggX4_back_X1_countThere
set_option maxRecDepth 200000 in
theorem ggX4_told_X1_hasLine : GoodIn wsX4_told wsX1_hasLine := goodIn_r _ [7, 8, 51, 52, 53, 54, 55, 56, 57] rfl rfl
set_option maxRecDepth 200000 in
theorem gX4_told_X1_hasLine : GoodIn wsX4_told (wsV RX4 73 RX1 yX1_hasLine wsX1_hasLine) := goodIn_app (goodIn_r _ [3, 4, 5, 6] rfl rfl) ggX4_told_X1_hasLine
set_option maxRecDepth 200000 in
theorem ggX4_told_X4_asNumber : GoodIn wsX4_told wsX4_asNumber := goodIn_r _ [12] rfl rfl
set_option maxRecDepth 200000 in
theorem gX4_told_X4_asNumber : GoodIn wsX4_told (va_wsS RX4 101 yX4_asNumber wsX4_asNumber) := goodIn_app (goodIn_r _ [9, 10, 11] rfl rfl) ggX4_told_X4_asNumber
set_option maxRecDepth 200000 in
theorem ggX4_told_X3_lifted : GoodIn wsX4_told wsX3_lifted := goodIn_r _ [17, 18, 19, 20, 21, 22, 23, 24, 25, 16, 26, 27, 28, 29, 30, 31, 32, 33, 11, 34, 35, 36, 37, 38, 39, 40, 41, 42, 43, 44, 45, 58, 59, 60, 51, 52, 53, 54, 55, 56, 57] rfl rfl
set_option maxRecDepth 200000 in
theorem gX4_told_X3_lifted : GoodIn wsX4_told (wsV RX4 105 RX3 yX3_lifted wsX3_lifted) := goodIn_app (goodIn_r _ [13, 14, 15, 16] rfl rfl) ggX4_told_X3_lifted
set_option maxRecDepth 200000 in
theorem ggX4_far_X1_hasPosts : GoodIn wsX4_far wsX1_hasPosts := goodIn_r _ [7, 8, 9, 10, 6, 11, 12, 35, 36, 37, 38, 39, 40, 41] rfl rfl
set_option maxRecDepth 200000 in
theorem gX4_far_X1_hasPosts : GoodIn wsX4_far (wsV RX4 47 RX1 yX1_hasPosts wsX1_hasPosts) := goodIn_app (goodIn_r _ [3, 4, 5, 6] rfl rfl) ggX4_far_X1_hasPosts
set_option maxRecDepth 200000 in
theorem ggX4_far_X3_leastPrice : GoodIn wsX4_far wsX3_leastPrice := goodIn_r _ [17, 18, 19, 20, 21, 22, 23, 16, 24, 25, 26, 27, 28, 29, 42, 43, 44] rfl rfl
set_option maxRecDepth 200000 in
theorem gX4_far_X3_leastPrice : GoodIn wsX4_far (wsV RX4 109 RX3 yX3_leastPrice wsX3_leastPrice) := goodIn_app (goodIn_r _ [13, 14, 15, 16] rfl rfl) ggX4_far_X3_leastPrice
set_option maxRecDepth 200000 in
theorem ggX4_steps_X1_hasPosts : GoodIn wsX4_steps wsX1_hasPosts := goodIn_r _ [7, 8, 9, 10, 6, 11, 12, 32, 33, 34, 35, 36, 37, 38] rfl rfl
set_option maxRecDepth 200000 in
theorem gX4_steps_X1_hasPosts : GoodIn wsX4_steps (wsV RX4 47 RX1 yX1_hasPosts wsX1_hasPosts) := goodIn_app (goodIn_r _ [3, 4, 5, 6] rfl rfl) ggX4_steps_X1_hasPosts
set_option maxRecDepth 200000 in
theorem ggX4_steps_X3_length : GoodIn wsX4_steps wsX3_length := goodIn_r _ [17, 18, 19, 20, 21, 22, 23, 24, 25, 26, 39, 40, 41] rfl rfl
set_option maxRecDepth 200000 in
theorem gX4_steps_X3_length : GoodIn wsX4_steps (wsV RX4 113 RX3 yX3_length wsX3_length) := goodIn_app (goodIn_r _ [13, 14, 15, 16] rfl rfl) ggX4_steps_X3_length
set_option maxRecDepth 200000 in
theorem ggX4_way_X1_hasPosts : GoodIn wsX4_way wsX1_hasPosts := goodIn_r _ [7, 8, 9, 10, 6, 11, 12, 63, 64, 65, 66, 67, 68, 69] rfl rfl
set_option maxRecDepth 200000 in
theorem gX4_way_X1_hasPosts : GoodIn wsX4_way (wsV RX4 47 RX1 yX1_hasPosts wsX1_hasPosts) := goodIn_app (goodIn_r _ [3, 4, 5, 6] rfl rfl) ggX4_way_X1_hasPosts
set_option maxRecDepth 200000 in
theorem ggX4_way_X3_lineAt : GoodIn wsX4_way wsX3_lineAt := goodIn_r _ [17, 18, 19, 20, 21, 16, 22, 23, 24, 25, 26, 27, 28, 29, 30, 31, 32, 33, 34, 35, 36, 9, 10, 6, 11, 12, 37, 38, 39, 40, 41, 42, 43, 44, 45, 46, 47, 48, 49, 50, 51, 52, 53, 54, 55, 56, 57, 70, 71, 72, 63, 64, 65, 66, 67, 68, 69] rfl rfl
set_option maxRecDepth 200000 in
theorem gX4_way_X3_lineAt : GoodIn wsX4_way (wsV RX4 116 RX3 yX3_lineAt wsX3_lineAt) := goodIn_app (goodIn_r _ [13, 14, 15, 16] rfl rfl) ggX4_way_X3_lineAt
set_option maxRecDepth 200000 in
theorem ggX4_without_X1_hasPosts : GoodIn wsX4_without wsX1_hasPosts := goodIn_r _ [7, 8, 9, 10, 6, 11, 12, 64, 65, 66, 67, 68, 69, 70] rfl rfl
set_option maxRecDepth 200000 in
theorem gX4_without_X1_hasPosts : GoodIn wsX4_without (wsV RX4 47 RX1 yX1_hasPosts wsX1_hasPosts) := goodIn_app (goodIn_r _ [3, 4, 5, 6] rfl rfl) ggX4_without_X1_hasPosts
set_option maxRecDepth 200000 in
theorem ggX4_without_X1_hasLine : GoodIn wsX4_without wsX1_hasLine := goodIn_r _ [16, 17, 64, 65, 66, 67, 68, 69, 70] rfl rfl
set_option maxRecDepth 200000 in
theorem gX4_without_X1_hasLine : GoodIn wsX4_without (wsV RX4 73 RX1 yX1_hasLine wsX1_hasLine) := goodIn_app (goodIn_r _ [13, 14, 15, 6] rfl rfl) ggX4_without_X1_hasLine
set_option maxRecDepth 200000 in
theorem ggX4_without_X3_leastAvoiding : GoodIn wsX4_without wsX3_leastAvoiding := goodIn_r _ [22, 23, 24, 25, 26, 21, 27, 28, 29, 30, 31, 32, 33, 34, 35, 36, 6, 37, 38, 39, 40, 41, 42, 43, 44, 45, 46, 47, 48, 49, 50, 51, 52, 53, 54, 55, 56, 57, 58, 71, 72, 73, 64, 65, 66, 67, 68, 69, 70] rfl rfl
set_option maxRecDepth 200000 in
theorem gX4_without_X3_leastAvoiding : GoodIn wsX4_without (wsV RX4 120 RX3 yX3_leastAvoiding wsX3_leastAvoiding) := goodIn_app (goodIn_r _ [18, 19, 20, 21] rfl rfl) ggX4_without_X3_leastAvoiding
set_option maxRecDepth 200000 in
theorem ggX4_vital_X1_hasPosts : GoodIn wsX4_vital wsX1_hasPosts := goodIn_r _ [7, 8, 9, 10, 6, 11, 12, 106, 107, 108, 109, 110, 111, 112] rfl rfl
set_option maxRecDepth 200000 in
theorem gX4_vital_X1_hasPosts : GoodIn wsX4_vital (wsV RX4 47 RX1 yX1_hasPosts wsX1_hasPosts) := goodIn_app (goodIn_r _ [3, 4, 5, 6] rfl rfl) ggX4_vital_X1_hasPosts
set_option maxRecDepth 200000 in
theorem ggX4_vital_X3_isVital : GoodIn wsX4_vital wsX3_isVital := goodIn_r _ [17, 18, 19, 20, 16, 21, 22, 23, 24, 25, 26, 27, 28, 29, 30, 31, 32, 33, 34, 35, 36, 37, 38, 39, 40, 41, 42, 43, 44, 9, 10, 6, 11, 12, 45, 46, 47, 48, 49, 50, 51, 52, 53, 54, 55, 56, 57, 58, 59, 60, 61, 62, 63, 64, 65, 66, 67, 68, 69, 70, 71, 72, 73, 74, 75, 76, 77, 78, 79, 80, 81, 82, 83, 84, 85, 86, 87, 88, 89, 90, 91, 92, 93, 94, 95, 96, 97, 98, 99, 100, 113, 114, 115, 106, 107, 108, 109, 110, 111, 112] rfl rfl
set_option maxRecDepth 200000 in
theorem gX4_vital_X3_isVital : GoodIn wsX4_vital (wsV RX4 124 RX3 yX3_isVital wsX3_isVital) := goodIn_app (goodIn_r _ [13, 14, 15, 16] rfl rfl) ggX4_vital_X3_isVital
set_option maxRecDepth 200000 in
theorem ggX4_about_X1_hasPosts : GoodIn wsX4_about wsX1_hasPosts := goodIn_r _ [7, 8, 9, 10, 6, 11, 12, 60, 61, 62, 63, 64, 65, 66] rfl rfl
set_option maxRecDepth 200000 in
theorem gX4_about_X1_hasPosts : GoodIn wsX4_about (wsV RX4 47 RX1 yX1_hasPosts wsX1_hasPosts) := goodIn_app (goodIn_r _ [3, 4, 5, 6] rfl rfl) ggX4_about_X1_hasPosts
set_option maxRecDepth 200000 in
theorem ggX4_about_X1_hasPost : GoodIn wsX4_about wsX1_hasPost := goodIn_r _ [11, 12, 60, 61, 62, 63, 64, 65, 66] rfl rfl
set_option maxRecDepth 200000 in
theorem gX4_about_X1_hasPost : GoodIn wsX4_about (wsV RX4 128 RX1 yX1_hasPost wsX1_hasPost) := goodIn_app (goodIn_r _ [13, 9, 10, 6] rfl rfl) ggX4_about_X1_hasPost
set_option maxRecDepth 200000 in
theorem ggX4_about_X3_leastAvoiding : GoodIn wsX4_about wsX3_leastAvoiding := goodIn_r _ [18, 19, 20, 21, 22, 17, 23, 24, 25, 26, 27, 28, 29, 30, 31, 32, 6, 33, 34, 35, 36, 37, 38, 39, 40, 41, 42, 43, 44, 45, 46, 47, 48, 49, 50, 51, 52, 53, 54, 67, 68, 69, 60, 61, 62, 63, 64, 65, 66] rfl rfl
set_option maxRecDepth 200000 in
theorem gX4_about_X3_leastAvoiding : GoodIn wsX4_about (wsV RX4 120 RX3 yX3_leastAvoiding wsX3_leastAvoiding) := goodIn_app (goodIn_r _ [14, 15, 16, 17] rfl rfl) ggX4_about_X3_leastAvoiding
set_option maxRecDepth 200000 in
theorem ggX4_ring_X3_leastRing : GoodIn wsX4_ring wsX3_leastRing := goodIn_r _ [6, 7, 8, 9, 10, 5, 11, 12, 13, 14, 15, 16, 17, 18, 19, 20, 21, 22, 23, 24, 25, 26, 27, 28, 29, 30, 31, 37, 38, 39, 40, 41, 42, 43, 44, 45, 46] rfl rfl
set_option maxRecDepth 200000 in
theorem gX4_ring_X3_leastRing : GoodIn wsX4_ring (wsV RX4 131 RX3 yX3_leastRing wsX3_leastRing) := goodIn_app (goodIn_r _ [2, 3, 4, 5] rfl rfl) ggX4_ring_X3_leastRing
set_option maxRecDepth 200000 in
theorem ggX4_height_X1_hasPost : GoodIn wsX4_height wsX1_hasPost := goodIn_r _ [7, 8, 44, 45, 46, 47, 48, 49, 50] rfl rfl
set_option maxRecDepth 200000 in
theorem gX4_height_X1_hasPost : GoodIn wsX4_height (wsV RX4 128 RX1 yX1_hasPost wsX1_hasPost) := goodIn_app (goodIn_r _ [3, 4, 5, 6] rfl rfl) ggX4_height_X1_hasPost
set_option maxRecDepth 200000 in
theorem ggX4_height_X3_heightOf : GoodIn wsX4_height wsX3_heightOf := goodIn_r _ [13, 14, 15, 16, 17, 18, 19, 20, 21, 12, 22, 23, 24, 25, 26, 27, 28, 29, 30, 31, 32, 33, 34, 35, 36, 37, 38, 51, 52, 53, 44, 45, 46, 47, 48, 49, 50] rfl rfl
set_option maxRecDepth 200000 in
theorem gX4_height_X3_heightOf : GoodIn wsX4_height (wsV RX4 134 RX3 yX3_heightOf wsX3_heightOf) := goodIn_app (goodIn_r _ [9, 10, 11, 12] rfl rfl) ggX4_height_X3_heightOf
set_option maxRecDepth 200000 in
theorem ggX4_acts_X2_countActs : GoodIn wsX4_acts wsX2_countActs := goodIn_r _ [6, 7, 13, 14] rfl rfl
set_option maxRecDepth 200000 in
theorem gX4_acts_X2_countActs : GoodIn wsX4_acts (wsV RX4 137 RX2 yX2_countActs wsX2_countActs) := goodIn_app (goodIn_r _ [2, 3, 4, 5] rfl rfl) ggX4_acts_X2_countActs
set_option maxRecDepth 200000 in
theorem ggX4_moved_X2_hasAct : GoodIn wsX4_moved wsX2_hasAct := goodIn_r _ [6, 7, 26, 27] rfl rfl
set_option maxRecDepth 200000 in
theorem gX4_moved_X2_hasAct : GoodIn wsX4_moved (wsV RX4 140 RX2 yX2_hasAct wsX2_hasAct) := goodIn_app (goodIn_r _ [2, 3, 4, 5] rfl rfl) ggX4_moved_X2_hasAct
set_option maxRecDepth 200000 in
theorem ggX4_moved_X2_countMoved : GoodIn wsX4_moved wsX2_countMoved := goodIn_r _ [11, 12, 13, 14, 5, 15, 16, 17, 18, 19, 20, 26, 27] rfl rfl
set_option maxRecDepth 200000 in
theorem gX4_moved_X2_countMoved : GoodIn wsX4_moved (wsV RX4 143 RX2 yX2_countMoved wsX2_countMoved) := goodIn_app (goodIn_r _ [8, 9, 10, 5] rfl rfl) ggX4_moved_X2_countMoved
set_option maxRecDepth 200000 in
theorem ggX4_pair_X2_hasAct : GoodIn wsX4_pair wsX2_hasAct := goodIn_r _ [6, 7, 26, 27] rfl rfl
set_option maxRecDepth 200000 in
theorem gX4_pair_X2_hasAct : GoodIn wsX4_pair (wsV RX4 140 RX2 yX2_hasAct wsX2_hasAct) := goodIn_app (goodIn_r _ [2, 3, 4, 5] rfl rfl) ggX4_pair_X2_hasAct
set_option maxRecDepth 200000 in
theorem ggX4_pair_X2_movedPair : GoodIn wsX4_pair wsX2_movedPair := goodIn_r _ [11, 12, 13, 14, 5, 15, 16, 17, 18, 19, 20, 26, 27] rfl rfl
set_option maxRecDepth 200000 in
theorem gX4_pair_X2_movedPair : GoodIn wsX4_pair (wsV RX4 146 RX2 yX2_movedPair wsX2_movedPair) := goodIn_app (goodIn_r _ [8, 9, 10, 5] rfl rfl) ggX4_pair_X2_movedPair
set_option maxRecDepth 200000 in
theorem ggX4_then_X1_hasPosts : GoodIn wsX4_then wsX1_hasPosts := goodIn_r _ [7, 8, 9, 10, 6, 11, 12, 33, 34, 35, 36, 37, 38, 39] rfl rfl
set_option maxRecDepth 200000 in
theorem gX4_then_X1_hasPosts : GoodIn wsX4_then (wsV RX4 47 RX1 yX1_hasPosts wsX1_hasPosts) := goodIn_app (goodIn_r _ [3, 4, 5, 6] rfl rfl) ggX4_then_X1_hasPosts
set_option maxRecDepth 200000 in
theorem ggX4_then_X2_hasAct : GoodIn wsX4_then wsX2_hasAct := goodIn_r _ [17, 18, 40, 41] rfl rfl
set_option maxRecDepth 200000 in
theorem gX4_then_X2_hasAct : GoodIn wsX4_then (wsV RX4 140 RX2 yX2_hasAct wsX2_hasAct) := goodIn_app (goodIn_r _ [13, 14, 15, 16] rfl rfl) ggX4_then_X2_hasAct
set_option maxRecDepth 200000 in
theorem ggX4_then_X4_pairOf : GoodIn wsX4_then wsX4_pairOf := goodIn_r _ [22] rfl rfl
set_option maxRecDepth 200000 in
theorem gX4_then_X4_pairOf : GoodIn wsX4_then (va_wsS RX4 149 yX4_pairOf wsX4_pairOf) := goodIn_app (goodIn_r _ [19, 20, 21] rfl rfl) ggX4_then_X4_pairOf
set_option maxRecDepth 200000 in
theorem ggX4_then_X2_leastAsOf : GoodIn wsX4_then wsX2_leastAsOf := goodIn_r _ [26, 27, 40, 41] rfl rfl
set_option maxRecDepth 200000 in
theorem gX4_then_X2_leastAsOf : GoodIn wsX4_then (wsV RX4 152 RX2 yX2_leastAsOf wsX2_leastAsOf) := goodIn_app (goodIn_r _ [23, 24, 25, 16] rfl rfl) ggX4_then_X2_leastAsOf
set_option maxRecDepth 200000 in
theorem ggX4_since_X1_hasPosts : GoodIn wsX4_since wsX1_hasPosts := goodIn_r _ [7, 8, 9, 10, 6, 11, 12, 37, 38, 39, 40, 41, 42, 43] rfl rfl
set_option maxRecDepth 200000 in
theorem gX4_since_X1_hasPosts : GoodIn wsX4_since (wsV RX4 47 RX1 yX1_hasPosts wsX1_hasPosts) := goodIn_app (goodIn_r _ [3, 4, 5, 6] rfl rfl) ggX4_since_X1_hasPosts
set_option maxRecDepth 200000 in
theorem ggX4_since_X2_hasAct : GoodIn wsX4_since wsX2_hasAct := goodIn_r _ [17, 18, 44, 45] rfl rfl
set_option maxRecDepth 200000 in
theorem gX4_since_X2_hasAct : GoodIn wsX4_since (wsV RX4 140 RX2 yX2_hasAct wsX2_hasAct) := goodIn_app (goodIn_r _ [13, 14, 15, 16] rfl rfl) ggX4_since_X2_hasAct
set_option maxRecDepth 200000 in
theorem ggX4_since_X4_pairOf : GoodIn wsX4_since wsX4_pairOf := goodIn_r _ [22] rfl rfl
set_option maxRecDepth 200000 in
theorem gX4_since_X4_pairOf : GoodIn wsX4_since (va_wsS RX4 149 yX4_pairOf wsX4_pairOf) := goodIn_app (goodIn_r _ [19, 20, 21] rfl rfl) ggX4_since_X4_pairOf
set_option maxRecDepth 200000 in
theorem ggX4_since_X2_firstWithin : GoodIn wsX4_since wsX2_firstWithin := goodIn_r _ [26, 18, 27, 28, 29, 16, 30, 31, 44, 45] rfl rfl
set_option maxRecDepth 200000 in
theorem gX4_since_X2_firstWithin : GoodIn wsX4_since (wsV RX4 155 RX2 yX2_firstWithin wsX2_firstWithin) := goodIn_app (goodIn_r _ [23, 24, 25, 16] rfl rfl) ggX4_since_X2_firstWithin
set_option maxRecDepth 200000 in
theorem ggX4_near_X1_hasPosts : GoodIn wsX4_near wsX1_hasPosts := goodIn_r _ [8, 9, 10, 11, 7, 12, 13, 49, 50, 51, 52, 53, 54, 55] rfl rfl
set_option maxRecDepth 200000 in
theorem gX4_near_X1_hasPosts : GoodIn wsX4_near (wsV RX4 47 RX1 yX1_hasPosts wsX1_hasPosts) := goodIn_app (goodIn_r _ [4, 5, 6, 7] rfl rfl) ggX4_near_X1_hasPosts
set_option maxRecDepth 200000 in
theorem ggX4_near_X3_leastThrough : GoodIn wsX4_near wsX3_leastThrough := goodIn_r _ [18, 19, 20, 21, 22, 23, 24, 25, 26, 17, 27, 28, 29, 30, 31, 32, 33, 34, 35, 36, 37, 38, 39, 40, 41, 42, 43, 56, 57, 58, 49, 50, 51, 52, 53, 54, 55] rfl rfl
set_option maxRecDepth 200000 in
theorem gX4_near_X3_leastThrough : GoodIn wsX4_near (wsV RX4 161 RX3 yX3_leastThrough wsX3_leastThrough) := goodIn_app (goodIn_r _ [14, 15, 16, 17] rfl rfl) ggX4_near_X3_leastThrough
set_option maxRecDepth 200000 in
theorem ggX4_worst_X3_leads : GoodIn wsX4_worst wsX3_leads := goodIn_r _ [12, 13, 14, 15, 16, 17, 51, 52, 53] rfl rfl
set_option maxRecDepth 200000 in
theorem gX4_worst_X3_leads : GoodIn wsX4_worst (wsV RX4 164 RX3 yX3_leads wsX3_leads) := goodIn_app (goodIn_r _ [8, 9, 10, 11] rfl rfl) ggX4_worst_X3_leads
set_option maxRecDepth 200000 in
theorem ggX4_worst_X3_leastThrough : GoodIn wsX4_worst wsX3_leastThrough := goodIn_r _ [21, 22, 23, 24, 6, 25, 26, 9, 10, 11, 12, 13, 14, 15, 16, 17, 27, 28, 29, 30, 31, 32, 33, 34, 35, 36, 37, 51, 52, 53, 44, 45, 46, 47, 48, 49, 50] rfl rfl
set_option maxRecDepth 200000 in
theorem gX4_worst_X3_leastThrough : GoodIn wsX4_worst (wsV RX4 161 RX3 yX3_leastThrough wsX3_leastThrough) := goodIn_app (goodIn_r _ [18, 19, 20, 11] rfl rfl) ggX4_worst_X3_leastThrough
set_option maxRecDepth 200000 in
theorem ggX4_worst_X3_leastPrice : GoodIn wsX4_worst wsX3_leastPrice := goodIn_r _ [30, 13, 15, 16, 17, 31, 32, 11, 33, 14, 34, 35, 36, 37, 51, 52, 53] rfl rfl
set_option maxRecDepth 200000 in
theorem gX4_worst_X3_leastPrice : GoodIn wsX4_worst (wsV RX4 109 RX3 yX3_leastPrice wsX3_leastPrice) := goodIn_app (goodIn_r _ [38, 28, 29, 11] rfl rfl) ggX4_worst_X3_leastPrice
set_option maxRecDepth 200000 in
theorem ggX4_hits_X0_askFor : GoodIn wsX4_hits wsX0_askFor := goodIn_r _ [8, 9, 10, 11, 12, 13, 14, 15, 16, 17, 18, 19, 20, 21, 22, 23, 24, 25, 26, 27, 28, 29, 30, 31, 32, 33, 34, 35, 36, 37, 38, 39, 40, 41, 42, 43, 44, 45, 46, 47, 48, 49, 50, 51, 52, 53, 54, 55, 56, 57, 58, 59, 60, 61, 89, 90, 91, 92, 93, 82, 83, 84, 85, 86, 87, 88] rfl rfl
set_option maxRecDepth 200000 in
theorem gX4_hits_X0_askFor : GoodIn wsX4_hits (wsV RX4 172 RX0 yX0_askFor wsX0_askFor) := goodIn_app (goodIn_r _ [4, 5, 6, 7] rfl rfl) ggX4_hits_X0_askFor
set_option maxRecDepth 200000 in
theorem ggX4_hits_X0_fewest : GoodIn wsX4_hits wsX0_fewest := goodIn_r _ [65, 66, 67, 68, 69, 70, 71, 72, 73, 74, 75, 7, 76, 9, 10, 89, 90] rfl rfl
set_option maxRecDepth 200000 in
theorem gX4_hits_X0_fewest : GoodIn wsX4_hits (wsV RX4 176 RX0 yX0_fewest wsX0_fewest) := goodIn_app (goodIn_r _ [62, 63, 64, 7] rfl rfl) ggX4_hits_X0_fewest
set_option maxRecDepth 200000 in
theorem ggX4_count_X1_countThere : GoodIn wsX4_count wsX1_countThere := goodIn_r _ [8, 9, 10, 38, 39, 40, 41, 42, 43, 44] rfl rfl
set_option maxRecDepth 200000 in
theorem gX4_count_X1_countThere : GoodIn wsX4_count (wsV RX4 91 RX1 yX1_countThere wsX1_countThere) := goodIn_app (goodIn_r _ [4, 5, 6, 7] rfl rfl) ggX4_count_X1_countThere
set_option maxRecDepth 200000 in
theorem ggX4_count_X3_countLinked : GoodIn wsX4_count wsX3_countLinked := goodIn_r _ [15, 16, 17, 18, 19, 14, 20, 21, 22, 23, 24, 25, 45, 46, 47, 38, 39, 40, 41, 42, 43, 44] rfl rfl
set_option maxRecDepth 200000 in
theorem gX4_count_X3_countLinked : GoodIn wsX4_count (wsV RX4 179 RX3 yX3_countLinked wsX3_countLinked) := goodIn_app (goodIn_r _ [11, 12, 13, 14] rfl rfl) ggX4_count_X3_countLinked
set_option maxRecDepth 200000 in
theorem ggX4_count_J6_bitCount_0f7a4 : GoodIn wsX4_count wsJ6_bitCount_0f7a4 := goodIn_r _ [29, 30, 31, 32] rfl rfl
set_option maxRecDepth 200000 in
theorem gX4_count_J6_bitCount_0f7a4 : GoodIn wsX4_count (va_wsS RX4 182 yJ6_bitCount_0f7a4 wsJ6_bitCount_0f7a4) := goodIn_app (goodIn_r _ [26, 27, 28] rfl rfl) ggX4_count_J6_bitCount_0f7a4
set_option maxRecDepth 200000 in
theorem ggX4_restart_X1_clear : GoodIn wsX4_restart wsX1_clear := goodIn_r _ [8, 9, 10, 110, 111, 112, 113, 114, 115, 116] rfl rfl
set_option maxRecDepth 200000 in
theorem gX4_restart_X1_clear : GoodIn wsX4_restart (wsV RX4 187 RX1 yX1_clear wsX1_clear) := goodIn_app (goodIn_r _ [4, 5, 6, 7] rfl rfl) ggX4_restart_X1_clear
set_option maxRecDepth 200000 in
theorem ggX4_restart_X2_clear : GoodIn wsX4_restart wsX2_clear := goodIn_r _ [15, 16, 117, 118] rfl rfl
set_option maxRecDepth 200000 in
theorem gX4_restart_X2_clear : GoodIn wsX4_restart (wsV RX4 190 RX2 yX2_clear wsX2_clear) := goodIn_app (goodIn_r _ [11, 12, 13, 14] rfl rfl) ggX4_restart_X2_clear
set_option maxRecDepth 200000 in
theorem ggX4_restart_X4_keepAct : GoodIn wsX4_restart wsX4_keepAct := goodIn_r _ [21, 22, 2, 23, 24, 25, 26, 27, 28, 29, 30, 31, 32, 33, 34, 35, 36, 37, 38, 39, 40, 41, 42, 43, 44, 45, 46, 7, 47, 48, 49, 50, 51, 52, 53, 54, 55, 56, 57, 58, 59, 60, 61, 62, 20, 63, 64, 65, 66, 14, 67, 68, 16, 69, 70, 71, 72, 73, 74, 75, 76, 77, 78, 79, 80, 81, 82, 83, 84, 85, 86, 87, 88, 89, 90, 91, 92, 93, 94, 95, 96, 97, 98, 99, 100, 101, 102, 103, 104, 105, 106, 107, 108, 109, 119, 120, 121, 110, 111, 112, 113, 114, 115, 116, 117, 118] rfl rfl
set_option maxRecDepth 200000 in
theorem gX4_restart_X4_keepAct : GoodIn wsX4_restart (wsV RX4 70 RX4 yX4_keepAct wsX4_keepAct) := goodIn_app (goodIn_r _ [17, 18, 19, 20] rfl rfl) ggX4_restart_X4_keepAct
set_option maxRecDepth 200000 in
theorem ggX4_keepAct_X3_measure : GoodIn wsX4_keepAct wsX3_measure := goodIn_r _ [7, 8, 9, 10, 11, 12, 13, 14, 15, 16, 17, 18, 19, 20, 21, 22, 6, 23, 24, 25, 26, 27, 28, 29, 30, 31, 32, 33, 34, 35, 36, 37, 38, 39, 40, 41, 42, 43, 44, 45, 94, 95, 96, 97, 98, 99, 100, 101, 102, 103] rfl rfl
set_option maxRecDepth 200000 in
theorem gX4_keepAct_X3_measure : GoodIn wsX4_keepAct (wsV RX4 192 RX3 yX3_measure wsX3_measure) := goodIn_app (goodIn_r _ [3, 4, 5, 6] rfl rfl) ggX4_keepAct_X3_measure
set_option maxRecDepth 200000 in
theorem ggX4_keepAct_X2_keep : GoodIn wsX4_keepAct wsX2_keep := goodIn_r _ [50, 51, 52, 53, 54, 55, 49, 56, 57, 58, 59, 60, 61, 62, 63, 64, 65, 66, 67, 18, 68, 69, 70, 71, 72, 73, 74, 75, 76, 77, 13, 14, 15, 78, 79, 80, 6, 81, 8, 43, 44, 45, 82, 83, 84, 9, 85, 86, 87, 88, 104, 105, 94, 95, 96] rfl rfl
set_option maxRecDepth 200000 in
theorem gX4_keepAct_X2_keep : GoodIn wsX4_keepAct (wsV RX4 195 RX2 yX2_keep wsX2_keep) := goodIn_app (goodIn_r _ [46, 47, 48, 49] rfl rfl) ggX4_keepAct_X2_keep
set_option maxRecDepth 200000 in
theorem ggX4_wouldSinkAt_X3_wouldSink : GoodIn wsX4_wouldSinkAt wsX3_wouldSink := goodIn_r _ [7, 8, 9, 10, 6, 11, 12, 13, 14, 15, 16, 17, 18, 19, 20, 21, 22, 23, 24, 25, 26, 27, 28, 29, 30, 31, 32, 33, 34, 35, 36, 37, 38, 39, 40, 41, 42, 43, 44, 45, 46, 47, 48, 49, 50, 51, 64, 65, 66, 57, 58, 59, 60, 61, 62, 63] rfl rfl
set_option maxRecDepth 200000 in
theorem gX4_wouldSinkAt_X3_wouldSink : GoodIn wsX4_wouldSinkAt (wsV RX4 55 RX3 yX3_wouldSink wsX3_wouldSink) := goodIn_app (goodIn_r _ [3, 4, 5, 6] rfl rfl) ggX4_wouldSinkAt_X3_wouldSink
set_option maxRecDepth 200000 in
theorem ggX5_init_X5_learn : GoodIn wsX5_init wsX5_learn := goodIn_r _ [20, 12, 21, 22, 11, 6, 7, 8, 10, 4, 31, 32, 33, 34, 35, 36, 37, 38, 39, 40, 41, 42, 43] rfl rfl
set_option maxRecDepth 200000 in
theorem gX5_init_X5_learn : GoodIn wsX5_init (wsV RX5 40 RX5 yX5_learn wsX5_learn) := goodIn_app (goodIn_r _ [16, 17, 18, 19] rfl rfl) ggX5_init_X5_learn
set_option maxRecDepth 200000 in
theorem ggX5_init_X5_keep : GoodIn wsX5_init wsX5_keep := goodIn_r _ [26, 14, 27, 12, 28, 29, 19, 30, 21, 31, 32, 33, 34, 35, 36, 37, 38, 39, 40, 41, 42, 43] rfl rfl
set_option maxRecDepth 200000 in
theorem gX5_init_X5_keep : GoodIn wsX5_init (wsV RX5 44 RX5 yX5_keep wsX5_keep) := goodIn_app (goodIn_r _ [23, 24, 25, 19] rfl rfl) ggX5_init_X5_keep
set_option maxRecDepth 200000 in
theorem ggX5_noPost_X5_in : GoodIn wsX5_noPost wsX5_in := goodIn_r _ [5] rfl rfl
set_option maxRecDepth 200000 in
theorem gX5_noPost_X5_in : GoodIn wsX5_noPost (va_wsS RX5 50 yX5_in wsX5_in) := goodIn_app (goodIn_r _ [2, 3, 4] rfl rfl) ggX5_noPost_X5_in
set_option maxRecDepth 200000 in
theorem ggX5_noLine_X5_in : GoodIn wsX5_noLine wsX5_in := goodIn_r _ [5] rfl rfl
set_option maxRecDepth 200000 in
theorem gX5_noLine_X5_in : GoodIn wsX5_noLine (va_wsS RX5 50 yX5_in wsX5_in) := goodIn_app (goodIn_r _ [2, 3, 4] rfl rfl) ggX5_noLine_X5_in
set_option maxRecDepth 200000 in
theorem ggX5_farOf_X5_coarse : GoodIn wsX5_farOf wsX5_coarse := goodIn_r _ [5, 6] rfl rfl
set_option maxRecDepth 200000 in
theorem gX5_farOf_X5_coarse : GoodIn wsX5_farOf (va_wsS RX5 58 yX5_coarse wsX5_coarse) := goodIn_app (goodIn_r _ [2, 3, 4] rfl rfl) ggX5_farOf_X5_coarse
set_option maxRecDepth 200000 in
theorem ggX5_keep_X5_coarse : GoodIn wsX5_keep wsX5_coarse := goodIn_r _ [7, 8] rfl rfl
set_option maxRecDepth 200000 in
theorem gX5_keep_X5_coarse : GoodIn wsX5_keep (va_wsS RX5 58 yX5_coarse wsX5_coarse) := goodIn_app (goodIn_r _ [4, 5, 6] rfl rfl) ggX5_keep_X5_coarse
set_option maxRecDepth 200000 in
theorem ggX5_did_X5_learn : GoodIn wsX5_did wsX5_learn := goodIn_r _ [6, 7, 8, 9, 10, 11, 12, 13, 14, 15, 24, 25, 26, 27, 28, 29, 30, 31, 32, 33, 34, 35, 36] rfl rfl
set_option maxRecDepth 200000 in
theorem gX5_did_X5_learn : GoodIn wsX5_did (wsV RX5 40 RX5 yX5_learn wsX5_learn) := goodIn_app (goodIn_r _ [2, 3, 4, 5] rfl rfl) ggX5_did_X5_learn
set_option maxRecDepth 200000 in
theorem ggX5_did_X5_keep : GoodIn wsX5_did wsX5_keep := goodIn_r _ [19, 20, 1, 7, 21, 22, 5, 23, 8, 24, 25, 26, 27, 28, 29, 30, 31, 32, 33, 34, 35, 36] rfl rfl
set_option maxRecDepth 200000 in
theorem gX5_did_X5_keep : GoodIn wsX5_did (wsV RX5 44 RX5 yX5_keep wsX5_keep) := goodIn_app (goodIn_r _ [16, 17, 18, 5] rfl rfl) ggX5_did_X5_keep
set_option maxRecDepth 200000 in
theorem ggX5_posts_X5_in : GoodIn wsX5_posts wsX5_in := goodIn_r _ [11] rfl rfl
set_option maxRecDepth 200000 in
theorem gX5_posts_X5_in : GoodIn wsX5_posts (va_wsS RX5 50 yX5_in wsX5_in) := goodIn_app (goodIn_r _ [8, 9, 10] rfl rfl) ggX5_posts_X5_in
set_option maxRecDepth 200000 in
theorem ggX5_posts_X5_learn : GoodIn wsX5_posts wsX5_learn := goodIn_r _ [15, 16, 17, 5, 18, 19, 20, 21, 22, 4, 31, 32, 33, 34, 35, 36, 37, 38, 39, 40, 41, 42, 43] rfl rfl
set_option maxRecDepth 200000 in
theorem gX5_posts_X5_learn : GoodIn wsX5_posts (wsV RX5 40 RX5 yX5_learn wsX5_learn) := goodIn_app (goodIn_r _ [12, 13, 14, 10] rfl rfl) ggX5_posts_X5_learn
set_option maxRecDepth 200000 in
theorem ggX5_posts_X5_keep : GoodIn wsX5_posts wsX5_keep := goodIn_r _ [26, 27, 6, 16, 28, 29, 10, 30, 17, 31, 32, 33, 34, 35, 36, 37, 38, 39, 40, 41, 42, 43] rfl rfl
set_option maxRecDepth 200000 in
theorem gX5_posts_X5_keep : GoodIn wsX5_posts (wsV RX5 44 RX5 yX5_keep wsX5_keep) := goodIn_app (goodIn_r _ [23, 24, 25, 10] rfl rfl) ggX5_posts_X5_keep
set_option maxRecDepth 200000 in
theorem ggX5_line_X5_noPost : GoodIn wsX5_line wsX5_noPost := goodIn_r _ [15, 16, 17, 18, 14, 19, 42, 43, 44, 45, 46, 47, 48, 49, 50, 51, 52, 53, 54] rfl rfl
set_option maxRecDepth 200000 in
theorem gX5_line_X5_noPost : GoodIn wsX5_line (wsV RX5 72 RX5 yX5_noPost wsX5_noPost) := goodIn_app (goodIn_r _ [11, 12, 13, 14] rfl rfl) ggX5_line_X5_noPost
set_option maxRecDepth 200000 in
theorem ggX5_line_X5_in : GoodIn wsX5_line wsX5_in := goodIn_r _ [19] rfl rfl
set_option maxRecDepth 200000 in
theorem gX5_line_X5_in : GoodIn wsX5_line (va_wsS RX5 50 yX5_in wsX5_in) := goodIn_app (goodIn_r _ [17, 18, 14] rfl rfl) ggX5_line_X5_in
set_option maxRecDepth 200000 in
theorem ggX5_line_X5_learn : GoodIn wsX5_line wsX5_learn := goodIn_r _ [23, 24, 25, 4, 10, 6, 7, 8, 9, 16, 42, 43, 44, 45, 46, 47, 48, 49, 50, 51, 52, 53, 54] rfl rfl
set_option maxRecDepth 200000 in
theorem gX5_line_X5_learn : GoodIn wsX5_line (wsV RX5 40 RX5 yX5_learn wsX5_learn) := goodIn_app (goodIn_r _ [20, 21, 22, 14] rfl rfl) ggX5_line_X5_learn
set_option maxRecDepth 200000 in
theorem ggX5_line_X5_farOf : GoodIn wsX5_line wsX5_farOf := goodIn_r _ [29, 24, 30, 31, 14, 32, 25, 42, 43, 44, 45, 46, 47, 48, 49, 50, 51, 52, 53, 54] rfl rfl
set_option maxRecDepth 200000 in
theorem gX5_line_X5_farOf : GoodIn wsX5_line (wsV RX5 80 RX5 yX5_farOf wsX5_farOf) := goodIn_app (goodIn_r _ [26, 27, 28, 14] rfl rfl) ggX5_line_X5_farOf
set_option maxRecDepth 200000 in
theorem ggX5_line_X5_did : GoodIn wsX5_line wsX5_did := goodIn_r _ [36, 5, 20, 21, 22, 14, 23, 24, 25, 4, 10, 6, 7, 8, 9, 16, 37, 38, 39, 40, 41, 30, 31, 32, 42, 43, 44, 45, 46, 47, 48, 49, 50, 51, 52, 53, 54] rfl rfl
set_option maxRecDepth 200000 in
theorem gX5_line_X5_did : GoodIn wsX5_line (wsV RX5 84 RX5 yX5_did wsX5_did) := goodIn_app (goodIn_r _ [33, 34, 35, 14] rfl rfl) ggX5_line_X5_did
set_option maxRecDepth 200000 in
theorem ggX5_price_X5_noLine : GoodIn wsX5_price wsX5_noLine := goodIn_r _ [11, 12, 13, 14, 10, 15, 38, 39, 40, 41, 42, 43, 44, 45, 46, 47, 48, 49, 50] rfl rfl
set_option maxRecDepth 200000 in
theorem gX5_price_X5_noLine : GoodIn wsX5_price (wsV RX5 87 RX5 yX5_noLine wsX5_noLine) := goodIn_app (goodIn_r _ [7, 8, 9, 10] rfl rfl) ggX5_price_X5_noLine
set_option maxRecDepth 200000 in
theorem ggX5_price_X5_in : GoodIn wsX5_price wsX5_in := goodIn_r _ [15] rfl rfl
set_option maxRecDepth 200000 in
theorem gX5_price_X5_in : GoodIn wsX5_price (va_wsS RX5 50 yX5_in wsX5_in) := goodIn_app (goodIn_r _ [13, 14, 10] rfl rfl) ggX5_price_X5_in
set_option maxRecDepth 200000 in
theorem ggX5_price_X5_learn : GoodIn wsX5_price wsX5_learn := goodIn_r _ [19, 20, 21, 12, 22, 23, 24, 5, 2, 25, 38, 39, 40, 41, 42, 43, 44, 45, 46, 47, 48, 49, 50] rfl rfl
set_option maxRecDepth 200000 in
theorem gX5_price_X5_learn : GoodIn wsX5_price (wsV RX5 40 RX5 yX5_learn wsX5_learn) := goodIn_app (goodIn_r _ [16, 17, 18, 10] rfl rfl) ggX5_price_X5_learn
set_option maxRecDepth 200000 in
theorem ggX5_price_X5_did : GoodIn wsX5_price wsX5_did := goodIn_r _ [29, 6, 16, 17, 18, 10, 19, 20, 21, 12, 22, 23, 24, 5, 2, 25, 30, 31, 32, 33, 34, 35, 36, 37, 38, 39, 40, 41, 42, 43, 44, 45, 46, 47, 48, 49, 50] rfl rfl
set_option maxRecDepth 200000 in
theorem gX5_price_X5_did : GoodIn wsX5_price (wsV RX5 84 RX5 yX5_did wsX5_did) := goodIn_app (goodIn_r _ [26, 27, 28, 10] rfl rfl) ggX5_price_X5_did
set_option maxRecDepth 200000 in
theorem ggX5_cut_X5_noLine : GoodIn wsX5_cut wsX5_noLine := goodIn_r _ [8, 9, 10, 11, 7, 12, 40, 41, 42, 43, 44, 45, 46, 47, 48, 49, 50, 51, 52] rfl rfl
set_option maxRecDepth 200000 in
theorem gX5_cut_X5_noLine : GoodIn wsX5_cut (wsV RX5 87 RX5 yX5_noLine wsX5_noLine) := goodIn_app (goodIn_r _ [4, 5, 6, 7] rfl rfl) ggX5_cut_X5_noLine
set_option maxRecDepth 200000 in
theorem ggX5_cut_X5_did : GoodIn wsX5_cut wsX5_did := goodIn_r _ [16, 3, 17, 18, 19, 7, 20, 21, 22, 9, 2, 23, 24, 25, 26, 27, 28, 29, 30, 31, 32, 33, 34, 35, 40, 41, 42, 43, 44, 45, 46, 47, 48, 49, 50, 51, 52] rfl rfl
set_option maxRecDepth 200000 in
theorem gX5_cut_X5_did : GoodIn wsX5_cut (wsV RX5 84 RX5 yX5_did wsX5_did) := goodIn_app (goodIn_r _ [13, 14, 15, 7] rfl rfl) ggX5_cut_X5_did
set_option maxRecDepth 200000 in
theorem ggX5_cut_X5_there : GoodIn wsX5_cut wsX5_there := goodIn_r _ [39, 9, 2, 40, 41, 42, 43, 44, 45, 46, 47, 48, 49, 50, 51, 52] rfl rfl
set_option maxRecDepth 200000 in
theorem gX5_cut_X5_there : GoodIn wsX5_cut (wsV RX5 90 RX5 yX5_there wsX5_there) := goodIn_app (goodIn_r _ [36, 37, 38, 7] rfl rfl) ggX5_cut_X5_there
set_option maxRecDepth 200000 in
theorem ggX5_back_X5_noLine : GoodIn wsX5_back wsX5_noLine := goodIn_r _ [8, 9, 10, 11, 7, 12, 40, 41, 42, 43, 44, 45, 46, 47, 48, 49, 50, 51, 52] rfl rfl
set_option maxRecDepth 200000 in
theorem gX5_back_X5_noLine : GoodIn wsX5_back (wsV RX5 87 RX5 yX5_noLine wsX5_noLine) := goodIn_app (goodIn_r _ [4, 5, 6, 7] rfl rfl) ggX5_back_X5_noLine
set_option maxRecDepth 200000 in
theorem ggX5_back_X5_learn : GoodIn wsX5_back wsX5_learn := goodIn_r _ [16, 17, 18, 9, 2, 19, 20, 21, 22, 23, 40, 41, 42, 43, 44, 45, 46, 47, 48, 49, 50, 51, 52] rfl rfl
set_option maxRecDepth 200000 in
theorem gX5_back_X5_learn : GoodIn wsX5_back (wsV RX5 40 RX5 yX5_learn wsX5_learn) := goodIn_app (goodIn_r _ [13, 14, 15, 7] rfl rfl) ggX5_back_X5_learn
set_option maxRecDepth 200000 in
theorem ggX5_back_X5_did : GoodIn wsX5_back wsX5_did := goodIn_r _ [27, 3, 13, 14, 15, 7, 16, 17, 18, 9, 2, 19, 20, 21, 22, 23, 28, 29, 30, 31, 32, 33, 34, 35, 40, 41, 42, 43, 44, 45, 46, 47, 48, 49, 50, 51, 52] rfl rfl
set_option maxRecDepth 200000 in
theorem gX5_back_X5_did : GoodIn wsX5_back (wsV RX5 84 RX5 yX5_did wsX5_did) := goodIn_app (goodIn_r _ [24, 25, 26, 7] rfl rfl) ggX5_back_X5_did
set_option maxRecDepth 200000 in
theorem ggX5_back_X5_there : GoodIn wsX5_back wsX5_there := goodIn_r _ [39, 9, 2, 40, 41, 42, 43, 44, 45, 46, 47, 48, 49, 50, 51, 52] rfl rfl
set_option maxRecDepth 200000 in
theorem gX5_back_X5_there : GoodIn wsX5_back (wsV RX5 90 RX5 yX5_there wsX5_there) := goodIn_app (goodIn_r _ [36, 37, 38, 7] rfl rfl) ggX5_back_X5_there
set_option maxRecDepth 200000 in
theorem ggX5_heightOf_X5_farOf : GoodIn wsX5_heightOf wsX5_farOf := goodIn_r _ [6, 7, 8, 9, 5, 10, 11, 12, 13, 14, 15, 16, 17, 18, 19, 20, 21, 22, 23, 24] rfl rfl
set_option maxRecDepth 200000 in
theorem gX5_heightOf_X5_farOf : GoodIn wsX5_heightOf (wsV RX5 80 RX5 yX5_farOf wsX5_farOf) := goodIn_app (goodIn_r _ [2, 3, 4, 5] rfl rfl) ggX5_heightOf_X5_farOf
set_option maxRecDepth 200000 in
theorem ggX5_told_X5_noLine : GoodIn wsX5_told wsX5_noLine := goodIn_r _ [11, 12, 13, 14, 10, 15, 34, 35, 36, 37, 38, 39, 40, 41, 42, 43, 44, 45, 46] rfl rfl
set_option maxRecDepth 200000 in
theorem gX5_told_X5_noLine : GoodIn wsX5_told (wsV RX5 87 RX5 yX5_noLine wsX5_noLine) := goodIn_app (goodIn_r _ [7, 8, 9, 10] rfl rfl) ggX5_told_X5_noLine
set_option maxRecDepth 200000 in
theorem ggX5_told_X5_learn : GoodIn wsX5_told wsX5_learn := goodIn_r _ [19, 20, 21, 12, 6, 2, 3, 4, 5, 22, 34, 35, 36, 37, 38, 39, 40, 41, 42, 43, 44, 45, 46] rfl rfl
set_option maxRecDepth 200000 in
theorem gX5_told_X5_learn : GoodIn wsX5_told (wsV RX5 40 RX5 yX5_learn wsX5_learn) := goodIn_app (goodIn_r _ [16, 17, 18, 10] rfl rfl) ggX5_told_X5_learn
set_option maxRecDepth 200000 in
theorem ggX5_told_X5_heightOf : GoodIn wsX5_told wsX5_heightOf := goodIn_r _ [26, 22, 27, 28, 29, 10, 30, 20, 31, 32, 33, 21, 34, 35, 36, 37, 38, 39, 40, 41, 42, 43, 44, 45, 46] rfl rfl
set_option maxRecDepth 200000 in
theorem gX5_told_X5_heightOf : GoodIn wsX5_told (wsV RX5 94 RX5 yX5_heightOf wsX5_heightOf) := goodIn_app (goodIn_r _ [23, 24, 25, 10] rfl rfl) ggX5_told_X5_heightOf
set_option maxRecDepth 200000 in
theorem ggX5_far_X5_noPost : GoodIn wsX5_far wsX5_noPost := goodIn_r _ [6, 7, 8, 9, 5, 10, 30, 31, 32, 33, 34, 35, 36, 37, 38, 39, 40, 41, 42] rfl rfl
set_option maxRecDepth 200000 in
theorem gX5_far_X5_noPost : GoodIn wsX5_far (wsV RX5 72 RX5 yX5_noPost wsX5_noPost) := goodIn_app (goodIn_r _ [2, 3, 4, 5] rfl rfl) ggX5_far_X5_noPost
set_option maxRecDepth 200000 in
theorem ggX5_far_X5_learn : GoodIn wsX5_far wsX5_learn := goodIn_r _ [14, 15, 16, 17, 18, 19, 20, 21, 22, 7, 30, 31, 32, 33, 34, 35, 36, 37, 38, 39, 40, 41, 42] rfl rfl
set_option maxRecDepth 200000 in
theorem gX5_far_X5_learn : GoodIn wsX5_far (wsV RX5 40 RX5 yX5_learn wsX5_learn) := goodIn_app (goodIn_r _ [11, 12, 13, 5] rfl rfl) ggX5_far_X5_learn
set_option maxRecDepth 200000 in
theorem ggX5_far_X5_farOf : GoodIn wsX5_far wsX5_farOf := goodIn_r _ [26, 15, 27, 28, 5, 29, 16, 30, 31, 32, 33, 34, 35, 36, 37, 38, 39, 40, 41, 42] rfl rfl
set_option maxRecDepth 200000 in
theorem gX5_far_X5_farOf : GoodIn wsX5_far (wsV RX5 80 RX5 yX5_farOf wsX5_farOf) := goodIn_app (goodIn_r _ [23, 24, 25, 5] rfl rfl) ggX5_far_X5_farOf
set_option maxRecDepth 200000 in
theorem ggX5_steps_X5_noPost : GoodIn wsX5_steps wsX5_noPost := goodIn_r _ [8, 9, 10, 11, 7, 12, 26, 27, 28, 29, 30, 31, 32, 33, 34, 35, 36, 37, 38] rfl rfl
set_option maxRecDepth 200000 in
theorem gX5_steps_X5_noPost : GoodIn wsX5_steps (wsV RX5 72 RX5 yX5_noPost wsX5_noPost) := goodIn_app (goodIn_r _ [4, 5, 6, 7] rfl rfl) ggX5_steps_X5_noPost
set_option maxRecDepth 200000 in
theorem ggX5_steps_X5_learn : GoodIn wsX5_steps wsX5_learn := goodIn_r _ [16, 2, 3, 17, 18, 19, 20, 21, 22, 9, 26, 27, 28, 29, 30, 31, 32, 33, 34, 35, 36, 37, 38] rfl rfl
set_option maxRecDepth 200000 in
theorem gX5_steps_X5_learn : GoodIn wsX5_steps (wsV RX5 40 RX5 yX5_learn wsX5_learn) := goodIn_app (goodIn_r _ [13, 14, 15, 7] rfl rfl) ggX5_steps_X5_learn
set_option maxRecDepth 200000 in
theorem ggX5_steps_X5_coarse : GoodIn wsX5_steps wsX5_coarse := goodIn_r _ [25, 3] rfl rfl
set_option maxRecDepth 200000 in
theorem gX5_steps_X5_coarse : GoodIn wsX5_steps (va_wsS RX5 58 yX5_coarse wsX5_coarse) := goodIn_app (goodIn_r _ [23, 24, 7] rfl rfl) ggX5_steps_X5_coarse
set_option maxRecDepth 200000 in
theorem ggX5_way_X5_noPost : GoodIn wsX5_way wsX5_noPost := goodIn_r _ [8, 9, 10, 11, 7, 12, 34, 35, 36, 37, 38, 39, 40, 41, 42, 43, 44, 45, 46] rfl rfl
set_option maxRecDepth 200000 in
theorem gX5_way_X5_noPost : GoodIn wsX5_way (wsV RX5 72 RX5 yX5_noPost wsX5_noPost) := goodIn_app (goodIn_r _ [4, 5, 6, 7] rfl rfl) ggX5_way_X5_noPost
set_option maxRecDepth 200000 in
theorem ggX5_way_X5_learn : GoodIn wsX5_way wsX5_learn := goodIn_r _ [16, 2, 3, 17, 18, 19, 20, 21, 22, 9, 34, 35, 36, 37, 38, 39, 40, 41, 42, 43, 44, 45, 46] rfl rfl
set_option maxRecDepth 200000 in
theorem gX5_way_X5_learn : GoodIn wsX5_way (wsV RX5 40 RX5 yX5_learn wsX5_learn) := goodIn_app (goodIn_r _ [13, 14, 15, 7] rfl rfl) ggX5_way_X5_learn
set_option maxRecDepth 200000 in
theorem ggX5_way_X5_coarse : GoodIn wsX5_way wsX5_coarse := goodIn_r _ [25, 3] rfl rfl
set_option maxRecDepth 200000 in
theorem gX5_way_X5_coarse : GoodIn wsX5_way (va_wsS RX5 58 yX5_coarse wsX5_coarse) := goodIn_app (goodIn_r _ [23, 24, 7] rfl rfl) ggX5_way_X5_coarse
set_option maxRecDepth 200000 in
theorem ggX5_way_X5_in : GoodIn wsX5_way wsX5_in := goodIn_r _ [12] rfl rfl
set_option maxRecDepth 200000 in
theorem gX5_way_X5_in : GoodIn wsX5_way (va_wsS RX5 50 yX5_in wsX5_in) := goodIn_app (goodIn_r _ [10, 11, 7] rfl rfl) ggX5_way_X5_in
set_option maxRecDepth 200000 in
theorem ggX5_way_X5_nextOf : GoodIn wsX5_way wsX5_nextOf := goodIn_r _ [29, 17, 19, 20, 22, 18, 2, 3, 21, 34, 35, 36, 37, 38, 39, 40, 41, 42, 43, 44, 45, 46] rfl rfl
set_option maxRecDepth 200000 in
theorem gX5_way_X5_nextOf : GoodIn wsX5_way (wsV RX5 97 RX5 yX5_nextOf wsX5_nextOf) := goodIn_app (goodIn_r _ [26, 27, 28, 7] rfl rfl) ggX5_way_X5_nextOf
set_option maxRecDepth 200000 in
theorem ggX5_way_X5_other : GoodIn wsX5_way wsX5_other := goodIn_r _ [33, 19, 20, 34, 35, 36, 37, 38, 39, 40, 41, 42, 43, 44, 45, 46] rfl rfl
set_option maxRecDepth 200000 in
theorem gX5_way_X5_other : GoodIn wsX5_way (wsV RX5 100 RX5 yX5_other wsX5_other) := goodIn_app (goodIn_r _ [30, 31, 32, 7] rfl rfl) ggX5_way_X5_other
set_option maxRecDepth 200000 in
theorem ggX5_without_X5_noPost : GoodIn wsX5_without wsX5_noPost := goodIn_r _ [6, 7, 8, 9, 5, 10, 34, 35, 36, 37, 38, 39, 40, 41, 42, 43, 44, 45, 46] rfl rfl
set_option maxRecDepth 200000 in
theorem gX5_without_X5_noPost : GoodIn wsX5_without (wsV RX5 72 RX5 yX5_noPost wsX5_noPost) := goodIn_app (goodIn_r _ [2, 3, 4, 5] rfl rfl) ggX5_without_X5_noPost
set_option maxRecDepth 200000 in
theorem ggX5_without_X5_noLine : GoodIn wsX5_without wsX5_noLine := goodIn_r _ [14, 15, 8, 9, 5, 10, 34, 35, 36, 37, 38, 39, 40, 41, 42, 43, 44, 45, 46] rfl rfl
set_option maxRecDepth 200000 in
theorem gX5_without_X5_noLine : GoodIn wsX5_without (wsV RX5 87 RX5 yX5_noLine wsX5_noLine) := goodIn_app (goodIn_r _ [11, 12, 13, 5] rfl rfl) ggX5_without_X5_noLine
set_option maxRecDepth 200000 in
theorem ggX5_without_X5_learn : GoodIn wsX5_without wsX5_learn := goodIn_r _ [19, 20, 21, 15, 22, 23, 24, 25, 26, 7, 34, 35, 36, 37, 38, 39, 40, 41, 42, 43, 44, 45, 46] rfl rfl
set_option maxRecDepth 200000 in
theorem gX5_without_X5_learn : GoodIn wsX5_without (wsV RX5 40 RX5 yX5_learn wsX5_learn) := goodIn_app (goodIn_r _ [16, 17, 18, 5] rfl rfl) ggX5_without_X5_learn
set_option maxRecDepth 200000 in
theorem ggX5_without_X5_farOf : GoodIn wsX5_without wsX5_farOf := goodIn_r _ [30, 20, 31, 32, 5, 33, 21, 34, 35, 36, 37, 38, 39, 40, 41, 42, 43, 44, 45, 46] rfl rfl
set_option maxRecDepth 200000 in
theorem gX5_without_X5_farOf : GoodIn wsX5_without (wsV RX5 80 RX5 yX5_farOf wsX5_farOf) := goodIn_app (goodIn_r _ [27, 28, 29, 5] rfl rfl) ggX5_without_X5_farOf
set_option maxRecDepth 200000 in
theorem ggX5_vital_X5_noPost : GoodIn wsX5_vital wsX5_noPost := goodIn_r _ [7, 8, 9, 10, 6, 11, 30, 31, 32, 33, 34, 35, 36, 37, 38, 39, 40, 41, 42] rfl rfl
set_option maxRecDepth 200000 in
theorem gX5_vital_X5_noPost : GoodIn wsX5_vital (wsV RX5 72 RX5 yX5_noPost wsX5_noPost) := goodIn_app (goodIn_r _ [3, 4, 5, 6] rfl rfl) ggX5_vital_X5_noPost
set_option maxRecDepth 200000 in
theorem ggX5_vital_X5_learn : GoodIn wsX5_vital wsX5_learn := goodIn_r _ [15, 16, 17, 2, 18, 19, 20, 21, 22, 8, 30, 31, 32, 33, 34, 35, 36, 37, 38, 39, 40, 41, 42] rfl rfl
set_option maxRecDepth 200000 in
theorem gX5_vital_X5_learn : GoodIn wsX5_vital (wsV RX5 40 RX5 yX5_learn wsX5_learn) := goodIn_app (goodIn_r _ [12, 13, 14, 6] rfl rfl) ggX5_vital_X5_learn
set_option maxRecDepth 200000 in
theorem ggX5_vital_X5_farOf : GoodIn wsX5_vital wsX5_farOf := goodIn_r _ [26, 16, 27, 28, 6, 29, 17, 30, 31, 32, 33, 34, 35, 36, 37, 38, 39, 40, 41, 42] rfl rfl
set_option maxRecDepth 200000 in
theorem gX5_vital_X5_farOf : GoodIn wsX5_vital (wsV RX5 80 RX5 yX5_farOf wsX5_farOf) := goodIn_app (goodIn_r _ [23, 24, 25, 6] rfl rfl) ggX5_vital_X5_farOf
set_option maxRecDepth 200000 in
theorem ggX5_about_X5_noPost : GoodIn wsX5_about wsX5_noPost := goodIn_r _ [6, 7, 8, 9, 5, 10, 30, 31, 32, 33, 34, 35, 36, 37, 38, 39, 40, 41, 42] rfl rfl
set_option maxRecDepth 200000 in
theorem gX5_about_X5_noPost : GoodIn wsX5_about (wsV RX5 72 RX5 yX5_noPost wsX5_noPost) := goodIn_app (goodIn_r _ [2, 3, 4, 5] rfl rfl) ggX5_about_X5_noPost
set_option maxRecDepth 200000 in
theorem ggX5_about_X5_learn : GoodIn wsX5_about wsX5_learn := goodIn_r _ [14, 15, 16, 17, 18, 19, 20, 21, 22, 7, 30, 31, 32, 33, 34, 35, 36, 37, 38, 39, 40, 41, 42] rfl rfl
set_option maxRecDepth 200000 in
theorem gX5_about_X5_learn : GoodIn wsX5_about (wsV RX5 40 RX5 yX5_learn wsX5_learn) := goodIn_app (goodIn_r _ [11, 12, 13, 5] rfl rfl) ggX5_about_X5_learn
set_option maxRecDepth 200000 in
theorem ggX5_about_X5_farOf : GoodIn wsX5_about wsX5_farOf := goodIn_r _ [26, 15, 27, 28, 5, 29, 16, 30, 31, 32, 33, 34, 35, 36, 37, 38, 39, 40, 41, 42] rfl rfl
set_option maxRecDepth 200000 in
theorem gX5_about_X5_farOf : GoodIn wsX5_about (wsV RX5 80 RX5 yX5_farOf wsX5_farOf) := goodIn_app (goodIn_r _ [23, 24, 25, 5] rfl rfl) ggX5_about_X5_farOf
set_option maxRecDepth 200000 in
theorem ggX5_ring_X5_learn : GoodIn wsX5_ring wsX5_learn := goodIn_r _ [12, 13, 14, 2, 6, 5, 4, 7, 3, 15, 23, 24, 25, 26, 27, 28, 29, 30, 31, 32, 33, 34, 35] rfl rfl
set_option maxRecDepth 200000 in
theorem gX5_ring_X5_learn : GoodIn wsX5_ring (wsV RX5 40 RX5 yX5_learn wsX5_learn) := goodIn_app (goodIn_r _ [8, 9, 10, 11] rfl rfl) ggX5_ring_X5_learn
set_option maxRecDepth 200000 in
theorem ggX5_ring_X5_farOf : GoodIn wsX5_ring wsX5_farOf := goodIn_r _ [19, 13, 20, 21, 11, 22, 14, 23, 24, 25, 26, 27, 28, 29, 30, 31, 32, 33, 34, 35] rfl rfl
set_option maxRecDepth 200000 in
theorem gX5_ring_X5_farOf : GoodIn wsX5_ring (wsV RX5 80 RX5 yX5_farOf wsX5_farOf) := goodIn_app (goodIn_r _ [16, 17, 18, 11] rfl rfl) ggX5_ring_X5_farOf
set_option maxRecDepth 200000 in
theorem ggX5_height_X5_noPost : GoodIn wsX5_height wsX5_noPost := goodIn_r _ [6, 7, 8, 9, 5, 10, 34, 35, 36, 37, 38, 39, 40, 41, 42, 43, 44, 45, 46] rfl rfl
set_option maxRecDepth 200000 in
theorem gX5_height_X5_noPost : GoodIn wsX5_height (wsV RX5 72 RX5 yX5_noPost wsX5_noPost) := goodIn_app (goodIn_r _ [2, 3, 4, 5] rfl rfl) ggX5_height_X5_noPost
set_option maxRecDepth 200000 in
theorem ggX5_height_X5_learn : GoodIn wsX5_height wsX5_learn := goodIn_r _ [14, 15, 16, 17, 18, 19, 20, 21, 22, 7, 34, 35, 36, 37, 38, 39, 40, 41, 42, 43, 44, 45, 46] rfl rfl
set_option maxRecDepth 200000 in
theorem gX5_height_X5_learn : GoodIn wsX5_height (wsV RX5 40 RX5 yX5_learn wsX5_learn) := goodIn_app (goodIn_r _ [11, 12, 13, 5] rfl rfl) ggX5_height_X5_learn
set_option maxRecDepth 200000 in
theorem ggX5_height_X5_heightOf : GoodIn wsX5_height wsX5_heightOf := goodIn_r _ [26, 7, 27, 28, 29, 5, 30, 15, 31, 32, 33, 16, 34, 35, 36, 37, 38, 39, 40, 41, 42, 43, 44, 45, 46] rfl rfl
set_option maxRecDepth 200000 in
theorem gX5_height_X5_heightOf : GoodIn wsX5_height (wsV RX5 94 RX5 yX5_heightOf wsX5_heightOf) := goodIn_app (goodIn_r _ [23, 24, 25, 5] rfl rfl) ggX5_height_X5_heightOf
set_option maxRecDepth 200000 in
theorem ggX5_moved_X5_in : GoodIn wsX5_moved wsX5_in := goodIn_r _ [6] rfl rfl
set_option maxRecDepth 200000 in
theorem gX5_moved_X5_in : GoodIn wsX5_moved (va_wsS RX5 50 yX5_in wsX5_in) := goodIn_app (goodIn_r _ [3, 4, 5] rfl rfl) ggX5_moved_X5_in
set_option maxRecDepth 200000 in
theorem ggX5_moved_X5_isMoved : GoodIn wsX5_moved wsX5_isMoved := goodIn_r _ [10, 11, 12, 13, 14, 15, 16, 17, 18, 19, 20, 21, 22, 23, 24, 25] rfl rfl
set_option maxRecDepth 200000 in
theorem gX5_moved_X5_isMoved : GoodIn wsX5_moved (wsV RX5 103 RX5 yX5_isMoved wsX5_isMoved) := goodIn_app (goodIn_r _ [7, 8, 9, 5] rfl rfl) ggX5_moved_X5_isMoved
set_option maxRecDepth 200000 in
theorem ggX5_pair_X5_in : GoodIn wsX5_pair wsX5_in := goodIn_r _ [6] rfl rfl
set_option maxRecDepth 200000 in
theorem gX5_pair_X5_in : GoodIn wsX5_pair (va_wsS RX5 50 yX5_in wsX5_in) := goodIn_app (goodIn_r _ [3, 4, 5] rfl rfl) ggX5_pair_X5_in
set_option maxRecDepth 200000 in
theorem ggX5_pair_X5_isMoved : GoodIn wsX5_pair wsX5_isMoved := goodIn_r _ [10, 11, 12, 13, 14, 15, 16, 17, 18, 19, 20, 21, 22, 23, 24, 25] rfl rfl
set_option maxRecDepth 200000 in
theorem gX5_pair_X5_isMoved : GoodIn wsX5_pair (wsV RX5 103 RX5 yX5_isMoved wsX5_isMoved) := goodIn_app (goodIn_r _ [7, 8, 9, 5] rfl rfl) ggX5_pair_X5_isMoved
set_option maxRecDepth 200000 in
theorem ggX5_then_X5_noPost : GoodIn wsX5_then wsX5_noPost := goodIn_r _ [8, 9, 10, 11, 7, 12, 13, 14, 15, 16, 17, 18, 19, 20, 21, 22, 23, 24, 25] rfl rfl
set_option maxRecDepth 200000 in
theorem gX5_then_X5_noPost : GoodIn wsX5_then (wsV RX5 72 RX5 yX5_noPost wsX5_noPost) := goodIn_app (goodIn_r _ [4, 5, 6, 7] rfl rfl) ggX5_then_X5_noPost
set_option maxRecDepth 200000 in
theorem ggX5_then_X5_in : GoodIn wsX5_then wsX5_in := goodIn_r _ [12] rfl rfl
set_option maxRecDepth 200000 in
theorem gX5_then_X5_in : GoodIn wsX5_then (va_wsS RX5 50 yX5_in wsX5_in) := goodIn_app (goodIn_r _ [10, 11, 7] rfl rfl) ggX5_then_X5_in
set_option maxRecDepth 200000 in
theorem ggX5_since_X5_noPost : GoodIn wsX5_since wsX5_noPost := goodIn_r _ [10, 11, 12, 13, 9, 14, 15, 16, 17, 18, 19, 20, 21, 22, 23, 24, 25, 26, 27] rfl rfl
set_option maxRecDepth 200000 in
theorem gX5_since_X5_noPost : GoodIn wsX5_since (wsV RX5 72 RX5 yX5_noPost wsX5_noPost) := goodIn_app (goodIn_r _ [6, 7, 8, 9] rfl rfl) ggX5_since_X5_noPost
set_option maxRecDepth 200000 in
theorem ggX5_since_X5_in : GoodIn wsX5_since wsX5_in := goodIn_r _ [14] rfl rfl
set_option maxRecDepth 200000 in
theorem gX5_since_X5_in : GoodIn wsX5_since (va_wsS RX5 50 yX5_in wsX5_in) := goodIn_app (goodIn_r _ [12, 13, 9] rfl rfl) ggX5_since_X5_in
set_option maxRecDepth 200000 in
theorem ggX5_nearOf_X5_farOf : GoodIn wsX5_nearOf wsX5_farOf := goodIn_r _ [7, 8, 9, 10, 6, 11, 12, 13, 14, 15, 16, 17, 18, 19, 20, 21, 22, 23, 24, 25] rfl rfl
set_option maxRecDepth 200000 in
theorem gX5_nearOf_X5_farOf : GoodIn wsX5_nearOf (wsV RX5 80 RX5 yX5_farOf wsX5_farOf) := goodIn_app (goodIn_r _ [3, 4, 5, 6] rfl rfl) ggX5_nearOf_X5_farOf
set_option maxRecDepth 200000 in
theorem ggX5_near_X5_noPost : GoodIn wsX5_near wsX5_noPost := goodIn_r _ [6, 7, 8, 9, 5, 10, 35, 36, 37, 38, 39, 40, 41, 42, 43, 44, 45, 46, 47] rfl rfl
set_option maxRecDepth 200000 in
theorem gX5_near_X5_noPost : GoodIn wsX5_near (wsV RX5 72 RX5 yX5_noPost wsX5_noPost) := goodIn_app (goodIn_r _ [2, 3, 4, 5] rfl rfl) ggX5_near_X5_noPost
set_option maxRecDepth 200000 in
theorem ggX5_near_X5_learn : GoodIn wsX5_near wsX5_learn := goodIn_r _ [14, 15, 16, 17, 18, 19, 20, 21, 22, 7, 35, 36, 37, 38, 39, 40, 41, 42, 43, 44, 45, 46, 47] rfl rfl
set_option maxRecDepth 200000 in
theorem gX5_near_X5_learn : GoodIn wsX5_near (wsV RX5 40 RX5 yX5_learn wsX5_learn) := goodIn_app (goodIn_r _ [11, 12, 13, 5] rfl rfl) ggX5_near_X5_learn
set_option maxRecDepth 200000 in
theorem ggX5_near_X5_nearOf : GoodIn wsX5_near wsX5_nearOf := goodIn_r _ [26, 7, 27, 28, 29, 30, 5, 31, 15, 32, 33, 34, 16, 35, 36, 37, 38, 39, 40, 41, 42, 43, 44, 45, 46, 47] rfl rfl
set_option maxRecDepth 200000 in
theorem gX5_near_X5_nearOf : GoodIn wsX5_near (wsV RX5 110 RX5 yX5_nearOf wsX5_nearOf) := goodIn_app (goodIn_r _ [23, 24, 25, 5] rfl rfl) ggX5_near_X5_nearOf
set_option maxRecDepth 200000 in
theorem ggX5_worst_X5_learn : GoodIn wsX5_worst wsX5_learn := goodIn_r _ [7, 8, 9, 10, 11, 12, 13, 14, 15, 2, 28, 29, 30, 31, 32, 33, 34, 35, 36, 37, 38, 39, 40] rfl rfl
set_option maxRecDepth 200000 in
theorem gX5_worst_X5_learn : GoodIn wsX5_worst (wsV RX5 40 RX5 yX5_learn wsX5_learn) := goodIn_app (goodIn_r _ [3, 4, 5, 6] rfl rfl) ggX5_worst_X5_learn
set_option maxRecDepth 200000 in
theorem ggX5_worst_X5_farOf : GoodIn wsX5_worst wsX5_farOf := goodIn_r _ [19, 8, 20, 21, 6, 22, 9, 28, 29, 30, 31, 32, 33, 34, 35, 36, 37, 38, 39, 40] rfl rfl
set_option maxRecDepth 200000 in
theorem gX5_worst_X5_farOf : GoodIn wsX5_worst (wsV RX5 80 RX5 yX5_farOf wsX5_farOf) := goodIn_app (goodIn_r _ [16, 17, 18, 6] rfl rfl) ggX5_worst_X5_farOf
set_option maxRecDepth 200000 in
theorem ggX5_worst_X5_nearOf : GoodIn wsX5_worst wsX5_nearOf := goodIn_r _ [26, 2, 27, 16, 17, 18, 6, 19, 8, 20, 21, 22, 9, 28, 29, 30, 31, 32, 33, 34, 35, 36, 37, 38, 39, 40] rfl rfl
set_option maxRecDepth 200000 in
theorem gX5_worst_X5_nearOf : GoodIn wsX5_worst (wsV RX5 110 RX5 yX5_nearOf wsX5_nearOf) := goodIn_app (goodIn_r _ [23, 24, 25, 6] rfl rfl) ggX5_worst_X5_nearOf
set_option maxRecDepth 200000 in
theorem ggX5_hits_X5_in : GoodIn wsX5_hits wsX5_in := goodIn_r _ [10] rfl rfl
set_option maxRecDepth 200000 in
theorem gX5_hits_X5_in : GoodIn wsX5_hits (va_wsS RX5 50 yX5_in wsX5_in) := goodIn_app (goodIn_r _ [7, 8, 9] rfl rfl) ggX5_hits_X5_in
set_option maxRecDepth 200000 in
theorem ggX5_hits_X5_learn : GoodIn wsX5_hits wsX5_learn := goodIn_r _ [14, 4, 5, 15, 16, 17, 18, 19, 20, 3, 35, 36, 37, 38, 39, 40, 41, 42, 43, 44, 45, 46, 47] rfl rfl
set_option maxRecDepth 200000 in
theorem gX5_hits_X5_learn : GoodIn wsX5_hits (wsV RX5 40 RX5 yX5_learn wsX5_learn) := goodIn_app (goodIn_r _ [11, 12, 13, 9] rfl rfl) ggX5_hits_X5_learn
set_option maxRecDepth 200000 in
theorem ggX5_hits_X5_coarse : GoodIn wsX5_hits wsX5_coarse := goodIn_r _ [23, 5] rfl rfl
set_option maxRecDepth 200000 in
theorem gX5_hits_X5_coarse : GoodIn wsX5_hits (va_wsS RX5 58 yX5_coarse wsX5_coarse) := goodIn_app (goodIn_r _ [21, 22, 9] rfl rfl) ggX5_hits_X5_coarse
set_option maxRecDepth 200000 in
theorem ggX5_hits_X5_nextOf : GoodIn wsX5_hits wsX5_nextOf := goodIn_r _ [27, 15, 17, 18, 20, 16, 4, 5, 19, 35, 36, 37, 38, 39, 40, 41, 42, 43, 44, 45, 46, 47] rfl rfl
set_option maxRecDepth 200000 in
theorem gX5_hits_X5_nextOf : GoodIn wsX5_hits (wsV RX5 97 RX5 yX5_nextOf wsX5_nextOf) := goodIn_app (goodIn_r _ [24, 25, 26, 9] rfl rfl) ggX5_hits_X5_nextOf
set_option maxRecDepth 200000 in
theorem ggX5_hits_X5_other : GoodIn wsX5_hits wsX5_other := goodIn_r _ [31, 17, 18, 35, 36, 37, 38, 39, 40, 41, 42, 43, 44, 45, 46, 47] rfl rfl
set_option maxRecDepth 200000 in
theorem gX5_hits_X5_other : GoodIn wsX5_hits (wsV RX5 100 RX5 yX5_other wsX5_other) := goodIn_app (goodIn_r _ [28, 29, 30, 9] rfl rfl) ggX5_hits_X5_other
set_option maxRecDepth 200000 in
theorem ggX5_hits_X5_bits : GoodIn wsX5_hits wsX5_bits := goodIn_r _ [34] rfl rfl
set_option maxRecDepth 200000 in
theorem gX5_hits_X5_bits : GoodIn wsX5_hits (va_wsS RX5 115 yX5_bits wsX5_bits) := goodIn_app (goodIn_r _ [32, 33, 9] rfl rfl) ggX5_hits_X5_bits
set_option maxRecDepth 200000 in
theorem ggX5_count_X5_learn : GoodIn wsX5_count wsX5_learn := goodIn_r _ [9, 10, 11, 3, 12, 13, 14, 15, 16, 2, 31, 32, 33, 34, 35, 36, 37, 38, 39, 40, 41, 42, 43] rfl rfl
set_option maxRecDepth 200000 in
theorem gX5_count_X5_learn : GoodIn wsX5_count (wsV RX5 40 RX5 yX5_learn wsX5_learn) := goodIn_app (goodIn_r _ [5, 6, 7, 8] rfl rfl) ggX5_count_X5_learn
set_option maxRecDepth 200000 in
theorem ggX5_count_X5_farOf : GoodIn wsX5_count wsX5_farOf := goodIn_r _ [20, 10, 21, 22, 8, 23, 11, 31, 32, 33, 34, 35, 36, 37, 38, 39, 40, 41, 42, 43] rfl rfl
set_option maxRecDepth 200000 in
theorem gX5_count_X5_farOf : GoodIn wsX5_count (wsV RX5 80 RX5 yX5_farOf wsX5_farOf) := goodIn_app (goodIn_r _ [17, 18, 19, 8] rfl rfl) ggX5_count_X5_farOf
set_option maxRecDepth 200000 in
theorem ggX5_count_X5_there : GoodIn wsX5_count wsX5_there := goodIn_r _ [27, 3, 12, 31, 32, 33, 34, 35, 36, 37, 38, 39, 40, 41, 42, 43] rfl rfl
set_option maxRecDepth 200000 in
theorem gX5_count_X5_there : GoodIn wsX5_count (wsV RX5 90 RX5 yX5_there wsX5_there) := goodIn_app (goodIn_r _ [24, 25, 26, 8] rfl rfl) ggX5_count_X5_there
set_option maxRecDepth 200000 in
theorem ggX5_count_X5_bits : GoodIn wsX5_count wsX5_bits := goodIn_r _ [30] rfl rfl
set_option maxRecDepth 200000 in
theorem gX5_count_X5_bits : GoodIn wsX5_count (va_wsS RX5 115 yX5_bits wsX5_bits) := goodIn_app (goodIn_r _ [28, 29, 8] rfl rfl) ggX5_count_X5_bits
set_option maxRecDepth 200000 in
theorem ggL_law_X4_init : GoodIn wsL_law wsX4_init := goodIn_r _ [8, 9, 10, 11, 12, 13, 14, 15, 16, 17, 18, 19, 20, 21, 22, 23, 24, 25, 26, 27, 28, 29, 30, 31, 32, 33, 34, 35, 36, 37, 38, 39, 40, 41, 42, 43, 44, 45, 46, 47, 48, 49, 50, 51, 52, 53, 54, 55, 2, 56, 57, 58, 59, 60, 61, 62, 63, 64, 65, 66, 67, 68, 69, 70, 71, 72, 73, 74, 75, 76, 77, 78, 79, 80, 81, 82, 83, 84, 85, 86, 87, 88, 89, 90, 91, 92, 93, 94, 95, 96, 97, 98, 99, 100, 101, 102, 103, 104, 105, 106, 107, 108, 109, 110, 111, 112, 113, 114, 115, 116, 117, 118, 119, 120, 121, 122, 123, 124, 125, 126, 127, 128, 129, 130, 131, 132, 133, 134, 135, 136, 137, 138, 139, 140, 141, 142, 143, 144, 145, 146, 607, 608, 609, 610, 611, 612, 613, 589, 590, 591, 592, 593, 614, 615, 616, 617, 618, 619, 620] rfl rfl
set_option maxRecDepth 200000 in
theorem gL_law_X4_init : GoodIn wsL_law (wsX4_init) := ggL_law_X4_init
set_option maxRecDepth 200000 in
theorem ggL_law_X5_init : GoodIn wsL_law wsX5_init := goodIn_r _ [149, 150, 10, 11, 151, 31, 152, 153, 154, 35, 155, 156, 157, 158, 159, 160, 161, 162, 163, 5, 164, 165, 166, 167, 168, 169, 170, 171, 172, 173, 174, 594, 595, 596, 597, 598, 599, 600, 601, 602, 603, 604, 605, 606] rfl rfl
set_option maxRecDepth 200000 in
theorem gL_law_X5_init : GoodIn wsL_law (wsX5_init) := ggL_law_X5_init
set_option maxRecDepth 200000 in
theorem ggL_law_X4_posts : GoodIn wsL_law wsX4_posts := goodIn_r _ [178, 15, 53, 54, 55, 2, 56, 23, 57, 58, 59, 60, 14, 61, 62, 63, 64, 65, 66, 22, 67, 68, 69, 70, 71, 72, 19, 73, 74, 75, 18, 76, 42, 77, 44, 43, 78, 79, 80, 81, 82, 83, 84, 85, 86, 87, 88, 89, 90, 91, 92, 93, 32, 33, 94, 95, 96, 97, 98, 99, 100, 101, 102, 103, 104, 105, 106, 107, 108, 109, 110, 111, 48, 112, 113, 114, 115, 116, 117, 118, 119, 120, 121, 122, 123, 124, 125, 126, 127, 128, 129, 130, 131, 132, 133, 31, 134, 135, 136, 137, 138, 139, 140, 141, 142, 143, 144, 145, 146, 589, 590, 591, 592, 593, 607, 608, 609, 610, 611, 612, 613, 617, 618, 614, 615, 616] rfl rfl
set_option maxRecDepth 200000 in
theorem gL_law_X4_posts : GoodIn wsL_law (wsV RL 13 RX4 yX4_posts wsX4_posts) := goodIn_app (goodIn_r _ [175, 176, 177, 2] rfl rfl) ggL_law_X4_posts
set_option maxRecDepth 200000 in
theorem ggL_law_X5_posts : GoodIn wsL_law wsX5_posts := goodIn_r _ [182, 183, 184, 185, 151, 166, 171, 186, 187, 188, 5, 189, 161, 162, 163, 164, 157, 165, 156, 152, 153, 154, 155, 167, 168, 169, 170, 159, 172, 173, 174, 594, 595, 596, 597, 598, 599, 600, 601, 602, 603, 604, 605, 606] rfl rfl
set_option maxRecDepth 200000 in
theorem gL_law_X5_posts : GoodIn wsL_law (wsV RL 17 RX5 yX5_posts wsX5_posts) := goodIn_app (goodIn_r _ [179, 180, 181, 5] rfl rfl) ggL_law_X5_posts
set_option maxRecDepth 200000 in
theorem ggL_law_X4_line : GoodIn wsL_law wsX4_line := goodIn_r _ [193, 15, 19, 23, 194, 195, 196, 14, 197, 198, 199, 200, 201, 62, 202, 203, 2, 204, 205, 206, 207, 18, 208, 209, 210, 211, 212, 43, 86, 87, 88, 89, 77, 44, 82, 83, 84, 85, 90, 91, 92, 93, 32, 33, 94, 95, 96, 97, 98, 99, 100, 101, 102, 103, 104, 105, 140, 141, 142, 143, 144, 145, 146, 213, 214, 215, 216, 113, 114, 22, 115, 68, 217, 218, 219, 220, 63, 34, 36, 37, 69, 70, 71, 72, 73, 74, 75, 76, 42, 78, 79, 80, 81, 106, 107, 108, 109, 110, 111, 48, 112, 116, 117, 118, 119, 120, 121, 122, 123, 124, 125, 126, 127, 128, 129, 130, 131, 132, 133, 31, 134, 135, 136, 137, 138, 139, 589, 590, 591, 592, 593, 607, 608, 609, 610, 611, 612, 613, 614, 615, 616, 617, 618] rfl rfl
set_option maxRecDepth 200000 in
theorem gL_law_X4_line : GoodIn wsL_law (wsV RL 18 RX4 yX4_line wsX4_line) := goodIn_app (goodIn_r _ [190, 191, 192, 2] rfl rfl) ggL_law_X4_line
set_option maxRecDepth 200000 in
theorem ggL_law_X5_line : GoodIn wsL_law wsX5_line := goodIn_r _ [224, 183, 225, 226, 166, 171, 152, 153, 154, 155, 156, 227, 228, 229, 5, 230, 151, 187, 188, 189, 161, 162, 163, 164, 157, 165, 231, 232, 233, 234, 172, 173, 174, 235, 236, 237, 238, 167, 168, 169, 170, 159, 594, 595, 596, 597, 598, 599, 600, 601, 602, 603, 604, 605, 606] rfl rfl
set_option maxRecDepth 200000 in
theorem gL_law_X5_line : GoodIn wsL_law (wsV RL 22 RX5 yX5_line wsX5_line) := goodIn_app (goodIn_r _ [221, 222, 223, 5] rfl rfl) ggL_law_X5_line
set_option maxRecDepth 200000 in
theorem ggL_law_X4_price : GoodIn wsL_law wsX4_price := goodIn_r _ [242, 15, 23, 243, 244, 245, 14, 246, 63, 202, 203, 2, 204, 247, 248, 249, 250, 19, 205, 206, 207, 18, 208, 209, 210, 211, 212, 43, 86, 87, 88, 89, 77, 44, 82, 83, 84, 85, 90, 91, 92, 93, 32, 33, 94, 95, 96, 97, 98, 99, 100, 101, 102, 103, 104, 105, 140, 141, 142, 143, 144, 145, 146, 213, 214, 215, 216, 113, 114, 22, 115, 68, 69, 70, 71, 72, 73, 74, 75, 76, 42, 78, 79, 80, 81, 106, 107, 108, 109, 110, 111, 48, 112, 116, 117, 118, 119, 120, 121, 122, 123, 124, 125, 126, 127, 128, 129, 130, 131, 132, 133, 31, 134, 135, 136, 137, 138, 139, 589, 590, 591, 592, 593, 607, 608, 609, 610, 611, 612, 613, 614, 615, 616, 617, 618] rfl rfl
set_option maxRecDepth 200000 in
theorem gL_law_X4_price : GoodIn wsL_law (wsV RL 23 RX4 yX4_price wsX4_price) := goodIn_app (goodIn_r _ [239, 240, 241, 2] rfl rfl) ggL_law_X4_price
set_option maxRecDepth 200000 in
theorem ggL_law_X5_price : GoodIn wsL_law wsX5_price := goodIn_r _ [254, 183, 155, 225, 226, 154, 171, 255, 256, 257, 5, 258, 166, 187, 188, 189, 161, 162, 163, 164, 157, 165, 156, 152, 153, 151, 235, 236, 237, 238, 167, 168, 169, 170, 159, 172, 173, 174, 594, 595, 596, 597, 598, 599, 600, 601, 602, 603, 604, 605, 606] rfl rfl
set_option maxRecDepth 200000 in
theorem gL_law_X5_price : GoodIn wsL_law (wsV RL 27 RX5 yX5_price wsX5_price) := goodIn_app (goodIn_r _ [251, 252, 253, 5] rfl rfl) ggL_law_X5_price
set_option maxRecDepth 200000 in
theorem ggL_law_X4_cut : GoodIn wsL_law wsX4_cut := goodIn_r _ [262, 15, 23, 243, 244, 245, 14, 246, 63, 216, 113, 114, 22, 115, 68, 69, 70, 71, 2, 72, 19, 73, 74, 75, 18, 76, 42, 77, 44, 43, 78, 79, 80, 81, 82, 83, 84, 85, 86, 87, 88, 89, 90, 91, 92, 93, 32, 33, 94, 95, 96, 97, 98, 99, 100, 101, 102, 103, 104, 105, 106, 107, 108, 109, 110, 111, 48, 112, 116, 117, 118, 119, 120, 121, 122, 123, 124, 125, 126, 127, 128, 129, 130, 131, 132, 133, 31, 134, 135, 136, 137, 138, 139, 140, 141, 142, 143, 144, 145, 146, 263, 264, 265, 266, 37, 589, 590, 591, 592, 593, 607, 608, 609, 610, 611, 612, 613, 617, 618, 614, 615, 616] rfl rfl
set_option maxRecDepth 200000 in
theorem gL_law_X4_cut : GoodIn wsL_law (wsV RL 28 RX4 yX4_cut wsX4_cut) := goodIn_app (goodIn_r _ [259, 260, 261, 2] rfl rfl) ggL_law_X4_cut
set_option maxRecDepth 200000 in
theorem ggL_law_X5_cut : GoodIn wsL_law wsX5_cut := goodIn_r _ [270, 183, 156, 171, 255, 256, 257, 5, 258, 166, 187, 188, 189, 235, 236, 237, 238, 161, 162, 163, 164, 157, 165, 152, 153, 154, 155, 151, 167, 168, 169, 170, 159, 172, 173, 174, 271, 272, 273, 274, 594, 595, 596, 597, 598, 599, 600, 601, 602, 603, 604, 605, 606] rfl rfl
set_option maxRecDepth 200000 in
theorem gL_law_X5_cut : GoodIn wsL_law (wsV RL 31 RX5 yX5_cut wsX5_cut) := goodIn_app (goodIn_r _ [267, 268, 269, 5] rfl rfl) ggL_law_X5_cut
set_option maxRecDepth 200000 in
theorem ggL_law_X4_back : GoodIn wsL_law wsX4_back := goodIn_r _ [278, 15, 23, 243, 244, 245, 14, 246, 63, 247, 248, 249, 2, 250, 19, 205, 206, 207, 18, 208, 209, 210, 211, 212, 43, 86, 87, 88, 89, 77, 44, 82, 83, 84, 85, 90, 91, 92, 93, 32, 33, 94, 95, 96, 97, 98, 99, 100, 101, 102, 103, 104, 105, 140, 141, 142, 143, 144, 145, 146, 213, 214, 215, 216, 113, 114, 22, 115, 68, 69, 70, 71, 72, 73, 74, 75, 76, 42, 78, 79, 80, 81, 106, 107, 108, 109, 110, 111, 48, 112, 116, 117, 118, 119, 120, 121, 122, 123, 124, 125, 126, 127, 128, 129, 130, 131, 132, 133, 31, 134, 135, 136, 137, 138, 139, 263, 264, 265, 266, 37, 589, 590, 591, 592, 593, 607, 608, 609, 610, 611, 612, 613, 614, 615, 616, 617, 618] rfl rfl
set_option maxRecDepth 200000 in
theorem gL_law_X4_back : GoodIn wsL_law (wsV RL 32 RX4 yX4_back wsX4_back) := goodIn_app (goodIn_r _ [275, 276, 277, 2] rfl rfl) ggL_law_X4_back
set_option maxRecDepth 200000 in
theorem ggL_law_X5_back : GoodIn wsL_law wsX5_back := goodIn_r _ [282, 183, 156, 171, 255, 256, 257, 5, 258, 166, 187, 188, 189, 161, 162, 163, 164, 157, 165, 152, 153, 154, 155, 151, 235, 236, 237, 238, 167, 168, 169, 170, 159, 172, 173, 174, 271, 272, 273, 274, 594, 595, 596, 597, 598, 599, 600, 601, 602, 603, 604, 605, 606] rfl rfl
set_option maxRecDepth 200000 in
theorem gL_law_X5_back : GoodIn wsL_law (wsV RL 35 RX5 yX5_back wsX5_back) := goodIn_app (goodIn_r _ [279, 280, 281, 5] rfl rfl) ggL_law_X5_back
set_option maxRecDepth 200000 in
theorem ggL_law_X4_told : GoodIn wsL_law wsX4_told := goodIn_r _ [286, 15, 19, 243, 244, 245, 14, 246, 63, 287, 288, 2, 289, 290, 291, 292, 18, 293, 44, 294, 122, 123, 124, 295, 296, 297, 298, 299, 300, 301, 302, 42, 77, 106, 107, 303, 137, 138, 139, 140, 141, 142, 143, 144, 145, 146, 589, 590, 591, 592, 593, 607, 608, 609, 610, 611, 612, 613, 614, 615, 616] rfl rfl
set_option maxRecDepth 200000 in
theorem gL_law_X4_told : GoodIn wsL_law (wsV RL 36 RX4 yX4_told wsX4_told) := goodIn_app (goodIn_r _ [283, 284, 285, 2] rfl rfl) ggL_law_X4_told
set_option maxRecDepth 200000 in
theorem ggL_law_X5_told : GoodIn wsL_law wsX5_told := goodIn_r _ [307, 183, 152, 153, 154, 155, 156, 255, 256, 257, 5, 258, 166, 187, 188, 189, 161, 162, 163, 164, 157, 165, 151, 308, 309, 310, 311, 231, 232, 233, 234, 172, 173, 174, 594, 595, 596, 597, 598, 599, 600, 601, 602, 603, 604, 605, 606] rfl rfl
set_option maxRecDepth 200000 in
theorem gL_law_X5_told : GoodIn wsL_law (wsV RL 39 RX5 yX5_told wsX5_told) := goodIn_app (goodIn_r _ [304, 305, 306, 5] rfl rfl) ggL_law_X5_told
set_option maxRecDepth 200000 in
theorem ggL_law_X4_far : GoodIn wsL_law wsX4_far := goodIn_r _ [315, 15, 19, 194, 195, 196, 14, 197, 198, 199, 200, 201, 62, 316, 137, 138, 18, 139, 42, 106, 2, 107, 140, 141, 142, 77, 143, 144, 145, 146, 589, 590, 591, 592, 593, 607, 608, 609, 610, 611, 612, 613, 614, 615, 616] rfl rfl
set_option maxRecDepth 200000 in
theorem gL_law_X4_far : GoodIn wsL_law (wsV RL 40 RX4 yX4_far wsX4_far) := goodIn_app (goodIn_r _ [312, 313, 314, 2] rfl rfl) ggL_law_X4_far
set_option maxRecDepth 200000 in
theorem ggL_law_X5_far : GoodIn wsL_law wsX5_far := goodIn_r _ [320, 183, 227, 228, 229, 5, 230, 151, 187, 188, 189, 161, 162, 163, 164, 157, 165, 166, 156, 152, 153, 154, 155, 231, 232, 233, 234, 172, 173, 174, 594, 595, 596, 597, 598, 599, 600, 601, 602, 603, 604, 605, 606] rfl rfl
set_option maxRecDepth 200000 in
theorem gL_law_X5_far : GoodIn wsL_law (wsV RL 43 RX5 yX5_far wsX5_far) := goodIn_app (goodIn_r _ [317, 318, 319, 5] rfl rfl) ggL_law_X5_far
set_option maxRecDepth 200000 in
theorem ggL_law_X4_steps : GoodIn wsL_law wsX4_steps := goodIn_r _ [324, 15, 19, 194, 195, 196, 14, 197, 198, 199, 200, 201, 62, 325, 326, 327, 18, 328, 42, 77, 106, 2, 107, 329, 330, 145, 331, 589, 590, 591, 592, 593, 607, 608, 609, 610, 611, 612, 613, 614, 615, 616] rfl rfl
set_option maxRecDepth 200000 in
theorem gL_law_X4_steps : GoodIn wsL_law (wsV RL 44 RX4 yX4_steps wsX4_steps) := goodIn_app (goodIn_r _ [321, 322, 323, 2] rfl rfl) ggL_law_X4_steps
set_option maxRecDepth 200000 in
theorem ggL_law_X5_steps : GoodIn wsL_law wsX5_steps := goodIn_r _ [335, 183, 157, 165, 227, 228, 229, 5, 230, 151, 187, 188, 189, 161, 162, 163, 164, 166, 156, 152, 153, 154, 155, 172, 173, 174, 594, 595, 596, 597, 598, 599, 600, 601, 602, 603, 604, 605, 606] rfl rfl
set_option maxRecDepth 200000 in
theorem gL_law_X5_steps : GoodIn wsL_law (wsV RL 47 RX5 yX5_steps wsX5_steps) := goodIn_app (goodIn_r _ [332, 333, 334, 5] rfl rfl) ggL_law_X5_steps
set_option maxRecDepth 200000 in
theorem ggL_law_X4_way : GoodIn wsL_law wsX4_way := goodIn_r _ [339, 15, 19, 194, 195, 196, 14, 197, 198, 199, 200, 201, 62, 340, 341, 342, 18, 343, 44, 344, 326, 327, 328, 42, 77, 106, 2, 107, 329, 330, 145, 331, 345, 346, 347, 348, 349, 299, 300, 301, 302, 350, 351, 352, 353, 37, 32, 33, 36, 354, 244, 245, 246, 63, 98, 99, 100, 101, 589, 590, 591, 592, 593, 607, 608, 609, 610, 611, 612, 613, 614, 615, 616] rfl rfl
set_option maxRecDepth 200000 in
theorem gL_law_X4_way : GoodIn wsL_law (wsV RL 48 RX4 yX4_way wsX4_way) := goodIn_app (goodIn_r _ [336, 337, 338, 2] rfl rfl) ggL_law_X4_way
set_option maxRecDepth 200000 in
theorem ggL_law_X5_way : GoodIn wsL_law wsX5_way := goodIn_r _ [358, 183, 157, 165, 227, 228, 229, 5, 230, 151, 187, 188, 189, 161, 162, 163, 164, 166, 156, 152, 153, 154, 155, 172, 173, 174, 359, 360, 361, 362, 363, 364, 365, 366, 594, 595, 596, 597, 598, 599, 600, 601, 602, 603, 604, 605, 606] rfl rfl
set_option maxRecDepth 200000 in
theorem gL_law_X5_way : GoodIn wsL_law (wsV RL 52 RX5 yX5_way wsX5_way) := goodIn_app (goodIn_r _ [355, 356, 357, 5] rfl rfl) ggL_law_X5_way
set_option maxRecDepth 200000 in
theorem ggL_law_X4_without : GoodIn wsL_law wsX4_without := goodIn_r _ [370, 15, 19, 194, 195, 196, 14, 197, 198, 199, 200, 201, 62, 243, 244, 245, 246, 63, 371, 210, 211, 18, 212, 43, 86, 87, 88, 89, 77, 44, 82, 83, 84, 85, 90, 91, 92, 93, 32, 33, 94, 95, 96, 97, 98, 99, 100, 101, 102, 103, 104, 105, 140, 141, 142, 143, 144, 145, 146, 589, 590, 591, 592, 593, 607, 608, 609, 610, 611, 612, 613, 614, 615, 616] rfl rfl
set_option maxRecDepth 200000 in
theorem gL_law_X4_without : GoodIn wsL_law (wsV RL 53 RX4 yX4_without wsX4_without) := goodIn_app (goodIn_r _ [367, 368, 369, 2] rfl rfl) ggL_law_X4_without
set_option maxRecDepth 200000 in
theorem ggL_law_X5_without : GoodIn wsL_law wsX5_without := goodIn_r _ [375, 183, 227, 228, 229, 5, 230, 151, 187, 188, 189, 255, 256, 257, 258, 166, 161, 162, 163, 164, 157, 165, 156, 152, 153, 154, 155, 231, 232, 233, 234, 172, 173, 174, 594, 595, 596, 597, 598, 599, 600, 601, 602, 603, 604, 605, 606] rfl rfl
set_option maxRecDepth 200000 in
theorem gL_law_X5_without : GoodIn wsL_law (wsV RL 56 RX5 yX5_without wsX5_without) := goodIn_app (goodIn_r _ [372, 373, 374, 5] rfl rfl) ggL_law_X5_without
set_option maxRecDepth 200000 in
theorem ggL_law_X4_vital : GoodIn wsL_law wsX4_vital := goodIn_r _ [379, 15, 19, 194, 195, 196, 14, 197, 198, 199, 200, 201, 62, 380, 381, 382, 18, 383, 384, 385, 386, 387, 344, 326, 327, 328, 42, 77, 106, 2, 107, 329, 330, 145, 331, 388, 341, 342, 343, 44, 345, 346, 347, 348, 349, 299, 300, 301, 302, 350, 351, 352, 353, 37, 32, 33, 36, 354, 244, 245, 246, 63, 98, 99, 100, 101, 209, 210, 211, 212, 43, 86, 87, 88, 89, 82, 83, 84, 85, 90, 91, 92, 93, 94, 95, 96, 97, 102, 103, 104, 105, 140, 141, 142, 143, 144, 146, 303, 137, 138, 139, 589, 590, 591, 592, 593, 607, 608, 609, 610, 611, 612, 613, 614, 615, 616] rfl rfl
set_option maxRecDepth 200000 in
theorem gL_law_X4_vital : GoodIn wsL_law (wsV RL 57 RX4 yX4_vital wsX4_vital) := goodIn_app (goodIn_r _ [376, 377, 378, 2] rfl rfl) ggL_law_X4_vital
set_option maxRecDepth 200000 in
theorem ggL_law_X5_vital : GoodIn wsL_law wsX5_vital := goodIn_r _ [392, 183, 166, 227, 228, 229, 5, 230, 151, 187, 188, 189, 161, 162, 163, 164, 157, 165, 156, 152, 153, 154, 155, 231, 232, 233, 234, 172, 173, 174, 594, 595, 596, 597, 598, 599, 600, 601, 602, 603, 604, 605, 606] rfl rfl
set_option maxRecDepth 200000 in
theorem gL_law_X5_vital : GoodIn wsL_law (wsV RL 60 RX5 yX5_vital wsX5_vital) := goodIn_app (goodIn_r _ [389, 390, 391, 5] rfl rfl) ggL_law_X5_vital
set_option maxRecDepth 200000 in
theorem ggL_law_X4_about : GoodIn wsL_law wsX4_about := goodIn_r _ [396, 15, 19, 194, 195, 196, 14, 197, 198, 199, 200, 201, 62, 397, 371, 210, 211, 18, 212, 43, 86, 87, 88, 89, 77, 44, 82, 83, 84, 85, 90, 91, 92, 93, 32, 33, 94, 95, 96, 97, 98, 99, 100, 101, 102, 103, 104, 105, 140, 141, 142, 143, 144, 145, 146, 589, 590, 591, 592, 593, 607, 608, 609, 610, 611, 612, 613, 614, 615, 616] rfl rfl
set_option maxRecDepth 200000 in
theorem gL_law_X4_about : GoodIn wsL_law (wsV RL 61 RX4 yX4_about wsX4_about) := goodIn_app (goodIn_r _ [393, 394, 395, 2] rfl rfl) ggL_law_X4_about
set_option maxRecDepth 200000 in
theorem ggL_law_X5_about : GoodIn wsL_law wsX5_about := goodIn_r _ [401, 183, 227, 228, 229, 5, 230, 151, 187, 188, 189, 161, 162, 163, 164, 157, 165, 166, 156, 152, 153, 154, 155, 231, 232, 233, 234, 172, 173, 174, 594, 595, 596, 597, 598, 599, 600, 601, 602, 603, 604, 605, 606] rfl rfl
set_option maxRecDepth 200000 in
theorem gL_law_X5_about : GoodIn wsL_law (wsV RL 64 RX5 yX5_about wsX5_about) := goodIn_app (goodIn_r _ [398, 399, 400, 5] rfl rfl) ggL_law_X5_about
set_option maxRecDepth 200000 in
theorem ggL_law_X4_ring : GoodIn wsL_law wsX4_ring := goodIn_r _ [405, 19, 406, 407, 408, 18, 409, 44, 410, 411, 412, 413, 294, 122, 123, 124, 303, 137, 138, 139, 42, 106, 2, 107, 140, 141, 142, 77, 143, 144, 145, 146, 589, 590, 591, 592, 593, 614, 615, 616, 607, 608, 609, 610, 611, 612, 613] rfl rfl
set_option maxRecDepth 200000 in
theorem gL_law_X4_ring : GoodIn wsL_law (wsV RL 65 RX4 yX4_ring wsX4_ring) := goodIn_app (goodIn_r _ [402, 403, 404, 2] rfl rfl) ggL_law_X4_ring
set_option maxRecDepth 200000 in
theorem ggL_law_X5_ring : GoodIn wsL_law wsX5_ring := goodIn_r _ [417, 183, 166, 155, 153, 152, 156, 154, 161, 162, 163, 5, 164, 157, 165, 151, 231, 232, 233, 234, 172, 173, 174, 594, 595, 596, 597, 598, 599, 600, 601, 602, 603, 604, 605, 606] rfl rfl
set_option maxRecDepth 200000 in
theorem gL_law_X5_ring : GoodIn wsL_law (wsV RL 69 RX5 yX5_ring wsX5_ring) := goodIn_app (goodIn_r _ [414, 415, 416, 5] rfl rfl) ggL_law_X5_ring
set_option maxRecDepth 200000 in
theorem ggL_law_X4_height : GoodIn wsL_law wsX4_height := goodIn_r _ [421, 15, 19, 397, 199, 200, 14, 201, 62, 422, 296, 297, 18, 298, 44, 294, 122, 123, 124, 299, 300, 301, 302, 42, 77, 106, 2, 107, 303, 137, 138, 139, 140, 141, 142, 143, 144, 145, 146, 589, 590, 591, 592, 593, 607, 608, 609, 610, 611, 612, 613, 614, 615, 616] rfl rfl
set_option maxRecDepth 200000 in
theorem gL_law_X4_height : GoodIn wsL_law (wsV RL 70 RX4 yX4_height wsX4_height) := goodIn_app (goodIn_r _ [418, 419, 420, 2] rfl rfl) ggL_law_X4_height
set_option maxRecDepth 200000 in
theorem ggL_law_X5_height : GoodIn wsL_law wsX5_height := goodIn_r _ [426, 183, 227, 228, 229, 5, 230, 151, 187, 188, 189, 161, 162, 163, 164, 157, 165, 166, 156, 152, 153, 154, 155, 308, 309, 310, 311, 231, 232, 233, 234, 172, 173, 174, 594, 595, 596, 597, 598, 599, 600, 601, 602, 603, 604, 605, 606] rfl rfl
set_option maxRecDepth 200000 in
theorem gL_law_X5_height : GoodIn wsL_law (wsV RL 73 RX5 yX5_height wsX5_height) := goodIn_app (goodIn_r _ [423, 424, 425, 5] rfl rfl) ggL_law_X5_height
set_option maxRecDepth 200000 in
theorem ggL_law_X4_acts : GoodIn wsL_law wsX4_acts := goodIn_r _ [430, 23, 431, 432, 433, 22, 434, 68, 589, 590, 591, 592, 593, 617, 618] rfl rfl
set_option maxRecDepth 200000 in
theorem gL_law_X4_acts : GoodIn wsL_law (wsV RL 74 RX4 yX4_acts wsX4_acts) := goodIn_app (goodIn_r _ [427, 428, 429, 2] rfl rfl) ggL_law_X4_acts
set_option maxRecDepth 200000 in
theorem ggL_law_X5_acts : GoodIn wsL_law wsX5_acts := goodIn_r _ [438, 183, 171, 594, 595, 596, 597, 598, 599, 600, 601, 602, 603, 604, 605, 606] rfl rfl
set_option maxRecDepth 200000 in
theorem gL_law_X5_acts : GoodIn wsL_law (wsV RL 77 RX5 yX5_acts wsX5_acts) := goodIn_app (goodIn_r _ [435, 436, 437, 5] rfl rfl) ggL_law_X5_acts
set_option maxRecDepth 200000 in
theorem ggL_law_X4_moved : GoodIn wsL_law wsX4_moved := goodIn_r _ [442, 23, 443, 444, 445, 22, 446, 68, 447, 448, 449, 450, 451, 452, 453, 454, 455, 456, 457, 458, 48, 589, 590, 591, 592, 593, 617, 618] rfl rfl
set_option maxRecDepth 200000 in
theorem gL_law_X4_moved : GoodIn wsL_law (wsV RL 78 RX4 yX4_moved wsX4_moved) := goodIn_app (goodIn_r _ [439, 440, 441, 2] rfl rfl) ggL_law_X4_moved
set_option maxRecDepth 200000 in
theorem ggL_law_X5_moved : GoodIn wsL_law wsX5_moved := goodIn_r _ [462, 183, 171, 187, 188, 5, 189, 463, 464, 465, 466, 151, 159, 594, 595, 596, 597, 598, 599, 600, 601, 602, 603, 604, 605, 606] rfl rfl
set_option maxRecDepth 200000 in
theorem gL_law_X5_moved : GoodIn wsL_law (wsV RL 81 RX5 yX5_moved wsX5_moved) := goodIn_app (goodIn_r _ [459, 460, 461, 5] rfl rfl) ggL_law_X5_moved
set_option maxRecDepth 200000 in
theorem ggL_law_X4_pair : GoodIn wsL_law wsX4_pair := goodIn_r _ [470, 23, 443, 444, 445, 22, 446, 68, 471, 472, 473, 474, 451, 452, 453, 454, 455, 456, 457, 458, 48, 589, 590, 591, 592, 593, 617, 618] rfl rfl
set_option maxRecDepth 200000 in
theorem gL_law_X4_pair : GoodIn wsL_law (wsV RL 82 RX4 yX4_pair wsX4_pair) := goodIn_app (goodIn_r _ [467, 468, 469, 2] rfl rfl) ggL_law_X4_pair
set_option maxRecDepth 200000 in
theorem ggL_law_X5_pair : GoodIn wsL_law wsX5_pair := goodIn_r _ [478, 183, 171, 187, 188, 5, 189, 463, 464, 465, 466, 151, 159, 594, 595, 596, 597, 598, 599, 600, 601, 602, 603, 604, 605, 606] rfl rfl
set_option maxRecDepth 200000 in
theorem gL_law_X5_pair : GoodIn wsL_law (wsV RL 85 RX5 yX5_pair wsX5_pair) := goodIn_app (goodIn_r _ [475, 476, 477, 5] rfl rfl) ggL_law_X5_pair
set_option maxRecDepth 200000 in
theorem ggL_law_X4_then : GoodIn wsL_law wsX4_then := goodIn_r _ [482, 15, 23, 194, 195, 196, 14, 197, 198, 199, 200, 201, 62, 443, 444, 445, 22, 446, 68, 483, 106, 2, 107, 484, 456, 457, 458, 48, 589, 590, 591, 592, 593, 607, 608, 609, 610, 611, 612, 613, 617, 618] rfl rfl
set_option maxRecDepth 200000 in
theorem gL_law_X4_then : GoodIn wsL_law (wsV RL 86 RX4 yX4_then wsX4_then) := goodIn_app (goodIn_r _ [479, 480, 481, 2] rfl rfl) ggL_law_X4_then
set_option maxRecDepth 200000 in
theorem ggL_law_X5_then : GoodIn wsL_law wsX5_then := goodIn_r _ [488, 183, 171, 159, 227, 228, 229, 5, 230, 151, 187, 188, 189, 594, 595, 596, 597, 598, 599, 600, 601, 602, 603, 604, 605, 606] rfl rfl
set_option maxRecDepth 200000 in
theorem gL_law_X5_then : GoodIn wsL_law (wsV RL 89 RX5 yX5_then wsX5_then) := goodIn_app (goodIn_r _ [485, 486, 487, 5] rfl rfl) ggL_law_X5_then
set_option maxRecDepth 200000 in
theorem ggL_law_X4_since : GoodIn wsL_law wsX4_since := goodIn_r _ [492, 15, 23, 194, 195, 196, 14, 197, 198, 199, 200, 201, 62, 443, 444, 445, 22, 446, 68, 483, 106, 2, 107, 493, 494, 495, 496, 455, 456, 457, 458, 48, 589, 590, 591, 592, 593, 607, 608, 609, 610, 611, 612, 613, 617, 618] rfl rfl
set_option maxRecDepth 200000 in
theorem gL_law_X4_since : GoodIn wsL_law (wsV RL 90 RX4 yX4_since wsX4_since) := goodIn_app (goodIn_r _ [489, 490, 491, 2] rfl rfl) ggL_law_X4_since
set_option maxRecDepth 200000 in
theorem ggL_law_X5_since : GoodIn wsL_law wsX5_since := goodIn_r _ [500, 183, 171, 501, 502, 159, 227, 228, 229, 5, 230, 151, 187, 188, 189, 594, 595, 596, 597, 598, 599, 600, 601, 602, 603, 604, 605, 606] rfl rfl
set_option maxRecDepth 200000 in
theorem gL_law_X5_since : GoodIn wsL_law (wsV RL 94 RX5 yX5_since wsX5_since) := goodIn_app (goodIn_r _ [497, 498, 499, 5] rfl rfl) ggL_law_X5_since
set_option maxRecDepth 200000 in
theorem ggL_law_X4_marks : GoodIn wsL_law wsX4_marks := goodIn_r _ [506, 15, 57, 589, 590, 591, 592, 593, 607, 608, 609, 610, 611, 612, 613] rfl rfl
set_option maxRecDepth 200000 in
theorem gL_law_X4_marks : GoodIn wsL_law (wsV RL 95 RX4 yX4_marks wsX4_marks) := goodIn_app (goodIn_r _ [503, 504, 505, 2] rfl rfl) ggL_law_X4_marks
set_option maxRecDepth 200000 in
theorem ggL_law_X5_marks : GoodIn wsL_law wsX5_marks := goodIn_r _ [510, 183, 151, 186, 594, 595, 596, 597, 598, 599, 600, 601, 602, 603, 604, 605, 606] rfl rfl
set_option maxRecDepth 200000 in
theorem gL_law_X5_marks : GoodIn wsL_law (wsV RL 98 RX5 yX5_marks wsX5_marks) := goodIn_app (goodIn_r _ [507, 508, 509, 5] rfl rfl) ggL_law_X5_marks
set_option maxRecDepth 200000 in
theorem ggL_law_X4_near : GoodIn wsL_law wsX4_near := goodIn_r _ [514, 15, 19, 57, 194, 195, 196, 14, 197, 198, 199, 200, 201, 62, 515, 516, 517, 18, 518, 44, 294, 122, 123, 124, 299, 300, 301, 302, 42, 77, 106, 2, 107, 303, 137, 138, 139, 140, 141, 142, 143, 144, 145, 146, 589, 590, 591, 592, 593, 607, 608, 609, 610, 611, 612, 613, 614, 615, 616] rfl rfl
set_option maxRecDepth 200000 in
theorem gL_law_X4_near : GoodIn wsL_law (wsV RL 99 RX4 yX4_near wsX4_near) := goodIn_app (goodIn_r _ [511, 512, 513, 2] rfl rfl) ggL_law_X4_near
set_option maxRecDepth 200000 in
theorem ggL_law_X5_near : GoodIn wsL_law wsX5_near := goodIn_r _ [522, 183, 227, 228, 229, 5, 230, 151, 187, 188, 189, 161, 162, 163, 164, 157, 165, 166, 156, 152, 153, 154, 155, 523, 524, 525, 526, 186, 231, 232, 233, 234, 172, 173, 174, 594, 595, 596, 597, 598, 599, 600, 601, 602, 603, 604, 605, 606] rfl rfl
set_option maxRecDepth 200000 in
theorem gL_law_X5_near : GoodIn wsL_law (wsV RL 102 RX5 yX5_near wsX5_near) := goodIn_app (goodIn_r _ [519, 520, 521, 5] rfl rfl) ggL_law_X5_near
set_option maxRecDepth 200000 in
theorem ggL_law_X4_worst : GoodIn wsL_law wsX4_worst := goodIn_r _ [530, 15, 19, 57, 531, 532, 123, 533, 534, 300, 301, 18, 302, 42, 77, 106, 2, 107, 515, 516, 517, 518, 44, 294, 122, 124, 299, 303, 137, 138, 139, 140, 141, 142, 143, 144, 145, 146, 316, 589, 590, 591, 592, 593, 607, 608, 609, 610, 611, 612, 613, 614, 615, 616] rfl rfl
set_option maxRecDepth 200000 in
theorem gL_law_X4_worst : GoodIn wsL_law (wsV RL 103 RX4 yX4_worst wsX4_worst) := goodIn_app (goodIn_r _ [527, 528, 529, 2] rfl rfl) ggL_law_X4_worst
set_option maxRecDepth 200000 in
theorem ggL_law_X5_worst : GoodIn wsL_law wsX5_worst := goodIn_r _ [538, 183, 151, 161, 162, 163, 5, 164, 157, 165, 166, 156, 152, 153, 154, 155, 231, 232, 233, 234, 172, 173, 174, 523, 524, 525, 526, 186, 594, 595, 596, 597, 598, 599, 600, 601, 602, 603, 604, 605, 606] rfl rfl
set_option maxRecDepth 200000 in
theorem gL_law_X5_worst : GoodIn wsL_law (wsV RL 106 RX5 yX5_worst wsX5_worst) := goodIn_app (goodIn_r _ [535, 536, 537, 5] rfl rfl) ggL_law_X5_worst
set_option maxRecDepth 200000 in
theorem ggL_law_X4_hits : GoodIn wsL_law wsX4_hits := goodIn_r _ [542, 27, 19, 15, 543, 544, 545, 26, 546, 547, 52, 548, 326, 327, 18, 328, 42, 77, 106, 2, 107, 329, 330, 145, 331, 549, 550, 551, 552, 44, 344, 345, 346, 347, 348, 349, 199, 200, 14, 201, 62, 299, 300, 301, 302, 350, 351, 352, 353, 37, 32, 33, 36, 354, 244, 245, 246, 63, 98, 99, 100, 101, 553, 554, 555, 556, 557, 558, 559, 560, 561, 562, 563, 564, 565, 566, 567, 589, 590, 591, 592, 593, 607, 608, 609, 610, 611, 612, 613, 619, 620, 614, 615, 616] rfl rfl
set_option maxRecDepth 200000 in
theorem gL_law_X4_hits : GoodIn wsL_law (wsV RL 107 RX4 yX4_hits wsX4_hits) := goodIn_app (goodIn_r _ [539, 540, 541, 2] rfl rfl) ggL_law_X4_hits
set_option maxRecDepth 200000 in
theorem ggL_law_X5_hits : GoodIn wsL_law wsX5_hits := goodIn_r _ [571, 183, 572, 151, 157, 165, 160, 187, 188, 5, 189, 161, 162, 163, 164, 166, 156, 152, 153, 154, 155, 172, 173, 174, 359, 360, 361, 362, 363, 364, 365, 366, 573, 574, 575, 594, 595, 596, 597, 598, 599, 600, 601, 602, 603, 604, 605, 606] rfl rfl
set_option maxRecDepth 200000 in
theorem gL_law_X5_hits : GoodIn wsL_law (wsV RL 110 RX5 yX5_hits wsX5_hits) := goodIn_app (goodIn_r _ [568, 569, 570, 5] rfl rfl) ggL_law_X5_hits
set_option maxRecDepth 200000 in
theorem ggL_law_X4_count : GoodIn wsL_law wsX4_count := goodIn_r _ [579, 15, 19, 57, 263, 264, 265, 14, 266, 63, 37, 580, 581, 582, 18, 583, 44, 299, 300, 301, 302, 42, 77, 106, 2, 107, 584, 558, 559, 560, 561, 562, 563, 589, 590, 591, 592, 593, 607, 608, 609, 610, 611, 612, 613, 614, 615, 616] rfl rfl
set_option maxRecDepth 200000 in
theorem gL_law_X4_count : GoodIn wsL_law (wsV RL 111 RX4 yX4_count wsX4_count) := goodIn_app (goodIn_r _ [576, 577, 578, 2] rfl rfl) ggL_law_X4_count
set_option maxRecDepth 200000 in
theorem ggL_law_X5_count : GoodIn wsL_law wsX5_count := goodIn_r _ [588, 183, 151, 166, 186, 161, 162, 163, 5, 164, 157, 165, 156, 152, 153, 154, 155, 231, 232, 233, 234, 172, 173, 174, 271, 272, 273, 274, 573, 574, 575, 594, 595, 596, 597, 598, 599, 600, 601, 602, 603, 604, 605, 606] rfl rfl
set_option maxRecDepth 200000 in
theorem gL_law_X5_count : GoodIn wsL_law (wsV RL 114 RX5 yX5_count wsX5_count) := goodIn_app (goodIn_r _ [585, 586, 587, 5] rfl rfl) ggL_law_X5_count
