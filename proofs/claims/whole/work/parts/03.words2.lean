set_option maxRecDepth 20000 in
theorem gX3_measure_X3_tryPlain : GoodIn wsX3_measure (wsV RX3 57 RX3 yX3_tryPlain wsX3_tryPlain) := goodIn_app (goodIn_of _ (by decide +kernel)) ggX3_measure_X3_tryPlain
set_option maxRecDepth 20000 in
theorem ggX3_write_X3_leastDistance : GoodIn wsX3_write wsX3_leastDistance := goodIn_ca (goodIn_ca (goodIn_r _ [13, 14, 4, 15, 16, 17, 12, 18, 38, 39, 40, 41, 42, 43, 44] (by decide +kernel) (by decide +kernel)) (goodIn_sub (fun _ h => List.mem_cons_of_mem _ (List.mem_append_left _ (List.mem_append_right _ h))) (by decide +kernel))) (goodIn_sub (fun _ h => List.mem_cons_of_mem _ (List.mem_append_right _ h)) (by decide +kernel))
set_option maxRecDepth 20000 in
theorem gX3_write_X3_leastDistance : GoodIn wsX3_write (wsV RX3 60 RX3 yX3_leastDistance wsX3_leastDistance) := goodIn_app (goodIn_of _ (by decide +kernel)) ggX3_write_X3_leastDistance
set_option maxRecDepth 20000 in
theorem ggX3_write_X2_addMatch : GoodIn wsX3_write wsX2_addMatch := goodIn_ca (goodIn_ca (goodIn_r _ [23, 24, 25, 26, 27, 28, 29, 30, 31, 32, 33, 45, 46, 47, 48, 49] (by decide +kernel) (by decide +kernel)) (goodIn_sub (fun _ h => List.mem_cons_of_mem _ (List.mem_append_right _ h)) (by decide +kernel))) (goodIn_sub (fun _ h => List.mem_cons_of_mem _ (List.mem_append_left _ (List.mem_append_right _ h))) (by decide +kernel))
set_option maxRecDepth 20000 in
theorem gX3_write_X2_addMatch : GoodIn wsX3_write (wsV RX3 63 RX2 yX2_addMatch wsX2_addMatch) := goodIn_app (goodIn_of _ (by decide +kernel)) ggX3_write_X2_addMatch
set_option maxRecDepth 20000 in
theorem ggX3_write_X2_addPlain : GoodIn wsX3_write wsX2_addPlain := goodIn_ca (goodIn_ca (goodIn_r _ [37, 24, 25, 27, 28, 29, 30, 31, 32, 33, 45, 46, 47, 48, 49] (by decide +kernel) (by decide +kernel)) (goodIn_sub (fun _ h => List.mem_cons_of_mem _ (List.mem_append_right _ h)) (by decide +kernel))) (goodIn_sub (fun _ h => List.mem_cons_of_mem _ (List.mem_append_left _ (List.mem_append_right _ h))) (by decide +kernel))
set_option maxRecDepth 20000 in
theorem gX3_write_X2_addPlain : GoodIn wsX3_write (wsV RX3 69 RX2 yX2_addPlain wsX2_addPlain) := goodIn_app (goodIn_of _ (by decide +kernel)) ggX3_write_X2_addPlain
set_option maxRecDepth 20000 in
theorem ggX3_linkSameBytes_J7_fill_53178 : GoodIn wsX3_linkSameBytes wsJ7_fill_53178 := goodIn_r _ [9] (by decide +kernel) (by decide +kernel)
set_option maxRecDepth 20000 in
theorem gX3_linkSameBytes_J7_fill_53178 : GoodIn wsX3_linkSameBytes (va_wsS RX3 77 yJ7_fill_53178 wsJ7_fill_53178) := goodIn_app (goodIn_of _ (by decide +kernel)) ggX3_linkSameBytes_J7_fill_53178
set_option maxRecDepth 20000 in
theorem ggX3_tryMatches_X3_longestMatch : GoodIn wsX3_tryMatches wsX3_longestMatch := goodIn_ca (goodIn_ca (goodIn_r _ [7, 8, 9, 10, 11, 12, 13, 14, 15, 16, 17, 18, 19, 20, 21, 6, 22, 23, 24, 25, 26, 27, 28, 29] (by decide +kernel) (by decide +kernel)) (goodIn_sub (fun _ h => List.mem_cons_of_mem _ (List.mem_append_right _ h)) (by decide +kernel))) (goodIn_sub (fun _ h => List.mem_cons_of_mem _ (List.mem_append_left _ (List.mem_append_right _ h))) (by decide +kernel))
set_option maxRecDepth 20000 in
theorem gX3_tryMatches_X3_longestMatch : GoodIn wsX3_tryMatches (wsV RX3 83 RX3 yX3_longestMatch wsX3_longestMatch) := goodIn_app (goodIn_of _ (by decide +kernel)) ggX3_tryMatches_X3_longestMatch
set_option maxRecDepth 20000 in
theorem ggX3_longestMatch_X3_sameBytes : GoodIn wsX3_longestMatch wsX3_sameBytes := goodIn_ca (goodIn_ca (goodIn_r _ [16, 8, 17, 18, 19, 20, 21, 22, 23] (by decide +kernel) (by decide +kernel)) (goodIn_sub (fun _ h => List.mem_cons_of_mem _ (List.mem_append_left _ (List.mem_append_right _ h))) (by decide +kernel))) (goodIn_sub (fun _ h => List.mem_cons_of_mem _ (List.mem_append_right _ h)) (by decide +kernel))
set_option maxRecDepth 20000 in
theorem gX3_longestMatch_X3_sameBytes : GoodIn wsX3_longestMatch (wsV RX3 86 RX3 yX3_sameBytes wsX3_sameBytes) := goodIn_app (goodIn_of _ (by decide +kernel)) ggX3_longestMatch_X3_sameBytes
set_option maxRecDepth 20000 in
theorem ggX3_leastDistance_X3_sameBytes : GoodIn wsX3_leastDistance wsX3_sameBytes := goodIn_ca (goodIn_ca (goodIn_r _ [7, 2, 8, 9, 10, 11, 12, 13, 14] (by decide +kernel) (by decide +kernel)) (goodIn_sub (fun _ h => List.mem_cons_of_mem _ (List.mem_append_left _ (List.mem_append_right _ h))) (by decide +kernel))) (goodIn_sub (fun _ h => List.mem_cons_of_mem _ (List.mem_append_right _ h)) (by decide +kernel))
set_option maxRecDepth 20000 in
theorem gX3_leastDistance_X3_sameBytes : GoodIn wsX3_leastDistance (wsV RX3 86 RX3 yX3_sameBytes wsX3_sameBytes) := goodIn_app (goodIn_of _ (by decide +kernel)) ggX3_leastDistance_X3_sameBytes
set_option maxRecDepth 20000 in
theorem ggX4_signedAt_X4_has : GoodIn wsX4_signedAt wsX4_has := goodIn_r _ [6, 7, 8, 9] (by decide +kernel) (by decide +kernel)
set_option maxRecDepth 20000 in
theorem gX4_signedAt_X4_has : GoodIn wsX4_signedAt (wsV RX4 23 RX4 yX4_has wsX4_has) := goodIn_app (goodIn_of _ (by decide +kernel)) ggX4_signedAt_X4_has
set_option maxRecDepth 20000 in
theorem ggX4_at_X4_signedAt : GoodIn wsX4_at wsX4_signedAt := goodIn_ca (goodIn_ca (goodIn_r _ [5, 6, 7, 8, 9, 4, 10, 11, 12, 13] (by decide +kernel) (by decide +kernel)) (goodIn_sub (fun _ h => List.mem_cons_of_mem _ (List.mem_append_left _ (List.mem_append_right _ h))) (by decide +kernel))) (goodIn_sub (fun _ h => List.mem_cons_of_mem _ (List.mem_append_right _ h)) (by decide +kernel))
set_option maxRecDepth 20000 in
theorem gX4_at_X4_signedAt : GoodIn wsX4_at (wsV RX4 27 RX4 yX4_signedAt wsX4_signedAt) := goodIn_app (goodIn_of _ (by decide +kernel)) ggX4_at_X4_signedAt
set_option maxRecDepth 20000 in
theorem ggX4_addFrom_X4_signedAt : GoodIn wsX4_addFrom wsX4_signedAt := goodIn_ca (goodIn_ca (goodIn_r _ [5, 6, 7, 8, 9, 4, 10, 11, 16, 17] (by decide +kernel) (by decide +kernel)) (goodIn_sub (fun _ h => List.mem_cons_of_mem _ (List.mem_append_left _ (List.mem_append_right _ h))) (by decide +kernel))) (goodIn_sub (fun _ h => List.mem_cons_of_mem _ (List.mem_append_right _ h)) (by decide +kernel))
set_option maxRecDepth 20000 in
theorem gX4_addFrom_X4_signedAt : GoodIn wsX4_addFrom (wsV RX4 27 RX4 yX4_signedAt wsX4_signedAt) := goodIn_app (goodIn_of _ (by decide +kernel)) ggX4_addFrom_X4_signedAt
set_option maxRecDepth 20000 in
theorem ggX4_addFrom_X4_add : GoodIn wsX4_addFrom wsX4_add := goodIn_ca (goodIn_ca (goodIn_r _ [15, 11, 6, 16, 17] (by decide +kernel) (by decide +kernel)) (goodIn_sub (fun _ h => List.mem_cons_of_mem _ (List.mem_append_left _ (List.mem_append_right _ h))) (by decide +kernel))) (goodIn_sub (fun _ h => List.mem_cons_of_mem _ (List.mem_append_right _ h)) (by decide +kernel))
set_option maxRecDepth 20000 in
theorem gX4_addFrom_X4_add : GoodIn wsX4_addFrom (wsV RX4 31 RX4 yX4_add wsX4_add) := goodIn_app (goodIn_of _ (by decide +kernel)) ggX4_addFrom_X4_add
set_option maxRecDepth 20000 in
theorem ggX4_become_X4_clear : GoodIn wsX4_become wsX4_clear := goodIn_r _ [6, 1, 24, 25] (by decide +kernel) (by decide +kernel)
set_option maxRecDepth 20000 in
theorem gX4_become_X4_clear : GoodIn wsX4_become (wsV RX4 35 RX4 yX4_clear wsX4_clear) := goodIn_app (goodIn_of _ (by decide +kernel)) ggX4_become_X4_clear
set_option maxRecDepth 20000 in
theorem ggX4_become_X4_addFrom : GoodIn wsX4_become wsX4_addFrom := goodIn_ca (goodIn_ca (goodIn_r _ [10, 11, 12, 13, 5, 14, 15, 16, 17, 18, 19, 1, 20, 21, 22, 23, 24, 25] (by decide +kernel) (by decide +kernel)) (goodIn_sub (fun _ h => List.mem_cons_of_mem _ (List.mem_append_left _ (List.mem_append_right _ h))) (by decide +kernel))) (goodIn_sub (fun _ h => List.mem_cons_of_mem _ (List.mem_append_right _ h)) (by decide +kernel))
set_option maxRecDepth 20000 in
theorem gX4_become_X4_addFrom : GoodIn wsX4_become (wsV RX4 38 RX4 yX4_addFrom wsX4_addFrom) := goodIn_app (goodIn_of _ (by decide +kernel)) ggX4_become_X4_addFrom
set_option maxRecDepth 20000 in
theorem ggX4_cutOut_X4_add : GoodIn wsX4_cutOut wsX4_add := goodIn_ca (goodIn_ca (goodIn_r _ [7, 1, 2, 8, 9] (by decide +kernel) (by decide +kernel)) (goodIn_sub (fun _ h => List.mem_cons_of_mem _ (List.mem_append_right _ h)) (by decide +kernel))) (goodIn_sub (fun _ h => List.mem_cons_of_mem _ (List.mem_append_left _ (List.mem_append_right _ h))) (by decide +kernel))
set_option maxRecDepth 20000 in
theorem gX4_cutOut_X4_add : GoodIn wsX4_cutOut (wsV RX4 31 RX4 yX4_add wsX4_add) := goodIn_app (goodIn_of _ (by decide +kernel)) ggX4_cutOut_X4_add
set_option maxRecDepth 20000 in
theorem ggX4_sum_X4_at : GoodIn wsX4_sum wsX4_at := goodIn_ca (goodIn_ca (goodIn_r _ [6, 7, 8, 9, 5, 10, 11, 12, 13, 14, 15, 1, 16, 17] (by decide +kernel) (by decide +kernel)) (goodIn_sub (fun _ h => List.mem_cons_of_mem _ (List.mem_append_left _ (List.mem_append_right _ h))) (by decide +kernel))) (goodIn_sub (fun _ h => List.mem_cons_of_mem _ (List.mem_append_right _ h)) (by decide +kernel))
set_option maxRecDepth 20000 in
theorem gX4_sum_X4_at : GoodIn wsX4_sum (wsV RX4 45 RX4 yX4_at wsX4_at) := goodIn_app (goodIn_of _ (by decide +kernel)) ggX4_sum_X4_at
set_option maxRecDepth 20000 in
theorem ggX5_init_X4_init : GoodIn wsX5_init wsX4_init := goodIn_r _ [17, 18, 2, 3, 19, 20, 21, 22, 23, 24, 25, 26] (by decide +kernel) (by decide +kernel)
set_option maxRecDepth 20000 in
theorem gX5_init_X4_init : GoodIn wsX5_init (wsX4_init) := ggX5_init_X4_init
set_option maxRecDepth 20000 in
theorem ggX5_load_X4_clear : GoodIn wsX5_load wsX4_clear := goodIn_r _ [9, 10, 63, 64] (by decide +kernel) (by decide +kernel)
set_option maxRecDepth 20000 in
theorem gX5_load_X4_clear : GoodIn wsX5_load (wsV RX5 44 RX4 yX4_clear wsX4_clear) := goodIn_app (goodIn_of _ (by decide +kernel)) ggX5_load_X4_clear
set_option maxRecDepth 20000 in
theorem ggX5_load_X5_coverFrom : GoodIn wsX5_load wsX5_coverFrom := goodIn_ca (goodIn_ca (goodIn_r _ [15, 16, 55, 56, 57, 58, 59, 60, 61, 62] (by decide +kernel) (by decide +kernel)) (goodIn_sub (fun _ h => List.mem_cons_of_mem _ (List.mem_append_right _ h)) (by decide +kernel))) (goodIn_sub (fun _ h => List.mem_cons_of_mem _ (List.mem_append_left _ (List.mem_append_right _ h))) (by decide +kernel))
set_option maxRecDepth 20000 in
theorem gX5_load_X5_coverFrom : GoodIn wsX5_load (wsV RX5 47 RX5 yX5_coverFrom wsX5_coverFrom) := goodIn_app (goodIn_of _ (by decide +kernel)) ggX5_load_X5_coverFrom
set_option maxRecDepth 20000 in
theorem ggX5_load_J7_fill_53178 : GoodIn wsX5_load wsJ7_fill_53178 := goodIn_r _ [20] (by decide +kernel) (by decide +kernel)
set_option maxRecDepth 20000 in
theorem gX5_load_J7_fill_53178 : GoodIn wsX5_load (va_wsS RX5 51 yJ7_fill_53178 wsJ7_fill_53178) := goodIn_app (goodIn_of _ (by decide +kernel)) ggX5_load_J7_fill_53178
set_option maxRecDepth 20000 in
theorem ggX5_load_X4_addFrom : GoodIn wsX5_load wsX4_addFrom := goodIn_ca (goodIn_ca (goodIn_r _ [24, 25, 26, 27, 8, 28, 29, 30, 31, 32, 33, 10, 34, 35, 36, 37, 63, 64] (by decide +kernel) (by decide +kernel)) (goodIn_sub (fun _ h => List.mem_cons_of_mem _ (List.mem_append_left _ (List.mem_append_right _ h))) (by decide +kernel))) (goodIn_sub (fun _ h => List.mem_cons_of_mem _ (List.mem_append_right _ h)) (by decide +kernel))
set_option maxRecDepth 20000 in
theorem gX5_load_X4_addFrom : GoodIn wsX5_load (wsV RX5 57 RX4 yX4_addFrom wsX4_addFrom) := goodIn_app (goodIn_of _ (by decide +kernel)) ggX5_load_X4_addFrom
set_option maxRecDepth 20000 in
theorem ggX5_load_X4_length : GoodIn wsX5_load wsX4_length := goodIn_r _ [41, 10, 63, 64] (by decide +kernel) (by decide +kernel)
set_option maxRecDepth 20000 in
theorem gX5_load_X4_length : GoodIn wsX5_load (wsV RX5 61 RX4 yX4_length wsX4_length) := goodIn_app (goodIn_of _ (by decide +kernel)) ggX5_load_X4_length
set_option maxRecDepth 20000 in
theorem ggX5_load_X5_markKinds : GoodIn wsX5_load wsX5_markKinds := goodIn_ca (goodIn_ca (goodIn_r _ [45, 4, 46, 47, 48, 14, 49, 50, 51, 52, 53, 1, 3, 54, 26, 27, 8, 28, 29, 30, 31, 32, 33, 10, 55, 56, 57, 58, 59, 60, 61, 62, 63, 64] (by decide +kernel) (by decide +kernel)) (goodIn_sub (fun _ h => List.mem_cons_of_mem _ (List.mem_append_left _ (List.mem_append_right _ h))) (by decide +kernel))) (goodIn_sub (fun _ h => List.mem_cons_of_mem _ (List.mem_append_right _ h)) (by decide +kernel))
set_option maxRecDepth 20000 in
theorem gX5_load_X5_markKinds : GoodIn wsX5_load (wsV RX5 65 RX5 yX5_markKinds wsX5_markKinds) := goodIn_app (goodIn_of _ (by decide +kernel)) ggX5_load_X5_markKinds
set_option maxRecDepth 20000 in
theorem ggX5_takeRows_X5_countRows : GoodIn wsX5_takeRows wsX5_countRows := goodIn_ca (goodIn_ca (goodIn_r _ [10, 3, 11, 4, 2, 12, 13, 14, 15, 16, 17, 18, 9, 19, 20, 33, 34, 35, 36, 37, 38, 39, 40] (by decide +kernel) (by decide +kernel)) (goodIn_sub (fun _ h => List.mem_cons_of_mem _ (List.mem_append_left _ (List.mem_append_right _ h))) (by decide +kernel))) (goodIn_sub (fun _ h => List.mem_cons_of_mem _ (List.mem_append_right _ h)) (by decide +kernel))
set_option maxRecDepth 20000 in
theorem gX5_takeRows_X5_countRows : GoodIn wsX5_takeRows (wsV RX5 69 RX5 yX5_countRows wsX5_countRows) := goodIn_app (goodIn_of _ (by decide +kernel)) ggX5_takeRows_X5_countRows
set_option maxRecDepth 20000 in
theorem ggX5_takeRows_X5_placeOfMost : GoodIn wsX5_takeRows wsX5_placeOfMost := goodIn_ca (goodIn_ca (goodIn_r _ [24, 4, 3, 16, 17, 18, 9, 19, 2, 20, 33, 34, 35, 36, 37, 38, 39, 40] (by decide +kernel) (by decide +kernel)) (goodIn_sub (fun _ h => List.mem_cons_of_mem _ (List.mem_append_right _ h)) (by decide +kernel))) (goodIn_sub (fun _ h => List.mem_cons_of_mem _ (List.mem_append_left _ (List.mem_append_right _ h))) (by decide +kernel))
set_option maxRecDepth 20000 in
theorem gX5_takeRows_X5_placeOfMost : GoodIn wsX5_takeRows (wsV RX5 72 RX5 yX5_placeOfMost wsX5_placeOfMost) := goodIn_app (goodIn_of _ (by decide +kernel)) ggX5_takeRows_X5_placeOfMost
set_option maxRecDepth 20000 in
theorem ggX5_takeRows_X5_cover : GoodIn wsX5_takeRows wsX5_cover := goodIn_ca (goodIn_ca (goodIn_r _ [28, 4, 2, 16, 17, 18, 9, 19, 20, 29, 30, 31, 32, 33, 34, 35, 36, 37, 38, 39, 40] (by decide +kernel) (by decide +kernel)) (goodIn_sub (fun _ h => List.mem_cons_of_mem _ (List.mem_append_right _ h)) (by decide +kernel))) (goodIn_sub (fun _ h => List.mem_cons_of_mem _ (List.mem_append_left _ (List.mem_append_right _ h))) (by decide +kernel))
set_option maxRecDepth 20000 in
theorem gX5_takeRows_X5_cover : GoodIn wsX5_takeRows (wsV RX5 75 RX5 yX5_cover wsX5_cover) := goodIn_app (goodIn_of _ (by decide +kernel)) ggX5_takeRows_X5_cover
set_option maxRecDepth 20000 in
theorem ggX5_handOver_X0_addPiece : GoodIn wsX5_handOver wsX0_addPiece := goodIn_ca (goodIn_ca (goodIn_r _ [8, 9, 10, 11, 12, 13, 14, 15, 16, 17, 18, 19, 20, 21, 22, 23, 24, 25, 26, 27, 28, 29, 30, 31, 32, 33, 34, 43, 44, 45, 46, 47, 48] (by decide +kernel) (by decide +kernel)) (goodIn_sub (fun _ h => List.mem_cons_of_mem _ (List.mem_append_right _ h)) (by decide +kernel))) (goodIn_sub (fun _ h => List.mem_cons_of_mem _ (List.mem_append_left _ (List.mem_append_right _ h))) (by decide +kernel))
set_option maxRecDepth 20000 in
theorem gX5_handOver_X0_addPiece : GoodIn wsX5_handOver (wsV RX5 78 RX0 yX0_addPiece wsX0_addPiece) := goodIn_app (goodIn_of _ (by decide +kernel)) ggX5_handOver_X0_addPiece
set_option maxRecDepth 20000 in
theorem ggX5_markKinds_X5_firstSameRow : GoodIn wsX5_markKinds wsX5_firstSameRow := goodIn_ca (goodIn_ca (goodIn_r _ [6, 1, 7, 8, 9, 5, 10, 11, 12, 13, 14, 15, 16, 17, 18, 19, 20, 21, 22, 23, 24, 25, 26, 27, 28, 29, 30, 31, 32, 33] (by decide +kernel) (by decide +kernel)) (goodIn_sub (fun _ h => List.mem_cons_of_mem _ (List.mem_append_right _ h)) (by decide +kernel))) (goodIn_sub (fun _ h => List.mem_cons_of_mem _ (List.mem_append_left _ (List.mem_append_right _ h))) (by decide +kernel))
set_option maxRecDepth 20000 in
theorem gX5_markKinds_X5_firstSameRow : GoodIn wsX5_markKinds (wsV RX5 84 RX5 yX5_firstSameRow wsX5_firstSameRow) := goodIn_app (goodIn_of _ (by decide +kernel)) ggX5_markKinds_X5_firstSameRow
set_option maxRecDepth 20000 in
theorem ggX5_firstSameRow_X5_isSameRow : GoodIn wsX5_firstSameRow wsX5_isSameRow := goodIn_ca (goodIn_ca (goodIn_r _ [6, 7, 8, 9, 10, 11, 12, 13, 14, 15, 16, 17, 18, 19, 20, 21, 22, 23, 24, 25, 26, 27, 28, 29] (by decide +kernel) (by decide +kernel)) (goodIn_sub (fun _ h => List.mem_cons_of_mem _ (List.mem_append_right _ h)) (by decide +kernel))) (goodIn_sub (fun _ h => List.mem_cons_of_mem _ (List.mem_append_left _ (List.mem_append_right _ h))) (by decide +kernel))
set_option maxRecDepth 20000 in
theorem gX5_firstSameRow_X5_isSameRow : GoodIn wsX5_firstSameRow (wsV RX5 88 RX5 yX5_isSameRow wsX5_isSameRow) := goodIn_app (goodIn_of _ (by decide +kernel)) ggX5_firstSameRow_X5_isSameRow
set_option maxRecDepth 20000 in
theorem ggX5_isSameRow_X4_signedAt : GoodIn wsX5_isSameRow wsX4_signedAt := goodIn_ca (goodIn_ca (goodIn_r _ [7, 8, 9, 10, 11, 6, 12, 13, 22, 23] (by decide +kernel) (by decide +kernel)) (goodIn_sub (fun _ h => List.mem_cons_of_mem _ (List.mem_append_left _ (List.mem_append_right _ h))) (by decide +kernel))) (goodIn_sub (fun _ h => List.mem_cons_of_mem _ (List.mem_append_right _ h)) (by decide +kernel))
set_option maxRecDepth 20000 in
theorem gX5_isSameRow_X4_signedAt : GoodIn wsX5_isSameRow (wsV RX5 92 RX4 yX4_signedAt wsX4_signedAt) := goodIn_app (goodIn_of _ (by decide +kernel)) ggX5_isSameRow_X4_signedAt
set_option maxRecDepth 20000 in
theorem ggX5_countRows_J7_fill_53178 : GoodIn wsX5_countRows wsJ7_fill_53178 := goodIn_r _ [8] (by decide +kernel) (by decide +kernel)
set_option maxRecDepth 20000 in
theorem gX5_countRows_J7_fill_53178 : GoodIn wsX5_countRows (va_wsS RX5 51 yJ7_fill_53178 wsJ7_fill_53178) := goodIn_app (goodIn_of _ (by decide +kernel)) ggX5_countRows_J7_fill_53178
set_option maxRecDepth 20000 in
theorem ggX5_countRows_X5_isFreeRow : GoodIn wsX5_countRows wsX5_isFreeRow := goodIn_ca (goodIn_ca (goodIn_r _ [13, 3, 4, 14, 15, 16, 17, 18, 19, 20, 21, 22] (by decide +kernel) (by decide +kernel)) (goodIn_sub (fun _ h => List.mem_cons_of_mem _ (List.mem_append_right _ h)) (by decide +kernel))) (goodIn_sub (fun _ h => List.mem_cons_of_mem _ (List.mem_append_left _ (List.mem_append_right _ h))) (by decide +kernel))
set_option maxRecDepth 20000 in
theorem gX5_countRows_X5_isFreeRow : GoodIn wsX5_countRows (wsV RX5 96 RX5 yX5_isFreeRow wsX5_isFreeRow) := goodIn_app (goodIn_of _ (by decide +kernel)) ggX5_countRows_X5_isFreeRow
set_option maxRecDepth 20000 in
theorem ggX5_placeOfMost_X5_isFreeRow : GoodIn wsX5_placeOfMost wsX5_isFreeRow := goodIn_ca (goodIn_ca (goodIn_r _ [7, 1, 8, 9, 10, 11, 12, 13, 14, 15, 16, 17] (by decide +kernel) (by decide +kernel)) (goodIn_sub (fun _ h => List.mem_cons_of_mem _ (List.mem_append_left _ (List.mem_append_right _ h))) (by decide +kernel))) (goodIn_sub (fun _ h => List.mem_cons_of_mem _ (List.mem_append_right _ h)) (by decide +kernel))
set_option maxRecDepth 20000 in
theorem gX5_placeOfMost_X5_isFreeRow : GoodIn wsX5_placeOfMost (wsV RX5 96 RX5 yX5_isFreeRow wsX5_isFreeRow) := goodIn_app (goodIn_of _ (by decide +kernel)) ggX5_placeOfMost_X5_isFreeRow
set_option maxRecDepth 20000 in
theorem ggX5_cover_X5_isFreeRow : GoodIn wsX5_cover wsX5_isFreeRow := goodIn_ca (goodIn_ca (goodIn_r _ [7, 1, 2, 8, 13, 14, 15, 16, 17, 18, 19, 20] (by decide +kernel) (by decide +kernel)) (goodIn_sub (fun _ h => List.mem_cons_of_mem _ (List.mem_append_left _ (List.mem_append_right _ h))) (by decide +kernel))) (goodIn_sub (fun _ h => List.mem_cons_of_mem _ (List.mem_append_right _ h)) (by decide +kernel))
set_option maxRecDepth 20000 in
theorem gX5_cover_X5_isFreeRow : GoodIn wsX5_cover (wsV RX5 96 RX5 yX5_isFreeRow wsX5_isFreeRow) := goodIn_app (goodIn_of _ (by decide +kernel)) ggX5_cover_X5_isFreeRow
set_option maxRecDepth 20000 in
theorem ggX5_cover_X5_coverFrom : GoodIn wsX5_cover wsX5_coverFrom := goodIn_ca (goodIn_ca (goodIn_r _ [12, 8, 13, 14, 15, 16, 17, 18, 19, 20] (by decide +kernel) (by decide +kernel)) (goodIn_sub (fun _ h => List.mem_cons_of_mem _ (List.mem_append_left _ (List.mem_append_right _ h))) (by decide +kernel))) (goodIn_sub (fun _ h => List.mem_cons_of_mem _ (List.mem_append_right _ h)) (by decide +kernel))
set_option maxRecDepth 20000 in
theorem gX5_cover_X5_coverFrom : GoodIn wsX5_cover (wsV RX5 47 RX5 yX5_coverFrom wsX5_coverFrom) := goodIn_app (goodIn_of _ (by decide +kernel)) ggX5_cover_X5_coverFrom
set_option maxRecDepth 20000 in
theorem ggX6_init_X4_init : GoodIn wsX6_init wsX4_init := goodIn_r _ [34, 35, 2, 3, 36, 37, 38, 39, 40, 41, 86, 87] (by decide +kernel) (by decide +kernel)
set_option maxRecDepth 20000 in
theorem gX6_init_X4_init : GoodIn wsX6_init (wsX4_init) := ggX6_init_X4_init
set_option maxRecDepth 20000 in
theorem ggX6_init_X0_init : GoodIn wsX6_init wsX0_init := goodIn_r _ [44, 45, 2, 3, 46, 5, 6, 47, 48, 33, 34, 35, 36, 37, 38, 39, 40, 41, 86, 87, 99, 100, 101, 102] (by decide +kernel) (by decide +kernel)
set_option maxRecDepth 20000 in
theorem gX6_init_X0_init : GoodIn wsX6_init (wsX0_init) := ggX6_init_X0_init
set_option maxRecDepth 20000 in
theorem ggX6_init_X2_init : GoodIn wsX6_init wsX2_init := goodIn_r _ [51, 52, 2, 3, 53, 5, 6, 54, 55, 33, 34, 35, 36, 37, 38, 39, 40, 41, 86, 87, 103, 104, 105] (by decide +kernel) (by decide +kernel)
set_option maxRecDepth 20000 in
theorem gX6_init_X2_init : GoodIn wsX6_init (wsX2_init) := ggX6_init_X2_init
set_option maxRecDepth 20000 in
theorem ggX6_init_X3_init : GoodIn wsX6_init wsX3_init := goodIn_r _ [58, 59, 2, 3, 40, 60, 61, 62, 63, 64, 65, 106, 107, 108, 109, 110, 111, 112] (by decide +kernel) (by decide +kernel)
set_option maxRecDepth 20000 in
theorem gX6_init_X3_init : GoodIn wsX6_init (wsX3_init) := ggX6_init_X3_init
set_option maxRecDepth 20000 in
theorem ggX6_init_X5_init : GoodIn wsX6_init wsX5_init := goodIn_r _ [68, 69, 2, 3, 70, 5, 6, 71, 72, 73, 61, 74, 75, 76, 77, 78, 33, 34, 35, 36, 37, 38, 39, 40, 41, 86, 87, 113, 114, 115, 116, 117, 118, 119, 120] (by decide +kernel) (by decide +kernel)
set_option maxRecDepth 20000 in
theorem gX6_init_X5_init : GoodIn wsX6_init (wsX5_init) := ggX6_init_X5_init
set_option maxRecDepth 20000 in
theorem ggX6_init_X1_init : GoodIn wsX6_init wsX1_init := goodIn_r _ [81, 82, 2, 3, 83, 5, 6, 84, 85, 33, 34, 35, 36, 37, 38, 39, 40, 41, 86, 87, 121, 122, 123, 124] (by decide +kernel) (by decide +kernel)
set_option maxRecDepth 20000 in
theorem gX6_init_X1_init : GoodIn wsX6_init (wsX1_init) := ggX6_init_X1_init
set_option maxRecDepth 20000 in
theorem ggX6_feed_X4_hasRoom : GoodIn wsX6_feed wsX4_hasRoom := goodIn_ca (goodIn_r _ [6, 7, 8, 28, 29] (by decide +kernel) (by decide +kernel)) (goodIn_sub (fun _ h => List.mem_cons_of_mem _ (List.mem_append_left _ (List.mem_append_right _ h))) (by decide +kernel))
set_option maxRecDepth 20000 in
theorem gX6_feed_X4_hasRoom : GoodIn wsX6_feed (wsV RX6 67 RX4 yX4_hasRoom wsX4_hasRoom) := goodIn_app (goodIn_of _ (by decide +kernel)) ggX6_feed_X4_hasRoom
set_option maxRecDepth 20000 in
theorem ggX6_feed_X4_add : GoodIn wsX6_feed wsX4_add := goodIn_ca (goodIn_ca (goodIn_r _ [12, 8, 7, 28, 29] (by decide +kernel) (by decide +kernel)) (goodIn_sub (fun _ h => List.mem_cons_of_mem _ (List.mem_append_left _ (List.mem_append_right _ h))) (by decide +kernel))) (goodIn_sub (fun _ h => List.mem_cons_of_mem _ (List.mem_append_right _ h)) (by decide +kernel))
set_option maxRecDepth 20000 in
theorem gX6_feed_X4_add : GoodIn wsX6_feed (wsV RX6 71 RX4 yX4_add wsX4_add) := goodIn_app (goodIn_of _ (by decide +kernel)) ggX6_feed_X4_add
set_option maxRecDepth 20000 in
theorem ggX6_feed_X4_length : GoodIn wsX6_feed wsX4_length := goodIn_r _ [16, 8, 28, 29] (by decide +kernel) (by decide +kernel)
set_option maxRecDepth 20000 in
theorem gX6_feed_X4_length : GoodIn wsX6_feed (wsV RX6 74 RX4 yX4_length wsX4_length) := goodIn_app (goodIn_of _ (by decide +kernel)) ggX6_feed_X4_length
set_option maxRecDepth 20000 in
theorem ggX6_sample_X4_length : GoodIn wsX6_sample wsX4_length := goodIn_r _ [8, 9, 47, 48] (by decide +kernel) (by decide +kernel)
set_option maxRecDepth 20000 in
theorem gX6_sample_X4_length : GoodIn wsX6_sample (wsV RX6 74 RX4 yX4_length wsX4_length) := goodIn_app (goodIn_of _ (by decide +kernel)) ggX6_sample_X4_length
set_option maxRecDepth 20000 in
theorem ggX6_sample_X4_become : GoodIn wsX6_sample wsX4_become := goodIn_ca (goodIn_ca (goodIn_r _ [13, 9, 14, 15, 16, 7, 17, 18, 19, 20, 21, 22, 23, 24, 25, 26, 27, 28, 29, 30, 31, 32, 33, 34, 47, 48] (by decide +kernel) (by decide +kernel)) (goodIn_sub (fun _ h => List.mem_cons_of_mem _ (List.mem_append_left _ (List.mem_append_right _ h))) (by decide +kernel))) (goodIn_sub (fun _ h => List.mem_cons_of_mem _ (List.mem_append_right _ h)) (by decide +kernel))
set_option maxRecDepth 20000 in
theorem gX6_sample_X4_become : GoodIn wsX6_sample (wsV RX6 82 RX4 yX4_become wsX4_become) := goodIn_app (goodIn_of _ (by decide +kernel)) ggX6_sample_X4_become
set_option maxRecDepth 20000 in
theorem ggX6_sample_X4_clear : GoodIn wsX6_sample wsX4_clear := goodIn_r _ [17, 9, 47, 48] (by decide +kernel) (by decide +kernel)
set_option maxRecDepth 20000 in
theorem gX6_sample_X4_clear : GoodIn wsX6_sample (wsV RX6 86 RX4 yX4_clear wsX4_clear) := goodIn_app (goodIn_of _ (by decide +kernel)) ggX6_sample_X4_clear
set_option maxRecDepth 20000 in
theorem ggX6_train_X6_isNumber : GoodIn wsX6_train wsX6_isNumber := goodIn_r _ [8] (by decide +kernel) (by decide +kernel)
set_option maxRecDepth 20000 in
theorem gX6_train_X6_isNumber : GoodIn wsX6_train (va_wsS RX6 89 yX6_isNumber wsX6_isNumber) := goodIn_app (goodIn_of _ (by decide +kernel)) ggX6_train_X6_isNumber
set_option maxRecDepth 20000 in
theorem ggX6_train_X6_isId : GoodIn wsX6_train wsX6_isId := goodIn_r _ [11] (by decide +kernel) (by decide +kernel)
set_option maxRecDepth 20000 in
theorem gX6_train_X6_isId : GoodIn wsX6_train (va_wsS RX6 92 yX6_isId wsX6_isId) := goodIn_app (goodIn_of _ (by decide +kernel)) ggX6_train_X6_isId
set_option maxRecDepth 20000 in
theorem ggX6_train_X5_load : GoodIn wsX6_train wsX5_load := goodIn_ca (goodIn_ca (goodIn_r _ [16, 17, 18, 19, 20, 21, 22, 23, 24, 25, 26, 27, 28, 29, 15, 30, 31, 32, 33, 34, 35, 36, 37, 38, 39, 40, 41, 42, 43, 44, 45, 46, 47, 48, 49, 50, 51, 52, 53, 54, 55, 56, 57, 58, 59, 60, 61, 62, 63, 64, 65, 66, 67, 68, 69, 131, 132, 133, 134, 135, 136, 137, 138, 139, 140] (by decide +kernel) (by decide +kernel)) (goodIn_sub (fun _ h => List.mem_cons_of_mem _ (List.mem_append_left _ (List.mem_append_right _ h))) (by decide +kernel))) (goodIn_sub (fun _ h => List.mem_cons_of_mem _ (List.mem_append_right _ h)) (by decide +kernel))
