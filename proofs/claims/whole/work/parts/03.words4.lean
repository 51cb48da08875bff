set_option maxRecDepth 20000 in
theorem gX6_size_X3_measure : GoodIn wsX6_size (wsV RX6 162 RX3 yX3_measure wsX3_measure) := goodIn_app (goodIn_of _ (by decide +kernel)) ggX6_size_X3_measure
set_option maxRecDepth 20000 in
theorem ggX6_best_X6_isSample : GoodIn wsX6_best wsX6_isSample := goodIn_r _ [9, 10, 75, 76, 77, 78, 79, 80, 81, 82, 83, 84, 85] (by decide +kernel) (by decide +kernel)
set_option maxRecDepth 20000 in
theorem gX6_best_X6_isSample : GoodIn wsX6_best (wsV RX6 193 RX6 yX6_isSample wsX6_isSample) := goodIn_app (goodIn_of _ (by decide +kernel)) ggX6_best_X6_isSample
set_option maxRecDepth 20000 in
theorem ggX6_best_X0_words : GoodIn wsX6_best wsX0_words := goodIn_r _ [15, 16, 86, 87, 88, 89] (by decide +kernel) (by decide +kernel)
set_option maxRecDepth 20000 in
theorem gX6_best_X0_words : GoodIn wsX6_best (wsV RX6 117 RX0 yX0_words wsX0_words) := goodIn_app (goodIn_of _ (by decide +kernel)) ggX6_best_X0_words
set_option maxRecDepth 20000 in
theorem ggX6_best_X3_measure : GoodIn wsX6_best wsX3_measure := goodIn_ca (goodIn_ca (goodIn_r _ [21, 22, 23, 24, 25, 26, 27, 28, 29, 30, 31, 32, 33, 34, 35, 36, 37, 38, 39, 40, 41, 42, 43, 44, 20, 45, 46, 47, 48, 49, 50, 51, 52, 53, 54, 55, 56, 57, 58, 59, 60, 61, 62, 63, 64, 65, 66, 67, 68, 69, 90, 91, 92, 93, 94, 95, 96, 97, 98] (by decide +kernel) (by decide +kernel)) (goodIn_sub (fun _ h => List.mem_cons_of_mem _ (List.mem_append_left _ (List.mem_append_right _ h))) (by decide +kernel))) (goodIn_sub (fun _ h => List.mem_cons_of_mem _ (List.mem_append_right _ h)) (by decide +kernel))
set_option maxRecDepth 20000 in
theorem gX6_best_X3_measure : GoodIn wsX6_best (wsV RX6 162 RX3 yX3_measure wsX3_measure) := goodIn_app (goodIn_of _ (by decide +kernel)) ggX6_best_X3_measure
set_option maxRecDepth 20000 in
theorem ggX6_best_X0_isThere : GoodIn wsX6_best wsX0_isThere := goodIn_r _ [73, 74, 86, 87, 88, 89] (by decide +kernel) (by decide +kernel)
set_option maxRecDepth 20000 in
theorem gX6_best_X0_isThere : GoodIn wsX6_best (wsV RX6 196 RX0 yX0_isThere wsX0_isThere) := goodIn_app (goodIn_of _ (by decide +kernel)) ggX6_best_X0_isThere
set_option maxRecDepth 20000 in
theorem ggX6_share_X6_thereAt : GoodIn wsX6_share wsX6_thereAt := goodIn_ca (goodIn_r _ [8, 9, 10, 11, 7, 12, 13, 14, 15, 16, 17, 18, 84, 85, 86, 87, 88, 89, 90, 91, 92, 93, 94, 95, 96, 97, 98] (by decide +kernel) (by decide +kernel)) (goodIn_sub (fun _ h => List.mem_cons_of_mem _ (List.mem_append_left _ (List.mem_append_left _ (List.mem_append_left _ (List.mem_append_right _ h))))) (by decide +kernel))
set_option maxRecDepth 20000 in
theorem gX6_share_X6_thereAt : GoodIn wsX6_share (wsV RX6 121 RX6 yX6_thereAt wsX6_thereAt) := goodIn_app (goodIn_of _ (by decide +kernel)) ggX6_share_X6_thereAt
set_option maxRecDepth 20000 in
theorem ggX6_share_X0_words : GoodIn wsX6_share wsX0_words := goodIn_r _ [22, 23, 95, 96, 97, 98] (by decide +kernel) (by decide +kernel)
set_option maxRecDepth 20000 in
theorem gX6_share_X0_words : GoodIn wsX6_share (wsV RX6 117 RX0 yX0_words wsX0_words) := goodIn_app (goodIn_of _ (by decide +kernel)) ggX6_share_X0_words
set_option maxRecDepth 20000 in
theorem ggX6_share_X6_bytesOfSamples : GoodIn wsX6_share wsX6_bytesOfSamples := goodIn_ca (goodIn_ca (goodIn_r _ [27, 28, 29, 30, 31, 32, 33, 34, 35, 36, 37, 38, 39, 40, 41, 42, 43, 44, 45, 46, 47, 48, 49, 50, 51, 52, 53, 54, 55, 56, 57, 58, 59, 60, 61, 62, 63, 64, 65, 66, 67, 68, 69, 70, 71, 72, 73, 74, 75, 76, 77, 78, 79, 80, 81, 82, 83, 84, 85, 86, 87, 88, 89, 90, 91, 92, 93, 94, 99, 100, 101, 102, 103, 104, 105, 106, 107] (by decide +kernel) (by decide +kernel)) (goodIn_sub (fun _ h => List.mem_cons_of_mem _ (List.mem_append_left _ (List.mem_append_left _ (List.mem_append_left _ (List.mem_append_right _ h))))) (by decide +kernel))) (goodIn_sub (fun _ h => List.mem_cons_of_mem _ (List.mem_append_right _ h)) (by decide +kernel))
set_option maxRecDepth 20000 in
theorem gX6_share_X6_bytesOfSamples : GoodIn wsX6_share (wsV RX6 200 RX6 yX6_bytesOfSamples wsX6_bytesOfSamples) := goodIn_app (goodIn_of _ (by decide +kernel)) ggX6_share_X6_bytesOfSamples
set_option maxRecDepth 20000 in
theorem ggX6_about_X4_length : GoodIn wsX6_about wsX4_length := goodIn_r _ [9, 10, 50, 51] (by decide +kernel) (by decide +kernel)
set_option maxRecDepth 20000 in
theorem gX6_about_X4_length : GoodIn wsX6_about (wsV RX6 74 RX4 yX4_length wsX4_length) := goodIn_app (goodIn_of _ (by decide +kernel)) ggX6_about_X4_length
set_option maxRecDepth 20000 in
theorem ggX6_about_X6_countThere : GoodIn wsX6_about wsX6_countThere := goodIn_ca (goodIn_r _ [15, 16, 17, 18, 19, 20, 21, 22, 39, 40, 41, 42, 43, 44, 45, 46, 47, 48, 49, 52, 53, 54, 55] (by decide +kernel) (by decide +kernel)) (goodIn_sub (fun _ h => List.mem_cons_of_mem _ (List.mem_append_right _ h)) (by decide +kernel))
set_option maxRecDepth 20000 in
theorem gX6_about_X6_countThere : GoodIn wsX6_about (wsV RX6 209 RX6 yX6_countThere wsX6_countThere) := goodIn_app (goodIn_of _ (by decide +kernel)) ggX6_about_X6_countThere
set_option maxRecDepth 20000 in
theorem ggX6_about_X2_bytes : GoodIn wsX6_about wsX2_bytes := goodIn_r _ [27, 28, 56, 57, 58] (by decide +kernel) (by decide +kernel)
set_option maxRecDepth 20000 in
theorem gX6_about_X2_bytes : GoodIn wsX6_about (wsV RX6 173 RX2 yX2_bytes wsX2_bytes) := goodIn_app (goodIn_of _ (by decide +kernel)) ggX6_about_X2_bytes
set_option maxRecDepth 20000 in
theorem ggX6_about_X2_items : GoodIn wsX6_about wsX2_items := goodIn_r _ [32, 33, 56, 57, 58] (by decide +kernel) (by decide +kernel)
set_option maxRecDepth 20000 in
theorem gX6_about_X2_items : GoodIn wsX6_about (wsV RX6 212 RX2 yX2_items wsX2_items) := goodIn_app (goodIn_of _ (by decide +kernel)) ggX6_about_X2_items
set_option maxRecDepth 20000 in
theorem ggX6_about_X2_matches : GoodIn wsX6_about wsX2_matches := goodIn_r _ [37, 38, 56, 57, 58] (by decide +kernel) (by decide +kernel)
set_option maxRecDepth 20000 in
theorem gX6_about_X2_matches : GoodIn wsX6_about (wsV RX6 215 RX2 yX2_matches wsX2_matches) := goodIn_app (goodIn_of _ (by decide +kernel)) ggX6_about_X2_matches
set_option maxRecDepth 20000 in
theorem ggX6_thereAt_X6_isNumber : GoodIn wsX6_thereAt wsX6_isNumber := goodIn_r _ [5] (by decide +kernel) (by decide +kernel)
set_option maxRecDepth 20000 in
theorem gX6_thereAt_X6_isNumber : GoodIn wsX6_thereAt (va_wsS RX6 89 yX6_isNumber wsX6_isNumber) := goodIn_app (goodIn_of _ (by decide +kernel)) ggX6_thereAt_X6_isNumber
set_option maxRecDepth 20000 in
theorem ggX6_thereAt_X0_isThere : GoodIn wsX6_thereAt wsX0_isThere := goodIn_r _ [10, 11, 23, 24, 25, 26] (by decide +kernel) (by decide +kernel)
set_option maxRecDepth 20000 in
theorem gX6_thereAt_X0_isThere : GoodIn wsX6_thereAt (wsV RX6 196 RX0 yX0_isThere wsX0_isThere) := goodIn_app (goodIn_of _ (by decide +kernel)) ggX6_thereAt_X0_isThere
set_option maxRecDepth 20000 in
theorem ggX6_noneOrThereAt_X6_thereAt : GoodIn wsX6_noneOrThereAt wsX6_thereAt := goodIn_ca (goodIn_r _ [6, 7, 8, 9, 5, 10, 11, 12, 13, 14, 15, 16, 17, 18, 19, 20, 21, 22, 23, 24, 25, 26, 27, 28, 29, 30, 31] (by decide +kernel) (by decide +kernel)) (goodIn_sub (fun _ h => List.mem_cons_of_mem _ (List.mem_append_right _ h)) (by decide +kernel))
set_option maxRecDepth 20000 in
theorem gX6_noneOrThereAt_X6_thereAt : GoodIn wsX6_noneOrThereAt (wsV RX6 121 RX6 yX6_thereAt wsX6_thereAt) := goodIn_app (goodIn_of _ (by decide +kernel)) ggX6_noneOrThereAt_X6_thereAt
set_option maxRecDepth 20000 in
theorem ggX6_firstWithId_X0_id : GoodIn wsX6_firstWithId wsX0_id := goodIn_r _ [7, 8, 20, 21, 22, 23] (by decide +kernel) (by decide +kernel)
set_option maxRecDepth 20000 in
theorem gX6_firstWithId_X0_id : GoodIn wsX6_firstWithId (wsV RX6 129 RX0 yX0_id wsX0_id) := goodIn_app (goodIn_of _ (by decide +kernel)) ggX6_firstWithId_X0_id
set_option maxRecDepth 20000 in
theorem ggX6_countThere_X0_isThere : GoodIn wsX6_countThere wsX0_isThere := goodIn_r _ [6, 7, 19, 20, 21, 22] (by decide +kernel) (by decide +kernel)
set_option maxRecDepth 20000 in
theorem gX6_countThere_X0_isThere : GoodIn wsX6_countThere (wsV RX6 196 RX0 yX0_isThere wsX0_isThere) := goodIn_app (goodIn_of _ (by decide +kernel)) ggX6_countThere_X0_isThere
set_option maxRecDepth 20000 in
theorem ggX6_bytesOfSamples_X3_measure : GoodIn wsX6_bytesOfSamples wsX3_measure := goodIn_ca (goodIn_ca (goodIn_r _ [8, 9, 10, 11, 12, 13, 14, 15, 16, 17, 18, 19, 20, 21, 22, 23, 24, 25, 26, 27, 28, 29, 30, 31, 7, 32, 33, 34, 35, 36, 37, 38, 39, 40, 41, 42, 43, 44, 45, 46, 47, 48, 49, 50, 51, 52, 53, 54, 55, 56, 68, 69, 70, 71, 72, 73, 74, 75, 76] (by decide +kernel) (by decide +kernel)) (goodIn_sub (fun _ h => List.mem_cons_of_mem _ (List.mem_append_left _ (List.mem_append_right _ h))) (by decide +kernel))) (goodIn_sub (fun _ h => List.mem_cons_of_mem _ (List.mem_append_right _ h)) (by decide +kernel))
set_option maxRecDepth 20000 in
theorem gX6_bytesOfSamples_X3_measure : GoodIn wsX6_bytesOfSamples (wsV RX6 162 RX3 yX3_measure wsX3_measure) := goodIn_app (goodIn_of _ (by decide +kernel)) ggX6_bytesOfSamples_X3_measure
set_option maxRecDepth 20000 in
theorem ggX6_leaveOutIdlePieces_X0_pieces : GoodIn wsX6_leaveOutIdlePieces wsX0_pieces := goodIn_r _ [6, 7, 122, 123, 124, 125] (by decide +kernel) (by decide +kernel)
set_option maxRecDepth 20000 in
theorem gX6_leaveOutIdlePieces_X0_pieces : GoodIn wsX6_leaveOutIdlePieces (wsV RX6 110 RX0 yX0_pieces wsX0_pieces) := goodIn_app (goodIn_of _ (by decide +kernel)) ggX6_leaveOutIdlePieces_X0_pieces
set_option maxRecDepth 20000 in
theorem ggX6_leaveOutIdlePieces_X0_words : GoodIn wsX6_leaveOutIdlePieces wsX0_words := goodIn_r _ [11, 12, 122, 123, 124, 125] (by decide +kernel) (by decide +kernel)
set_option maxRecDepth 20000 in
theorem gX6_leaveOutIdlePieces_X0_words : GoodIn wsX6_leaveOutIdlePieces (wsV RX6 117 RX0 yX0_words wsX0_words) := goodIn_app (goodIn_of _ (by decide +kernel)) ggX6_leaveOutIdlePieces_X0_words
set_option maxRecDepth 20000 in
theorem ggX6_leaveOutIdlePieces_X6_bytesOfSamples : GoodIn wsX6_leaveOutIdlePieces wsX6_bytesOfSamples := goodIn_ca (goodIn_ca (goodIn_r _ [17, 18, 19, 20, 21, 22, 23, 24, 25, 26, 27, 28, 29, 30, 31, 32, 33, 34, 35, 36, 37, 38, 39, 40, 41, 42, 43, 44, 45, 46, 47, 48, 49, 50, 51, 52, 53, 54, 55, 56, 57, 58, 59, 60, 61, 62, 63, 64, 65, 66, 67, 68, 69, 70, 71, 72, 73, 111, 112, 113, 114, 115, 116, 117, 118, 119, 120, 121, 126, 127, 128, 129, 130, 131, 132, 133, 134] (by decide +kernel) (by decide +kernel)) (goodIn_sub (fun _ h => List.mem_cons_of_mem _ (List.mem_append_left _ (List.mem_append_right _ h))) (by decide +kernel))) (goodIn_sub (fun _ h => List.mem_cons_of_mem _ (List.mem_append_right _ h)) (by decide +kernel))
set_option maxRecDepth 20000 in
theorem gX6_leaveOutIdlePieces_X6_bytesOfSamples : GoodIn wsX6_leaveOutIdlePieces (wsV RX6 200 RX6 yX6_bytesOfSamples wsX6_bytesOfSamples) := goodIn_app (goodIn_of _ (by decide +kernel)) ggX6_leaveOutIdlePieces_X6_bytesOfSamples
set_option maxRecDepth 20000 in
theorem ggX6_leaveOutIdlePieces_X0_copyWithout : GoodIn wsX6_leaveOutIdlePieces wsX0_copyWithout := goodIn_ca (goodIn_ca (goodIn_r _ [77, 12, 78, 79, 80, 81, 38, 82, 40, 83, 84, 85, 86, 87, 88, 89, 90, 91, 92, 93, 94, 45, 95, 96, 97, 98, 99, 100, 101, 102, 103, 104, 105, 106, 122, 123, 124, 125, 133, 134] (by decide +kernel) (by decide +kernel)) (goodIn_sub (fun _ h => List.mem_cons_of_mem _ (List.mem_append_left _ (List.mem_append_right _ h))) (by decide +kernel))) (goodIn_sub (fun _ h => List.mem_cons_of_mem _ (List.mem_append_right _ h)) (by decide +kernel))
set_option maxRecDepth 20000 in
theorem gX6_leaveOutIdlePieces_X0_copyWithout : GoodIn wsX6_leaveOutIdlePieces (wsV RX6 218 RX0 yX0_copyWithout wsX0_copyWithout) := goodIn_app (goodIn_of _ (by decide +kernel)) ggX6_leaveOutIdlePieces_X0_copyWithout
set_option maxRecDepth 20000 in
theorem ggX6_leaveOutIdlePieces_X0_removePiece : GoodIn wsX6_leaveOutIdlePieces wsX0_removePiece := goodIn_ca (goodIn_ca (goodIn_r _ [110, 7, 12, 78, 103, 104, 105, 38, 106, 40, 45, 99, 100, 101, 102, 122, 123, 124, 125, 133, 134] (by decide +kernel) (by decide +kernel)) (goodIn_sub (fun _ h => List.mem_cons_of_mem _ (List.mem_append_left _ (List.mem_append_right _ h))) (by decide +kernel))) (goodIn_sub (fun _ h => List.mem_cons_of_mem _ (List.mem_append_right _ h)) (by decide +kernel))
set_option maxRecDepth 20000 in
theorem gX6_leaveOutIdlePieces_X0_removePiece : GoodIn wsX6_leaveOutIdlePieces (wsV RX6 222 RX0 yX0_removePiece wsX0_removePiece) := goodIn_app (goodIn_of _ (by decide +kernel)) ggX6_leaveOutIdlePieces_X0_removePiece
set_option maxRecDepth 20000 in
theorem ggX7_feed_X7_in : GoodIn wsX7_feed wsX7_in := goodIn_r _ [8] (by decide +kernel) (by decide +kernel)
set_option maxRecDepth 20000 in
theorem gX7_feed_X7_in : GoodIn wsX7_feed (va_wsS RX7 65 yX7_in wsX7_in) := goodIn_app (goodIn_of _ (by decide +kernel)) ggX7_feed_X7_in
set_option maxRecDepth 20000 in
theorem ggX7_sample_X7_in : GoodIn wsX7_sample wsX7_in := goodIn_r _ [11] (by decide +kernel) (by decide +kernel)
set_option maxRecDepth 20000 in
theorem gX7_sample_X7_in : GoodIn wsX7_sample (va_wsS RX7 65 yX7_in wsX7_in) := goodIn_app (goodIn_of _ (by decide +kernel)) ggX7_sample_X7_in
set_option maxRecDepth 20000 in
theorem ggX7_counted_X7_areAlike : GoodIn wsX7_counted wsX7_areAlike := goodIn_ca (goodIn_ca (goodIn_r _ [8, 9, 14, 15, 16, 17, 18, 19, 20, 21, 22, 23, 24, 25, 26, 27, 28, 29, 30, 31, 32, 33, 34, 35, 36, 37, 38] (by decide +kernel) (by decide +kernel)) (goodIn_sub (fun _ h => List.mem_cons_of_mem _ (List.mem_append_left _ (List.mem_append_right _ h))) (by decide +kernel))) (goodIn_sub (fun _ h => List.mem_cons_of_mem _ (List.mem_append_right _ h)) (by decide +kernel))
set_option maxRecDepth 20000 in
theorem gX7_counted_X7_areAlike : GoodIn wsX7_counted (wsV RX7 74 RX7 yX7_areAlike wsX7_areAlike) := goodIn_app (goodIn_of _ (by decide +kernel)) ggX7_counted_X7_areAlike
set_option maxRecDepth 20000 in
theorem ggX7_counted_X7_isOpen : GoodIn wsX7_counted wsX7_isOpen := goodIn_ca (goodIn_ca (goodIn_r _ [13, 2, 3, 14, 15, 16, 17, 18, 19, 20, 21, 22, 23, 24, 25, 26, 27, 28, 29, 30, 31, 32, 33, 34, 35, 36, 37, 38] (by decide +kernel) (by decide +kernel)) (goodIn_sub (fun _ h => List.mem_cons_of_mem _ (List.mem_append_left _ (List.mem_append_right _ h))) (by decide +kernel))) (goodIn_sub (fun _ h => List.mem_cons_of_mem _ (List.mem_append_right _ h)) (by decide +kernel))
set_option maxRecDepth 20000 in
theorem gX7_counted_X7_isOpen : GoodIn wsX7_counted (wsV RX7 78 RX7 yX7_isOpen wsX7_isOpen) := goodIn_app (goodIn_of _ (by decide +kernel)) ggX7_counted_X7_isOpen
set_option maxRecDepth 20000 in
theorem ggX7_train_X7_in : GoodIn wsX7_train wsX7_in := goodIn_r _ [21] (by decide +kernel) (by decide +kernel)
set_option maxRecDepth 20000 in
theorem gX7_train_X7_in : GoodIn wsX7_train (va_wsS RX7 65 yX7_in wsX7_in) := goodIn_app (goodIn_of _ (by decide +kernel)) ggX7_train_X7_in
set_option maxRecDepth 20000 in
theorem ggX7_train_X7_isOpen : GoodIn wsX7_train wsX7_isOpen := goodIn_ca (goodIn_ca (goodIn_r _ [25, 10, 8, 34, 35, 36, 37, 38, 39, 40, 41, 42, 43, 44, 45, 46, 47, 48, 49, 50, 51, 52, 53, 54, 55, 56, 57, 58] (by decide +kernel) (by decide +kernel)) (goodIn_sub (fun _ h => List.mem_cons_of_mem _ (List.mem_append_left _ (List.mem_append_right _ h))) (by decide +kernel))) (goodIn_sub (fun _ h => List.mem_cons_of_mem _ (List.mem_append_right _ h)) (by decide +kernel))
set_option maxRecDepth 20000 in
theorem gX7_train_X7_isOpen : GoodIn wsX7_train (wsV RX7 78 RX7 yX7_isOpen wsX7_isOpen) := goodIn_app (goodIn_of _ (by decide +kernel)) ggX7_train_X7_isOpen
set_option maxRecDepth 20000 in
theorem ggX7_train_X7_counted : GoodIn wsX7_train wsX7_counted := goodIn_ca (goodIn_ca (goodIn_r _ [29, 7, 10, 8, 30, 31, 32, 20, 33, 12, 22, 23, 24, 25, 34, 35, 36, 37, 38, 39, 40, 41, 42, 43, 44, 45, 46, 47, 48, 49, 50, 51, 52, 53, 54, 55, 56, 57, 58] (by decide +kernel) (by decide +kernel)) (goodIn_sub (fun _ h => List.mem_cons_of_mem _ (List.mem_append_left _ (List.mem_append_right _ h))) (by decide +kernel))) (goodIn_sub (fun _ h => List.mem_cons_of_mem _ (List.mem_append_right _ h)) (by decide +kernel))
set_option maxRecDepth 20000 in
theorem gX7_train_X7_counted : GoodIn wsX7_train (wsV RX7 92 RX7 yX7_counted wsX7_counted) := goodIn_app (goodIn_of _ (by decide +kernel)) ggX7_train_X7_counted
set_option maxRecDepth 20000 in
theorem ggX7_give_X7_in : GoodIn wsX7_give wsX7_in := goodIn_r _ [14] (by decide +kernel) (by decide +kernel)
set_option maxRecDepth 20000 in
theorem gX7_give_X7_in : GoodIn wsX7_give (va_wsS RX7 65 yX7_in wsX7_in) := goodIn_app (goodIn_of _ (by decide +kernel)) ggX7_give_X7_in
set_option maxRecDepth 20000 in
theorem ggX7_isThere_X7_in : GoodIn wsX7_isThere wsX7_in := goodIn_r _ [6] (by decide +kernel) (by decide +kernel)
set_option maxRecDepth 20000 in
theorem gX7_isThere_X7_in : GoodIn wsX7_isThere (va_wsS RX7 65 yX7_in wsX7_in) := goodIn_app (goodIn_of _ (by decide +kernel)) ggX7_isThere_X7_in
set_option maxRecDepth 20000 in
theorem ggX7_layAhead_X7_pieceAt : GoodIn wsX7_layAhead wsX7_pieceAt := goodIn_ca (goodIn_ca (goodIn_r _ [10, 2, 11, 12, 13, 14, 15, 16, 17, 18, 19, 20, 21, 22, 23, 24, 25, 26, 27, 28, 29, 30, 31, 32, 33, 34, 35] (by decide +kernel) (by decide +kernel)) (goodIn_sub (fun _ h => List.mem_cons_of_mem _ (List.mem_append_right _ h)) (by decide +kernel))) (goodIn_sub (fun _ h => List.mem_cons_of_mem _ (List.mem_append_left _ (List.mem_append_right _ h))) (by decide +kernel))
set_option maxRecDepth 20000 in
theorem gX7_layAhead_X7_pieceAt : GoodIn wsX7_layAhead (wsV RX7 99 RX7 yX7_pieceAt wsX7_pieceAt) := goodIn_app (goodIn_of _ (by decide +kernel)) ggX7_layAhead_X7_pieceAt
set_option maxRecDepth 20000 in
theorem ggX7_packedLong_X7_findMatches : GoodIn wsX7_packedLong wsX7_findMatches := goodIn_ca (goodIn_ca (goodIn_r _ [8, 3, 9, 2, 10, 11, 12, 13, 14, 15, 16, 17, 18, 19, 20, 21, 22, 23, 24, 25, 26, 27, 28, 29, 30, 31, 32, 33, 34, 35] (by decide +kernel) (by decide +kernel)) (goodIn_sub (fun _ h => List.mem_cons_of_mem _ (List.mem_append_left _ (List.mem_append_right _ h))) (by decide +kernel))) (goodIn_sub (fun _ h => List.mem_cons_of_mem _ (List.mem_append_right _ h)) (by decide +kernel))
set_option maxRecDepth 20000 in
theorem gX7_packedLong_X7_findMatches : GoodIn wsX7_packedLong (wsV RX7 106 RX7 yX7_findMatches wsX7_findMatches) := goodIn_app (goodIn_of _ (by decide +kernel)) ggX7_packedLong_X7_findMatches
set_option maxRecDepth 20000 in
theorem ggX7_sizeOf_X7_layAhead : GoodIn wsX7_sizeOf wsX7_layAhead := goodIn_ca (goodIn_ca (goodIn_r _ [5, 6, 7, 8, 9, 10, 11, 12, 13, 4, 14, 32, 33, 34, 35, 36, 37, 38, 39, 40, 41, 42, 43, 44, 45, 46, 47, 48, 49, 50, 51, 52, 53, 54, 55, 56] (by decide +kernel) (by decide +kernel)) (goodIn_sub (fun _ h => List.mem_cons_of_mem _ (List.mem_append_left _ (List.mem_append_right _ h))) (by decide +kernel))) (goodIn_sub (fun _ h => List.mem_cons_of_mem _ (List.mem_append_right _ h)) (by decide +kernel))
set_option maxRecDepth 20000 in
theorem gX7_sizeOf_X7_layAhead : GoodIn wsX7_sizeOf (wsV RX7 110 RX7 yX7_layAhead wsX7_layAhead) := goodIn_app (goodIn_of _ (by decide +kernel)) ggX7_sizeOf_X7_layAhead
set_option maxRecDepth 20000 in
theorem ggX7_sizeOf_X7_laySample : GoodIn wsX7_sizeOf wsX7_laySample := goodIn_ca (goodIn_ca (goodIn_r _ [18, 19, 20, 9, 6, 21, 32, 33, 34, 35, 36, 37, 38, 39, 40, 41, 42, 43, 44, 45, 46, 47, 48, 49, 50, 51, 52, 53, 54, 55, 56] (by decide +kernel) (by decide +kernel)) (goodIn_sub (fun _ h => List.mem_cons_of_mem _ (List.mem_append_right _ h)) (by decide +kernel))) (goodIn_sub (fun _ h => List.mem_cons_of_mem _ (List.mem_append_left _ (List.mem_append_right _ h))) (by decide +kernel))
set_option maxRecDepth 20000 in
theorem gX7_sizeOf_X7_laySample : GoodIn wsX7_sizeOf (wsV RX7 114 RX7 yX7_laySample wsX7_laySample) := goodIn_app (goodIn_of _ (by decide +kernel)) ggX7_sizeOf_X7_laySample
set_option maxRecDepth 20000 in
theorem ggX7_sizeOf_X7_packedLong : GoodIn wsX7_sizeOf wsX7_packedLong := goodIn_ca (goodIn_ca (goodIn_r _ [25, 26, 20, 27, 28, 29, 30, 4, 31, 6, 9, 32, 33, 34, 35, 36, 37, 38, 39, 40, 41, 42, 43, 44, 45, 46, 47, 48, 49, 50, 51, 52, 53, 54, 55, 56] (by decide +kernel) (by decide +kernel)) (goodIn_sub (fun _ h => List.mem_cons_of_mem _ (List.mem_append_right _ h)) (by decide +kernel))) (goodIn_sub (fun _ h => List.mem_cons_of_mem _ (List.mem_append_left _ (List.mem_append_right _ h))) (by decide +kernel))
set_option maxRecDepth 20000 in
theorem gX7_sizeOf_X7_packedLong : GoodIn wsX7_sizeOf (wsV RX7 117 RX7 yX7_packedLong wsX7_packedLong) := goodIn_app (goodIn_of _ (by decide +kernel)) ggX7_sizeOf_X7_packedLong
set_option maxRecDepth 20000 in
theorem ggX7_sizeOfAll_X7_sizeOf : GoodIn wsX7_sizeOfAll wsX7_sizeOf := goodIn_ca (goodIn_ca (goodIn_r _ [6, 7, 8, 9, 5, 10, 11, 12, 13, 14, 15, 16, 17, 18, 19, 20, 21, 22, 23, 24, 25, 26, 27, 28, 29, 30, 31, 32, 33, 34, 35, 36, 37, 38, 39, 40, 41, 42, 43, 44, 45, 46, 47, 48, 49, 50, 51, 52, 53, 54, 55, 56, 57, 58, 59, 60, 61] (by decide +kernel) (by decide +kernel)) (goodIn_sub (fun _ h => List.mem_cons_of_mem _ (List.mem_append_left _ (List.mem_append_right _ h))) (by decide +kernel))) (goodIn_sub (fun _ h => List.mem_cons_of_mem _ (List.mem_append_right _ h)) (by decide +kernel))
set_option maxRecDepth 20000 in
theorem gX7_sizeOfAll_X7_sizeOf : GoodIn wsX7_sizeOfAll (wsV RX7 121 RX7 yX7_sizeOf wsX7_sizeOf) := goodIn_app (goodIn_of _ (by decide +kernel)) ggX7_sizeOfAll_X7_sizeOf
set_option maxRecDepth 20000 in
theorem ggX7_trim_X7_isThere : GoodIn wsX7_trim wsX7_isThere := goodIn_ca (goodIn_ca (goodIn_r _ [8, 9, 10, 11, 12, 7, 13, 56, 57, 58, 59, 60, 61, 62, 63, 64, 65, 66, 67, 68, 69, 70, 71, 72, 73, 74, 75, 76, 77, 78, 79, 80] (by decide +kernel) (by decide +kernel)) (goodIn_sub (fun _ h => List.mem_cons_of_mem _ (List.mem_append_right _ h)) (by decide +kernel))) (goodIn_sub (fun _ h => List.mem_cons_of_mem _ (List.mem_append_left _ (List.mem_append_right _ h))) (by decide +kernel))
set_option maxRecDepth 20000 in
theorem gX7_trim_X7_isThere : GoodIn wsX7_trim (wsV RX7 125 RX7 yX7_isThere wsX7_isThere) := goodIn_app (goodIn_of _ (by decide +kernel)) ggX7_trim_X7_isThere
set_option maxRecDepth 20000 in
theorem ggX7_trim_X7_sizeOfAll : GoodIn wsX7_trim wsX7_sizeOfAll := goodIn_ca (goodIn_ca (goodIn_r _ [17, 2, 18, 19, 20, 7, 21, 22, 23, 24, 25, 26, 27, 28, 29, 30, 31, 32, 33, 34, 35, 36, 37, 38, 39, 40, 41, 42, 43, 44, 45, 46, 47, 48, 49, 50, 51, 56, 57, 58, 59, 60, 61, 62, 63, 64, 65, 66, 67, 68, 69, 70, 71, 72, 73, 74, 75, 76, 77, 78, 79, 80] (by decide +kernel) (by decide +kernel)) (goodIn_sub (fun _ h => List.mem_cons_of_mem _ (List.mem_append_left _ (List.mem_append_right _ h))) (by decide +kernel))) (goodIn_sub (fun _ h => List.mem_cons_of_mem _ (List.mem_append_right _ h)) (by decide +kernel))
set_option maxRecDepth 20000 in
theorem gX7_trim_X7_sizeOfAll : GoodIn wsX7_trim (wsV RX7 129 RX7 yX7_sizeOfAll wsX7_sizeOfAll) := goodIn_app (goodIn_of _ (by decide +kernel)) ggX7_trim_X7_sizeOfAll
set_option maxRecDepth 20000 in
theorem ggX7_trim_X7_goes : GoodIn wsX7_trim wsX7_goes := goodIn_ca (goodIn_ca (goodIn_r _ [55, 27, 28, 30, 3, 31, 32, 33, 7, 34, 56, 57, 58, 59, 60, 61, 62, 63, 64, 65, 66, 67, 68, 69, 70, 71, 72, 73, 74, 75, 76, 77, 78, 79, 80] (by decide +kernel) (by decide +kernel)) (goodIn_sub (fun _ h => List.mem_cons_of_mem _ (List.mem_append_left _ (List.mem_append_right _ h))) (by decide +kernel))) (goodIn_sub (fun _ h => List.mem_cons_of_mem _ (List.mem_append_right _ h)) (by decide +kernel))
set_option maxRecDepth 20000 in
theorem gX7_trim_X7_goes : GoodIn wsX7_trim (wsV RX7 132 RX7 yX7_goes wsX7_goes) := goodIn_app (goodIn_of _ (by decide +kernel)) ggX7_trim_X7_goes
set_option maxRecDepth 20000 in
theorem ggX7_goes_X7_pieceAt : GoodIn wsX7_goes wsX7_pieceAt := goodIn_ca (goodIn_ca (goodIn_r _ [9, 1, 10, 11, 12, 13, 14, 15, 16, 17, 18, 19, 20, 21, 22, 23, 24, 25, 26, 27, 28, 29, 30, 31, 32, 33, 34] (by decide +kernel) (by decide +kernel)) (goodIn_sub (fun _ h => List.mem_cons_of_mem _ (List.mem_append_right _ h)) (by decide +kernel))) (goodIn_sub (fun _ h => List.mem_cons_of_mem _ (List.mem_append_left _ (List.mem_append_right _ h))) (by decide +kernel))
set_option maxRecDepth 20000 in
theorem gX7_goes_X7_pieceAt : GoodIn wsX7_goes (wsV RX7 99 RX7 yX7_pieceAt wsX7_pieceAt) := goodIn_app (goodIn_of _ (by decide +kernel)) ggX7_goes_X7_pieceAt
set_option maxRecDepth 20000 in
theorem ggX7_drop_X7_isThere : GoodIn wsX7_drop wsX7_isThere := goodIn_ca (goodIn_ca (goodIn_r _ [8, 9, 2, 10, 11, 7, 12, 13, 14, 15, 16, 17, 18, 19, 20, 21, 22, 23, 24, 25, 26, 27, 28, 29, 30, 31, 32, 33, 34, 35, 36, 37] (by decide +kernel) (by decide +kernel)) (goodIn_sub (fun _ h => List.mem_cons_of_mem _ (List.mem_append_right _ h)) (by decide +kernel))) (goodIn_sub (fun _ h => List.mem_cons_of_mem _ (List.mem_append_left _ (List.mem_append_right _ h))) (by decide +kernel))
set_option maxRecDepth 20000 in
theorem gX7_drop_X7_isThere : GoodIn wsX7_drop (wsV RX7 125 RX7 yX7_isThere wsX7_isThere) := goodIn_app (goodIn_of _ (by decide +kernel)) ggX7_drop_X7_isThere
set_option maxRecDepth 20000 in
theorem ggX7_told_X7_isThere : GoodIn wsX7_told wsX7_isThere := goodIn_ca (goodIn_ca (goodIn_r _ [11, 12, 2, 13, 14, 10, 15, 21, 22, 23, 24, 25, 26, 27, 28, 29, 30, 31, 32, 33, 34, 35, 36, 37, 38, 39, 40, 41, 42, 43, 44, 45] (by decide +kernel) (by decide +kernel)) (goodIn_sub (fun _ h => List.mem_cons_of_mem _ (List.mem_append_right _ h)) (by decide +kernel))) (goodIn_sub (fun _ h => List.mem_cons_of_mem _ (List.mem_append_left _ (List.mem_append_right _ h))) (by decide +kernel))
set_option maxRecDepth 20000 in
theorem gX7_told_X7_isThere : GoodIn wsX7_told (wsV RX7 125 RX7 yX7_isThere wsX7_isThere) := goodIn_app (goodIn_of _ (by decide +kernel)) ggX7_told_X7_isThere
set_option maxRecDepth 20000 in
theorem ggX7_told_X7_sumOf : GoodIn wsX7_told wsX7_sumOf := goodIn_ca (goodIn_ca (goodIn_r _ [19, 4, 20, 21, 22, 23, 24, 25, 26, 27, 28, 29, 30, 31, 32, 33, 34, 35, 36, 37, 38, 39, 40, 41, 42, 43, 44, 45] (by decide +kernel) (by decide +kernel)) (goodIn_sub (fun _ h => List.mem_cons_of_mem _ (List.mem_append_right _ h)) (by decide +kernel))) (goodIn_sub (fun _ h => List.mem_cons_of_mem _ (List.mem_append_left _ (List.mem_append_right _ h))) (by decide +kernel))
