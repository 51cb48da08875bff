set_option maxRecDepth 20000 in
theorem gX6_train_X5_load : GoodIn wsX6_train (wsV RX6 95 RX5 yX5_load wsX5_load) := goodIn_app (goodIn_of _ (by decide +kernel)) ggX6_train_X5_load
set_option maxRecDepth 20000 in
theorem ggX6_train_X5_takeRows : GoodIn wsX6_train wsX5_takeRows := goodIn_ca (goodIn_ca (goodIn_r _ [73, 18, 17, 74, 20, 75, 76, 77, 78, 15, 79, 80, 32, 33, 34, 35, 81, 82, 83, 84, 31, 85, 86, 87, 88, 89, 90, 91, 92, 27, 28, 29, 30, 131, 132, 133, 134, 135, 136, 137, 138] (by decide +kernel) (by decide +kernel)) (goodIn_sub (fun _ h => List.mem_cons_of_mem _ (List.mem_append_left _ (List.mem_append_right _ h))) (by decide +kernel))) (goodIn_sub (fun _ h => List.mem_cons_of_mem _ (List.mem_append_right _ h)) (by decide +kernel))
set_option maxRecDepth 20000 in
theorem gX6_train_X5_takeRows : GoodIn wsX6_train (wsV RX6 99 RX5 yX5_takeRows wsX5_takeRows) := goodIn_app (goodIn_of _ (by decide +kernel)) ggX6_train_X5_takeRows
set_option maxRecDepth 20000 in
theorem ggX6_train_X0_begin : GoodIn wsX6_train wsX0_begin := goodIn_ca (goodIn_r _ [97, 98, 99, 100, 101, 102, 22, 23, 24, 25, 26, 141, 142, 143, 144, 139, 140] (by decide +kernel) (by decide +kernel)) (goodIn_sub (fun _ h => List.mem_cons_of_mem _ (List.mem_append_left _ (List.mem_append_right _ h))) (by decide +kernel))
set_option maxRecDepth 20000 in
theorem gX6_train_X0_begin : GoodIn wsX6_train (wsV RX6 102 RX0 yX0_begin wsX0_begin) := goodIn_app (goodIn_of _ (by decide +kernel)) ggX6_train_X0_begin
set_option maxRecDepth 20000 in
theorem ggX6_train_X5_handOver : GoodIn wsX6_train wsX5_handOver := goodIn_ca (goodIn_ca (goodIn_r _ [106, 18, 19, 75, 107, 108, 109, 96, 110, 99, 101, 100, 111, 112, 113, 24, 114, 44, 26, 115, 37, 38, 39, 40, 41, 42, 43, 45, 46, 47, 48, 49, 50, 51, 52, 131, 132, 133, 134, 135, 136, 137, 138, 141, 142, 143, 144, 139, 140] (by decide +kernel) (by decide +kernel)) (goodIn_sub (fun _ h => List.mem_cons_of_mem _ (List.mem_append_right _ h)) (by decide +kernel))) (goodIn_sub (fun _ h => List.mem_cons_of_mem _ (List.mem_append_left _ (List.mem_append_right _ h))) (by decide +kernel))
set_option maxRecDepth 20000 in
theorem gX6_train_X5_handOver : GoodIn wsX6_train (wsV RX6 106 RX5 yX5_handOver wsX5_handOver) := goodIn_app (goodIn_of _ (by decide +kernel)) ggX6_train_X5_handOver
set_option maxRecDepth 20000 in
theorem ggX6_train_X0_pieces : GoodIn wsX6_train wsX0_pieces := goodIn_r _ [119, 100, 141, 142, 143, 144] (by decide +kernel) (by decide +kernel)
set_option maxRecDepth 20000 in
theorem gX6_train_X0_pieces : GoodIn wsX6_train (wsV RX6 110 RX0 yX0_pieces wsX0_pieces) := goodIn_app (goodIn_of _ (by decide +kernel)) ggX6_train_X0_pieces
set_option maxRecDepth 20000 in
theorem ggX6_give_X6_isNumber : GoodIn wsX6_give wsX6_isNumber := goodIn_r _ [6] (by decide +kernel) (by decide +kernel)
set_option maxRecDepth 20000 in
theorem gX6_give_X6_isNumber : GoodIn wsX6_give (va_wsS RX6 89 yX6_isNumber wsX6_isNumber) := goodIn_app (goodIn_of _ (by decide +kernel)) ggX6_give_X6_isNumber
set_option maxRecDepth 20000 in
theorem ggX6_give_X6_isId : GoodIn wsX6_give wsX6_isId := goodIn_r _ [9] (by decide +kernel) (by decide +kernel)
set_option maxRecDepth 20000 in
theorem gX6_give_X6_isId : GoodIn wsX6_give (va_wsS RX6 92 yX6_isId wsX6_isId) := goodIn_app (goodIn_of _ (by decide +kernel)) ggX6_give_X6_isId
set_option maxRecDepth 20000 in
theorem ggX6_give_X4_length : GoodIn wsX6_give wsX4_length := goodIn_r _ [14, 15, 70, 71] (by decide +kernel) (by decide +kernel)
set_option maxRecDepth 20000 in
theorem gX6_give_X4_length : GoodIn wsX6_give (wsV RX6 74 RX4 yX4_length wsX4_length) := goodIn_app (goodIn_of _ (by decide +kernel)) ggX6_give_X4_length
set_option maxRecDepth 20000 in
theorem ggX6_give_X0_begin : GoodIn wsX6_give wsX0_begin := goodIn_ca (goodIn_r _ [20, 21, 22, 23, 24, 25, 26, 27, 13, 28, 15, 72, 73, 74, 75, 70, 71] (by decide +kernel) (by decide +kernel)) (goodIn_sub (fun _ h => List.mem_cons_of_mem _ (List.mem_append_left _ (List.mem_append_right _ h))) (by decide +kernel))
set_option maxRecDepth 20000 in
theorem gX6_give_X0_begin : GoodIn wsX6_give (wsV RX6 102 RX0 yX0_begin wsX0_begin) := goodIn_app (goodIn_of _ (by decide +kernel)) ggX6_give_X0_begin
set_option maxRecDepth 20000 in
theorem ggX6_give_X0_addPiece : GoodIn wsX6_give wsX0_addPiece := goodIn_ca (goodIn_ca (goodIn_r _ [32, 22, 24, 23, 33, 34, 35, 13, 36, 37, 15, 38, 39, 40, 41, 42, 43, 44, 45, 46, 47, 48, 49, 50, 51, 52, 53, 72, 73, 74, 75, 70, 71] (by decide +kernel) (by decide +kernel)) (goodIn_sub (fun _ h => List.mem_cons_of_mem _ (List.mem_append_left _ (List.mem_append_right _ h))) (by decide +kernel))) (goodIn_sub (fun _ h => List.mem_cons_of_mem _ (List.mem_append_right _ h)) (by decide +kernel))
set_option maxRecDepth 20000 in
theorem gX6_give_X0_addPiece : GoodIn wsX6_give (wsV RX6 113 RX0 yX0_addPiece wsX0_addPiece) := goodIn_app (goodIn_of _ (by decide +kernel)) ggX6_give_X0_addPiece
set_option maxRecDepth 20000 in
theorem ggX6_give_X4_clear : GoodIn wsX6_give wsX4_clear := goodIn_r _ [28, 15, 70, 71] (by decide +kernel) (by decide +kernel)
set_option maxRecDepth 20000 in
theorem gX6_give_X4_clear : GoodIn wsX6_give (wsV RX6 86 RX4 yX4_clear wsX4_clear) := goodIn_app (goodIn_of _ (by decide +kernel)) ggX6_give_X4_clear
set_option maxRecDepth 20000 in
theorem ggX6_give_X0_words : GoodIn wsX6_give wsX0_words := goodIn_r _ [58, 24, 72, 73, 74, 75] (by decide +kernel) (by decide +kernel)
set_option maxRecDepth 20000 in
theorem gX6_give_X0_words : GoodIn wsX6_give (wsV RX6 117 RX0 yX0_words wsX0_words) := goodIn_app (goodIn_of _ (by decide +kernel)) ggX6_give_X0_words
set_option maxRecDepth 20000 in
theorem ggX6_trim_X6_thereAt : GoodIn wsX6_trim wsX6_thereAt := goodIn_ca (goodIn_r _ [6, 7, 8, 9, 5, 10, 11, 12, 13, 14, 15, 16, 128, 129, 130, 131, 132, 133, 134, 135, 136, 137, 138, 139, 140, 141, 142] (by decide +kernel) (by decide +kernel)) (goodIn_sub (fun _ h => List.mem_cons_of_mem _ (List.mem_append_left _ (List.mem_append_right _ h))) (by decide +kernel))
set_option maxRecDepth 20000 in
theorem gX6_trim_X6_thereAt : GoodIn wsX6_trim (wsV RX6 121 RX6 yX6_thereAt wsX6_thereAt) := goodIn_app (goodIn_of _ (by decide +kernel)) ggX6_trim_X6_thereAt
set_option maxRecDepth 20000 in
theorem ggX6_trim_X6_leaveOutIdlePieces : GoodIn wsX6_trim wsX6_leaveOutIdlePieces := goodIn_ca (goodIn_ca (goodIn_r _ [20, 21, 22, 23, 24, 14, 25, 26, 27, 28, 29, 30, 31, 32, 33, 34, 5, 35, 1, 36, 37, 38, 39, 40, 41, 42, 43, 44, 45, 46, 47, 48, 49, 50, 51, 52, 53, 54, 55, 56, 57, 58, 59, 60, 61, 62, 63, 64, 65, 66, 67, 68, 69, 70, 71, 72, 73, 74, 75, 76, 77, 78, 79, 80, 81, 82, 83, 84, 85, 86, 87, 88, 89, 90, 91, 92, 93, 94, 95, 96, 97, 98, 99, 100, 101, 102, 103, 104, 105, 106, 107, 108, 109, 110, 111, 112, 113, 114, 115, 116, 117, 118, 119, 120, 121, 122, 123, 124, 125, 126, 127, 128, 129, 130, 131, 132, 133, 134, 135, 136, 137, 138, 139, 140, 141, 142, 143, 144, 145, 146, 147, 148, 149, 150, 151] (by decide +kernel) (by decide +kernel)) (goodIn_sub (fun _ h => List.mem_cons_of_mem _ (List.mem_append_left _ (List.mem_append_right _ h))) (by decide +kernel))) (goodIn_sub (fun _ h => List.mem_cons_of_mem _ (List.mem_append_right _ h)) (by decide +kernel))
set_option maxRecDepth 20000 in
theorem gX6_trim_X6_leaveOutIdlePieces : GoodIn wsX6_trim (wsV RX6 125 RX6 yX6_leaveOutIdlePieces wsX6_leaveOutIdlePieces) := goodIn_app (goodIn_of _ (by decide +kernel)) ggX6_trim_X6_leaveOutIdlePieces
set_option maxRecDepth 20000 in
theorem ggX6_drop_X6_thereAt : GoodIn wsX6_drop wsX6_thereAt := goodIn_ca (goodIn_r _ [5, 6, 7, 8, 4, 9, 10, 11, 12, 13, 14, 15, 33, 34, 35, 36, 37, 38, 39, 40, 41, 42, 43, 44, 45, 46, 47] (by decide +kernel) (by decide +kernel)) (goodIn_sub (fun _ h => List.mem_cons_of_mem _ (List.mem_append_right _ h)) (by decide +kernel))
set_option maxRecDepth 20000 in
theorem gX6_drop_X6_thereAt : GoodIn wsX6_drop (wsV RX6 121 RX6 yX6_thereAt wsX6_thereAt) := goodIn_app (goodIn_of _ (by decide +kernel)) ggX6_drop_X6_thereAt
set_option maxRecDepth 20000 in
theorem ggX6_drop_X0_pieces : GoodIn wsX6_drop wsX0_pieces := goodIn_r _ [19, 20, 44, 45, 46, 47] (by decide +kernel) (by decide +kernel)
set_option maxRecDepth 20000 in
theorem gX6_drop_X0_pieces : GoodIn wsX6_drop (wsV RX6 110 RX0 yX0_pieces wsX0_pieces) := goodIn_app (goodIn_of _ (by decide +kernel)) ggX6_drop_X0_pieces
set_option maxRecDepth 20000 in
theorem ggX6_drop_X0_begin : GoodIn wsX6_drop wsX0_begin := goodIn_ca (goodIn_r _ [24, 15, 25, 20, 26, 27, 28, 29, 30, 31, 32, 44, 45, 46, 47, 48, 49] (by decide +kernel) (by decide +kernel)) (goodIn_sub (fun _ h => List.mem_cons_of_mem _ (List.mem_append_right _ h)) (by decide +kernel))
set_option maxRecDepth 20000 in
theorem gX6_drop_X0_begin : GoodIn wsX6_drop (wsV RX6 102 RX0 yX0_begin wsX0_begin) := goodIn_app (goodIn_of _ (by decide +kernel)) ggX6_drop_X0_begin
set_option maxRecDepth 20000 in
theorem ggX6_told_X6_thereAt : GoodIn wsX6_told wsX6_thereAt := goodIn_ca (goodIn_r _ [5, 6, 7, 8, 4, 9, 10, 11, 12, 13, 14, 15, 62, 63, 64, 65, 66, 67, 68, 69, 70, 71, 72, 73, 74, 75, 76] (by decide +kernel) (by decide +kernel)) (goodIn_sub (fun _ h => List.mem_cons_of_mem _ (List.mem_append_left _ (List.mem_append_right _ h))) (by decide +kernel))
set_option maxRecDepth 20000 in
theorem gX6_told_X6_thereAt : GoodIn wsX6_told (wsV RX6 121 RX6 yX6_thereAt wsX6_thereAt) := goodIn_app (goodIn_of _ (by decide +kernel)) ggX6_told_X6_thereAt
set_option maxRecDepth 20000 in
theorem ggX6_told_X0_id : GoodIn wsX6_told wsX0_id := goodIn_r _ [19, 15, 73, 74, 75, 76] (by decide +kernel) (by decide +kernel)
set_option maxRecDepth 20000 in
theorem gX6_told_X0_id : GoodIn wsX6_told (wsV RX6 129 RX0 yX0_id wsX0_id) := goodIn_app (goodIn_of _ (by decide +kernel)) ggX6_told_X0_id
set_option maxRecDepth 20000 in
theorem ggX6_told_X0_pieces : GoodIn wsX6_told wsX0_pieces := goodIn_r _ [23, 24, 73, 74, 75, 76] (by decide +kernel) (by decide +kernel)
set_option maxRecDepth 20000 in
theorem gX6_told_X0_pieces : GoodIn wsX6_told (wsV RX6 110 RX0 yX0_pieces wsX0_pieces) := goodIn_app (goodIn_of _ (by decide +kernel)) ggX6_told_X0_pieces
set_option maxRecDepth 20000 in
theorem ggX6_told_X0_words : GoodIn wsX6_told wsX0_words := goodIn_r _ [28, 29, 73, 74, 75, 76] (by decide +kernel) (by decide +kernel)
set_option maxRecDepth 20000 in
theorem gX6_told_X0_words : GoodIn wsX6_told (wsV RX6 117 RX0 yX0_words wsX0_words) := goodIn_app (goodIn_of _ (by decide +kernel)) ggX6_told_X0_words
set_option maxRecDepth 20000 in
theorem ggX6_told_X4_length : GoodIn wsX6_told wsX4_length := goodIn_r _ [34, 35, 77, 78] (by decide +kernel) (by decide +kernel)
set_option maxRecDepth 20000 in
theorem gX6_told_X4_length : GoodIn wsX6_told (wsV RX6 74 RX4 yX4_length wsX4_length) := goodIn_app (goodIn_of _ (by decide +kernel)) ggX6_told_X4_length
set_option maxRecDepth 20000 in
theorem ggX6_told_X0_sum : GoodIn wsX6_told wsX0_sum := goodIn_ca (goodIn_ca (goodIn_r _ [39, 15, 29, 40, 41, 42, 33, 43, 35, 44, 45, 46, 47, 48, 49, 50, 51, 52, 53, 54, 55, 56, 73, 74, 75, 76, 77, 78] (by decide +kernel) (by decide +kernel)) (goodIn_sub (fun _ h => List.mem_cons_of_mem _ (List.mem_append_left _ (List.mem_append_right _ h))) (by decide +kernel))) (goodIn_sub (fun _ h => List.mem_cons_of_mem _ (List.mem_append_right _ h)) (by decide +kernel))
set_option maxRecDepth 20000 in
theorem gX6_told_X0_sum : GoodIn wsX6_told (wsV RX6 132 RX0 yX0_sum wsX0_sum) := goodIn_app (goodIn_of _ (by decide +kernel)) ggX6_told_X0_sum
set_option maxRecDepth 20000 in
theorem ggX6_told_X0_pieceLength : GoodIn wsX6_told wsX0_pieceLength := goodIn_r _ [60, 61, 73, 74, 75, 76] (by decide +kernel) (by decide +kernel)
set_option maxRecDepth 20000 in
theorem gX6_told_X0_pieceLength : GoodIn wsX6_told (wsV RX6 135 RX0 yX0_pieceLength wsX0_pieceLength) := goodIn_app (goodIn_of _ (by decide +kernel)) ggX6_told_X0_pieceLength
set_option maxRecDepth 20000 in
theorem ggX6_content_X6_isNumber : GoodIn wsX6_content wsX6_isNumber := goodIn_r _ [10] (by decide +kernel) (by decide +kernel)
set_option maxRecDepth 20000 in
theorem gX6_content_X6_isNumber : GoodIn wsX6_content (va_wsS RX6 89 yX6_isNumber wsX6_isNumber) := goodIn_app (goodIn_of _ (by decide +kernel)) ggX6_content_X6_isNumber
set_option maxRecDepth 20000 in
theorem ggX6_content_X6_thereAt : GoodIn wsX6_content wsX6_thereAt := goodIn_ca (goodIn_r _ [14, 15, 7, 8, 9, 10, 16, 17, 18, 19, 20, 21, 53, 54, 55, 56, 57, 58, 59, 60, 61, 62, 63, 64, 65, 66, 67] (by decide +kernel) (by decide +kernel)) (goodIn_sub (fun _ h => List.mem_cons_of_mem _ (List.mem_append_left _ (List.mem_append_right _ h))) (by decide +kernel))
set_option maxRecDepth 20000 in
theorem gX6_content_X6_thereAt : GoodIn wsX6_content (wsV RX6 121 RX6 yX6_thereAt wsX6_thereAt) := goodIn_app (goodIn_of _ (by decide +kernel)) ggX6_content_X6_thereAt
set_option maxRecDepth 20000 in
theorem ggX6_content_X0_words : GoodIn wsX6_content wsX0_words := goodIn_r _ [25, 26, 64, 65, 66, 67] (by decide +kernel) (by decide +kernel)
set_option maxRecDepth 20000 in
theorem gX6_content_X0_words : GoodIn wsX6_content (wsV RX6 117 RX0 yX0_words wsX0_words) := goodIn_app (goodIn_of _ (by decide +kernel)) ggX6_content_X0_words
set_option maxRecDepth 20000 in
theorem ggX6_content_X4_has : GoodIn wsX6_content wsX4_has := goodIn_r _ [31, 32, 68, 69] (by decide +kernel) (by decide +kernel)
set_option maxRecDepth 20000 in
theorem gX6_content_X4_has : GoodIn wsX6_content (wsV RX6 150 RX4 yX4_has wsX4_has) := goodIn_app (goodIn_of _ (by decide +kernel)) ggX6_content_X4_has
set_option maxRecDepth 20000 in
theorem ggX6_content_X4_signedAt : GoodIn wsX6_content wsX4_signedAt := goodIn_ca (goodIn_ca (goodIn_r _ [36, 37, 38, 28, 29, 30, 31, 32, 68, 69] (by decide +kernel) (by decide +kernel)) (goodIn_sub (fun _ h => List.mem_cons_of_mem _ (List.mem_append_left _ (List.mem_append_right _ h))) (by decide +kernel))) (goodIn_sub (fun _ h => List.mem_cons_of_mem _ (List.mem_append_right _ h)) (by decide +kernel))
set_option maxRecDepth 20000 in
theorem gX6_content_X4_signedAt : GoodIn wsX6_content (wsV RX6 155 RX4 yX4_signedAt wsX4_signedAt) := goodIn_app (goodIn_of _ (by decide +kernel)) ggX6_content_X4_signedAt
set_option maxRecDepth 20000 in
theorem ggX6_pack_X6_noneOrThereAt : GoodIn wsX6_pack wsX6_noneOrThereAt := goodIn_ca (goodIn_r _ [8, 9, 10, 11, 12, 7, 13, 14, 15, 16, 17, 18, 19, 20, 21, 22, 23, 150, 151, 152, 153, 154, 155, 156, 157, 158, 159, 160, 161, 162, 163, 164] (by decide +kernel) (by decide +kernel)) (goodIn_sub (fun _ h => List.mem_cons_of_mem _ (List.mem_append_left _ (List.mem_append_right _ h))) (by decide +kernel))
set_option maxRecDepth 20000 in
theorem gX6_pack_X6_noneOrThereAt : GoodIn wsX6_pack (wsV RX6 159 RX6 yX6_noneOrThereAt wsX6_noneOrThereAt) := goodIn_app (goodIn_of _ (by decide +kernel)) ggX6_pack_X6_noneOrThereAt
set_option maxRecDepth 20000 in
theorem ggX6_pack_X0_words : GoodIn wsX6_pack wsX0_words := goodIn_r _ [27, 28, 161, 162, 163, 164] (by decide +kernel) (by decide +kernel)
set_option maxRecDepth 20000 in
theorem gX6_pack_X0_words : GoodIn wsX6_pack (wsV RX6 117 RX0 yX0_words wsX0_words) := goodIn_app (goodIn_of _ (by decide +kernel)) ggX6_pack_X0_words
set_option maxRecDepth 20000 in
theorem ggX6_pack_X3_measure : GoodIn wsX6_pack wsX3_measure := goodIn_ca (goodIn_ca (goodIn_r _ [33, 34, 35, 36, 37, 38, 39, 40, 41, 42, 43, 44, 45, 46, 47, 48, 49, 50, 51, 52, 53, 54, 55, 56, 32, 57, 58, 59, 60, 61, 62, 63, 64, 65, 66, 67, 68, 69, 70, 71, 72, 73, 74, 75, 76, 77, 78, 79, 80, 81, 165, 166, 167, 168, 169, 170, 171, 172, 173] (by decide +kernel) (by decide +kernel)) (goodIn_sub (fun _ h => List.mem_cons_of_mem _ (List.mem_append_left _ (List.mem_append_right _ h))) (by decide +kernel))) (goodIn_sub (fun _ h => List.mem_cons_of_mem _ (List.mem_append_right _ h)) (by decide +kernel))
set_option maxRecDepth 20000 in
theorem gX6_pack_X3_measure : GoodIn wsX6_pack (wsV RX6 162 RX3 yX3_measure wsX3_measure) := goodIn_app (goodIn_of _ (by decide +kernel)) ggX6_pack_X3_measure
set_option maxRecDepth 20000 in
theorem ggX6_pack_X4_length : GoodIn wsX6_pack wsX4_length := goodIn_r _ [85, 48, 172, 173] (by decide +kernel) (by decide +kernel)
set_option maxRecDepth 20000 in
theorem gX6_pack_X4_length : GoodIn wsX6_pack (wsV RX6 74 RX4 yX4_length wsX4_length) := goodIn_app (goodIn_of _ (by decide +kernel)) ggX6_pack_X4_length
set_option maxRecDepth 20000 in
theorem ggX6_pack_X2_begin : GoodIn wsX6_pack wsX2_begin := goodIn_ca (goodIn_ca (goodIn_r _ [90, 91, 92, 93, 94, 95, 96, 46, 97, 48, 98, 99, 100, 21, 101, 23, 102, 103, 104, 105, 53, 106, 107, 108, 109, 28, 110, 111, 112, 113, 114, 115, 116, 117, 118, 119, 120, 121, 122, 123, 124, 125, 174, 175, 176, 172, 173, 161, 162, 163, 164] (by decide +kernel) (by decide +kernel)) (goodIn_sub (fun _ h => List.mem_cons_of_mem _ (List.mem_append_left _ (List.mem_append_right _ h))) (by decide +kernel))) (goodIn_sub (fun _ h => List.mem_cons_of_mem _ (List.mem_append_right _ h)) (by decide +kernel))
set_option maxRecDepth 20000 in
theorem gX6_pack_X2_begin : GoodIn wsX6_pack (wsV RX6 166 RX2 yX2_begin wsX2_begin) := goodIn_app (goodIn_of _ (by decide +kernel)) ggX6_pack_X2_begin
set_option maxRecDepth 20000 in
theorem ggX6_pack_X3_write : GoodIn wsX6_pack wsX3_write := goodIn_ca (goodIn_ca (goodIn_r _ [129, 40, 68, 35, 34, 130, 131, 38, 132, 133, 134, 135, 32, 136, 59, 74, 75, 76, 77, 137, 138, 139, 89, 140, 93, 91, 92, 102, 103, 104, 46, 105, 48, 53, 141, 142, 143, 144, 165, 166, 167, 168, 169, 170, 171, 174, 175, 176, 172, 173] (by decide +kernel) (by decide +kernel)) (goodIn_sub (fun _ h => List.mem_cons_of_mem _ (List.mem_append_right _ h)) (by decide +kernel))) (goodIn_sub (fun _ h => List.mem_cons_of_mem _ (List.mem_append_left _ (List.mem_append_right _ h))) (by decide +kernel))
set_option maxRecDepth 20000 in
theorem gX6_pack_X3_write : GoodIn wsX6_pack (wsV RX6 169 RX3 yX3_write wsX3_write) := goodIn_app (goodIn_of _ (by decide +kernel)) ggX6_pack_X3_write
set_option maxRecDepth 20000 in
theorem ggX6_pack_X4_clear : GoodIn wsX6_pack wsX4_clear := goodIn_r _ [97, 48, 172, 173] (by decide +kernel) (by decide +kernel)
set_option maxRecDepth 20000 in
theorem gX6_pack_X4_clear : GoodIn wsX6_pack (wsV RX6 86 RX4 yX4_clear wsX4_clear) := goodIn_app (goodIn_of _ (by decide +kernel)) ggX6_pack_X4_clear
set_option maxRecDepth 20000 in
theorem ggX6_pack_X2_bytes : GoodIn wsX6_pack wsX2_bytes := goodIn_r _ [149, 93, 174, 175, 176] (by decide +kernel) (by decide +kernel)
set_option maxRecDepth 20000 in
theorem gX6_pack_X2_bytes : GoodIn wsX6_pack (wsV RX6 173 RX2 yX2_bytes wsX2_bytes) := goodIn_app (goodIn_of _ (by decide +kernel)) ggX6_pack_X2_bytes
set_option maxRecDepth 20000 in
theorem ggX6_out_X2_bytes : GoodIn wsX6_out wsX2_bytes := goodIn_r _ [9, 10, 44, 45, 46] (by decide +kernel) (by decide +kernel)
set_option maxRecDepth 20000 in
theorem gX6_out_X2_bytes : GoodIn wsX6_out (wsV RX6 173 RX2 yX2_bytes wsX2_bytes) := goodIn_app (goodIn_of _ (by decide +kernel)) ggX6_out_X2_bytes
set_option maxRecDepth 20000 in
theorem ggX6_out_X4_has : GoodIn wsX6_out wsX4_has := goodIn_r _ [15, 16, 47, 48] (by decide +kernel) (by decide +kernel)
set_option maxRecDepth 20000 in
theorem gX6_out_X4_has : GoodIn wsX6_out (wsV RX6 150 RX4 yX4_has wsX4_has) := goodIn_app (goodIn_of _ (by decide +kernel)) ggX6_out_X4_has
set_option maxRecDepth 20000 in
theorem ggX6_out_X4_at : GoodIn wsX6_out wsX4_at := goodIn_ca (goodIn_ca (goodIn_r _ [20, 21, 22, 23, 14, 24, 25, 26, 12, 13, 15, 16, 47, 48] (by decide +kernel) (by decide +kernel)) (goodIn_sub (fun _ h => List.mem_cons_of_mem _ (List.mem_append_left _ (List.mem_append_right _ h))) (by decide +kernel))) (goodIn_sub (fun _ h => List.mem_cons_of_mem _ (List.mem_append_right _ h)) (by decide +kernel))
set_option maxRecDepth 20000 in
theorem gX6_out_X4_at : GoodIn wsX6_out (wsV RX6 178 RX4 yX4_at wsX4_at) := goodIn_app (goodIn_of _ (by decide +kernel)) ggX6_out_X4_at
set_option maxRecDepth 20000 in
theorem ggX6_open_X4_at : GoodIn wsX6_open wsX4_at := goodIn_ca (goodIn_ca (goodIn_r _ [8, 9, 10, 11, 7, 12, 13, 14, 15, 16, 17, 18, 112, 113] (by decide +kernel) (by decide +kernel)) (goodIn_sub (fun _ h => List.mem_cons_of_mem _ (List.mem_append_left _ (List.mem_append_right _ h))) (by decide +kernel))) (goodIn_sub (fun _ h => List.mem_cons_of_mem _ (List.mem_append_right _ h)) (by decide +kernel))
set_option maxRecDepth 20000 in
theorem gX6_open_X4_at : GoodIn wsX6_open (wsV RX6 178 RX4 yX4_at wsX4_at) := goodIn_app (goodIn_of _ (by decide +kernel)) ggX6_open_X4_at
set_option maxRecDepth 20000 in
theorem ggX6_open_X6_firstWithId : GoodIn wsX6_open wsX6_firstWithId := goodIn_ca (goodIn_r _ [23, 24, 25, 26, 27, 28, 29, 30, 31, 101, 102, 103, 104, 105, 106, 107, 108, 109, 110, 111, 114, 115, 116, 117] (by decide +kernel) (by decide +kernel)) (goodIn_sub (fun _ h => List.mem_cons_of_mem _ (List.mem_append_left _ (List.mem_append_right _ h))) (by decide +kernel))
set_option maxRecDepth 20000 in
theorem gX6_open_X6_firstWithId : GoodIn wsX6_open (wsV RX6 182 RX6 yX6_firstWithId wsX6_firstWithId) := goodIn_app (goodIn_of _ (by decide +kernel)) ggX6_open_X6_firstWithId
set_option maxRecDepth 20000 in
theorem ggX6_open_X1_decode : GoodIn wsX6_open wsX1_decode := goodIn_ca (goodIn_ca (goodIn_r _ [36, 37, 38, 39, 40, 41, 42, 43, 7, 44, 18, 45, 46, 47, 35, 48, 49, 5, 6, 8, 9, 10, 11, 12, 13, 14, 15, 16, 17, 50, 51, 52, 29, 53, 31, 54, 55, 56, 57, 58, 59, 60, 61, 62, 63, 64, 65, 66, 67, 68, 69, 70, 71, 72, 73, 74, 75, 76, 77, 78, 79, 80, 81, 82, 83, 84, 85, 86, 87, 88, 89, 90, 91, 92, 93, 118, 119, 120, 121, 112, 113, 114, 115, 116, 117] (by decide +kernel) (by decide +kernel)) (goodIn_sub (fun _ h => List.mem_cons_of_mem _ (List.mem_append_left _ (List.mem_append_right _ h))) (by decide +kernel))) (goodIn_sub (fun _ h => List.mem_cons_of_mem _ (List.mem_append_right _ h)) (by decide +kernel))
set_option maxRecDepth 20000 in
theorem gX6_open_X1_decode : GoodIn wsX6_open (wsV RX6 185 RX1 yX1_decode wsX1_decode) := goodIn_app (goodIn_of _ (by decide +kernel)) ggX6_open_X1_decode
set_option maxRecDepth 20000 in
theorem ggX6_open_X4_clear : GoodIn wsX6_open wsX4_clear := goodIn_r _ [71, 18, 112, 113] (by decide +kernel) (by decide +kernel)
set_option maxRecDepth 20000 in
theorem gX6_open_X4_clear : GoodIn wsX6_open (wsV RX6 86 RX4 yX4_clear wsX4_clear) := goodIn_app (goodIn_of _ (by decide +kernel)) ggX6_open_X4_clear
set_option maxRecDepth 20000 in
theorem ggX6_open_X1_handOver : GoodIn wsX6_open wsX1_handOver := goodIn_ca (goodIn_ca (goodIn_r _ [98, 37, 38, 99, 69, 70, 7, 71, 18, 41, 42, 43, 44, 88, 73, 74, 75, 9, 10, 11, 12, 13, 14, 15, 16, 17, 76, 77, 78, 79, 118, 119, 120, 121, 112, 113] (by decide +kernel) (by decide +kernel)) (goodIn_sub (fun _ h => List.mem_cons_of_mem _ (List.mem_append_left _ (List.mem_append_right _ h))) (by decide +kernel))) (goodIn_sub (fun _ h => List.mem_cons_of_mem _ (List.mem_append_right _ h)) (by decide +kernel))
set_option maxRecDepth 20000 in
theorem gX6_open_X1_handOver : GoodIn wsX6_open (wsV RX6 189 RX1 yX1_handOver wsX1_handOver) := goodIn_app (goodIn_of _ (by decide +kernel)) ggX6_open_X1_handOver
set_option maxRecDepth 20000 in
theorem ggX6_open_X4_length : GoodIn wsX6_open wsX4_length := goodIn_r _ [44, 18, 112, 113] (by decide +kernel) (by decide +kernel)
set_option maxRecDepth 20000 in
theorem gX6_open_X4_length : GoodIn wsX6_open (wsV RX6 74 RX4 yX4_length wsX4_length) := goodIn_app (goodIn_of _ (by decide +kernel)) ggX6_open_X4_length
set_option maxRecDepth 20000 in
theorem ggX6_text_X4_has : GoodIn wsX6_text wsX4_has := goodIn_r _ [9, 10, 38, 39] (by decide +kernel) (by decide +kernel)
set_option maxRecDepth 20000 in
theorem gX6_text_X4_has : GoodIn wsX6_text (wsV RX6 150 RX4 yX4_has wsX4_has) := goodIn_app (goodIn_of _ (by decide +kernel)) ggX6_text_X4_has
set_option maxRecDepth 20000 in
theorem ggX6_text_X4_at : GoodIn wsX6_text wsX4_at := goodIn_ca (goodIn_ca (goodIn_r _ [14, 15, 16, 17, 8, 18, 19, 20, 6, 7, 9, 10, 38, 39] (by decide +kernel) (by decide +kernel)) (goodIn_sub (fun _ h => List.mem_cons_of_mem _ (List.mem_append_left _ (List.mem_append_right _ h))) (by decide +kernel))) (goodIn_sub (fun _ h => List.mem_cons_of_mem _ (List.mem_append_right _ h)) (by decide +kernel))
set_option maxRecDepth 20000 in
theorem gX6_text_X4_at : GoodIn wsX6_text (wsV RX6 178 RX4 yX4_at wsX4_at) := goodIn_app (goodIn_of _ (by decide +kernel)) ggX6_text_X4_at
set_option maxRecDepth 20000 in
theorem ggX6_size_X6_noneOrThereAt : GoodIn wsX6_size wsX6_noneOrThereAt := goodIn_ca (goodIn_r _ [7, 8, 9, 10, 11, 6, 12, 13, 14, 15, 16, 17, 18, 19, 20, 21, 22, 86, 87, 88, 89, 90, 91, 92, 93, 94, 95, 96, 97, 98, 99, 100] (by decide +kernel) (by decide +kernel)) (goodIn_sub (fun _ h => List.mem_cons_of_mem _ (List.mem_append_left _ (List.mem_append_right _ h))) (by decide +kernel))
set_option maxRecDepth 20000 in
theorem gX6_size_X6_noneOrThereAt : GoodIn wsX6_size (wsV RX6 159 RX6 yX6_noneOrThereAt wsX6_noneOrThereAt) := goodIn_app (goodIn_of _ (by decide +kernel)) ggX6_size_X6_noneOrThereAt
set_option maxRecDepth 20000 in
theorem ggX6_size_X6_isSample : GoodIn wsX6_size wsX6_isSample := goodIn_r _ [26, 27, 86, 87, 88, 89, 90, 91, 92, 93, 94, 95, 96] (by decide +kernel) (by decide +kernel)
set_option maxRecDepth 20000 in
theorem gX6_size_X6_isSample : GoodIn wsX6_size (wsV RX6 193 RX6 yX6_isSample wsX6_isSample) := goodIn_app (goodIn_of _ (by decide +kernel)) ggX6_size_X6_isSample
set_option maxRecDepth 20000 in
theorem ggX6_size_X0_words : GoodIn wsX6_size wsX0_words := goodIn_r _ [31, 32, 97, 98, 99, 100] (by decide +kernel) (by decide +kernel)
set_option maxRecDepth 20000 in
theorem gX6_size_X0_words : GoodIn wsX6_size (wsV RX6 117 RX0 yX0_words wsX0_words) := goodIn_app (goodIn_of _ (by decide +kernel)) ggX6_size_X0_words
set_option maxRecDepth 20000 in
theorem ggX6_size_X3_measure : GoodIn wsX6_size wsX3_measure := goodIn_ca (goodIn_ca (goodIn_r _ [37, 38, 39, 40, 41, 42, 43, 44, 45, 46, 47, 48, 49, 50, 51, 52, 53, 54, 55, 56, 57, 58, 59, 60, 36, 61, 62, 63, 64, 65, 66, 67, 68, 69, 70, 71, 72, 73, 74, 75, 76, 77, 78, 79, 80, 81, 82, 83, 84, 85, 101, 102, 103, 104, 105, 106, 107, 108, 109] (by decide +kernel) (by decide +kernel)) (goodIn_sub (fun _ h => List.mem_cons_of_mem _ (List.mem_append_left _ (List.mem_append_right _ h))) (by decide +kernel))) (goodIn_sub (fun _ h => List.mem_cons_of_mem _ (List.mem_append_right _ h)) (by decide +kernel))
