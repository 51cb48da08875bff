set_option maxRecDepth 20000 in
theorem gX7_told_X7_sumOf : GoodIn wsX7_told (wsV RX7 135 RX7 yX7_sumOf wsX7_sumOf) := goodIn_app (goodIn_of _ (by decide +kernel)) ggX7_told_X7_sumOf
set_option maxRecDepth 20000 in
theorem ggX7_told_X7_in : GoodIn wsX7_told wsX7_in := goodIn_r _ [15] (by decide +kernel) (by decide +kernel)
set_option maxRecDepth 20000 in
theorem gX7_told_X7_in : GoodIn wsX7_told (va_wsS RX7 65 yX7_in wsX7_in) := goodIn_app (goodIn_of _ (by decide +kernel)) ggX7_told_X7_in
set_option maxRecDepth 20000 in
theorem ggX7_content_X7_in : GoodIn wsX7_content wsX7_in := goodIn_r _ [9] (by decide +kernel) (by decide +kernel)
set_option maxRecDepth 20000 in
theorem gX7_content_X7_in : GoodIn wsX7_content (va_wsS RX7 65 yX7_in wsX7_in) := goodIn_app (goodIn_of _ (by decide +kernel)) ggX7_content_X7_in
set_option maxRecDepth 20000 in
theorem ggX7_putItem_X7_put : GoodIn wsX7_putItem wsX7_put := goodIn_ca (goodIn_ca (goodIn_r _ [11, 12, 13, 14, 15, 16, 17, 18, 19, 20, 21, 22, 23, 24, 25, 26, 27, 28, 29, 30, 31, 32, 33, 34, 35, 36, 37, 38] (by decide +kernel) (by decide +kernel)) (goodIn_sub (fun _ h => List.mem_cons_of_mem _ (List.mem_append_left _ (List.mem_append_right _ h))) (by decide +kernel))) (goodIn_sub (fun _ h => List.mem_cons_of_mem _ (List.mem_append_right _ h)) (by decide +kernel))
set_option maxRecDepth 20000 in
theorem gX7_putItem_X7_put : GoodIn wsX7_putItem (wsV RX7 144 RX7 yX7_put wsX7_put) := goodIn_app (goodIn_of _ (by decide +kernel)) ggX7_putItem_X7_put
set_option maxRecDepth 20000 in
theorem ggX7_pack_X7_isThere : GoodIn wsX7_pack wsX7_isThere := goodIn_ca (goodIn_ca (goodIn_r _ [15, 16, 10, 17, 18, 14, 19, 54, 55, 56, 57, 58, 59, 60, 61, 62, 63, 64, 65, 66, 67, 68, 69, 70, 71, 72, 73, 74, 75, 76, 77, 78] (by decide +kernel) (by decide +kernel)) (goodIn_sub (fun _ h => List.mem_cons_of_mem _ (List.mem_append_right _ h)) (by decide +kernel))) (goodIn_sub (fun _ h => List.mem_cons_of_mem _ (List.mem_append_left _ (List.mem_append_right _ h))) (by decide +kernel))
set_option maxRecDepth 20000 in
theorem gX7_pack_X7_isThere : GoodIn wsX7_pack (wsV RX7 125 RX7 yX7_isThere wsX7_isThere) := goodIn_app (goodIn_of _ (by decide +kernel)) ggX7_pack_X7_isThere
set_option maxRecDepth 20000 in
theorem ggX7_pack_X7_layAhead : GoodIn wsX7_pack wsX7_layAhead := goodIn_ca (goodIn_ca (goodIn_r _ [23, 5, 24, 25, 4, 26, 27, 28, 29, 14, 30, 54, 55, 56, 57, 58, 59, 60, 61, 62, 63, 64, 65, 66, 67, 68, 69, 70, 71, 72, 73, 74, 75, 76, 77, 78] (by decide +kernel) (by decide +kernel)) (goodIn_sub (fun _ h => List.mem_cons_of_mem _ (List.mem_append_left _ (List.mem_append_right _ h))) (by decide +kernel))) (goodIn_sub (fun _ h => List.mem_cons_of_mem _ (List.mem_append_right _ h)) (by decide +kernel))
set_option maxRecDepth 20000 in
theorem gX7_pack_X7_layAhead : GoodIn wsX7_pack (wsV RX7 110 RX7 yX7_layAhead wsX7_layAhead) := goodIn_app (goodIn_of _ (by decide +kernel)) ggX7_pack_X7_layAhead
set_option maxRecDepth 20000 in
theorem ggX7_pack_X7_packedLong : GoodIn wsX7_pack wsX7_packedLong := goodIn_ca (goodIn_ca (goodIn_r _ [34, 35, 3, 36, 37, 38, 39, 14, 40, 5, 4, 54, 55, 56, 57, 58, 59, 60, 61, 62, 63, 64, 65, 66, 67, 68, 69, 70, 71, 72, 73, 74, 75, 76, 77, 78] (by decide +kernel) (by decide +kernel)) (goodIn_sub (fun _ h => List.mem_cons_of_mem _ (List.mem_append_right _ h)) (by decide +kernel))) (goodIn_sub (fun _ h => List.mem_cons_of_mem _ (List.mem_append_left _ (List.mem_append_right _ h))) (by decide +kernel))
set_option maxRecDepth 20000 in
theorem gX7_pack_X7_packedLong : GoodIn wsX7_pack (wsV RX7 117 RX7 yX7_packedLong wsX7_packedLong) := goodIn_app (goodIn_of _ (by decide +kernel)) ggX7_pack_X7_packedLong
set_option maxRecDepth 20000 in
theorem ggX7_pack_X7_sumOf : GoodIn wsX7_pack wsX7_sumOf := goodIn_ca (goodIn_ca (goodIn_r _ [44, 25, 26, 54, 55, 56, 57, 58, 59, 60, 61, 62, 63, 64, 65, 66, 67, 68, 69, 70, 71, 72, 73, 74, 75, 76, 77, 78] (by decide +kernel) (by decide +kernel)) (goodIn_sub (fun _ h => List.mem_cons_of_mem _ (List.mem_append_right _ h)) (by decide +kernel))) (goodIn_sub (fun _ h => List.mem_cons_of_mem _ (List.mem_append_left _ (List.mem_append_right _ h))) (by decide +kernel))
set_option maxRecDepth 20000 in
theorem gX7_pack_X7_sumOf : GoodIn wsX7_pack (wsV RX7 135 RX7 yX7_sumOf wsX7_sumOf) := goodIn_app (goodIn_of _ (by decide +kernel)) ggX7_pack_X7_sumOf
set_option maxRecDepth 20000 in
theorem ggX7_pack_X7_put : GoodIn wsX7_pack wsX7_put := goodIn_ca (goodIn_ca (goodIn_r _ [48, 49, 7, 54, 55, 56, 57, 58, 59, 60, 61, 62, 63, 64, 65, 66, 67, 68, 69, 70, 71, 72, 73, 74, 75, 76, 77, 78] (by decide +kernel) (by decide +kernel)) (goodIn_sub (fun _ h => List.mem_cons_of_mem _ (List.mem_append_right _ h)) (by decide +kernel))) (goodIn_sub (fun _ h => List.mem_cons_of_mem _ (List.mem_append_left _ (List.mem_append_right _ h))) (by decide +kernel))
set_option maxRecDepth 20000 in
theorem gX7_pack_X7_put : GoodIn wsX7_pack (wsV RX7 144 RX7 yX7_put wsX7_put) := goodIn_app (goodIn_of _ (by decide +kernel)) ggX7_pack_X7_put
set_option maxRecDepth 20000 in
theorem ggX7_pack_X7_putItem : GoodIn wsX7_pack wsX7_putItem := goodIn_ca (goodIn_ca (goodIn_r _ [53, 36, 35, 9, 3, 4, 5, 45, 46, 47, 14, 48, 49, 7, 54, 55, 56, 57, 58, 59, 60, 61, 62, 63, 64, 65, 66, 67, 68, 69, 70, 71, 72, 73, 74, 75, 76, 77, 78] (by decide +kernel) (by decide +kernel)) (goodIn_sub (fun _ h => List.mem_cons_of_mem _ (List.mem_append_right _ h)) (by decide +kernel))) (goodIn_sub (fun _ h => List.mem_cons_of_mem _ (List.mem_append_left _ (List.mem_append_right _ h))) (by decide +kernel))
set_option maxRecDepth 20000 in
theorem gX7_pack_X7_putItem : GoodIn wsX7_pack (wsV RX7 153 RX7 yX7_putItem wsX7_putItem) := goodIn_app (goodIn_of _ (by decide +kernel)) ggX7_pack_X7_putItem
set_option maxRecDepth 20000 in
theorem ggX7_out_X7_in : GoodIn wsX7_out wsX7_in := goodIn_r _ [7] (by decide +kernel) (by decide +kernel)
set_option maxRecDepth 20000 in
theorem gX7_out_X7_in : GoodIn wsX7_out (va_wsS RX7 65 yX7_in wsX7_in) := goodIn_app (goodIn_of _ (by decide +kernel)) ggX7_out_X7_in
set_option maxRecDepth 20000 in
theorem ggX7_wrong_X7_firstWith : GoodIn wsX7_wrong wsX7_firstWith := goodIn_ca (goodIn_ca (goodIn_r _ [10, 11, 27, 28, 29, 30, 31, 32, 33, 34, 35, 36, 37, 38, 39, 40, 41, 42, 43, 44, 45, 46, 47, 48, 49, 50, 51] (by decide +kernel) (by decide +kernel)) (goodIn_sub (fun _ h => List.mem_cons_of_mem _ (List.mem_append_left _ (List.mem_append_right _ h))) (by decide +kernel))) (goodIn_sub (fun _ h => List.mem_cons_of_mem _ (List.mem_append_right _ h)) (by decide +kernel))
set_option maxRecDepth 20000 in
theorem gX7_wrong_X7_firstWith : GoodIn wsX7_wrong (wsV RX7 156 RX7 yX7_firstWith wsX7_firstWith) := goodIn_app (goodIn_of _ (by decide +kernel)) ggX7_wrong_X7_firstWith
set_option maxRecDepth 20000 in
theorem ggX7_wrong_X7_sumOf : GoodIn wsX7_wrong wsX7_sumOf := goodIn_ca (goodIn_ca (goodIn_r _ [15, 16, 17, 27, 28, 29, 30, 31, 32, 33, 34, 35, 36, 37, 38, 39, 40, 41, 42, 43, 44, 45, 46, 47, 48, 49, 50, 51] (by decide +kernel) (by decide +kernel)) (goodIn_sub (fun _ h => List.mem_cons_of_mem _ (List.mem_append_left _ (List.mem_append_right _ h))) (by decide +kernel))) (goodIn_sub (fun _ h => List.mem_cons_of_mem _ (List.mem_append_right _ h)) (by decide +kernel))
set_option maxRecDepth 20000 in
theorem gX7_wrong_X7_sumOf : GoodIn wsX7_wrong (wsV RX7 135 RX7 yX7_sumOf wsX7_sumOf) := goodIn_app (goodIn_of _ (by decide +kernel)) ggX7_wrong_X7_sumOf
set_option maxRecDepth 20000 in
theorem ggX7_wrong_X7_layAhead : GoodIn wsX7_wrong wsX7_layAhead := goodIn_ca (goodIn_ca (goodIn_r _ [21, 5, 22, 16, 4, 17, 23, 24, 25, 9, 26, 27, 28, 29, 30, 31, 32, 33, 34, 35, 36, 37, 38, 39, 40, 41, 42, 43, 44, 45, 46, 47, 48, 49, 50, 51] (by decide +kernel) (by decide +kernel)) (goodIn_sub (fun _ h => List.mem_cons_of_mem _ (List.mem_append_right _ h)) (by decide +kernel))) (goodIn_sub (fun _ h => List.mem_cons_of_mem _ (List.mem_append_left _ (List.mem_append_right _ h))) (by decide +kernel))
set_option maxRecDepth 20000 in
theorem gX7_wrong_X7_layAhead : GoodIn wsX7_wrong (wsV RX7 110 RX7 yX7_layAhead wsX7_layAhead) := goodIn_app (goodIn_of _ (by decide +kernel)) ggX7_wrong_X7_layAhead
set_option maxRecDepth 20000 in
theorem ggX7_open_X7_wrong : GoodIn wsX7_open wsX7_wrong := goodIn_ca (goodIn_ca (goodIn_r _ [12, 2, 13, 3, 6, 7, 14, 15, 16, 11, 17, 18, 19, 20, 21, 22, 23, 24, 25, 26, 27, 28, 29, 30, 31, 32, 33, 34, 35, 36, 37, 38, 39, 40, 41, 42, 43, 44, 45, 46, 47, 48, 49, 50, 51, 52, 53, 54, 55, 56, 57, 58] (by decide +kernel) (by decide +kernel)) (goodIn_sub (fun _ h => List.mem_cons_of_mem _ (List.mem_append_right _ h)) (by decide +kernel))) (goodIn_sub (fun _ h => List.mem_cons_of_mem _ (List.mem_append_left _ (List.mem_append_right _ h))) (by decide +kernel))
set_option maxRecDepth 20000 in
theorem gX7_open_X7_wrong : GoodIn wsX7_open (wsV RX7 159 RX7 yX7_wrong wsX7_wrong) := goodIn_app (goodIn_of _ (by decide +kernel)) ggX7_open_X7_wrong
set_option maxRecDepth 20000 in
theorem ggX7_text_X7_in : GoodIn wsX7_text wsX7_in := goodIn_r _ [7] (by decide +kernel) (by decide +kernel)
set_option maxRecDepth 20000 in
theorem gX7_text_X7_in : GoodIn wsX7_text (va_wsS RX7 65 yX7_in wsX7_in) := goodIn_app (goodIn_of _ (by decide +kernel)) ggX7_text_X7_in
set_option maxRecDepth 20000 in
theorem ggX7_size_X7_in : GoodIn wsX7_size wsX7_in := goodIn_r _ [6] (by decide +kernel) (by decide +kernel)
set_option maxRecDepth 20000 in
theorem gX7_size_X7_in : GoodIn wsX7_size (va_wsS RX7 65 yX7_in wsX7_in) := goodIn_app (goodIn_of _ (by decide +kernel)) ggX7_size_X7_in
set_option maxRecDepth 20000 in
theorem ggX7_size_X7_isThere : GoodIn wsX7_size wsX7_isThere := goodIn_ca (goodIn_ca (goodIn_r _ [10, 11, 12, 3, 4, 5, 6, 47, 48, 49, 50, 51, 52, 53, 54, 55, 56, 57, 58, 59, 60, 61, 62, 63, 64, 65, 66, 67, 68, 69, 70, 71] (by decide +kernel) (by decide +kernel)) (goodIn_sub (fun _ h => List.mem_cons_of_mem _ (List.mem_append_right _ h)) (by decide +kernel))) (goodIn_sub (fun _ h => List.mem_cons_of_mem _ (List.mem_append_left _ (List.mem_append_right _ h))) (by decide +kernel))
set_option maxRecDepth 20000 in
theorem gX7_size_X7_isThere : GoodIn wsX7_size (wsV RX7 125 RX7 yX7_isThere wsX7_isThere) := goodIn_app (goodIn_of _ (by decide +kernel)) ggX7_size_X7_isThere
set_option maxRecDepth 20000 in
theorem ggX7_size_X7_sizeOf : GoodIn wsX7_size wsX7_sizeOf := goodIn_ca (goodIn_ca (goodIn_r _ [16, 17, 18, 19, 5, 20, 21, 22, 23, 24, 25, 26, 27, 28, 29, 30, 31, 32, 33, 34, 35, 36, 37, 38, 39, 40, 41, 42, 43, 44, 45, 46, 47, 48, 49, 50, 51, 52, 53, 54, 55, 56, 57, 58, 59, 60, 61, 62, 63, 64, 65, 66, 67, 68, 69, 70, 71] (by decide +kernel) (by decide +kernel)) (goodIn_sub (fun _ h => List.mem_cons_of_mem _ (List.mem_append_left _ (List.mem_append_right _ h))) (by decide +kernel))) (goodIn_sub (fun _ h => List.mem_cons_of_mem _ (List.mem_append_right _ h)) (by decide +kernel))
set_option maxRecDepth 20000 in
theorem gX7_size_X7_sizeOf : GoodIn wsX7_size (wsV RX7 121 RX7 yX7_sizeOf wsX7_sizeOf) := goodIn_app (goodIn_of _ (by decide +kernel)) ggX7_size_X7_sizeOf
set_option maxRecDepth 20000 in
theorem ggX7_best_X7_in : GoodIn wsX7_best wsX7_in := goodIn_r _ [6] (by decide +kernel) (by decide +kernel)
set_option maxRecDepth 20000 in
theorem gX7_best_X7_in : GoodIn wsX7_best (va_wsS RX7 65 yX7_in wsX7_in) := goodIn_app (goodIn_of _ (by decide +kernel)) ggX7_best_X7_in
set_option maxRecDepth 20000 in
theorem ggX7_best_X7_sizeOf : GoodIn wsX7_best wsX7_sizeOf := goodIn_ca (goodIn_ca (goodIn_r _ [10, 11, 12, 13, 5, 14, 15, 16, 17, 18, 19, 20, 21, 22, 23, 24, 25, 26, 27, 28, 29, 30, 31, 32, 33, 34, 35, 36, 37, 38, 39, 40, 47, 48, 49, 50, 51, 52, 53, 54, 55, 56, 57, 58, 59, 60, 61, 62, 63, 64, 65, 66, 67, 68, 69, 70, 71] (by decide +kernel) (by decide +kernel)) (goodIn_sub (fun _ h => List.mem_cons_of_mem _ (List.mem_append_left _ (List.mem_append_right _ h))) (by decide +kernel))) (goodIn_sub (fun _ h => List.mem_cons_of_mem _ (List.mem_append_right _ h)) (by decide +kernel))
set_option maxRecDepth 20000 in
theorem gX7_best_X7_sizeOf : GoodIn wsX7_best (wsV RX7 121 RX7 yX7_sizeOf wsX7_sizeOf) := goodIn_app (goodIn_of _ (by decide +kernel)) ggX7_best_X7_sizeOf
set_option maxRecDepth 20000 in
theorem ggX7_best_X7_isThere : GoodIn wsX7_best wsX7_isThere := goodIn_ca (goodIn_ca (goodIn_r _ [44, 45, 46, 3, 4, 5, 6, 47, 48, 49, 50, 51, 52, 53, 54, 55, 56, 57, 58, 59, 60, 61, 62, 63, 64, 65, 66, 67, 68, 69, 70, 71] (by decide +kernel) (by decide +kernel)) (goodIn_sub (fun _ h => List.mem_cons_of_mem _ (List.mem_append_right _ h)) (by decide +kernel))) (goodIn_sub (fun _ h => List.mem_cons_of_mem _ (List.mem_append_left _ (List.mem_append_right _ h))) (by decide +kernel))
set_option maxRecDepth 20000 in
theorem gX7_best_X7_isThere : GoodIn wsX7_best (wsV RX7 125 RX7 yX7_isThere wsX7_isThere) := goodIn_app (goodIn_of _ (by decide +kernel)) ggX7_best_X7_isThere
set_option maxRecDepth 20000 in
theorem ggX7_share_X7_isThere : GoodIn wsX7_share wsX7_isThere := goodIn_ca (goodIn_ca (goodIn_r _ [7, 8, 9, 10, 11, 6, 12, 51, 52, 53, 54, 55, 56, 57, 58, 59, 60, 61, 62, 63, 64, 65, 66, 67, 68, 69, 70, 71, 72, 73, 74, 75] (by decide +kernel) (by decide +kernel)) (goodIn_sub (fun _ h => List.mem_cons_of_mem _ (List.mem_append_right _ h)) (by decide +kernel))) (goodIn_sub (fun _ h => List.mem_cons_of_mem _ (List.mem_append_left _ (List.mem_append_left _ (List.mem_append_right _ h)))) (by decide +kernel))
set_option maxRecDepth 20000 in
theorem gX7_share_X7_isThere : GoodIn wsX7_share (wsV RX7 125 RX7 yX7_isThere wsX7_isThere) := goodIn_app (goodIn_of _ (by decide +kernel)) ggX7_share_X7_isThere
set_option maxRecDepth 20000 in
theorem ggX7_share_X7_sizeOfAll : GoodIn wsX7_share wsX7_sizeOfAll := goodIn_ca (goodIn_ca (goodIn_r _ [16, 2, 17, 18, 19, 6, 20, 21, 22, 23, 24, 25, 26, 27, 28, 29, 30, 31, 32, 33, 34, 35, 36, 37, 38, 39, 40, 41, 42, 43, 44, 45, 46, 47, 48, 49, 50, 51, 52, 53, 54, 55, 56, 57, 58, 59, 60, 61, 62, 63, 64, 65, 66, 67, 68, 69, 70, 71, 72, 73, 74, 75] (by decide +kernel) (by decide +kernel)) (goodIn_sub (fun _ h => List.mem_cons_of_mem _ (List.mem_append_left _ (List.mem_append_left _ (List.mem_append_right _ h)))) (by decide +kernel))) (goodIn_sub (fun _ h => List.mem_cons_of_mem _ (List.mem_append_right _ h)) (by decide +kernel))
set_option maxRecDepth 20000 in
theorem gX7_share_X7_sizeOfAll : GoodIn wsX7_share (wsV RX7 129 RX7 yX7_sizeOfAll wsX7_sizeOfAll) := goodIn_app (goodIn_of _ (by decide +kernel)) ggX7_share_X7_sizeOfAll
set_option maxRecDepth 20000 in
theorem ggL_content_X6_content : GoodIn wsL_content wsX6_content := goodIn_ca (goodIn_ca (goodIn_r _ [7, 8, 9, 10, 11, 12, 13, 14, 15, 6, 16, 17, 18, 19, 20, 21, 22, 23, 24, 25, 26, 27, 28, 29, 30, 31, 32, 33, 34, 35, 36, 37, 38, 39, 40, 41, 42, 43, 44, 45, 46, 47, 48, 49, 50, 51, 52, 53, 54, 55, 56, 57, 58, 59, 60, 61, 62, 63, 64, 65, 66, 67, 68, 69, 70, 71, 72, 73, 74, 75] (by decide +kernel) (by decide +kernel)) (goodIn_sub (fun _ h => List.mem_cons_of_mem _ (List.mem_append_left _ (List.mem_append_right _ h))) (by decide +kernel))) (goodIn_sub (fun _ h => List.mem_cons_of_mem _ (List.mem_append_right _ h)) (by decide +kernel))
set_option maxRecDepth 20000 in
theorem gL_content_X6_content : GoodIn wsL_content (wsV RL 7 RX6 yX6_content wsX6_content) := goodIn_app (goodIn_of _ (by decide +kernel)) ggL_content_X6_content
set_option maxRecDepth 20000 in
theorem ggL_out_X6_out : GoodIn wsL_out wsX6_out := goodIn_ca (goodIn_ca (goodIn_r _ [6, 7, 8, 9, 10, 11, 12, 13, 14, 15, 16, 17, 18, 19, 20, 21, 22, 23, 24, 25, 26, 27, 28, 29, 30, 31, 32, 33, 34, 35, 36, 37, 38, 39, 40, 41, 42, 43, 44, 45, 46, 47, 48, 49, 50, 51, 52, 53, 54] (by decide +kernel) (by decide +kernel)) (goodIn_sub (fun _ h => List.mem_cons_of_mem _ (List.mem_append_left _ (List.mem_append_right _ h))) (by decide +kernel))) (goodIn_sub (fun _ h => List.mem_cons_of_mem _ (List.mem_append_right _ h)) (by decide +kernel))
set_option maxRecDepth 20000 in
theorem gL_out_X6_out : GoodIn wsL_out (wsV RL 17 RX6 yX6_out wsX6_out) := goodIn_app (goodIn_of _ (by decide +kernel)) ggL_out_X6_out
set_option maxRecDepth 20000 in
theorem ggL_text_X6_text : GoodIn wsL_text wsX6_text := goodIn_ca (goodIn_ca (goodIn_r _ [6, 7, 8, 9, 10, 11, 12, 13, 14, 15, 16, 17, 18, 19, 20, 21, 22, 23, 24, 25, 26, 27, 28, 29, 30, 31, 32, 33, 34, 35, 36, 37, 38, 39, 40, 41, 42, 43, 44, 45] (by decide +kernel) (by decide +kernel)) (goodIn_sub (fun _ h => List.mem_cons_of_mem _ (List.mem_append_left _ (List.mem_append_right _ h))) (by decide +kernel))) (goodIn_sub (fun _ h => List.mem_cons_of_mem _ (List.mem_append_right _ h)) (by decide +kernel))
set_option maxRecDepth 20000 in
theorem gL_text_X6_text : GoodIn wsL_text (wsV RL 21 RX6 yX6_text wsX6_text) := goodIn_app (goodIn_of _ (by decide +kernel)) ggL_text_X6_text
set_option maxRecDepth 20000 in
theorem ggL_share_X6_share : GoodIn wsL_share wsX6_share := goodIn_ca (goodIn_ca (goodIn_ca (goodIn_ca (goodIn_r _ [6, 7, 8, 9, 10, 11, 12, 5, 13, 14, 15, 16, 17, 18, 19, 20, 21, 22, 23, 24, 25, 26, 27, 28, 29, 30, 31, 32, 33, 34, 35, 36, 37, 38, 39, 40, 41, 42, 43, 44, 45, 46, 47, 48, 49, 50, 51, 52, 53, 54, 55, 56, 57, 58, 59, 60, 61, 62, 63, 64, 65, 66, 67, 68, 69, 70, 71, 72, 73, 74, 75, 76, 77, 78, 79, 80, 81, 82, 83, 84, 85, 86, 87, 88, 89, 90, 91, 92, 93, 94, 95, 96, 97, 98, 99, 100, 101, 102, 103, 104, 105, 106, 107, 108, 109, 110, 111, 112] (by decide +kernel) (by decide +kernel)) (goodIn_sub (fun _ h => List.mem_cons_of_mem _ (List.mem_append_left _ (List.mem_append_left _ (List.mem_append_left _ (List.mem_append_right _ h))))) (by decide +kernel))) (goodIn_sub (fun _ h => List.mem_cons_of_mem _ (List.mem_append_left _ (List.mem_append_right _ h))) (by decide +kernel))) (goodIn_sub (fun _ h => List.mem_cons_of_mem _ (List.mem_append_right _ h)) (by decide +kernel))) (goodIn_sub (fun _ h => List.mem_cons_of_mem _ (List.mem_append_left _ (List.mem_append_left _ (List.mem_append_right _ h)))) (by decide +kernel))
set_option maxRecDepth 20000 in
theorem gL_share_X6_share : GoodIn wsL_share (wsV RL 24 RX6 yX6_share wsX6_share) := goodIn_app (goodIn_of _ (by decide +kernel)) ggL_share_X6_share
set_option maxRecDepth 20000 in
theorem ggL_law_X6_init : GoodIn wsL_law wsX6_init := goodIn_r _ [10, 11, 12, 13, 14, 15, 16, 17, 18, 19, 20, 21, 22, 23, 24, 25, 26, 27, 28, 29, 30, 31, 32, 33, 34, 35, 36, 37, 38, 39, 40, 41, 42, 43, 44, 45, 46, 47, 48, 49, 50, 51, 52, 53, 54, 55, 56, 57, 58, 59, 60, 61, 62, 63, 64, 65, 66, 67, 68, 69, 70, 71, 72, 73, 74, 75, 76, 77, 78, 79, 80, 81, 82, 83, 84, 85, 86, 87, 88, 89, 90, 91, 92, 93, 94, 95, 703, 704, 667, 668, 669, 670, 671, 672, 673, 674, 675, 676, 677, 705, 706, 707, 708, 709, 710, 711, 712, 713, 714, 715, 716, 717, 718, 719, 720, 721, 722, 723, 724, 725, 726, 727, 728, 729, 730] (by decide +kernel) (by decide +kernel)
set_option maxRecDepth 20000 in
theorem gL_law_X6_init : GoodIn wsL_law (wsX6_init) := ggL_law_X6_init
set_option maxRecDepth 20000 in
theorem ggL_law_X7_init : GoodIn wsL_law wsX7_init := goodIn_r _ [98, 99, 12, 13, 71, 100, 101, 102, 103, 104, 105, 106, 107, 82, 108, 109, 110, 111, 112, 113, 114, 115, 678, 679, 680, 681, 682, 683, 684, 685, 686, 687, 688, 689, 690, 691, 692, 693, 694, 695, 696, 697, 698, 699, 700, 701, 702] (by decide +kernel) (by decide +kernel)
set_option maxRecDepth 20000 in
theorem gL_law_X7_init : GoodIn wsL_law (wsX7_init) := ggL_law_X7_init
set_option maxRecDepth 20000 in
theorem ggL_law_X6_feed : GoodIn wsL_law wsX6_feed := goodIn_ca (goodIn_ca (goodIn_r _ [119, 17, 120, 121, 122, 16, 123, 51, 124, 125, 126, 127, 128, 129, 130, 131, 132, 667, 668, 669, 670, 671, 672, 673, 674, 675, 676, 677, 703, 704] (by decide +kernel) (by decide +kernel)) (goodIn_sub (fun _ h => List.mem_append_left _ (List.mem_append_left _ (List.mem_append_left _ (List.mem_append_right _ h)))) (by decide +kernel))) (goodIn_sub (fun _ h => List.mem_append_left _ (List.mem_append_left _ (List.mem_append_right _ h))) (by decide +kernel))
set_option maxRecDepth 20000 in
theorem gL_law_X6_feed : GoodIn wsL_law (wsV RL 35 RX6 yX6_feed wsX6_feed) := goodIn_app (goodIn_of _ (by decide +kernel)) ggL_law_X6_feed
set_option maxRecDepth 20000 in
theorem ggL_law_X7_feed : GoodIn wsL_law wsX7_feed := goodIn_ca (goodIn_ca (goodIn_r _ [136, 137, 138, 115, 100, 139, 140, 5, 141, 678, 679, 680, 681, 682, 683, 684, 685, 686, 687, 688, 689, 690, 691, 692, 693, 694, 695, 696, 697, 698, 699, 700, 701, 702] (by decide +kernel) (by decide +kernel)) (goodIn_sub (fun _ h => List.mem_append_left _ (List.mem_append_left _ (List.mem_append_right _ h))) (by decide +kernel))) (goodIn_sub (fun _ h => List.mem_append_left _ (List.mem_append_left _ (List.mem_append_left _ (List.mem_append_right _ h)))) (by decide +kernel))
set_option maxRecDepth 20000 in
theorem gL_law_X7_feed : GoodIn wsL_law (wsV RL 39 RX7 yX7_feed wsX7_feed) := goodIn_app (goodIn_of _ (by decide +kernel)) ggL_law_X7_feed
set_option maxRecDepth 20000 in
theorem ggL_law_X6_sample : GoodIn wsL_law wsX6_sample := goodIn_ca (goodIn_ca (goodIn_r _ [145, 17, 146, 18, 129, 130, 131, 16, 132, 124, 147, 148, 149, 150, 151, 152, 153, 154, 155, 156, 157, 158, 159, 160, 161, 162, 51, 163, 164, 165, 166, 167, 126, 127, 128, 168, 667, 668, 669, 670, 671, 672, 673, 674, 675, 676, 677, 703, 704] (by decide +kernel) (by decide +kernel)) (goodIn_sub (fun _ h => List.mem_append_left _ (List.mem_append_left _ (List.mem_append_left _ (List.mem_append_right _ h)))) (by decide +kernel))) (goodIn_sub (fun _ h => List.mem_append_left _ (List.mem_append_left _ (List.mem_append_right _ h))) (by decide +kernel))
set_option maxRecDepth 20000 in
theorem gL_law_X6_sample : GoodIn wsL_law (wsV RL 40 RX6 yX6_sample wsX6_sample) := goodIn_app (goodIn_of _ (by decide +kernel)) ggL_law_X6_sample
set_option maxRecDepth 20000 in
theorem ggL_law_X7_sample : GoodIn wsL_law wsX7_sample := goodIn_ca (goodIn_ca (goodIn_r _ [172, 137, 115, 173, 174, 102, 100, 101, 139, 140, 5, 141, 678, 679, 680, 681, 682, 683, 684, 685, 686, 687, 688, 689, 690, 691, 692, 693, 694, 695, 696, 697, 698, 699, 700, 701, 702] (by decide +kernel) (by decide +kernel)) (goodIn_sub (fun _ h => List.mem_append_left _ (List.mem_append_left _ (List.mem_append_right _ h))) (by decide +kernel))) (goodIn_sub (fun _ h => List.mem_append_left _ (List.mem_append_left _ (List.mem_append_left _ (List.mem_append_right _ h)))) (by decide +kernel))
set_option maxRecDepth 20000 in
theorem gL_law_X7_sample : GoodIn wsL_law (wsV RL 44 RX7 yX7_sample wsX7_sample) := goodIn_app (goodIn_of _ (by decide +kernel)) ggL_law_X7_sample
set_option maxRecDepth 20000 in
theorem ggL_law_X6_forget : GoodIn wsL_law wsX6_forget := goodIn_r _ [178, 146, 667, 668, 669, 670, 671, 672, 673, 674, 675, 676, 677] (by decide +kernel) (by decide +kernel)
set_option maxRecDepth 20000 in
theorem gL_law_X6_forget : GoodIn wsL_law (wsV RL 45 RX6 yX6_forget wsX6_forget) := goodIn_app (goodIn_of _ (by decide +kernel)) ggL_law_X6_forget
set_option maxRecDepth 20000 in
theorem ggL_law_X7_forget : GoodIn wsL_law wsX7_forget := goodIn_r _ [182, 137, 174, 678, 679, 680, 681, 682, 683, 684, 685, 686, 687, 688, 689, 690, 691, 692, 693, 694, 695, 696, 697, 698, 699, 700, 701, 702] (by decide +kernel) (by decide +kernel)
set_option maxRecDepth 20000 in
theorem gL_law_X7_forget : GoodIn wsL_law (wsV RL 48 RX7 yX7_forget wsX7_forget) := goodIn_app (goodIn_of _ (by decide +kernel)) ggL_law_X7_forget
set_option maxRecDepth 20000 in
theorem ggL_law_X6_train : GoodIn wsL_law wsX6_train := goodIn_ca (goodIn_ca (goodIn_r _ [186, 146, 37, 18, 20, 187, 188, 2, 189, 190, 191, 192, 193, 194, 195, 36, 196, 197, 198, 81, 84, 199, 152, 153, 16, 154, 124, 200, 201, 202, 203, 83, 204, 205, 206, 207, 208, 156, 157, 158, 159, 160, 161, 162, 51, 163, 164, 165, 166, 167, 126, 127, 128, 209, 130, 131, 132, 210, 211, 212, 213, 214, 215, 216, 217, 218, 219, 220, 221, 222, 223, 224, 225, 226, 85, 87, 227, 228, 229, 230, 86, 231, 232, 233, 234, 235, 236, 237, 238, 239, 240, 241, 242, 243, 244, 245, 22, 246, 247, 248, 249, 57, 250, 251, 252, 253, 254, 255, 256, 257, 258, 259, 121, 122, 123, 260, 261, 262, 263, 264, 667, 668, 669, 670, 671, 672, 673, 674, 675, 676, 677, 719, 720, 721, 722, 723, 724, 725, 726, 703, 704, 705, 706, 707, 708] (by decide +kernel) (by decide +kernel)) (goodIn_sub (fun _ h => List.mem_append_left _ (List.mem_append_left _ (List.mem_append_left _ (List.mem_append_right _ h)))) (by decide +kernel))) (goodIn_sub (fun _ h => List.mem_append_left _ (List.mem_append_left _ (List.mem_append_right _ h))) (by decide +kernel))
set_option maxRecDepth 20000 in
theorem gL_law_X6_train : GoodIn wsL_law (wsV RL 49 RX6 yX6_train wsX6_train) := goodIn_app (goodIn_of _ (by decide +kernel)) ggL_law_X6_train
set_option maxRecDepth 20000 in
theorem ggL_law_X7_train : GoodIn wsL_law wsX7_train := goodIn_ca (goodIn_ca (goodIn_r _ [268, 137, 269, 270, 271, 138, 272, 174, 108, 273, 101, 109, 102, 103, 104, 106, 105, 107, 139, 140, 5, 141, 274, 275, 276, 277, 278, 279, 280, 281, 282, 283, 284, 285, 678, 679, 680, 681, 682, 683, 684, 685, 686, 687, 688, 689, 690, 691, 692, 693, 694, 695, 696, 697, 698, 699, 700, 701, 702] (by decide +kernel) (by decide +kernel)) (goodIn_sub (fun _ h => List.mem_append_left _ (List.mem_append_left _ (List.mem_append_right _ h))) (by decide +kernel))) (goodIn_sub (fun _ h => List.mem_append_left _ (List.mem_append_left _ (List.mem_append_left _ (List.mem_append_right _ h)))) (by decide +kernel))
set_option maxRecDepth 20000 in
theorem gL_law_X7_train : GoodIn wsL_law (wsV RL 53 RX7 yX7_train wsX7_train) := goodIn_app (goodIn_of _ (by decide +kernel)) ggL_law_X7_train
set_option maxRecDepth 20000 in
theorem ggL_law_X6_give : GoodIn wsL_law wsX6_give := goodIn_ca (goodIn_ca (goodIn_r _ [289, 17, 20, 187, 188, 2, 189, 190, 191, 192, 129, 130, 131, 16, 132, 124, 243, 244, 245, 22, 246, 247, 248, 249, 57, 250, 152, 153, 154, 290, 256, 257, 258, 259, 121, 122, 123, 51, 260, 156, 157, 158, 159, 160, 161, 162, 163, 164, 165, 166, 167, 126, 127, 128, 168, 291, 292, 293, 294, 667, 668, 669, 670, 671, 672, 673, 674, 675, 676, 677, 703, 704, 705, 706, 707, 708] (by decide +kernel) (by decide +kernel)) (goodIn_sub (fun _ h => List.mem_append_left _ (List.mem_append_left _ (List.mem_append_left _ (List.mem_append_right _ h)))) (by decide +kernel))) (goodIn_sub (fun _ h => List.mem_append_left _ (List.mem_append_left _ (List.mem_append_right _ h))) (by decide +kernel))
