theorem wsL_law_x0 : ∀ w ∈ (vx_atN 8).filter goodWord, w ∈ lw_tbl := by decide +kernel
theorem wsL_law_x1 : ∀ w ∈ (vx_atM "java/lang/ArrayIndexOutOfBoundsException" ["java/lang/IndexOutOfBoundsException", "java/lang/RuntimeException", "java/lang/Exception"]).filter goodWord, w ∈ lw_tbl := by decide +kernel
theorem wsL_law_x2 : ∀ w ∈ (vx_atS RX6 208 "java/lang/ArithmeticException" ["java/lang/RuntimeException", "java/lang/Exception"]).filter goodWord, w ∈ lw_tbl := by decide +kernel
theorem wsL_law_x3 : ∀ w ∈ (vx_atM "java/lang/ArithmeticException" ["java/lang/RuntimeException", "java/lang/Exception"]).filter goodWord, w ∈ lw_tbl := by decide +kernel
theorem inlX0 : ∀ w ∈ wsX00, w ∈ wsL_law := fun _ h => List.mem_append_left _ (List.mem_append_left _ (List.mem_append_left _ (List.mem_append_left _ (List.mem_append_left _ (List.mem_append_left _ (List.mem_append_left _ (List.mem_append_left _ (List.mem_append_left _ (List.mem_append_left _ (List.mem_append_left _ (List.mem_append_right _ h)))))))))))
theorem inlX1 : ∀ w ∈ wsX10, w ∈ wsL_law := fun _ h => List.mem_append_left _ (List.mem_append_left _ (List.mem_append_left _ (List.mem_append_left _ (List.mem_append_left _ (List.mem_append_left _ (List.mem_append_left _ (List.mem_append_right _ h)))))))
theorem inlX2 : ∀ w ∈ wsX20, w ∈ wsL_law := fun _ h => List.mem_append_left _ (List.mem_append_left _ (List.mem_append_left _ (List.mem_append_left _ (List.mem_append_left _ (List.mem_append_left _ (List.mem_append_left _ (List.mem_append_left _ (List.mem_append_left _ (List.mem_append_left _ (List.mem_append_right _ h))))))))))
theorem inlX3 : ∀ w ∈ wsX30, w ∈ wsL_law := fun _ h => List.mem_append_left _ (List.mem_append_left _ (List.mem_append_left _ (List.mem_append_left _ (List.mem_append_left _ (List.mem_append_left _ (List.mem_append_left _ (List.mem_append_left _ (List.mem_append_left _ (List.mem_append_right _ h)))))))))
theorem inlX4 : ∀ w ∈ wsX40, w ∈ wsL_law := fun _ h => List.mem_append_left _ (List.mem_append_left _ (List.mem_append_left _ (List.mem_append_left _ (List.mem_append_left _ (List.mem_append_left _ (List.mem_append_left _ (List.mem_append_left _ (List.mem_append_left _ (List.mem_append_left _ (List.mem_append_left _ (List.mem_append_left _ (List.mem_append_right _ h))))))))))))
theorem inlX5 : ∀ w ∈ wsX50, w ∈ wsL_law := fun _ h => List.mem_append_left _ (List.mem_append_left _ (List.mem_append_left _ (List.mem_append_left _ (List.mem_append_left _ (List.mem_append_left _ (List.mem_append_left _ (List.mem_append_left _ (List.mem_append_right _ h))))))))
theorem inlX6 : ∀ w ∈ wsX60, w ∈ wsL_law := fun _ h => List.mem_append_left _ (List.mem_append_left _ (List.mem_append_left _ (List.mem_append_left _ (List.mem_append_left _ (List.mem_append_left _ (List.mem_append_left _ (List.mem_append_left _ (List.mem_append_left _ (List.mem_append_left _ (List.mem_append_left _ (List.mem_append_left _ (List.mem_append_left _ (List.mem_append_left _ (List.mem_append_right _ h))))))))))))))
theorem inlX7 : ∀ w ∈ wsX70, w ∈ wsL_law := fun _ h => List.mem_append_left _ (List.mem_append_left _ (List.mem_append_left _ (List.mem_append_left _ (List.mem_append_left _ (List.mem_append_left _ (List.mem_append_left _ (List.mem_append_left _ (List.mem_append_left _ (List.mem_append_left _ (List.mem_append_left _ (List.mem_append_left _ (List.mem_append_left _ (List.mem_append_right _ h)))))))))))))
theorem inlJx00060 : ∀ w ∈ wsJx000600, w ∈ wsL_law := fun _ h => List.mem_append_left _ (List.mem_append_left _ (List.mem_append_left _ (List.mem_append_left _ (List.mem_append_left _ (List.mem_append_left _ (List.mem_append_right _ h))))))
theorem inJ9 : ∀ w ∈ wsJ90, w ∈ lw_tbl := by decide +kernel
theorem inlJx5d777 : ∀ w ∈ wsJx5d7770, w ∈ wsL_law := fun _ h => List.mem_append_left _ (List.mem_append_left _ (List.mem_append_left _ (List.mem_append_left _ (List.mem_append_left _ (List.mem_append_right _ h)))))
theorem inJ0 : ∀ w ∈ wsJ00, w ∈ lw_tbl := by decide +kernel
theorem inJ7 : ∀ w ∈ wsJ70, w ∈ lw_tbl := by decide +kernel
set_option maxRecDepth 20000 in
theorem ggX0_init_X4_init : GoodIn wsX0_init wsX4_init := goodIn_r _ [10, 11, 2, 3, 12, 13, 14, 15, 16, 17, 18, 19] (by decide +kernel) (by decide +kernel)
set_option maxRecDepth 20000 in
theorem gX0_init_X4_init : GoodIn wsX0_init (wsX4_init) := ggX0_init_X4_init
set_option maxRecDepth 20000 in
theorem ggX0_sum_X4_sum : GoodIn wsX0_sum wsX4_sum := goodIn_ca (goodIn_ca (goodIn_r _ [7, 8, 9, 10, 11, 6, 12, 13, 14, 15, 16, 17, 18, 19, 20, 21, 26, 27] (by decide +kernel) (by decide +kernel)) (goodIn_sub (fun _ h => List.mem_cons_of_mem _ (List.mem_append_left _ (List.mem_append_right _ h))) (by decide +kernel))) (goodIn_sub (fun _ h => List.mem_cons_of_mem _ (List.mem_append_right _ h)) (by decide +kernel))
set_option maxRecDepth 20000 in
theorem gX0_sum_X4_sum : GoodIn wsX0_sum (wsV RX0 30 RX4 yX4_sum wsX4_sum) := goodIn_app (goodIn_of _ (by decide +kernel)) ggX0_sum_X4_sum
set_option maxRecDepth 20000 in
theorem ggX0_begin_X4_clear : GoodIn wsX0_begin wsX4_clear := goodIn_r _ [9, 10, 15, 16] (by decide +kernel) (by decide +kernel)
set_option maxRecDepth 20000 in
theorem gX0_begin_X4_clear : GoodIn wsX0_begin (wsV RX0 34 RX4 yX4_clear wsX4_clear) := goodIn_app (goodIn_of _ (by decide +kernel)) ggX0_begin_X4_clear
set_option maxRecDepth 20000 in
theorem ggX0_addPiece_X4_hasRoom : GoodIn wsX0_addPiece wsX4_hasRoom := goodIn_ca (goodIn_r _ [8, 9, 10, 31, 32] (by decide +kernel) (by decide +kernel)) (goodIn_sub (fun _ h => List.mem_cons_of_mem _ (List.mem_append_left _ (List.mem_append_right _ h))) (by decide +kernel))
set_option maxRecDepth 20000 in
theorem gX0_addPiece_X4_hasRoom : GoodIn wsX0_addPiece (wsV RX0 37 RX4 yX4_hasRoom wsX4_hasRoom) := goodIn_app (goodIn_of _ (by decide +kernel)) ggX0_addPiece_X4_hasRoom
set_option maxRecDepth 20000 in
theorem ggX0_addPiece_X4_addFrom : GoodIn wsX0_addPiece wsX4_addFrom := goodIn_ca (goodIn_ca (goodIn_r _ [14, 15, 16, 17, 7, 18, 9, 19, 20, 21, 22, 10, 23, 24, 25, 26, 31, 32] (by decide +kernel) (by decide +kernel)) (goodIn_sub (fun _ h => List.mem_cons_of_mem _ (List.mem_append_left _ (List.mem_append_right _ h))) (by decide +kernel))) (goodIn_sub (fun _ h => List.mem_cons_of_mem _ (List.mem_append_right _ h)) (by decide +kernel))
set_option maxRecDepth 20000 in
theorem gX0_addPiece_X4_addFrom : GoodIn wsX0_addPiece (wsV RX0 41 RX4 yX4_addFrom wsX4_addFrom) := goodIn_app (goodIn_of _ (by decide +kernel)) ggX0_addPiece_X4_addFrom
set_option maxRecDepth 20000 in
theorem ggX0_copyWithout_X4_become : GoodIn wsX0_copyWithout wsX4_become := goodIn_ca (goodIn_ca (goodIn_r _ [7, 8, 9, 10, 11, 6, 12, 13, 14, 15, 16, 17, 18, 19, 20, 21, 22, 23, 24, 25, 26, 27, 28, 29, 38, 39] (by decide +kernel) (by decide +kernel)) (goodIn_sub (fun _ h => List.mem_cons_of_mem _ (List.mem_append_left _ (List.mem_append_right _ h))) (by decide +kernel))) (goodIn_sub (fun _ h => List.mem_cons_of_mem _ (List.mem_append_right _ h)) (by decide +kernel))
set_option maxRecDepth 20000 in
theorem gX0_copyWithout_X4_become : GoodIn wsX0_copyWithout (wsV RX0 45 RX4 yX4_become wsX4_become) := goodIn_app (goodIn_of _ (by decide +kernel)) ggX0_copyWithout_X4_become
set_option maxRecDepth 20000 in
theorem ggX0_copyWithout_X4_cutOut : GoodIn wsX0_copyWithout wsX4_cutOut := goodIn_ca (goodIn_ca (goodIn_r _ [33, 8, 21, 26, 27, 28, 6, 29, 38, 39] (by decide +kernel) (by decide +kernel)) (goodIn_sub (fun _ h => List.mem_cons_of_mem _ (List.mem_append_right _ h)) (by decide +kernel))) (goodIn_sub (fun _ h => List.mem_cons_of_mem _ (List.mem_append_left _ (List.mem_append_right _ h))) (by decide +kernel))
set_option maxRecDepth 20000 in
theorem gX0_copyWithout_X4_cutOut : GoodIn wsX0_copyWithout (wsV RX0 49 RX4 yX4_cutOut wsX4_cutOut) := goodIn_app (goodIn_of _ (by decide +kernel)) ggX0_copyWithout_X4_cutOut
set_option maxRecDepth 20000 in
theorem ggX0_removePiece_X4_cutOut : GoodIn wsX0_removePiece wsX4_cutOut := goodIn_ca (goodIn_ca (goodIn_r _ [8, 9, 10, 11, 12, 13, 7, 14, 19, 20] (by decide +kernel) (by decide +kernel)) (goodIn_sub (fun _ h => List.mem_cons_of_mem _ (List.mem_append_right _ h)) (by decide +kernel))) (goodIn_sub (fun _ h => List.mem_cons_of_mem _ (List.mem_append_left _ (List.mem_append_right _ h))) (by decide +kernel))
set_option maxRecDepth 20000 in
theorem gX0_removePiece_X4_cutOut : GoodIn wsX0_removePiece (wsV RX0 49 RX4 yX4_cutOut wsX4_cutOut) := goodIn_app (goodIn_of _ (by decide +kernel)) ggX0_removePiece_X4_cutOut
set_option maxRecDepth 20000 in
theorem ggX1_init_X4_init : GoodIn wsX1_init wsX4_init := goodIn_r _ [10, 11, 2, 3, 12, 13, 14, 15, 16, 17, 18, 19] (by decide +kernel) (by decide +kernel)
set_option maxRecDepth 20000 in
theorem gX1_init_X4_init : GoodIn wsX1_init (wsX4_init) := ggX1_init_X4_init
set_option maxRecDepth 20000 in
theorem ggX1_decode_X4_length : GoodIn wsX1_decode wsX4_length := goodIn_r _ [9, 10, 79, 80] (by decide +kernel) (by decide +kernel)
set_option maxRecDepth 20000 in
theorem gX1_decode_X4_length : GoodIn wsX1_decode (wsV RX1 20 RX4 yX4_length wsX4_length) := goodIn_app (goodIn_of _ (by decide +kernel)) ggX1_decode_X4_length
set_option maxRecDepth 20000 in
theorem ggX1_decode_X1_wrongInHeader : GoodIn wsX1_decode wsX1_wrongInHeader := goodIn_ca (goodIn_ca (goodIn_r _ [15, 5, 6, 7, 8, 9, 10, 16, 17, 18, 19, 20, 21, 22, 23, 24, 25, 26, 27, 28, 29, 30, 31, 32, 33, 34, 35, 36, 37, 38, 39, 40, 79, 80, 81, 82, 83, 84] (by decide +kernel) (by decide +kernel)) (goodIn_sub (fun _ h => List.mem_cons_of_mem _ (List.mem_append_left _ (List.mem_append_right _ h))) (by decide +kernel))) (goodIn_sub (fun _ h => List.mem_cons_of_mem _ (List.mem_append_right _ h)) (by decide +kernel))
set_option maxRecDepth 20000 in
theorem gX1_decode_X1_wrongInHeader : GoodIn wsX1_decode (wsV RX1 24 RX1 yX1_wrongInHeader wsX1_wrongInHeader) := goodIn_app (goodIn_of _ (by decide +kernel)) ggX1_decode_X1_wrongInHeader
set_option maxRecDepth 20000 in
theorem ggX1_decode_X0_words : GoodIn wsX1_decode wsX0_words := goodIn_r _ [44, 35, 81, 82, 83, 84] (by decide +kernel) (by decide +kernel)
set_option maxRecDepth 20000 in
theorem gX1_decode_X0_words : GoodIn wsX1_decode (wsV RX1 28 RX0 yX0_words wsX0_words) := goodIn_app (goodIn_of _ (by decide +kernel)) ggX1_decode_X0_words
set_option maxRecDepth 20000 in
theorem ggX1_decode_X4_become : GoodIn wsX1_decode wsX4_become := goodIn_ca (goodIn_ca (goodIn_r _ [48, 10, 49, 50, 51, 8, 52, 53, 54, 55, 56, 20, 21, 22, 23, 24, 25, 26, 27, 28, 57, 58, 59, 60, 79, 80] (by decide +kernel) (by decide +kernel)) (goodIn_sub (fun _ h => List.mem_cons_of_mem _ (List.mem_append_left _ (List.mem_append_right _ h))) (by decide +kernel))) (goodIn_sub (fun _ h => List.mem_cons_of_mem _ (List.mem_append_right _ h)) (by decide +kernel))
set_option maxRecDepth 20000 in
theorem gX1_decode_X4_become : GoodIn wsX1_decode (wsV RX1 34 RX4 yX4_become wsX4_become) := goodIn_app (goodIn_of _ (by decide +kernel)) ggX1_decode_X4_become
set_option maxRecDepth 20000 in
theorem ggX1_decode_X4_at : GoodIn wsX1_decode wsX4_at := goodIn_ca (goodIn_ca (goodIn_r _ [19, 20, 21, 22, 8, 23, 24, 25, 26, 27, 28, 10, 79, 80] (by decide +kernel) (by decide +kernel)) (goodIn_sub (fun _ h => List.mem_cons_of_mem _ (List.mem_append_left _ (List.mem_append_right _ h))) (by decide +kernel))) (goodIn_sub (fun _ h => List.mem_cons_of_mem _ (List.mem_append_right _ h)) (by decide +kernel))
set_option maxRecDepth 20000 in
theorem gX1_decode_X4_at : GoodIn wsX1_decode (wsV RX1 42 RX4 yX4_at wsX4_at) := goodIn_app (goodIn_of _ (by decide +kernel)) ggX1_decode_X4_at
set_option maxRecDepth 20000 in
theorem ggX1_decode_X1_readItem : GoodIn wsX1_decode wsX1_readItem := goodIn_ca (goodIn_ca (goodIn_r _ [64, 4, 3, 5, 6, 7, 8, 9, 10, 16, 17, 18, 19, 20, 21, 22, 23, 24, 25, 26, 27, 28, 65, 66, 67, 14, 68, 1, 69, 54, 55, 56, 57, 58, 59, 60, 70, 71, 72, 73, 74, 75, 76, 77, 78, 79, 80] (by decide +kernel) (by decide +kernel)) (goodIn_sub (fun _ h => List.mem_cons_of_mem _ (List.mem_append_left _ (List.mem_append_right _ h))) (by decide +kernel))) (goodIn_sub (fun _ h => List.mem_cons_of_mem _ (List.mem_append_right _ h)) (by decide +kernel))
set_option maxRecDepth 20000 in
theorem gX1_decode_X1_readItem : GoodIn wsX1_decode (wsV RX1 52 RX1 yX1_readItem wsX1_readItem) := goodIn_app (goodIn_of _ (by decide +kernel)) ggX1_decode_X1_readItem
set_option maxRecDepth 20000 in
theorem ggX1_handOver_X4_clear : GoodIn wsX1_handOver wsX4_clear := goodIn_r _ [7, 8, 34, 35] (by decide +kernel) (by decide +kernel)
set_option maxRecDepth 20000 in
theorem gX1_handOver_X4_clear : GoodIn wsX1_handOver (wsV RX1 56 RX4 yX4_clear wsX4_clear) := goodIn_app (goodIn_of _ (by decide +kernel)) ggX1_handOver_X4_clear
set_option maxRecDepth 20000 in
theorem ggX1_handOver_X4_length : GoodIn wsX1_handOver wsX4_length := goodIn_r _ [12, 8, 34, 35] (by decide +kernel) (by decide +kernel)
set_option maxRecDepth 20000 in
theorem gX1_handOver_X4_length : GoodIn wsX1_handOver (wsV RX1 20 RX4 yX4_length wsX4_length) := goodIn_app (goodIn_of _ (by decide +kernel)) ggX1_handOver_X4_length
set_option maxRecDepth 20000 in
theorem ggX1_handOver_X4_addFrom : GoodIn wsX1_handOver wsX4_addFrom := goodIn_ca (goodIn_ca (goodIn_r _ [16, 17, 18, 19, 6, 20, 21, 22, 23, 24, 25, 8, 26, 27, 28, 29, 34, 35] (by decide +kernel) (by decide +kernel)) (goodIn_sub (fun _ h => List.mem_cons_of_mem _ (List.mem_append_left _ (List.mem_append_right _ h))) (by decide +kernel))) (goodIn_sub (fun _ h => List.mem_cons_of_mem _ (List.mem_append_right _ h)) (by decide +kernel))
set_option maxRecDepth 20000 in
theorem gX1_handOver_X4_addFrom : GoodIn wsX1_handOver (wsV RX1 59 RX4 yX4_addFrom wsX4_addFrom) := goodIn_app (goodIn_of _ (by decide +kernel)) ggX1_handOver_X4_addFrom
set_option maxRecDepth 20000 in
theorem ggX1_wrongInHeader_X4_length : GoodIn wsX1_wrongInHeader wsX4_length := goodIn_r _ [5, 6, 32, 33] (by decide +kernel) (by decide +kernel)
set_option maxRecDepth 20000 in
theorem gX1_wrongInHeader_X4_length : GoodIn wsX1_wrongInHeader (wsV RX1 20 RX4 yX4_length wsX4_length) := goodIn_app (goodIn_of _ (by decide +kernel)) ggX1_wrongInHeader_X4_length
set_option maxRecDepth 20000 in
theorem ggX1_wrongInHeader_X4_at : GoodIn wsX1_wrongInHeader wsX4_at := goodIn_ca (goodIn_ca (goodIn_r _ [10, 11, 12, 13, 4, 14, 15, 16, 17, 18, 19, 6, 32, 33] (by decide +kernel) (by decide +kernel)) (goodIn_sub (fun _ h => List.mem_cons_of_mem _ (List.mem_append_left _ (List.mem_append_right _ h))) (by decide +kernel))) (goodIn_sub (fun _ h => List.mem_cons_of_mem _ (List.mem_append_right _ h)) (by decide +kernel))
set_option maxRecDepth 20000 in
theorem gX1_wrongInHeader_X4_at : GoodIn wsX1_wrongInHeader (wsV RX1 42 RX4 yX4_at wsX4_at) := goodIn_app (goodIn_of _ (by decide +kernel)) ggX1_wrongInHeader_X4_at
set_option maxRecDepth 20000 in
theorem ggX1_wrongInHeader_X0_sum : GoodIn wsX1_wrongInHeader wsX0_sum := goodIn_ca (goodIn_ca (goodIn_r _ [24, 25, 26, 27, 28, 29, 4, 30, 6, 31, 8, 9, 10, 11, 12, 13, 14, 15, 16, 17, 18, 19, 34, 35, 36, 37, 32, 33] (by decide +kernel) (by decide +kernel)) (goodIn_sub (fun _ h => List.mem_cons_of_mem _ (List.mem_append_left _ (List.mem_append_right _ h))) (by decide +kernel))) (goodIn_sub (fun _ h => List.mem_cons_of_mem _ (List.mem_append_right _ h)) (by decide +kernel))
set_option maxRecDepth 20000 in
theorem gX1_wrongInHeader_X0_sum : GoodIn wsX1_wrongInHeader (wsV RX1 63 RX0 yX0_sum wsX0_sum) := goodIn_app (goodIn_of _ (by decide +kernel)) ggX1_wrongInHeader_X0_sum
set_option maxRecDepth 20000 in
theorem ggX1_readItem_X4_length : GoodIn wsX1_readItem wsX4_length := goodIn_r _ [7, 8, 45, 46] (by decide +kernel) (by decide +kernel)
set_option maxRecDepth 20000 in
theorem gX1_readItem_X4_length : GoodIn wsX1_readItem (wsV RX1 20 RX4 yX4_length wsX4_length) := goodIn_app (goodIn_of _ (by decide +kernel)) ggX1_readItem_X4_length
set_option maxRecDepth 20000 in
theorem ggX1_readItem_X4_at : GoodIn wsX1_readItem wsX4_at := goodIn_ca (goodIn_ca (goodIn_r _ [12, 13, 14, 15, 6, 16, 17, 18, 19, 20, 21, 8, 45, 46] (by decide +kernel) (by decide +kernel)) (goodIn_sub (fun _ h => List.mem_cons_of_mem _ (List.mem_append_left _ (List.mem_append_right _ h))) (by decide +kernel))) (goodIn_sub (fun _ h => List.mem_cons_of_mem _ (List.mem_append_right _ h)) (by decide +kernel))
set_option maxRecDepth 20000 in
theorem gX1_readItem_X4_at : GoodIn wsX1_readItem (wsV RX1 42 RX4 yX4_at wsX4_at) := goodIn_app (goodIn_of _ (by decide +kernel)) ggX1_readItem_X4_at
set_option maxRecDepth 20000 in
theorem ggX1_readItem_X1_readPlain : GoodIn wsX1_readItem wsX1_readPlain := goodIn_ca (goodIn_ca (goodIn_r _ [26, 1, 27, 3, 4, 5, 6, 7, 8, 28, 29, 30, 31, 13, 14, 15, 16, 17, 18, 19, 20, 21, 32, 33, 34, 35, 41, 42, 43, 44, 45, 46] (by decide +kernel) (by decide +kernel)) (goodIn_sub (fun _ h => List.mem_cons_of_mem _ (List.mem_append_left _ (List.mem_append_right _ h))) (by decide +kernel))) (goodIn_sub (fun _ h => List.mem_cons_of_mem _ (List.mem_append_right _ h)) (by decide +kernel))
set_option maxRecDepth 20000 in
theorem gX1_readItem_X1_readPlain : GoodIn wsX1_readItem (wsV RX1 66 RX1 yX1_readPlain wsX1_readPlain) := goodIn_app (goodIn_of _ (by decide +kernel)) ggX1_readItem_X1_readPlain
set_option maxRecDepth 20000 in
theorem ggX1_readItem_X1_readMatch : GoodIn wsX1_readItem wsX1_readMatch := goodIn_ca (goodIn_ca (goodIn_r _ [39, 1, 27, 3, 4, 5, 6, 7, 8, 9, 10, 11, 12, 13, 14, 15, 16, 17, 18, 19, 20, 21, 40, 33, 34, 35, 41, 42, 43, 44, 45, 46] (by decide +kernel) (by decide +kernel)) (goodIn_sub (fun _ h => List.mem_cons_of_mem _ (List.mem_append_left _ (List.mem_append_right _ h))) (by decide +kernel))) (goodIn_sub (fun _ h => List.mem_cons_of_mem _ (List.mem_append_right _ h)) (by decide +kernel))
set_option maxRecDepth 20000 in
theorem gX1_readItem_X1_readMatch : GoodIn wsX1_readItem (wsV RX1 70 RX1 yX1_readMatch wsX1_readMatch) := goodIn_app (goodIn_of _ (by decide +kernel)) ggX1_readItem_X1_readMatch
set_option maxRecDepth 20000 in
theorem ggX1_readPlain_X4_length : GoodIn wsX1_readPlain wsX4_length := goodIn_r _ [7, 8, 30, 31] (by decide +kernel) (by decide +kernel)
set_option maxRecDepth 20000 in
theorem gX1_readPlain_X4_length : GoodIn wsX1_readPlain (wsV RX1 20 RX4 yX4_length wsX4_length) := goodIn_app (goodIn_of _ (by decide +kernel)) ggX1_readPlain_X4_length
set_option maxRecDepth 20000 in
theorem ggX1_readPlain_X4_addFrom : GoodIn wsX1_readPlain wsX4_addFrom := goodIn_ca (goodIn_ca (goodIn_r _ [12, 13, 14, 15, 6, 16, 17, 18, 19, 20, 21, 8, 22, 23, 24, 25, 30, 31] (by decide +kernel) (by decide +kernel)) (goodIn_sub (fun _ h => List.mem_cons_of_mem _ (List.mem_append_left _ (List.mem_append_right _ h))) (by decide +kernel))) (goodIn_sub (fun _ h => List.mem_cons_of_mem _ (List.mem_append_right _ h)) (by decide +kernel))
set_option maxRecDepth 20000 in
theorem gX1_readPlain_X4_addFrom : GoodIn wsX1_readPlain (wsV RX1 59 RX4 yX4_addFrom wsX4_addFrom) := goodIn_app (goodIn_of _ (by decide +kernel)) ggX1_readPlain_X4_addFrom
set_option maxRecDepth 20000 in
theorem ggX1_readMatch_X4_length : GoodIn wsX1_readMatch wsX4_length := goodIn_r _ [7, 8, 30, 31] (by decide +kernel) (by decide +kernel)
set_option maxRecDepth 20000 in
theorem gX1_readMatch_X4_length : GoodIn wsX1_readMatch (wsV RX1 20 RX4 yX4_length wsX4_length) := goodIn_app (goodIn_of _ (by decide +kernel)) ggX1_readMatch_X4_length
set_option maxRecDepth 20000 in
theorem ggX1_readMatch_X4_at : GoodIn wsX1_readMatch wsX4_at := goodIn_ca (goodIn_ca (goodIn_r _ [12, 13, 14, 15, 6, 16, 17, 18, 19, 20, 21, 8, 30, 31] (by decide +kernel) (by decide +kernel)) (goodIn_sub (fun _ h => List.mem_cons_of_mem _ (List.mem_append_left _ (List.mem_append_right _ h))) (by decide +kernel))) (goodIn_sub (fun _ h => List.mem_cons_of_mem _ (List.mem_append_right _ h)) (by decide +kernel))
set_option maxRecDepth 20000 in
theorem gX1_readMatch_X4_at : GoodIn wsX1_readMatch (wsV RX1 42 RX4 yX4_at wsX4_at) := goodIn_app (goodIn_of _ (by decide +kernel)) ggX1_readMatch_X4_at
set_option maxRecDepth 20000 in
theorem ggX1_readMatch_X4_add : GoodIn wsX1_readMatch wsX4_add := goodIn_ca (goodIn_ca (goodIn_r _ [25, 8, 17, 30, 31] (by decide +kernel) (by decide +kernel)) (goodIn_sub (fun _ h => List.mem_cons_of_mem _ (List.mem_append_left _ (List.mem_append_right _ h))) (by decide +kernel))) (goodIn_sub (fun _ h => List.mem_cons_of_mem _ (List.mem_append_right _ h)) (by decide +kernel))
set_option maxRecDepth 20000 in
theorem gX1_readMatch_X4_add : GoodIn wsX1_readMatch (wsV RX1 74 RX4 yX4_add wsX4_add) := goodIn_app (goodIn_of _ (by decide +kernel)) ggX1_readMatch_X4_add
set_option maxRecDepth 20000 in
theorem ggX2_init_X4_init : GoodIn wsX2_init wsX4_init := goodIn_r _ [10, 11, 2, 3, 12, 13, 14, 15, 16, 17, 18, 19] (by decide +kernel) (by decide +kernel)
set_option maxRecDepth 20000 in
theorem gX2_init_X4_init : GoodIn wsX2_init (wsX4_init) := ggX2_init_X4_init
set_option maxRecDepth 20000 in
theorem ggX2_begin_X4_clear : GoodIn wsX2_begin wsX4_clear := goodIn_r _ [8, 9, 45, 46] (by decide +kernel) (by decide +kernel)
set_option maxRecDepth 20000 in
theorem gX2_begin_X4_clear : GoodIn wsX2_begin (wsV RX2 27 RX4 yX4_clear wsX4_clear) := goodIn_app (goodIn_of _ (by decide +kernel)) ggX2_begin_X4_clear
set_option maxRecDepth 20000 in
theorem ggX2_begin_X0_id : GoodIn wsX2_begin wsX0_id := goodIn_r _ [14, 15, 47, 48, 49, 50] (by decide +kernel) (by decide +kernel)
set_option maxRecDepth 20000 in
theorem gX2_begin_X0_id : GoodIn wsX2_begin (wsV RX2 30 RX0 yX0_id wsX0_id) := goodIn_app (goodIn_of _ (by decide +kernel)) ggX2_begin_X0_id
set_option maxRecDepth 20000 in
theorem ggX2_begin_X4_add : GoodIn wsX2_begin wsX4_add := goodIn_ca (goodIn_ca (goodIn_r _ [19, 9, 20, 45, 46] (by decide +kernel) (by decide +kernel)) (goodIn_sub (fun _ h => List.mem_cons_of_mem _ (List.mem_append_left _ (List.mem_append_right _ h))) (by decide +kernel))) (goodIn_sub (fun _ h => List.mem_cons_of_mem _ (List.mem_append_right _ h)) (by decide +kernel))
set_option maxRecDepth 20000 in
theorem gX2_begin_X4_add : GoodIn wsX2_begin (wsV RX2 36 RX4 yX4_add wsX4_add) := goodIn_app (goodIn_of _ (by decide +kernel)) ggX2_begin_X4_add
set_option maxRecDepth 20000 in
theorem ggX2_begin_X0_sum : GoodIn wsX2_begin wsX0_sum := goodIn_ca (goodIn_ca (goodIn_r _ [24, 15, 25, 26, 27, 28, 7, 29, 9, 30, 31, 32, 33, 34, 35, 36, 37, 20, 38, 39, 40, 41, 47, 48, 49, 50, 45, 46] (by decide +kernel) (by decide +kernel)) (goodIn_sub (fun _ h => List.mem_cons_of_mem _ (List.mem_append_left _ (List.mem_append_right _ h))) (by decide +kernel))) (goodIn_sub (fun _ h => List.mem_cons_of_mem _ (List.mem_append_right _ h)) (by decide +kernel))
set_option maxRecDepth 20000 in
theorem gX2_begin_X0_sum : GoodIn wsX2_begin (wsV RX2 39 RX0 yX0_sum wsX0_sum) := goodIn_app (goodIn_of _ (by decide +kernel)) ggX2_begin_X0_sum
set_option maxRecDepth 20000 in
theorem ggX2_addMatch_X4_add : GoodIn wsX2_addMatch wsX4_add := goodIn_ca (goodIn_ca (goodIn_r _ [8, 9, 10, 14, 15] (by decide +kernel) (by decide +kernel)) (goodIn_sub (fun _ h => List.mem_cons_of_mem _ (List.mem_append_left _ (List.mem_append_right _ h))) (by decide +kernel))) (goodIn_sub (fun _ h => List.mem_cons_of_mem _ (List.mem_append_right _ h)) (by decide +kernel))
set_option maxRecDepth 20000 in
theorem gX2_addMatch_X4_add : GoodIn wsX2_addMatch (wsV RX2 36 RX4 yX4_add wsX4_add) := goodIn_app (goodIn_of _ (by decide +kernel)) ggX2_addMatch_X4_add
set_option maxRecDepth 20000 in
theorem ggX2_addPlain_X4_add : GoodIn wsX2_addPlain wsX4_add := goodIn_ca (goodIn_ca (goodIn_r _ [7, 8, 9, 13, 14] (by decide +kernel) (by decide +kernel)) (goodIn_sub (fun _ h => List.mem_cons_of_mem _ (List.mem_append_left _ (List.mem_append_right _ h))) (by decide +kernel))) (goodIn_sub (fun _ h => List.mem_cons_of_mem _ (List.mem_append_right _ h)) (by decide +kernel))
set_option maxRecDepth 20000 in
theorem gX2_addPlain_X4_add : GoodIn wsX2_addPlain (wsV RX2 36 RX4 yX4_add wsX4_add) := goodIn_app (goodIn_of _ (by decide +kernel)) ggX2_addPlain_X4_add
set_option maxRecDepth 20000 in
theorem ggX3_measure_X4_copyTo : GoodIn wsX3_measure wsX4_copyTo := goodIn_ca (goodIn_ca (goodIn_r _ [14, 15, 16, 4, 5, 6, 17, 18, 19, 20, 57, 58] (by decide +kernel) (by decide +kernel)) (goodIn_sub (fun _ h => List.mem_cons_of_mem _ (List.mem_append_left _ (List.mem_append_right _ h))) (by decide +kernel))) (goodIn_sub (fun _ h => List.mem_cons_of_mem _ (List.mem_append_right _ h)) (by decide +kernel))
set_option maxRecDepth 20000 in
theorem gX3_measure_X4_copyTo : GoodIn wsX3_measure (wsV RX3 28 RX4 yX4_copyTo wsX4_copyTo) := goodIn_app (goodIn_of _ (by decide +kernel)) ggX3_measure_X4_copyTo
set_option maxRecDepth 20000 in
theorem ggX3_measure_X3_linkSameBytes : GoodIn wsX3_measure wsX3_linkSameBytes := goodIn_ca (goodIn_ca (goodIn_r _ [25, 26, 2, 7, 1, 27, 28, 29, 30, 31, 50, 51, 52, 53, 54, 55, 56] (by decide +kernel) (by decide +kernel)) (goodIn_sub (fun _ h => List.mem_cons_of_mem _ (List.mem_append_right _ h)) (by decide +kernel))) (goodIn_sub (fun _ h => List.mem_cons_of_mem _ (List.mem_append_left _ (List.mem_append_right _ h))) (by decide +kernel))
set_option maxRecDepth 20000 in
theorem gX3_measure_X3_linkSameBytes : GoodIn wsX3_measure (wsV RX3 47 RX3 yX3_linkSameBytes wsX3_linkSameBytes) := goodIn_app (goodIn_of _ (by decide +kernel)) ggX3_measure_X3_linkSameBytes
set_option maxRecDepth 20000 in
theorem ggX3_measure_X3_tryMatches : GoodIn wsX3_measure wsX3_tryMatches := goodIn_ca (goodIn_ca (goodIn_r _ [35, 8, 36, 37, 38, 39, 24, 40, 7, 3, 4, 5, 6, 27, 2, 1, 41, 18, 19, 42, 43, 44, 45, 50, 51, 52, 53, 54, 55, 56] (by decide +kernel) (by decide +kernel)) (goodIn_sub (fun _ h => List.mem_cons_of_mem _ (List.mem_append_left _ (List.mem_append_right _ h))) (by decide +kernel))) (goodIn_sub (fun _ h => List.mem_cons_of_mem _ (List.mem_append_right _ h)) (by decide +kernel))
set_option maxRecDepth 20000 in
theorem gX3_measure_X3_tryMatches : GoodIn wsX3_measure (wsV RX3 53 RX3 yX3_tryMatches wsX3_tryMatches) := goodIn_app (goodIn_of _ (by decide +kernel)) ggX3_measure_X3_tryMatches
set_option maxRecDepth 20000 in
theorem ggX3_measure_X3_tryPlain : GoodIn wsX3_measure wsX3_tryPlain := goodIn_ca (goodIn_ca (goodIn_r _ [49, 7, 3, 4, 5, 6, 8, 36, 50, 51, 52, 53, 54, 55, 56] (by decide +kernel) (by decide +kernel)) (goodIn_sub (fun _ h => List.mem_cons_of_mem _ (List.mem_append_right _ h)) (by decide +kernel))) (goodIn_sub (fun _ h => List.mem_cons_of_mem _ (List.mem_append_left _ (List.mem_append_right _ h))) (by decide +kernel))
