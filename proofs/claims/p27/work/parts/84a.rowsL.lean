set_option maxRecDepth 20000 in
theorem ggL_law_X4_init : GoodIn wsL_law wsX4_init := goodIn_r _ [5, 6, 7, 8, 9, 10, 11, 12, 13, 14, 15, 16, 17, 18, 19, 20, 21, 22, 23, 24, 25, 26, 27, 28, 29, 30, 31, 32, 33, 34, 35, 36, 37, 38, 39, 40, 41, 42, 43, 44, 45, 410, 411, 412, 413, 414, 407, 408, 409, 415, 416, 417, 418, 419, 420, 421, 422, 423, 424, 425, 426, 427, 428, 429, 430, 431, 432, 433, 434] (by decide +kernel) (by decide +kernel)
set_option maxRecDepth 20000 in
theorem gL_law_X4_init : GoodIn wsL_law (wsX4_init) := ggL_law_X4_init
set_option maxRecDepth 20000 in
theorem ggL_law_L_cell : GoodIn wsL_law wsL_cell := goodIn_r _ [49, 50] (by decide +kernel) (by decide +kernel)
set_option maxRecDepth 20000 in
theorem gL_law_L_cell : GoodIn wsL_law (va_wsS RL 12 yL_cell wsL_cell) := goodIn_app (goodIn_of _ (by decide +kernel)) ggL_law_L_cell
set_option maxRecDepth 20000 in
theorem ggL_law_L_below : GoodIn wsL_law wsL_below := goodIn_r _ [53, 54] (by decide +kernel) (by decide +kernel)
set_option maxRecDepth 20000 in
theorem gL_law_L_below : GoodIn wsL_law (va_wsS RL 18 yL_below wsL_below) := goodIn_app (goodIn_of _ (by decide +kernel)) ggL_law_L_below
set_option maxRecDepth 20000 in
theorem ggL_law_X4_kind : GoodIn wsL_law wsX4_kind := goodIn_ca (goodIn_ca (goodIn_r _ [58, 59, 60, 61, 62, 12, 63, 64, 2, 65, 66, 67, 68, 69, 70, 71, 11, 72, 73, 25, 74, 75, 76, 77, 78, 79, 80, 30, 81, 82, 83, 84, 407, 408, 409, 410, 411, 412, 413, 414, 427, 428, 429, 430, 431, 432, 433, 434] (by decide +kernel) (by decide +kernel)) (goodIn_sub (fun _ h => List.mem_append_left _ (List.mem_append_left _ (List.mem_append_right _ h))) (by decide +kernel))) (goodIn_sub (fun _ h => List.mem_append_left _ (List.mem_append_right _ h)) (by decide +kernel))
set_option maxRecDepth 20000 in
theorem gL_law_X4_kind : GoodIn wsL_law (wsV RL 22 RX4 yX4_kind wsX4_kind) := goodIn_app (goodIn_of _ (by decide +kernel)) ggL_law_X4_kind
set_option maxRecDepth 20000 in
theorem ggL_law_X4_let : GoodIn wsL_law wsX4_let := goodIn_ca (goodIn_ca (goodIn_r _ [88, 59, 60, 89, 90, 91, 2, 92, 93, 94, 12, 95, 75, 76, 11, 77, 73, 25, 427, 428, 429, 430, 431, 432, 433, 434, 407, 408, 409, 410, 411, 412, 413, 414] (by decide +kernel) (by decide +kernel)) (goodIn_sub (fun _ h => List.mem_append_left _ (List.mem_append_left _ (List.mem_append_right _ h))) (by decide +kernel))) (goodIn_sub (fun _ h => List.mem_append_right _ h) (by decide +kernel))
set_option maxRecDepth 20000 in
theorem gL_law_X4_let : GoodIn wsL_law (wsV RL 26 RX4 yX4_let wsX4_let) := goodIn_app (goodIn_of _ (by decide +kernel)) ggL_law_X4_let
set_option maxRecDepth 20000 in
theorem ggL_law_X4_many : GoodIn wsL_law wsX4_many := goodIn_ca (goodIn_r _ [99, 59, 60, 12, 100, 101, 102, 11, 103, 104, 105, 106, 107, 108, 23, 109, 110, 111, 112, 73, 74, 75, 76, 77, 25, 113, 114, 115, 116, 117, 118, 119, 120, 121, 122, 123, 124, 125, 126, 127, 28, 128, 129, 130, 131, 132, 133, 134, 135, 136, 137, 138, 139, 407, 408, 409, 410, 411, 412, 413, 414, 420, 421, 422, 423, 424, 425, 426, 427, 428, 429, 430, 431, 432, 433, 434] (by decide +kernel) (by decide +kernel)) (goodIn_sub (fun _ h => List.mem_append_left _ (List.mem_append_left _ (List.mem_append_right _ h))) (by decide +kernel))
set_option maxRecDepth 20000 in
theorem gL_law_X4_many : GoodIn wsL_law (wsV RL 29 RX4 yX4_many wsX4_many) := goodIn_app (goodIn_of _ (by decide +kernel)) ggL_law_X4_many
set_option maxRecDepth 20000 in
theorem ggL_law_X4_slab : GoodIn wsL_law wsX4_slab := goodIn_ca (goodIn_ca (goodIn_r _ [143, 61, 62, 12, 144, 145, 2, 146, 59, 60, 63, 64, 65, 147, 148, 149, 11, 150, 104, 23, 105, 106, 107, 108, 151, 152, 153, 28, 154, 129, 130, 155, 156, 157, 158, 407, 408, 409, 410, 411, 412, 413, 414, 420, 421, 422, 423, 424, 425, 426] (by decide +kernel) (by decide +kernel)) (goodIn_sub (fun _ h => List.mem_append_left _ (List.mem_append_right _ h)) (by decide +kernel))) (goodIn_sub (fun _ h => List.mem_append_left _ (List.mem_append_left _ (List.mem_append_right _ h))) (by decide +kernel))
set_option maxRecDepth 20000 in
theorem gL_law_X4_slab : GoodIn wsL_law (wsV RL 33 RX4 yX4_slab wsX4_slab) := goodIn_app (goodIn_of _ (by decide +kernel)) ggL_law_X4_slab
set_option maxRecDepth 20000 in
theorem ggL_law_X4_ofSlab : GoodIn wsL_law wsX4_ofSlab := goodIn_ca (goodIn_ca (goodIn_r _ [162, 59, 60, 163, 164, 165, 2, 166, 93, 94, 12, 167, 106, 107, 11, 108, 104, 23, 420, 421, 422, 423, 424, 425, 426, 407, 408, 409, 410, 411, 412, 413, 414] (by decide +kernel) (by decide +kernel)) (goodIn_sub (fun _ h => List.mem_append_left _ (List.mem_append_left _ (List.mem_append_right _ h))) (by decide +kernel))) (goodIn_sub (fun _ h => List.mem_append_right _ h) (by decide +kernel))
set_option maxRecDepth 20000 in
theorem gL_law_X4_ofSlab : GoodIn wsL_law (wsV RL 36 RX4 yX4_ofSlab wsX4_ofSlab) := goodIn_app (goodIn_of _ (by decide +kernel)) ggL_law_X4_ofSlab
