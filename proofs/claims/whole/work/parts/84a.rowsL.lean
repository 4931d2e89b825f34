set_option maxRecDepth 20000 in
theorem ggL_law_X4_init : GoodIn wsL_law wsX4_init := goodIn_r _ [9, 10, 11, 12, 13, 14, 15, 16, 17, 18, 19, 20, 21, 22, 23, 24, 25, 26, 27, 28, 29, 30, 31, 32, 33, 34, 35, 36, 37, 38, 39, 40, 41, 42, 43, 44, 45, 46, 47, 48, 49, 982, 983, 984, 985, 986, 977, 978, 979, 987, 988, 989, 990, 991, 992, 993, 994, 995, 996, 997, 998, 999, 1000, 1001, 1002, 1003, 1004, 1005, 1006] (by decide +kernel) (by decide +kernel)
set_option maxRecDepth 20000 in
theorem gL_law_X4_init : GoodIn wsL_law (wsX4_init) := ggL_law_X4_init
set_option maxRecDepth 20000 in
theorem ggL_law_X8_init : GoodIn wsL_law wsX8_init := goodIn_r _ [52, 53, 11, 12, 54, 55, 56, 57, 58, 59, 60, 61, 62, 63, 64, 65, 66, 67, 68, 69, 70, 71, 72, 73, 74, 75, 76, 77, 78, 79, 80, 81, 1007, 1008, 1009, 980, 981, 1010, 1011, 1012] (by decide +kernel) (by decide +kernel)
set_option maxRecDepth 20000 in
theorem gL_law_X8_init : GoodIn wsL_law (wsX8_init) := ggL_law_X8_init
set_option maxRecDepth 20000 in
theorem ggL_law_L_slab : GoodIn wsL_law wsL_slab := goodIn_ca (goodIn_ca (goodIn_r _ [85, 86, 87, 88, 89, 90, 2, 91, 92, 93, 16, 94, 95, 96, 97, 98, 99, 100, 101, 102, 103, 104, 15, 105, 106, 27, 107, 108, 109, 110, 111, 112, 113, 32, 114, 115, 116, 117, 118, 119, 120, 977, 978, 979, 982, 983, 984, 985, 986, 992, 993, 994, 995, 996, 997, 998] (by decide +kernel) (by decide +kernel)) (goodIn_sub (fun _ h => List.mem_append_left _ (List.mem_append_left _ (List.mem_append_right _ h))) (by decide +kernel))) (goodIn_sub (fun _ h => List.mem_append_left _ (List.mem_append_right _ h)) (by decide +kernel))
set_option maxRecDepth 20000 in
theorem gL_law_L_slab : GoodIn wsL_law (va_wsS RL 90 yL_slab wsL_slab) := goodIn_app (goodIn_of _ (by decide +kernel)) ggL_law_L_slab
set_option maxRecDepth 20000 in
theorem ggL_law_X8_slab : GoodIn wsL_law wsX8_slab := goodIn_r _ [124, 57, 125, 126, 127, 128, 129, 130, 5, 131, 132, 133, 134, 135, 136, 137, 138, 139, 140, 141, 142, 143, 144, 145, 146, 63, 147, 148, 149, 150, 151, 152, 11, 12, 153, 62, 154, 155, 156, 157, 158, 159, 160, 68, 69, 70, 71, 72, 73, 74, 75, 76, 77, 78, 79, 80, 81, 161, 162, 163, 164, 165, 166, 167, 168, 169, 170, 171, 172, 173, 174, 175, 176, 177, 178, 179, 180, 181, 182, 183, 184, 185, 186, 187, 188, 189, 190, 191, 192, 193, 194, 195, 196, 197, 198, 199, 200, 201, 202, 203, 204, 205, 206, 207, 208, 209, 210, 211, 212, 980, 981, 1007, 1008, 1009, 1013, 1014, 1015, 1016, 1017, 1018, 1010, 1011, 1012] (by decide +kernel) (by decide +kernel)
set_option maxRecDepth 20000 in
theorem gL_law_X8_slab : GoodIn wsL_law (wsV RL 95 RX8 yX8_slab wsX8_slab) := goodIn_app (goodIn_of _ (by decide +kernel)) ggL_law_X8_slab
set_option maxRecDepth 20000 in
theorem ggL_law_X8_thrown : GoodIn wsL_law wsX8_thrown := goodIn_r _ [216, 139, 980, 981] (by decide +kernel) (by decide +kernel)
set_option maxRecDepth 20000 in
theorem gL_law_X8_thrown : GoodIn wsL_law (wsV RL 96 RX8 yX8_thrown wsX8_thrown) := goodIn_app (goodIn_of _ (by decide +kernel)) ggL_law_X8_thrown
set_option maxRecDepth 20000 in
theorem ggL_law_L_flaw : GoodIn wsL_law wsL_flaw := goodIn_ca (goodIn_ca (goodIn_r _ [219, 220, 87, 221, 222, 223, 2, 224, 92, 93, 225, 226, 227, 228, 229, 230, 16, 231, 108, 109, 15, 110, 106, 27, 232, 233, 234, 235, 236, 237, 32, 238, 120, 39, 992, 993, 994, 995, 996, 997, 998, 977, 978, 979, 982, 983, 984, 985, 986] (by decide +kernel) (by decide +kernel)) (goodIn_sub (fun _ h => List.mem_append_left _ (List.mem_append_left _ (List.mem_append_right _ h))) (by decide +kernel))) (goodIn_sub (fun _ h => List.mem_append_right _ h) (by decide +kernel))
set_option maxRecDepth 20000 in
theorem gL_law_L_flaw : GoodIn wsL_law (va_wsS RL 100 yL_flaw wsL_flaw) := goodIn_app (goodIn_of _ (by decide +kernel)) ggL_law_L_flaw
set_option maxRecDepth 20000 in
theorem ggL_law_X8_flaw : GoodIn wsL_law wsX8_flaw := goodIn_r _ [242, 243, 38, 244, 245, 246, 5, 247, 248, 249, 250, 251, 252, 253, 254, 255, 57, 125, 144, 145, 146, 63, 147, 148, 132, 133, 134, 135, 136, 137, 138, 139, 140, 141, 142, 143, 256, 257, 258, 259, 260, 261, 262, 263, 264, 265, 266, 267, 268, 269, 270, 271, 272, 273, 274, 275, 276, 71, 277, 278, 279, 128, 280, 156, 157, 281, 282, 283, 284, 155, 161, 162, 163, 164, 165, 166, 167, 168, 169, 170, 171, 172, 173, 174, 175, 176, 177, 178, 70, 179, 180, 181, 182, 183, 184, 185, 186, 187, 188, 189, 190, 191, 192, 193, 194, 195, 196, 197, 198, 199, 200, 201, 202, 203, 204, 205, 206, 207, 208, 209, 210, 211, 212, 1013, 1014, 1015, 1016, 1017, 1018, 980, 981, 1007, 1008, 1009, 1010, 1011, 1012] (by decide +kernel) (by decide +kernel)
set_option maxRecDepth 20000 in
theorem gL_law_X8_flaw : GoodIn wsL_law (wsV RL 102 RX8 yX8_flaw wsX8_flaw) := goodIn_app (goodIn_of _ (by decide +kernel)) ggL_law_X8_flaw
set_option maxRecDepth 20000 in
theorem ggL_law_L_kerf : GoodIn wsL_law wsL_kerf := goodIn_ca (goodIn_r _ [287, 86, 288, 289, 290, 2, 291, 97, 98, 16, 977, 978, 979, 982, 983, 984, 985, 986] (by decide +kernel) (by decide +kernel)) (goodIn_sub (fun _ h => List.mem_append_left _ (List.mem_append_right _ h)) (by decide +kernel))
set_option maxRecDepth 20000 in
theorem gL_law_L_kerf : GoodIn wsL_law (va_wsS RL 103 yL_kerf wsL_kerf) := goodIn_app (goodIn_of _ (by decide +kernel)) ggL_law_L_kerf
set_option maxRecDepth 20000 in
theorem ggL_law_X8_kerf : GoodIn wsL_law wsX8_kerf := goodIn_r _ [295, 57, 296, 132, 133, 5, 134, 135, 136, 137, 138, 139, 140, 141, 142, 143, 980, 981, 1007, 1008, 1009] (by decide +kernel) (by decide +kernel)
set_option maxRecDepth 20000 in
theorem gL_law_X8_kerf : GoodIn wsL_law (wsV RL 106 RX8 yX8_kerf wsX8_kerf) := goodIn_app (goodIn_of _ (by decide +kernel)) ggL_law_X8_kerf
set_option maxRecDepth 20000 in
theorem ggL_law_L_cut : GoodIn wsL_law wsL_cut := goodIn_ca (goodIn_ca (goodIn_ca (goodIn_r _ [299, 220, 86, 87, 300, 301, 302, 2, 303, 97, 98, 92, 93, 16, 225, 226, 227, 228, 229, 230, 231, 108, 109, 15, 110, 106, 27, 304, 305, 306, 307, 30, 308, 309, 310, 32, 311, 115, 116, 312, 313, 314, 315, 107, 316, 317, 103, 104, 105, 111, 112, 113, 114, 117, 118, 119, 120, 318, 319, 320, 321, 39, 322, 236, 237, 238, 977, 978, 979, 992, 993, 994, 995, 996, 997, 998, 982, 983, 984, 985, 986] (by decide +kernel) (by decide +kernel)) (goodIn_sub (fun _ h => List.mem_append_left _ (List.mem_append_right _ h)) (by decide +kernel))) (goodIn_sub (fun _ h => List.mem_append_left _ (List.mem_append_left _ (List.mem_append_right _ h))) (by decide +kernel))) (goodIn_sub (fun _ h => List.mem_append_right _ h) (by decide +kernel))
set_option maxRecDepth 20000 in
theorem gL_law_L_cut : GoodIn wsL_law (va_wsS RL 107 yL_cut wsL_cut) := goodIn_app (goodIn_of _ (by decide +kernel)) ggL_law_L_cut
set_option maxRecDepth 20000 in
theorem ggL_law_X8_cut : GoodIn wsL_law wsX8_cut := goodIn_r _ [326, 57, 125, 248, 249, 250, 5, 251, 252, 253, 254, 255, 144, 145, 146, 63, 147, 148, 132, 133, 134, 135, 136, 137, 138, 139, 140, 141, 142, 143, 256, 257, 258, 259, 260, 261, 262, 263, 264, 265, 266, 267, 268, 269, 270, 271, 272, 273, 274, 275, 276, 71, 327, 328, 329, 56, 330, 331, 332, 66, 281, 282, 283, 128, 284, 155, 333, 334, 335, 336, 64, 337, 338, 127, 339, 340, 341, 38, 342, 343, 344, 150, 151, 152, 11, 12, 153, 62, 154, 156, 157, 158, 159, 160, 68, 69, 70, 72, 73, 74, 75, 76, 77, 78, 79, 80, 81, 345, 346, 162, 163, 164, 165, 166, 167, 168, 169, 170, 171, 172, 173, 174, 175, 176, 177, 178, 179, 180, 181, 182, 183, 184, 185, 186, 187, 188, 189, 190, 191, 192, 193, 194, 195, 196, 197, 198, 199, 200, 201, 202, 203, 204, 205, 206, 207, 208, 209, 210, 211, 212, 980, 981, 1007, 1008, 1009, 1010, 1011, 1012, 1013, 1014, 1015, 1016, 1017, 1018] (by decide +kernel) (by decide +kernel)
set_option maxRecDepth 20000 in
theorem gL_law_X8_cut : GoodIn wsL_law (wsV RL 110 RX8 yX8_cut wsX8_cut) := goodIn_app (goodIn_of _ (by decide +kernel)) ggL_law_X8_cut
set_option maxRecDepth 20000 in
theorem ggL_law_L_toss : GoodIn wsL_law wsL_toss := goodIn_ca (goodIn_ca (goodIn_r _ [349, 220, 87, 350, 351, 352, 2, 353, 92, 93, 225, 226, 227, 228, 229, 230, 16, 231, 108, 109, 15, 110, 106, 27, 354, 355, 356, 32, 357, 115, 116, 992, 993, 994, 995, 996, 997, 998, 977, 978, 979, 982, 983, 984, 985, 986] (by decide +kernel) (by decide +kernel)) (goodIn_sub (fun _ h => List.mem_append_left _ (List.mem_append_left _ (List.mem_append_right _ h))) (by decide +kernel))) (goodIn_sub (fun _ h => List.mem_append_right _ h) (by decide +kernel))
set_option maxRecDepth 20000 in
theorem gL_law_L_toss : GoodIn wsL_law (va_wsS RL 111 yL_toss wsL_toss) := goodIn_app (goodIn_of _ (by decide +kernel)) ggL_law_L_toss
set_option maxRecDepth 20000 in
theorem ggL_law_X8_toss : GoodIn wsL_law wsX8_toss := goodIn_r _ [361, 362, 248, 249, 250, 5, 251, 252, 253, 254, 255, 57, 125, 144, 145, 146, 63, 147, 148, 132, 133, 134, 135, 136, 137, 138, 139, 140, 141, 142, 143, 256, 257, 258, 259, 260, 261, 262, 263, 264, 265, 266, 267, 268, 269, 270, 271, 272, 273, 274, 275, 276, 71, 281, 282, 283, 128, 284, 155, 363, 364, 365, 366, 156, 157, 1013, 1014, 1015, 1016, 1017, 1018, 980, 981, 1007, 1008, 1009, 1010, 1011, 1012] (by decide +kernel) (by decide +kernel)
set_option maxRecDepth 20000 in
theorem gL_law_X8_toss : GoodIn wsL_law (wsV RL 113 RX8 yX8_toss wsX8_toss) := goodIn_app (goodIn_of _ (by decide +kernel)) ggL_law_X8_toss
set_option maxRecDepth 20000 in
theorem ggL_law_L_ofSlab : GoodIn wsL_law wsL_ofSlab := goodIn_ca (goodIn_ca (goodIn_r _ [369, 220, 86, 370, 371, 372, 2, 373, 97, 98, 225, 226, 227, 228, 229, 230, 16, 231, 108, 109, 15, 110, 106, 27, 992, 993, 994, 995, 996, 997, 998, 977, 978, 979, 982, 983, 984, 985, 986] (by decide +kernel) (by decide +kernel)) (goodIn_sub (fun _ h => List.mem_append_left _ (List.mem_append_right _ h)) (by decide +kernel))) (goodIn_sub (fun _ h => List.mem_append_right _ h) (by decide +kernel))
set_option maxRecDepth 20000 in
theorem gL_law_L_ofSlab : GoodIn wsL_law (va_wsS RL 114 yL_ofSlab wsL_ofSlab) := goodIn_app (goodIn_of _ (by decide +kernel)) ggL_law_L_ofSlab
set_option maxRecDepth 20000 in
theorem ggL_law_X8_ofSlab : GoodIn wsL_law wsX8_ofSlab := goodIn_r _ [377, 248, 249, 250, 5, 251, 252, 253, 254, 255, 57, 125, 144, 145, 146, 63, 147, 148, 132, 133, 134, 135, 136, 137, 138, 139, 140, 141, 142, 143, 256, 257, 258, 259, 260, 261, 262, 263, 264, 265, 266, 267, 268, 269, 270, 271, 272, 273, 274, 275, 276, 71, 378, 379, 380, 38, 381, 382, 383, 243, 384, 362, 980, 981, 1007, 1008, 1009, 1010, 1011, 1012, 1013, 1014, 1015, 1016, 1017, 1018] (by decide +kernel) (by decide +kernel)
set_option maxRecDepth 20000 in
theorem gL_law_X8_ofSlab : GoodIn wsL_law (wsV RL 117 RX8 yX8_ofSlab wsX8_ofSlab) := goodIn_app (goodIn_of _ (by decide +kernel)) ggL_law_X8_ofSlab
set_option maxRecDepth 20000 in
theorem ggL_law_L_flawsAt : GoodIn wsL_law wsL_flawsAt := goodIn_ca (goodIn_r _ [387, 220, 388, 389, 390, 2, 391, 225, 226, 227, 228, 229, 230, 16, 231, 108, 109, 15, 110, 106, 27, 232, 233, 234, 392, 393, 394, 32, 395, 120, 39, 977, 978, 979, 982, 983, 984, 985, 986, 992, 993, 994, 995, 996, 997, 998] (by decide +kernel) (by decide +kernel)) (goodIn_sub (fun _ h => List.mem_append_right _ h) (by decide +kernel))
set_option maxRecDepth 20000 in
theorem gL_law_L_flawsAt : GoodIn wsL_law (va_wsS RL 118 yL_flawsAt wsL_flawsAt) := goodIn_app (goodIn_of _ (by decide +kernel)) ggL_law_L_flawsAt
set_option maxRecDepth 20000 in
theorem ggL_law_X8_flawsAt : GoodIn wsL_law wsX8_flawsAt := goodIn_r _ [399, 244, 245, 246, 5, 247, 248, 249, 250, 251, 252, 253, 254, 255, 57, 125, 144, 145, 146, 63, 147, 148, 132, 133, 134, 135, 136, 137, 138, 139, 140, 141, 142, 143, 256, 257, 258, 259, 260, 261, 262, 263, 264, 265, 266, 267, 268, 269, 270, 271, 272, 273, 274, 275, 276, 71, 277, 278, 279, 128, 280, 156, 157, 400, 401, 402, 403, 154, 404, 405, 406, 980, 981, 1007, 1008, 1009, 1010, 1011, 1012, 1013, 1014, 1015, 1016, 1017, 1018] (by decide +kernel) (by decide +kernel)
set_option maxRecDepth 20000 in
theorem gL_law_X8_flawsAt : GoodIn wsL_law (wsV RL 120 RX8 yX8_flawsAt wsX8_flawsAt) := goodIn_app (goodIn_of _ (by decide +kernel)) ggL_law_X8_flawsAt
set_option maxRecDepth 20000 in
theorem ggL_law_L_root : GoodIn wsL_law wsL_root := goodIn_ca (goodIn_r _ [409, 220, 410, 411, 412, 2, 413, 225, 226, 227, 228, 229, 230, 16, 231, 108, 109, 15, 110, 106, 27, 992, 993, 994, 995, 996, 997, 998, 977, 978, 979, 982, 983, 984, 985, 986] (by decide +kernel) (by decide +kernel)) (goodIn_sub (fun _ h => List.mem_append_right _ h) (by decide +kernel))
set_option maxRecDepth 20000 in
theorem gL_law_L_root : GoodIn wsL_law (va_wsS RL 121 yL_root wsL_root) := goodIn_app (goodIn_of _ (by decide +kernel)) ggL_law_L_root
set_option maxRecDepth 20000 in
theorem ggL_law_X8_root : GoodIn wsL_law wsX8_root := goodIn_r _ [417, 384, 248, 249, 250, 5, 251, 252, 253, 254, 255, 57, 125, 144, 145, 146, 63, 147, 148, 132, 133, 134, 135, 136, 137, 138, 139, 140, 141, 142, 143, 256, 257, 258, 259, 260, 261, 262, 263, 264, 265, 266, 267, 268, 269, 270, 271, 272, 273, 274, 275, 276, 71, 1013, 1014, 1015, 1016, 1017, 1018, 980, 981, 1007, 1008, 1009, 1010, 1011, 1012] (by decide +kernel) (by decide +kernel)
set_option maxRecDepth 20000 in
theorem gL_law_X8_root : GoodIn wsL_law (wsV RL 123 RX8 yX8_root wsX8_root) := goodIn_app (goodIn_of _ (by decide +kernel)) ggL_law_X8_root
set_option maxRecDepth 20000 in
theorem ggL_law_L_kind : GoodIn wsL_law wsL_kind := goodIn_ca (goodIn_ca (goodIn_r _ [420, 86, 87, 421, 422, 423, 2, 424, 97, 98, 92, 93, 16, 99, 100, 101, 425, 426, 427, 428, 429, 430, 15, 431, 432, 29, 433, 434, 435, 436, 437, 438, 439, 34, 440, 441, 442, 443, 977, 978, 979, 982, 983, 984, 985, 986, 999, 1000, 1001, 1002, 1003, 1004, 1005, 1006] (by decide +kernel) (by decide +kernel)) (goodIn_sub (fun _ h => List.mem_append_left _ (List.mem_append_right _ h)) (by decide +kernel))) (goodIn_sub (fun _ h => List.mem_append_left _ (List.mem_append_left _ (List.mem_append_right _ h))) (by decide +kernel))
set_option maxRecDepth 20000 in
theorem gL_law_L_kind : GoodIn wsL_law (va_wsS RL 124 yL_kind wsL_kind) := goodIn_app (goodIn_of _ (by decide +kernel)) ggL_law_L_kind
set_option maxRecDepth 20000 in
theorem ggL_law_X8_kind : GoodIn wsL_law wsX8_kind := goodIn_r _ [447, 57, 448, 449, 450, 451, 132, 133, 5, 134, 135, 136, 137, 138, 139, 140, 141, 142, 143, 144, 145, 146, 63, 147, 148, 452, 453, 454, 455, 11, 12, 456, 457, 458, 161, 162, 163, 164, 165, 166, 71, 167, 168, 169, 170, 171, 172, 173, 174, 175, 176, 177, 178, 70, 179, 180, 181, 182, 183, 184, 185, 186, 187, 188, 189, 190, 191, 192, 193, 194, 195, 196, 197, 198, 199, 200, 201, 202, 203, 204, 205, 206, 207, 208, 209, 210, 211, 212, 980, 981, 1007, 1008, 1009, 1019, 1020, 1021, 1022, 1023, 1024, 1025, 1026, 1010, 1011, 1012] (by decide +kernel) (by decide +kernel)
set_option maxRecDepth 20000 in
theorem gL_law_X8_kind : GoodIn wsL_law (wsV RL 126 RX8 yX8_kind wsX8_kind) := goodIn_app (goodIn_of _ (by decide +kernel)) ggL_law_X8_kind
set_option maxRecDepth 20000 in
theorem ggL_law_L_let : GoodIn wsL_law wsL_let := goodIn_ca (goodIn_ca (goodIn_r _ [461, 220, 86, 462, 463, 464, 2, 465, 97, 98, 466, 467, 468, 469, 229, 230, 16, 470, 434, 435, 15, 436, 432, 29, 999, 1000, 1001, 1002, 1003, 1004, 1005, 1006, 977, 978, 979, 982, 983, 984, 985, 986] (by decide +kernel) (by decide +kernel)) (goodIn_sub (fun _ h => List.mem_append_left _ (List.mem_append_right _ h)) (by decide +kernel))) (goodIn_sub (fun _ h => List.mem_append_right _ h) (by decide +kernel))
set_option maxRecDepth 20000 in
theorem gL_law_L_let : GoodIn wsL_law (va_wsS RL 127 yL_let wsL_let) := goodIn_app (goodIn_of _ (by decide +kernel)) ggL_law_L_let
set_option maxRecDepth 20000 in
theorem ggL_law_X8_let : GoodIn wsL_law wsX8_let := goodIn_r _ [474, 57, 448, 475, 476, 477, 478, 479, 480, 5, 481, 482, 483, 484, 485, 144, 145, 146, 63, 147, 148, 132, 133, 134, 135, 136, 137, 138, 139, 140, 141, 142, 143, 261, 262, 263, 264, 265, 266, 267, 268, 269, 270, 271, 272, 273, 274, 275, 276, 71, 980, 981, 1007, 1008, 1009, 1019, 1020, 1021, 1022, 1023, 1024, 1025, 1026, 1010, 1011, 1012] (by decide +kernel) (by decide +kernel)
set_option maxRecDepth 20000 in
theorem gL_law_X8_let : GoodIn wsL_law (wsV RL 129 RX8 yX8_let wsX8_let) := goodIn_app (goodIn_of _ (by decide +kernel)) ggL_law_X8_let
set_option maxRecDepth 20000 in
theorem ggL_law_L_order : GoodIn wsL_law wsL_order := goodIn_ca (goodIn_ca (goodIn_r _ [488, 220, 86, 489, 490, 491, 2, 492, 97, 98, 466, 467, 468, 469, 229, 230, 16, 470, 434, 435, 15, 436, 432, 29, 999, 1000, 1001, 1002, 1003, 1004, 1005, 1006, 977, 978, 979, 982, 983, 984, 985, 986] (by decide +kernel) (by decide +kernel)) (goodIn_sub (fun _ h => List.mem_append_left _ (List.mem_append_right _ h)) (by decide +kernel))) (goodIn_sub (fun _ h => List.mem_append_right _ h) (by decide +kernel))
set_option maxRecDepth 20000 in
theorem gL_law_L_order : GoodIn wsL_law (va_wsS RL 130 yL_order wsL_order) := goodIn_app (goodIn_of _ (by decide +kernel)) ggL_law_L_order
set_option maxRecDepth 20000 in
theorem ggL_law_X8_order : GoodIn wsL_law wsX8_order := goodIn_r _ [496, 57, 448, 475, 497, 478, 479, 480, 5, 481, 482, 483, 484, 485, 144, 145, 146, 63, 147, 148, 132, 133, 134, 135, 136, 137, 138, 139, 140, 141, 142, 143, 261, 262, 263, 264, 265, 266, 267, 268, 269, 270, 271, 272, 273, 274, 275, 276, 71, 980, 981, 1007, 1008, 1009, 1019, 1020, 1021, 1022, 1023, 1024, 1025, 1026, 1010, 1011, 1012] (by decide +kernel) (by decide +kernel)
set_option maxRecDepth 20000 in
theorem gL_law_X8_order : GoodIn wsL_law (wsV RL 132 RX8 yX8_order wsX8_order) := goodIn_app (goodIn_of _ (by decide +kernel)) ggL_law_X8_order
set_option maxRecDepth 20000 in
theorem ggL_law_L_ofKind : GoodIn wsL_law wsL_ofKind := goodIn_ca (goodIn_ca (goodIn_r _ [500, 220, 86, 501, 502, 503, 2, 504, 97, 98, 466, 467, 468, 469, 229, 230, 16, 470, 434, 435, 15, 436, 432, 29, 999, 1000, 1001, 1002, 1003, 1004, 1005, 1006, 977, 978, 979, 982, 983, 984, 985, 986] (by decide +kernel) (by decide +kernel)) (goodIn_sub (fun _ h => List.mem_append_left _ (List.mem_append_right _ h)) (by decide +kernel))) (goodIn_sub (fun _ h => List.mem_append_right _ h) (by decide +kernel))
set_option maxRecDepth 20000 in
theorem gL_law_L_ofKind : GoodIn wsL_law (va_wsS RL 133 yL_ofKind wsL_ofKind) := goodIn_app (goodIn_of _ (by decide +kernel)) ggL_law_L_ofKind
set_option maxRecDepth 20000 in
theorem ggL_law_X8_ofKind : GoodIn wsL_law wsX8_ofKind := goodIn_r _ [508, 57, 448, 475, 478, 479, 480, 5, 481, 482, 483, 484, 485, 144, 145, 146, 63, 147, 148, 132, 133, 134, 135, 136, 137, 138, 139, 140, 141, 142, 143, 261, 262, 263, 264, 265, 266, 267, 268, 269, 270, 271, 272, 273, 274, 275, 276, 71, 509, 510, 511, 38, 512, 513, 476, 477, 514, 497, 515, 516, 980, 981, 1007, 1008, 1009, 1010, 1011, 1012, 1019, 1020, 1021, 1022, 1023, 1024, 1025, 1026] (by decide +kernel) (by decide +kernel)
set_option maxRecDepth 20000 in
theorem gL_law_X8_ofKind : GoodIn wsL_law (wsV RL 135 RX8 yX8_ofKind wsX8_ofKind) := goodIn_app (goodIn_of _ (by decide +kernel)) ggL_law_X8_ofKind
