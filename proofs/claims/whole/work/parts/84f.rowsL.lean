set_option maxRecDepth 20000 in
theorem gi_X8_digest_c : GoodIn wsL_law [.code yX8_digest cX8_digest 5 (some .long)] := goodIn_r _ [971] (by decide +kernel) (by decide +kernel)
set_option maxRecDepth 20000 in
theorem gi_X8_digest_r1 : GoodIn wsL_law wsX8_digest_r1 := goodIn_r _ [139, 972, 57, 125, 448, 475, 718, 719, 720, 5, 721, 515, 497, 38, 144, 145, 146, 63, 147, 148, 261, 262, 263, 264] (by decide +kernel) (by decide +kernel)
set_option maxRecDepth 20000 in
theorem gi_X8_digest_r2 : GoodIn wsL_law wsX8_digest_r2 := goodIn_r _ [265, 266, 267, 268, 269, 270, 271, 272, 273, 274, 275, 276, 71, 722, 723, 724, 56, 725, 64, 337, 345, 343, 726, 282] (by decide +kernel) (by decide +kernel)
set_option maxRecDepth 20000 in
theorem gi_X8_digest_r3 : GoodIn wsL_law wsX8_digest_r3 := goodIn_r _ [283, 128, 284, 155, 727, 728, 729, 730, 65, 624, 629, 731, 732, 733, 734, 735, 628, 736, 737, 738, 739, 740, 741, 676] (by decide +kernel) (by decide +kernel)
set_option maxRecDepth 20000 in
theorem gi_X8_digest_r4 : GoodIn wsL_law wsX8_digest_r4 := goodIn_r _ [364, 365, 366, 156, 157, 742, 973, 974, 975, 976, 256, 257, 258, 259, 260, 378, 379, 380, 381, 382, 383, 243, 384, 362] (by decide +kernel) (by decide +kernel)
set_option maxRecDepth 20000 in
theorem gi_X8_digest_r5 : GoodIn wsL_law wsX8_digest_r5 := goodIn_r _ [550, 551, 552, 451, 553, 554, 555, 556, 557, 558, 559, 560, 561, 562, 563, 564, 565, 566, 567, 568, 569, 570, 571, 456] (by decide +kernel) (by decide +kernel)
set_option maxRecDepth 20000 in
theorem gi_X8_digest_r6 : GoodIn wsL_law wsX8_digest_r6 := goodIn_r _ [457, 572, 573, 574, 575, 576, 577, 578, 579, 154, 404, 405, 406, 509, 510, 511, 512, 513, 476, 477, 514, 516, 792, 793] (by decide +kernel) (by decide +kernel)
set_option maxRecDepth 20000 in
theorem gi_X8_digest_r7 : GoodIn wsL_law wsX8_digest_r7 := goodIn_r _ [794, 795, 796, 66, 627, 180, 181, 182, 797, 798, 799, 800, 626, 801, 802, 803, 804, 820, 821, 822, 823, 824, 825, 826] (by decide +kernel) (by decide +kernel)
set_option maxRecDepth 20000 in
theorem gi_X8_digest_r8 : GoodIn wsL_law wsX8_digest_r8 := goodIn_r _ [827, 951, 952, 953, 954, 894, 895, 896, 897, 898, 55, 899, 58, 59, 60, 11, 12, 61, 62, 67, 68, 69, 70, 72] (by decide +kernel) (by decide +kernel)
set_option maxRecDepth 20000 in
theorem gi_X8_digest_r9 : GoodIn wsL_law wsX8_digest_r9 := goodIn_r _ [73, 74, 75, 76, 77, 78, 79, 80, 81, 900, 901, 902, 903, 904, 127, 158, 159, 905, 150, 151, 152, 153, 160, 906] (by decide +kernel) (by decide +kernel)
set_option maxRecDepth 20000 in
theorem gi_X8_digest_r10 : GoodIn wsL_law wsX8_digest_r10 := goodIn_r _ [907, 908, 909, 165, 166, 910, 210, 211, 212, 911, 912, 913, 914, 193, 194, 195, 196, 197, 198, 199, 200, 201, 202, 203] (by decide +kernel) (by decide +kernel)
set_option maxRecDepth 20000 in
theorem gi_X8_digest_r11 : GoodIn wsL_law wsX8_digest_r11 := goodIn_r _ [204, 205, 206, 207, 208, 209, 175, 176, 177, 178, 179, 183, 184, 185, 186, 187, 188, 189, 190, 191, 192, 346, 162, 163] (by decide +kernel) (by decide +kernel)
set_option maxRecDepth 20000 in
theorem gi_X8_digest_r12 : GoodIn wsL_law wsX8_digest_r12 := goodIn_r _ [164, 167, 168, 169, 170, 171, 172, 173, 174, 915, 916, 917, 918, 919, 450, 458, 920, 921, 922, 923, 453, 454, 455, 664] (by decide +kernel) (by decide +kernel)
set_option maxRecDepth 20000 in
theorem gi_X8_digest_r13 : GoodIn wsL_law wsX8_digest_r13 := goodIn_r _ [665, 666, 667, 668, 669, 670, 671, 625, 631, 672, 673, 674, 675, 677, 621, 622, 623, 331, 332, 342, 630, 632, 633, 334] (by decide +kernel) (by decide +kernel)
set_option maxRecDepth 20000 in
theorem gi_X8_digest_r14 : GoodIn wsL_law wsX8_digest_r14 := goodIn_r _ [335, 336, 338, 339, 340, 341, 344, 634] (by decide +kernel) (by decide +kernel)
set_option maxRecDepth 20000 in
theorem gi_X8_digest_t1 : GoodIn wsL_law (wsX80) := goodIn_sub (fun _ h => (List.mem_append_left _ (List.mem_append_left _ (List.mem_append_left _ (List.mem_append_left _ (List.mem_append_left _ (List.mem_append_left _ (List.mem_append_left _ (List.mem_append_left _ (List.mem_append_left _ (List.mem_append_left _ (List.mem_append_left _ (List.mem_append_left _ (List.mem_append_right _ h)))))))))))))) (by decide +kernel)
set_option maxRecDepth 20000 in
theorem gi_X8_digest_t2 : GoodIn wsL_law (wsX70) := goodIn_sub (fun _ h => (List.mem_append_left _ (List.mem_append_left _ (List.mem_append_left _ (List.mem_append_left _ (List.mem_append_left _ (List.mem_append_left _ (List.mem_append_left _ (List.mem_append_right _ h))))))))) (by decide +kernel)
set_option maxRecDepth 20000 in
theorem gi_X8_digest_t3 : GoodIn wsL_law (wsX50) := goodIn_sub (fun _ h => (List.mem_append_left _ (List.mem_append_left _ (List.mem_append_left _ (List.mem_append_left _ (List.mem_append_right _ h)))))) (by decide +kernel)
set_option maxRecDepth 20000 in
theorem gi_X8_digest_t4 : GoodIn wsL_law (wsJx4a65c0) := goodIn_sub (fun _ h => (List.mem_append_left _ (List.mem_append_left _ (List.mem_append_left _ (List.mem_append_left _ (List.mem_append_left _ (List.mem_append_left _ (List.mem_append_right _ h)))))))) (by decide +kernel)
set_option maxRecDepth 20000 in
theorem gi_X8_digest_t5 : GoodIn wsL_law (wsX60) := goodIn_sub (fun _ h => (List.mem_append_left _ (List.mem_append_left _ (List.mem_append_left _ (List.mem_append_left _ (List.mem_append_left _ (List.mem_append_right _ h))))))) (by decide +kernel)
set_option maxRecDepth 20000 in
theorem ggL_law_X8_digest : GoodIn wsL_law wsX8_digest := gi_cons gi_X8_digest_c (goodIn_app (goodIn_app (goodIn_app (goodIn_app (goodIn_app (goodIn_app gi_X8_digest_r1 (goodIn_app gi_X8_digest_r2 (goodIn_app gi_X8_digest_r3 (goodIn_app gi_X8_digest_r4 (goodIn_app gi_X8_digest_r5 (goodIn_app gi_X8_digest_r6 (goodIn_app gi_X8_digest_r7 (goodIn_app gi_X8_digest_r8 (goodIn_app gi_X8_digest_r9 (goodIn_app gi_X8_digest_r10 (goodIn_app gi_X8_digest_r11 (goodIn_app gi_X8_digest_r12 (goodIn_app gi_X8_digest_r13 gi_X8_digest_r14))))))))))))) gi_X8_digest_t1) gi_X8_digest_t2) gi_X8_digest_t3) gi_X8_digest_t4) gi_X8_digest_t5)
set_option maxRecDepth 20000 in
theorem gL_law_X8_digest : GoodIn wsL_law (wsV RL 176 RX8 yX8_digest wsX8_digest) := goodIn_app (goodIn_of _ (by decide +kernel)) ggL_law_X8_digest
