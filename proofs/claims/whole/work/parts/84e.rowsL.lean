theorem gi_cons {big ws : List Cond} {c : Cond} (h1 : GoodIn big [c]) (h2 : GoodIn big ws) : GoodIn big (c :: ws) := fun w h => (List.mem_cons.mp h).elim (fun e => h1 w (List.mem_singleton.mpr e)) (h2 w)
set_option maxRecDepth 20000 in
theorem gi_X4_digest_c : GoodIn wsL_law [.code yX4_digest cX4_digest 5 (some .long)] := goodIn_r _ [958] (by decide +kernel) (by decide +kernel)
set_option maxRecDepth 20000 in
theorem gi_X4_digest_r1 : GoodIn wsL_law wsX4_digest_r1 := goodIn_r _ [959, 960, 16, 961, 682, 683, 2, 684, 97, 98, 685, 686, 687, 15, 688, 106, 107, 108, 109, 110, 27, 689, 690, 691] (by decide +kernel) (by decide +kernel)
set_option maxRecDepth 20000 in
theorem gi_X4_digest_r2 : GoodIn wsL_law wsX4_digest_r2 := goodIn_r _ [692, 432, 433, 434, 435, 436, 29, 693, 694, 695, 696, 697, 698, 699, 700, 701, 702, 703, 704, 658, 355, 356, 32, 357] (by decide +kernel) (by decide +kernel)
set_option maxRecDepth 20000 in
theorem gi_X4_digest_r3 : GoodIn wsL_law wsX4_digest_r3 := goodIn_r _ [115, 116, 705, 706, 707, 708, 709, 710, 711, 712, 713, 962, 371, 372, 373, 225, 226, 227, 228, 229, 230, 231, 963, 521] (by decide +kernel) (by decide +kernel)
set_option maxRecDepth 20000 in
theorem gi_X4_digest_r4 : GoodIn wsL_law wsX4_digest_r4 := goodIn_r _ [522, 523, 466, 467, 468, 469, 470, 524, 525, 526, 527, 119, 117, 528, 529, 530, 34, 531, 532, 441, 442, 533, 534, 535] (by decide +kernel) (by decide +kernel)
set_option maxRecDepth 20000 in
theorem gi_X4_digest_r5 : GoodIn wsL_law wsX4_digest_r5 := goodIn_r _ [536, 537, 538, 539, 540, 541, 393, 394, 395, 120, 39, 964, 502, 503, 504, 965, 755, 756, 757, 21, 94, 95, 96, 99] (by decide +kernel) (by decide +kernel)
set_option maxRecDepth 20000 in
theorem gi_X4_digest_r6 : GoodIn wsL_law wsX4_digest_r6 := goodIn_r _ [100, 101, 758, 759, 760, 20, 761, 762, 763, 764, 765, 766, 767, 768, 769, 770, 771, 772, 773, 774, 775, 776, 46, 47] (by decide +kernel) (by decide +kernel)
set_option maxRecDepth 20000 in
theorem gi_X4_digest_r7 : GoodIn wsL_law wsX4_digest_r7 := goodIn_r _ [48, 777, 778, 779, 780, 781, 782, 783, 784, 785, 786, 787, 966, 809, 810, 811, 812, 813, 814, 815, 967, 944, 945, 946] (by decide +kernel) (by decide +kernel)
set_option maxRecDepth 20000 in
theorem gi_X4_digest_r8 : GoodIn wsL_law wsX4_digest_r8 := goodIn_r _ [17, 642, 643, 644, 861, 862, 863, 864, 30, 865, 866, 867, 868, 118, 869, 112, 113, 114, 870, 319, 320, 321, 322, 236] (by decide +kernel) (by decide +kernel)
set_option maxRecDepth 20000 in
theorem gi_X4_digest_r9 : GoodIn wsL_law wsX4_digest_r9 := goodIn_r _ [237, 238, 871, 872, 873, 874, 443, 875, 603, 605, 606, 876, 438, 439, 440, 645, 646, 647, 648, 649, 588, 589, 590, 650] (by decide +kernel) (by decide +kernel)
set_option maxRecDepth 20000 in
theorem gi_X4_digest_r10 : GoodIn wsL_law wsX4_digest_r10 := goodIn_r _ [651, 652, 653, 654, 655, 656, 657, 595, 659, 592, 593, 594, 596, 597, 313, 314, 315, 316, 305, 306, 307, 308, 309, 310] (by decide +kernel) (by decide +kernel)
set_option maxRecDepth 20000 in
theorem gi_X4_digest_r11 : GoodIn wsL_law wsX4_digest_r11 := goodIn_r _ [311, 317, 103, 104, 105, 111, 318, 598, 599, 600, 601, 602, 604, 180, 181, 182, 607, 608, 609, 610, 611, 612, 613, 614] (by decide +kernel) (by decide +kernel)
set_option maxRecDepth 20000 in
theorem gi_X4_digest_r12 : GoodIn wsL_law wsX4_digest_r12 := goodIn_r _ [615, 207, 208] (by decide +kernel) (by decide +kernel)
set_option maxRecDepth 20000 in
theorem gi_X4_digest_t1 : GoodIn wsL_law (wsX40) := goodIn_sub (fun _ h => (List.mem_append_left _ (List.mem_append_left _ (List.mem_append_left _ (List.mem_append_left _ (List.mem_append_left _ (List.mem_append_left _ (List.mem_append_left _ (List.mem_append_left _ (List.mem_append_left _ (List.mem_append_left _ (List.mem_append_left _ (List.mem_append_left _ (List.mem_append_left _ (List.mem_append_right _ h))))))))))))))) (by decide +kernel)
set_option maxRecDepth 20000 in
theorem gi_X4_digest_t2 : GoodIn wsL_law (wsX30) := goodIn_sub (fun _ h => (List.mem_append_left _ (List.mem_append_left _ (List.mem_append_left _ (List.mem_append_left _ (List.mem_append_left _ (List.mem_append_left _ (List.mem_append_left _ (List.mem_append_left _ (List.mem_append_left _ (List.mem_append_left _ (List.mem_append_left _ (List.mem_append_right _ h))))))))))))) (by decide +kernel)
set_option maxRecDepth 20000 in
theorem gi_X4_digest_t3 : GoodIn wsL_law (wsX20) := goodIn_sub (fun _ h => (List.mem_append_left _ (List.mem_append_left _ (List.mem_append_left _ (List.mem_append_left _ (List.mem_append_left _ (List.mem_append_left _ (List.mem_append_left _ (List.mem_append_left _ (List.mem_append_left _ (List.mem_append_right _ h))))))))))) (by decide +kernel)
set_option maxRecDepth 20000 in
theorem gi_X4_digest_t4 : GoodIn wsL_law (wsX00) := goodIn_sub (fun _ h => (List.mem_append_left _ (List.mem_append_left _ (List.mem_append_left _ (List.mem_append_left _ (List.mem_append_left _ (List.mem_append_left _ (List.mem_append_left _ (List.mem_append_left _ (List.mem_append_right _ h)))))))))) (by decide +kernel)
set_option maxRecDepth 20000 in
theorem gi_X4_digest_t5 : GoodIn wsL_law (wsX10) := goodIn_sub (fun _ h => (List.mem_append_left _ (List.mem_append_left _ (List.mem_append_left _ (List.mem_append_left _ (List.mem_append_left _ (List.mem_append_left _ (List.mem_append_left _ (List.mem_append_left _ (List.mem_append_left _ (List.mem_append_left _ (List.mem_append_right _ h)))))))))))) (by decide +kernel)
set_option maxRecDepth 20000 in
theorem gi_X4_digest_t6 : GoodIn wsL_law ((vx_atS RX4 71 "java/lang/IllegalArgumentException" ["java/lang/RuntimeException", "java/lang/Exception"]).filter goodWord) := goodIn_sub (fun _ h => (List.mem_append_left _ (List.mem_append_right _ h))) (by decide +kernel)
set_option maxRecDepth 20000 in
theorem gi_X4_digest_t7 : GoodIn wsL_law ((vx_atS RX4 267 "java/lang/IndexOutOfBoundsException" ["java/lang/RuntimeException", "java/lang/Exception"]).filter goodWord) := goodIn_sub (fun _ h => (List.mem_append_right _ h)) (by decide +kernel)
set_option maxRecDepth 20000 in
theorem ggL_law_X4_digest : GoodIn wsL_law wsX4_digest := gi_cons gi_X4_digest_c (goodIn_app (goodIn_app (goodIn_app (goodIn_app (goodIn_app (goodIn_app (goodIn_app (goodIn_app gi_X4_digest_r1 (goodIn_app gi_X4_digest_r2 (goodIn_app gi_X4_digest_r3 (goodIn_app gi_X4_digest_r4 (goodIn_app gi_X4_digest_r5 (goodIn_app gi_X4_digest_r6 (goodIn_app gi_X4_digest_r7 (goodIn_app gi_X4_digest_r8 (goodIn_app gi_X4_digest_r9 (goodIn_app gi_X4_digest_r10 (goodIn_app gi_X4_digest_r11 gi_X4_digest_r12))))))))))) gi_X4_digest_t1) gi_X4_digest_t2) gi_X4_digest_t3) gi_X4_digest_t4) gi_X4_digest_t5) gi_X4_digest_t6) gi_X4_digest_t7)
set_option maxRecDepth 20000 in
theorem gL_law_X4_digest : GoodIn wsL_law (wsV RL 172 RX4 yX4_digest wsX4_digest) := goodIn_app (goodIn_of _ (by decide +kernel)) ggL_law_X4_digest
