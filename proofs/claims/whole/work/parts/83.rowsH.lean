set_option maxRecDepth 20000 in
theorem ggL_slab_X4_slab : GoodIn wsL_slab wsX4_slab := goodIn_ca (goodIn_ca (goodIn_r _ [7, 8, 9, 10, 11, 12, 6, 13, 14, 15, 16, 17, 18, 19, 20, 21, 22, 23, 24, 25, 26, 27, 28, 29, 30, 31, 32, 33, 34, 35, 36, 37, 38, 39, 40, 41, 42, 43, 44, 45, 46, 47, 48, 49, 50, 51, 52, 53, 54, 55] (by decide +kernel) (by decide +kernel)) (goodIn_sub (fun _ h => List.mem_cons_of_mem _ (List.mem_append_left _ (List.mem_append_right _ h))) (by decide +kernel))) (goodIn_sub (fun _ h => List.mem_cons_of_mem _ (List.mem_append_right _ h)) (by decide +kernel))
set_option maxRecDepth 20000 in
theorem gL_slab_X4_slab : GoodIn wsL_slab (wsV RL 7 RX4 yX4_slab wsX4_slab) := goodIn_app (goodIn_of _ (by decide +kernel)) ggL_slab_X4_slab
theorem dL_slab_0 : decode cL_slab 0 = .ok (.aload 4, 2) := by decide +kernel
theorem dL_slab_2 : decode cL_slab 2 = .ok (.iconst 0, 1) := by decide +kernel
theorem dL_slab_3 : decode cL_slab 3 = .ok (.aload_n 0, 1) := by decide +kernel
theorem dL_slab_4 : decode cL_slab 4 = .ok (.iload_n 1, 1) := by decide +kernel
theorem dL_slab_5 : decode cL_slab 5 = .ok (.iload_n 2, 1) := by decide +kernel
theorem dL_slab_6 : decode cL_slab 6 = .ok (.iload_n 3, 1) := by decide +kernel
theorem dL_slab_7 : decode cL_slab 7 = .ok (.invokevirtual 7, 3) := by decide +kernel
theorem dL_slab_10 : decode cL_slab 10 = .ok (.i2l, 1) := by decide +kernel
theorem dL_slab_11 : decode cL_slab 11 = .ok (.lastore, 1) := by decide +kernel
theorem dL_slab_12 : decode cL_slab 12 = .ok (.goto 11, 3) := by decide +kernel
theorem dL_slab_15 : decode cL_slab 15 = .ok (.astore 5, 2) := by decide +kernel
theorem dL_slab_17 : decode cL_slab 17 = .ok (.iconst 1, 1) := by decide +kernel
theorem dL_slab_18 : decode cL_slab 18 = .ok (.ireturn, 1) := by decide +kernel
theorem dL_slab_19 : decode cL_slab 19 = .ok (.astore 5, 2) := by decide +kernel
theorem dL_slab_21 : decode cL_slab 21 = .ok (.iconst 2, 1) := by decide +kernel
theorem dL_slab_22 : decode cL_slab 22 = .ok (.ireturn, 1) := by decide +kernel
theorem dL_slab_23 : decode cL_slab 23 = .ok (.iconst 0, 1) := by decide +kernel
theorem dL_slab_24 : decode cL_slab 24 = .ok (.ireturn, 1) := by decide +kernel
set_option maxRecDepth 20000 in
theorem ggL_flaw_X4_flaw : GoodIn wsL_flaw wsX4_flaw := goodIn_ca (goodIn_ca (goodIn_r _ [7, 8, 9, 10, 11, 12, 6, 13, 14, 15, 16, 17, 18, 19, 20, 21, 22, 23, 24, 25, 26, 27, 28, 29, 30, 31, 32, 33, 34, 35, 36, 37, 38, 39, 40, 41, 42, 43, 44, 45, 46, 47, 48] (by decide +kernel) (by decide +kernel)) (goodIn_sub (fun _ h => List.mem_cons_of_mem _ (List.mem_append_left _ (List.mem_append_right _ h))) (by decide +kernel))) (goodIn_sub (fun _ h => List.mem_cons_of_mem _ (List.mem_append_right _ h)) (by decide +kernel))
set_option maxRecDepth 20000 in
theorem gL_flaw_X4_flaw : GoodIn wsL_flaw (wsV RL 17 RX4 yX4_flaw wsX4_flaw) := goodIn_app (goodIn_of _ (by decide +kernel)) ggL_flaw_X4_flaw
theorem dL_flaw_0 : decode cL_flaw 0 = .ok (.aload 4, 2) := by decide +kernel
theorem dL_flaw_2 : decode cL_flaw 2 = .ok (.iconst 0, 1) := by decide +kernel
theorem dL_flaw_3 : decode cL_flaw 3 = .ok (.aload_n 0, 1) := by decide +kernel
theorem dL_flaw_4 : decode cL_flaw 4 = .ok (.iload_n 1, 1) := by decide +kernel
theorem dL_flaw_5 : decode cL_flaw 5 = .ok (.iload_n 2, 1) := by decide +kernel
theorem dL_flaw_6 : decode cL_flaw 6 = .ok (.iload_n 3, 1) := by decide +kernel
theorem dL_flaw_7 : decode cL_flaw 7 = .ok (.invokevirtual 17, 3) := by decide +kernel
theorem dL_flaw_10 : decode cL_flaw 10 = .ok (.i2l, 1) := by decide +kernel
theorem dL_flaw_11 : decode cL_flaw 11 = .ok (.lastore, 1) := by decide +kernel
theorem dL_flaw_12 : decode cL_flaw 12 = .ok (.goto 11, 3) := by decide +kernel
theorem dL_flaw_15 : decode cL_flaw 15 = .ok (.astore 5, 2) := by decide +kernel
theorem dL_flaw_17 : decode cL_flaw 17 = .ok (.iconst 1, 1) := by decide +kernel
theorem dL_flaw_18 : decode cL_flaw 18 = .ok (.ireturn, 1) := by decide +kernel
theorem dL_flaw_19 : decode cL_flaw 19 = .ok (.astore 5, 2) := by decide +kernel
theorem dL_flaw_21 : decode cL_flaw 21 = .ok (.iconst 2, 1) := by decide +kernel
theorem dL_flaw_22 : decode cL_flaw 22 = .ok (.ireturn, 1) := by decide +kernel
theorem dL_flaw_23 : decode cL_flaw 23 = .ok (.iconst 0, 1) := by decide +kernel
theorem dL_flaw_24 : decode cL_flaw 24 = .ok (.ireturn, 1) := by decide +kernel
set_option maxRecDepth 20000 in
theorem ggL_kerf_X4_kerf : GoodIn wsL_kerf wsX4_kerf := goodIn_ca (goodIn_r _ [6, 7, 8, 9, 10, 11, 12, 13, 14, 15, 16, 17] (by decide +kernel) (by decide +kernel)) (goodIn_sub (fun _ h => List.mem_cons_of_mem _ (List.mem_append_right _ h)) (by decide +kernel))
set_option maxRecDepth 20000 in
theorem gL_kerf_X4_kerf : GoodIn wsL_kerf (wsV RL 22 RX4 yX4_kerf wsX4_kerf) := goodIn_app (goodIn_of _ (by decide +kernel)) ggL_kerf_X4_kerf
theorem dL_kerf_0 : decode cL_kerf 0 = .ok (.aload_n 2, 1) := by decide +kernel
theorem dL_kerf_1 : decode cL_kerf 1 = .ok (.iconst 0, 1) := by decide +kernel
theorem dL_kerf_2 : decode cL_kerf 2 = .ok (.aload_n 0, 1) := by decide +kernel
theorem dL_kerf_3 : decode cL_kerf 3 = .ok (.iload_n 1, 1) := by decide +kernel
theorem dL_kerf_4 : decode cL_kerf 4 = .ok (.invokevirtual 22, 3) := by decide +kernel
theorem dL_kerf_7 : decode cL_kerf 7 = .ok (.i2l, 1) := by decide +kernel
theorem dL_kerf_8 : decode cL_kerf 8 = .ok (.lastore, 1) := by decide +kernel
theorem dL_kerf_9 : decode cL_kerf 9 = .ok (.goto 6, 3) := by decide +kernel
theorem dL_kerf_12 : decode cL_kerf 12 = .ok (.astore_n 3, 1) := by decide +kernel
theorem dL_kerf_13 : decode cL_kerf 13 = .ok (.iconst 1, 1) := by decide +kernel
theorem dL_kerf_14 : decode cL_kerf 14 = .ok (.ireturn, 1) := by decide +kernel
theorem dL_kerf_15 : decode cL_kerf 15 = .ok (.iconst 0, 1) := by decide +kernel
theorem dL_kerf_16 : decode cL_kerf 16 = .ok (.ireturn, 1) := by decide +kernel
set_option maxRecDepth 20000 in
theorem ggL_cut_X4_cut : GoodIn wsL_cut wsX4_cut := goodIn_ca (goodIn_ca (goodIn_ca (goodIn_r _ [8, 9, 10, 11, 12, 13, 14, 15, 16, 7, 17, 18, 19, 20, 21, 22, 23, 24, 25, 26, 27, 28, 29, 30, 31, 32, 33, 34, 35, 36, 37, 38, 39, 40, 41, 42, 43, 44, 45, 46, 47, 48, 49, 50, 51, 52, 53, 54, 55, 56, 57, 58, 59, 60, 61, 62, 63, 64, 65, 66, 67, 68, 69, 70, 71, 72, 73, 74, 75, 76, 77, 78, 79, 80] (by decide +kernel) (by decide +kernel)) (goodIn_sub (fun _ h => List.mem_cons_of_mem _ (List.mem_append_left _ (List.mem_append_left _ (List.mem_append_right _ h)))) (by decide +kernel))) (goodIn_sub (fun _ h => List.mem_cons_of_mem _ (List.mem_append_left _ (List.mem_append_right _ h))) (by decide +kernel))) (goodIn_sub (fun _ h => List.mem_cons_of_mem _ (List.mem_append_right _ h)) (by decide +kernel))
set_option maxRecDepth 20000 in
theorem gL_cut_X4_cut : GoodIn wsL_cut (wsV RL 26 RX4 yX4_cut wsX4_cut) := goodIn_app (goodIn_of _ (by decide +kernel)) ggL_cut_X4_cut
theorem dL_cut_0 : decode cL_cut 0 = .ok (.aload 4, 2) := by decide +kernel
theorem dL_cut_2 : decode cL_cut 2 = .ok (.iconst 0, 1) := by decide +kernel
theorem dL_cut_3 : decode cL_cut 3 = .ok (.aload_n 0, 1) := by decide +kernel
theorem dL_cut_4 : decode cL_cut 4 = .ok (.iload_n 1, 1) := by decide +kernel
theorem dL_cut_5 : decode cL_cut 5 = .ok (.iload_n 2, 1) := by decide +kernel
theorem dL_cut_6 : decode cL_cut 6 = .ok (.iload_n 3, 1) := by decide +kernel
theorem dL_cut_7 : decode cL_cut 7 = .ok (.invokevirtual 26, 3) := by decide +kernel
theorem dL_cut_10 : decode cL_cut 10 = .ok (.i2l, 1) := by decide +kernel
theorem dL_cut_11 : decode cL_cut 11 = .ok (.lastore, 1) := by decide +kernel
theorem dL_cut_12 : decode cL_cut 12 = .ok (.goto 15, 3) := by decide +kernel
theorem dL_cut_15 : decode cL_cut 15 = .ok (.astore 5, 2) := by decide +kernel
theorem dL_cut_17 : decode cL_cut 17 = .ok (.iconst 1, 1) := by decide +kernel
theorem dL_cut_18 : decode cL_cut 18 = .ok (.ireturn, 1) := by decide +kernel
theorem dL_cut_19 : decode cL_cut 19 = .ok (.astore 5, 2) := by decide +kernel
theorem dL_cut_21 : decode cL_cut 21 = .ok (.iconst 2, 1) := by decide +kernel
theorem dL_cut_22 : decode cL_cut 22 = .ok (.ireturn, 1) := by decide +kernel
theorem dL_cut_23 : decode cL_cut 23 = .ok (.astore 5, 2) := by decide +kernel
theorem dL_cut_25 : decode cL_cut 25 = .ok (.iconst 3, 1) := by decide +kernel
theorem dL_cut_26 : decode cL_cut 26 = .ok (.ireturn, 1) := by decide +kernel
theorem dL_cut_27 : decode cL_cut 27 = .ok (.iconst 0, 1) := by decide +kernel
theorem dL_cut_28 : decode cL_cut 28 = .ok (.ireturn, 1) := by decide +kernel
set_option maxRecDepth 20000 in
theorem ggL_toss_X4_toss : GoodIn wsL_toss wsX4_toss := goodIn_ca (goodIn_ca (goodIn_r _ [7, 8, 9, 10, 11, 12, 6, 13, 14, 15, 16, 17, 18, 19, 20, 21, 22, 23, 24, 25, 26, 27, 28, 29, 30, 31, 32, 33, 34, 35, 36, 37, 38, 39, 40, 41, 42, 43, 44, 45] (by decide +kernel) (by decide +kernel)) (goodIn_sub (fun _ h => List.mem_cons_of_mem _ (List.mem_append_left _ (List.mem_append_right _ h))) (by decide +kernel))) (goodIn_sub (fun _ h => List.mem_cons_of_mem _ (List.mem_append_right _ h)) (by decide +kernel))
set_option maxRecDepth 20000 in
theorem gL_toss_X4_toss : GoodIn wsL_toss (wsV RL 30 RX4 yX4_toss wsX4_toss) := goodIn_app (goodIn_of _ (by decide +kernel)) ggL_toss_X4_toss
theorem dL_toss_0 : decode cL_toss 0 = .ok (.aload_n 2, 1) := by decide +kernel
theorem dL_toss_1 : decode cL_toss 1 = .ok (.iconst 0, 1) := by decide +kernel
theorem dL_toss_2 : decode cL_toss 2 = .ok (.aload_n 0, 1) := by decide +kernel
theorem dL_toss_3 : decode cL_toss 3 = .ok (.iload_n 1, 1) := by decide +kernel
theorem dL_toss_4 : decode cL_toss 4 = .ok (.invokevirtual 30, 3) := by decide +kernel
theorem dL_toss_7 : decode cL_toss 7 = .ok (.i2l, 1) := by decide +kernel
theorem dL_toss_8 : decode cL_toss 8 = .ok (.lastore, 1) := by decide +kernel
theorem dL_toss_9 : decode cL_toss 9 = .ok (.goto 9, 3) := by decide +kernel
theorem dL_toss_12 : decode cL_toss 12 = .ok (.astore_n 3, 1) := by decide +kernel
theorem dL_toss_13 : decode cL_toss 13 = .ok (.iconst 1, 1) := by decide +kernel
theorem dL_toss_14 : decode cL_toss 14 = .ok (.ireturn, 1) := by decide +kernel
theorem dL_toss_15 : decode cL_toss 15 = .ok (.astore_n 3, 1) := by decide +kernel
theorem dL_toss_16 : decode cL_toss 16 = .ok (.iconst 2, 1) := by decide +kernel
theorem dL_toss_17 : decode cL_toss 17 = .ok (.ireturn, 1) := by decide +kernel
theorem dL_toss_18 : decode cL_toss 18 = .ok (.iconst 0, 1) := by decide +kernel
theorem dL_toss_19 : decode cL_toss 19 = .ok (.ireturn, 1) := by decide +kernel
set_option maxRecDepth 20000 in
theorem ggL_ofSlab_X4_ofSlab : GoodIn wsL_ofSlab wsX4_ofSlab := goodIn_ca (goodIn_ca (goodIn_r _ [7, 8, 9, 10, 11, 12, 6, 13, 14, 15, 16, 17, 18, 19, 20, 21, 22, 23, 24, 25, 26, 27, 28, 29, 30, 31, 32, 33, 34, 35, 36, 37, 38] (by decide +kernel) (by decide +kernel)) (goodIn_sub (fun _ h => List.mem_cons_of_mem _ (List.mem_append_left _ (List.mem_append_right _ h))) (by decide +kernel))) (goodIn_sub (fun _ h => List.mem_cons_of_mem _ (List.mem_append_right _ h)) (by decide +kernel))
set_option maxRecDepth 20000 in
theorem gL_ofSlab_X4_ofSlab : GoodIn wsL_ofSlab (wsV RL 33 RX4 yX4_ofSlab wsX4_ofSlab) := goodIn_app (goodIn_of _ (by decide +kernel)) ggL_ofSlab_X4_ofSlab
theorem dL_ofSlab_0 : decode cL_ofSlab 0 = .ok (.aload_n 3, 1) := by decide +kernel
theorem dL_ofSlab_1 : decode cL_ofSlab 1 = .ok (.iconst 0, 1) := by decide +kernel
theorem dL_ofSlab_2 : decode cL_ofSlab 2 = .ok (.aload_n 0, 1) := by decide +kernel
theorem dL_ofSlab_3 : decode cL_ofSlab 3 = .ok (.iload_n 1, 1) := by decide +kernel
theorem dL_ofSlab_4 : decode cL_ofSlab 4 = .ok (.iload_n 2, 1) := by decide +kernel
theorem dL_ofSlab_5 : decode cL_ofSlab 5 = .ok (.invokevirtual 33, 3) := by decide +kernel
theorem dL_ofSlab_8 : decode cL_ofSlab 8 = .ok (.i2l, 1) := by decide +kernel
theorem dL_ofSlab_9 : decode cL_ofSlab 9 = .ok (.lastore, 1) := by decide +kernel
theorem dL_ofSlab_10 : decode cL_ofSlab 10 = .ok (.goto 11, 3) := by decide +kernel
theorem dL_ofSlab_13 : decode cL_ofSlab 13 = .ok (.astore 4, 2) := by decide +kernel
theorem dL_ofSlab_15 : decode cL_ofSlab 15 = .ok (.iconst 1, 1) := by decide +kernel
theorem dL_ofSlab_16 : decode cL_ofSlab 16 = .ok (.ireturn, 1) := by decide +kernel
theorem dL_ofSlab_17 : decode cL_ofSlab 17 = .ok (.astore 4, 2) := by decide +kernel
theorem dL_ofSlab_19 : decode cL_ofSlab 19 = .ok (.iconst 2, 1) := by decide +kernel
theorem dL_ofSlab_20 : decode cL_ofSlab 20 = .ok (.ireturn, 1) := by decide +kernel
theorem dL_ofSlab_21 : decode cL_ofSlab 21 = .ok (.iconst 0, 1) := by decide +kernel
theorem dL_ofSlab_22 : decode cL_ofSlab 22 = .ok (.ireturn, 1) := by decide +kernel
set_option maxRecDepth 20000 in
theorem ggL_flawsAt_X4_flawsAt : GoodIn wsL_flawsAt wsX4_flawsAt := goodIn_ca (goodIn_r _ [6, 7, 8, 9, 5, 10, 11, 12, 13, 14, 15, 16, 17, 18, 19, 20, 21, 22, 23, 24, 25, 26, 27, 28, 29, 30, 31, 32, 33, 34, 35, 36, 37, 38, 39, 40, 41, 42, 43, 44, 45] (by decide +kernel) (by decide +kernel)) (goodIn_sub (fun _ h => List.mem_cons_of_mem _ (List.mem_append_right _ h)) (by decide +kernel))
set_option maxRecDepth 20000 in
theorem gL_flawsAt_X4_flawsAt : GoodIn wsL_flawsAt (wsV RL 37 RX4 yX4_flawsAt wsX4_flawsAt) := goodIn_app (goodIn_of _ (by decide +kernel)) ggL_flawsAt_X4_flawsAt
theorem dL_flawsAt_0 : decode cL_flawsAt 0 = .ok (.aload 4, 2) := by decide +kernel
theorem dL_flawsAt_2 : decode cL_flawsAt 2 = .ok (.iconst 0, 1) := by decide +kernel
theorem dL_flawsAt_3 : decode cL_flawsAt 3 = .ok (.aload_n 0, 1) := by decide +kernel
theorem dL_flawsAt_4 : decode cL_flawsAt 4 = .ok (.iload_n 1, 1) := by decide +kernel
theorem dL_flawsAt_5 : decode cL_flawsAt 5 = .ok (.iload_n 2, 1) := by decide +kernel
theorem dL_flawsAt_6 : decode cL_flawsAt 6 = .ok (.iload_n 3, 1) := by decide +kernel
theorem dL_flawsAt_7 : decode cL_flawsAt 7 = .ok (.invokevirtual 37, 3) := by decide +kernel
theorem dL_flawsAt_10 : decode cL_flawsAt 10 = .ok (.i2l, 1) := by decide +kernel
theorem dL_flawsAt_11 : decode cL_flawsAt 11 = .ok (.lastore, 1) := by decide +kernel
theorem dL_flawsAt_12 : decode cL_flawsAt 12 = .ok (.goto 7, 3) := by decide +kernel
theorem dL_flawsAt_15 : decode cL_flawsAt 15 = .ok (.astore 5, 2) := by decide +kernel
theorem dL_flawsAt_17 : decode cL_flawsAt 17 = .ok (.iconst 1, 1) := by decide +kernel
theorem dL_flawsAt_18 : decode cL_flawsAt 18 = .ok (.ireturn, 1) := by decide +kernel
theorem dL_flawsAt_19 : decode cL_flawsAt 19 = .ok (.iconst 0, 1) := by decide +kernel
theorem dL_flawsAt_20 : decode cL_flawsAt 20 = .ok (.ireturn, 1) := by decide +kernel
set_option maxRecDepth 20000 in
theorem ggL_root_X4_root : GoodIn wsL_root wsX4_root := goodIn_ca (goodIn_r _ [6, 7, 8, 9, 5, 10, 11, 12, 13, 14, 15, 16, 17, 18, 19, 20, 21, 22, 23, 24, 25, 26, 27, 28, 29, 30, 31, 32, 33, 34, 35] (by decide +kernel) (by decide +kernel)) (goodIn_sub (fun _ h => List.mem_cons_of_mem _ (List.mem_append_right _ h)) (by decide +kernel))
set_option maxRecDepth 20000 in
theorem gL_root_X4_root : GoodIn wsL_root (wsV RL 40 RX4 yX4_root wsX4_root) := goodIn_app (goodIn_of _ (by decide +kernel)) ggL_root_X4_root
theorem dL_root_0 : decode cL_root 0 = .ok (.aload_n 2, 1) := by decide +kernel
theorem dL_root_1 : decode cL_root 1 = .ok (.iconst 0, 1) := by decide +kernel
theorem dL_root_2 : decode cL_root 2 = .ok (.aload_n 0, 1) := by decide +kernel
theorem dL_root_3 : decode cL_root 3 = .ok (.iload_n 1, 1) := by decide +kernel
theorem dL_root_4 : decode cL_root 4 = .ok (.invokevirtual 40, 3) := by decide +kernel
theorem dL_root_7 : decode cL_root 7 = .ok (.i2l, 1) := by decide +kernel
theorem dL_root_8 : decode cL_root 8 = .ok (.lastore, 1) := by decide +kernel
theorem dL_root_9 : decode cL_root 9 = .ok (.goto 6, 3) := by decide +kernel
theorem dL_root_12 : decode cL_root 12 = .ok (.astore_n 3, 1) := by decide +kernel
theorem dL_root_13 : decode cL_root 13 = .ok (.iconst 1, 1) := by decide +kernel
theorem dL_root_14 : decode cL_root 14 = .ok (.ireturn, 1) := by decide +kernel
theorem dL_root_15 : decode cL_root 15 = .ok (.iconst 0, 1) := by decide +kernel
theorem dL_root_16 : decode cL_root 16 = .ok (.ireturn, 1) := by decide +kernel
set_option maxRecDepth 20000 in
theorem ggL_kind_X4_kind : GoodIn wsL_kind wsX4_kind := goodIn_ca (goodIn_ca (goodIn_r _ [7, 8, 9, 10, 11, 12, 13, 14, 6, 15, 16, 17, 18, 19, 20, 21, 22, 23, 24, 25, 26, 27, 28, 29, 30, 31, 32, 33, 34, 35, 36, 37, 38, 39, 40, 41, 42, 43, 44, 45, 46, 47, 48, 49, 50, 51, 52, 53] (by decide +kernel) (by decide +kernel)) (goodIn_sub (fun _ h => List.mem_cons_of_mem _ (List.mem_append_left _ (List.mem_append_right _ h))) (by decide +kernel))) (goodIn_sub (fun _ h => List.mem_cons_of_mem _ (List.mem_append_right _ h)) (by decide +kernel))
set_option maxRecDepth 20000 in
theorem gL_kind_X4_kind : GoodIn wsL_kind (wsV RL 43 RX4 yX4_kind wsX4_kind) := goodIn_app (goodIn_of _ (by decide +kernel)) ggL_kind_X4_kind
theorem dL_kind_0 : decode cL_kind 0 = .ok (.aload 4, 2) := by decide +kernel
theorem dL_kind_2 : decode cL_kind 2 = .ok (.iconst 0, 1) := by decide +kernel
theorem dL_kind_3 : decode cL_kind 3 = .ok (.aload_n 0, 1) := by decide +kernel
theorem dL_kind_4 : decode cL_kind 4 = .ok (.iload_n 1, 1) := by decide +kernel
theorem dL_kind_5 : decode cL_kind 5 = .ok (.iload_n 2, 1) := by decide +kernel
theorem dL_kind_6 : decode cL_kind 6 = .ok (.iload_n 3, 1) := by decide +kernel
theorem dL_kind_7 : decode cL_kind 7 = .ok (.invokevirtual 43, 3) := by decide +kernel
theorem dL_kind_10 : decode cL_kind 10 = .ok (.i2l, 1) := by decide +kernel
theorem dL_kind_11 : decode cL_kind 11 = .ok (.lastore, 1) := by decide +kernel
theorem dL_kind_12 : decode cL_kind 12 = .ok (.goto 11, 3) := by decide +kernel
theorem dL_kind_15 : decode cL_kind 15 = .ok (.astore 5, 2) := by decide +kernel
theorem dL_kind_17 : decode cL_kind 17 = .ok (.iconst 1, 1) := by decide +kernel
theorem dL_kind_18 : decode cL_kind 18 = .ok (.ireturn, 1) := by decide +kernel
theorem dL_kind_19 : decode cL_kind 19 = .ok (.astore 5, 2) := by decide +kernel
theorem dL_kind_21 : decode cL_kind 21 = .ok (.iconst 2, 1) := by decide +kernel
theorem dL_kind_22 : decode cL_kind 22 = .ok (.ireturn, 1) := by decide +kernel
theorem dL_kind_23 : decode cL_kind 23 = .ok (.iconst 0, 1) := by decide +kernel
theorem dL_kind_24 : decode cL_kind 24 = .ok (.ireturn, 1) := by decide +kernel
set_option maxRecDepth 20000 in
theorem ggL_let_X4_let : GoodIn wsL_let wsX4_let := goodIn_ca (goodIn_ca (goodIn_r _ [7, 8, 9, 10, 11, 12, 6, 13, 14, 15, 16, 17, 18, 19, 20, 21, 22, 23, 24, 25, 26, 27, 28, 29, 30, 31, 32, 33, 34, 35, 36, 37, 38, 39] (by decide +kernel) (by decide +kernel)) (goodIn_sub (fun _ h => List.mem_cons_of_mem _ (List.mem_append_left _ (List.mem_append_right _ h))) (by decide +kernel))) (goodIn_sub (fun _ h => List.mem_cons_of_mem _ (List.mem_append_right _ h)) (by decide +kernel))
set_option maxRecDepth 20000 in
theorem gL_let_X4_let : GoodIn wsL_let (wsV RL 46 RX4 yX4_let wsX4_let) := goodIn_app (goodIn_of _ (by decide +kernel)) ggL_let_X4_let
theorem dL_let_0 : decode cL_let 0 = .ok (.aload 4, 2) := by decide +kernel
theorem dL_let_2 : decode cL_let 2 = .ok (.iconst 0, 1) := by decide +kernel
theorem dL_let_3 : decode cL_let 3 = .ok (.aload_n 0, 1) := by decide +kernel
theorem dL_let_4 : decode cL_let 4 = .ok (.iload_n 1, 1) := by decide +kernel
theorem dL_let_5 : decode cL_let 5 = .ok (.iload_n 2, 1) := by decide +kernel
theorem dL_let_6 : decode cL_let 6 = .ok (.iload_n 3, 1) := by decide +kernel
theorem dL_let_7 : decode cL_let 7 = .ok (.invokevirtual 46, 3) := by decide +kernel
theorem dL_let_10 : decode cL_let 10 = .ok (.i2l, 1) := by decide +kernel
theorem dL_let_11 : decode cL_let 11 = .ok (.lastore, 1) := by decide +kernel
theorem dL_let_12 : decode cL_let 12 = .ok (.goto 11, 3) := by decide +kernel
theorem dL_let_15 : decode cL_let 15 = .ok (.astore 5, 2) := by decide +kernel
theorem dL_let_17 : decode cL_let 17 = .ok (.iconst 1, 1) := by decide +kernel
theorem dL_let_18 : decode cL_let 18 = .ok (.ireturn, 1) := by decide +kernel
theorem dL_let_19 : decode cL_let 19 = .ok (.astore 5, 2) := by decide +kernel
theorem dL_let_21 : decode cL_let 21 = .ok (.iconst 2, 1) := by decide +kernel
theorem dL_let_22 : decode cL_let 22 = .ok (.ireturn, 1) := by decide +kernel
theorem dL_let_23 : decode cL_let 23 = .ok (.iconst 0, 1) := by decide +kernel
theorem dL_let_24 : decode cL_let 24 = .ok (.ireturn, 1) := by decide +kernel
set_option maxRecDepth 20000 in
theorem ggL_order_X4_order : GoodIn wsL_order wsX4_order := goodIn_ca (goodIn_ca (goodIn_r _ [7, 8, 9, 10, 11, 12, 6, 13, 14, 15, 16, 17, 18, 19, 20, 21, 22, 23, 24, 25, 26, 27, 28, 29, 30, 31, 32, 33, 34, 35, 36, 37, 38, 39] (by decide +kernel) (by decide +kernel)) (goodIn_sub (fun _ h => List.mem_cons_of_mem _ (List.mem_append_left _ (List.mem_append_right _ h))) (by decide +kernel))) (goodIn_sub (fun _ h => List.mem_cons_of_mem _ (List.mem_append_right _ h)) (by decide +kernel))
set_option maxRecDepth 20000 in
theorem gL_order_X4_order : GoodIn wsL_order (wsV RL 49 RX4 yX4_order wsX4_order) := goodIn_app (goodIn_of _ (by decide +kernel)) ggL_order_X4_order
theorem dL_order_0 : decode cL_order 0 = .ok (.aload_n 3, 1) := by decide +kernel
theorem dL_order_1 : decode cL_order 1 = .ok (.iconst 0, 1) := by decide +kernel
theorem dL_order_2 : decode cL_order 2 = .ok (.aload_n 0, 1) := by decide +kernel
theorem dL_order_3 : decode cL_order 3 = .ok (.iload_n 1, 1) := by decide +kernel
theorem dL_order_4 : decode cL_order 4 = .ok (.iload_n 2, 1) := by decide +kernel
theorem dL_order_5 : decode cL_order 5 = .ok (.invokevirtual 49, 3) := by decide +kernel
theorem dL_order_8 : decode cL_order 8 = .ok (.i2l, 1) := by decide +kernel
theorem dL_order_9 : decode cL_order 9 = .ok (.lastore, 1) := by decide +kernel
theorem dL_order_10 : decode cL_order 10 = .ok (.goto 11, 3) := by decide +kernel
theorem dL_order_13 : decode cL_order 13 = .ok (.astore 4, 2) := by decide +kernel
theorem dL_order_15 : decode cL_order 15 = .ok (.iconst 1, 1) := by decide +kernel
theorem dL_order_16 : decode cL_order 16 = .ok (.ireturn, 1) := by decide +kernel
theorem dL_order_17 : decode cL_order 17 = .ok (.astore 4, 2) := by decide +kernel
theorem dL_order_19 : decode cL_order 19 = .ok (.iconst 2, 1) := by decide +kernel
theorem dL_order_20 : decode cL_order 20 = .ok (.ireturn, 1) := by decide +kernel
theorem dL_order_21 : decode cL_order 21 = .ok (.iconst 0, 1) := by decide +kernel
theorem dL_order_22 : decode cL_order 22 = .ok (.ireturn, 1) := by decide +kernel
set_option maxRecDepth 20000 in
theorem ggL_ofKind_X4_ofKind : GoodIn wsL_ofKind wsX4_ofKind := goodIn_ca (goodIn_ca (goodIn_r _ [7, 8, 9, 10, 11, 12, 6, 13, 14, 15, 16, 17, 18, 19, 20, 21, 22, 23, 24, 25, 26, 27, 28, 29, 30, 31, 32, 33, 34, 35, 36, 37, 38, 39] (by decide +kernel) (by decide +kernel)) (goodIn_sub (fun _ h => List.mem_cons_of_mem _ (List.mem_append_left _ (List.mem_append_right _ h))) (by decide +kernel))) (goodIn_sub (fun _ h => List.mem_cons_of_mem _ (List.mem_append_right _ h)) (by decide +kernel))
set_option maxRecDepth 20000 in
theorem gL_ofKind_X4_ofKind : GoodIn wsL_ofKind (wsV RL 52 RX4 yX4_ofKind wsX4_ofKind) := goodIn_app (goodIn_of _ (by decide +kernel)) ggL_ofKind_X4_ofKind
theorem dL_ofKind_0 : decode cL_ofKind 0 = .ok (.aload_n 3, 1) := by decide +kernel
theorem dL_ofKind_1 : decode cL_ofKind 1 = .ok (.iconst 0, 1) := by decide +kernel
theorem dL_ofKind_2 : decode cL_ofKind 2 = .ok (.aload_n 0, 1) := by decide +kernel
theorem dL_ofKind_3 : decode cL_ofKind 3 = .ok (.iload_n 1, 1) := by decide +kernel
theorem dL_ofKind_4 : decode cL_ofKind 4 = .ok (.iload_n 2, 1) := by decide +kernel
theorem dL_ofKind_5 : decode cL_ofKind 5 = .ok (.invokevirtual 52, 3) := by decide +kernel
theorem dL_ofKind_8 : decode cL_ofKind 8 = .ok (.i2l, 1) := by decide +kernel
theorem dL_ofKind_9 : decode cL_ofKind 9 = .ok (.lastore, 1) := by decide +kernel
theorem dL_ofKind_10 : decode cL_ofKind 10 = .ok (.goto 11, 3) := by decide +kernel
theorem dL_ofKind_13 : decode cL_ofKind 13 = .ok (.astore 4, 2) := by decide +kernel
theorem dL_ofKind_15 : decode cL_ofKind 15 = .ok (.iconst 1, 1) := by decide +kernel
theorem dL_ofKind_16 : decode cL_ofKind 16 = .ok (.ireturn, 1) := by decide +kernel
theorem dL_ofKind_17 : decode cL_ofKind 17 = .ok (.astore 4, 2) := by decide +kernel
theorem dL_ofKind_19 : decode cL_ofKind 19 = .ok (.iconst 2, 1) := by decide +kernel
theorem dL_ofKind_20 : decode cL_ofKind 20 = .ok (.ireturn, 1) := by decide +kernel
theorem dL_ofKind_21 : decode cL_ofKind 21 = .ok (.iconst 0, 1) := by decide +kernel
theorem dL_ofKind_22 : decode cL_ofKind 22 = .ok (.ireturn, 1) := by decide +kernel
set_option maxRecDepth 20000 in
theorem ggL_fits_X4_fits : GoodIn wsL_fits wsX4_fits := goodIn_ca (goodIn_r _ [6, 7, 8, 9, 5, 10, 11, 12, 13, 14, 15, 16, 17, 18, 19, 20, 21, 22, 23, 24, 25, 26, 27, 28, 29, 30, 31, 32, 33, 34, 35, 36, 37, 38, 39, 40, 41, 42, 43, 44, 45, 46, 47, 48, 49, 50, 51, 52, 53, 54, 55, 56, 57, 58, 59, 60, 61, 62, 63, 64, 65, 66, 67, 68, 69, 70, 71, 72, 73, 74, 75, 76, 77, 78, 79, 80, 81, 82, 83, 84] (by decide +kernel) (by decide +kernel)) (goodIn_sub (fun _ h => List.mem_cons_of_mem _ (List.mem_append_right _ h)) (by decide +kernel))
set_option maxRecDepth 20000 in
theorem gL_fits_X4_fits : GoodIn wsL_fits (wsV RL 55 RX4 yX4_fits wsX4_fits) := goodIn_app (goodIn_of _ (by decide +kernel)) ggL_fits_X4_fits
theorem dL_fits_0 : decode cL_fits 0 = .ok (.aload_n 3, 1) := by decide +kernel
theorem dL_fits_1 : decode cL_fits 1 = .ok (.iconst 0, 1) := by decide +kernel
theorem dL_fits_2 : decode cL_fits 2 = .ok (.aload_n 0, 1) := by decide +kernel
theorem dL_fits_3 : decode cL_fits 3 = .ok (.iload_n 1, 1) := by decide +kernel
theorem dL_fits_4 : decode cL_fits 4 = .ok (.iload_n 2, 1) := by decide +kernel
theorem dL_fits_5 : decode cL_fits 5 = .ok (.invokevirtual 55, 3) := by decide +kernel
theorem dL_fits_8 : decode cL_fits 8 = .ok (.i2l, 1) := by decide +kernel
theorem dL_fits_9 : decode cL_fits 9 = .ok (.lastore, 1) := by decide +kernel
theorem dL_fits_10 : decode cL_fits 10 = .ok (.goto 7, 3) := by decide +kernel
theorem dL_fits_13 : decode cL_fits 13 = .ok (.astore 4, 2) := by decide +kernel
theorem dL_fits_15 : decode cL_fits 15 = .ok (.iconst 1, 1) := by decide +kernel
theorem dL_fits_16 : decode cL_fits 16 = .ok (.ireturn, 1) := by decide +kernel
theorem dL_fits_17 : decode cL_fits 17 = .ok (.iconst 0, 1) := by decide +kernel
theorem dL_fits_18 : decode cL_fits 18 = .ok (.ireturn, 1) := by decide +kernel
set_option maxRecDepth 20000 in
theorem ggL_take_X4_take : GoodIn wsL_take wsX4_take := goodIn_ca (goodIn_ca (goodIn_r _ [7, 8, 9, 10, 11, 12, 13, 6, 14, 15, 16, 17, 18, 19, 20, 21, 22, 23, 24, 25, 26, 27, 28, 29, 30, 31, 32, 33, 34, 35, 36, 37, 38, 39, 40, 41, 42, 43, 44, 45, 46, 47, 48, 49, 50, 51, 52, 53, 54, 55, 56, 57, 58, 59, 60, 61, 62, 63, 64, 65, 66, 67, 68, 69, 70, 71, 72, 73, 74, 75, 76, 77, 78, 79, 80, 81, 82, 83, 84, 85, 86, 87, 88, 89, 90, 91, 92, 93, 94, 95, 96, 97, 98, 99, 100, 101, 102, 103, 104, 105, 106, 107, 108, 109, 110, 111, 112, 113, 114, 115, 116, 117, 118, 119, 120, 121, 122, 123, 124, 125, 126, 127, 128, 129, 130, 131, 132, 133, 134, 135, 136, 137, 138, 139, 140, 141, 142, 143, 144, 145, 146, 147, 148, 149, 150, 151, 152, 153] (by decide +kernel) (by decide +kernel)) (goodIn_sub (fun _ h => List.mem_cons_of_mem _ (List.mem_append_left _ (List.mem_append_right _ h))) (by decide +kernel))) (goodIn_sub (fun _ h => List.mem_cons_of_mem _ (List.mem_append_right _ h)) (by decide +kernel))
set_option maxRecDepth 20000 in
theorem gL_take_X4_take : GoodIn wsL_take (wsV RL 58 RX4 yX4_take wsX4_take) := goodIn_app (goodIn_of _ (by decide +kernel)) ggL_take_X4_take
theorem dL_take_0 : decode cL_take 0 = .ok (.aload_n 3, 1) := by decide +kernel
theorem dL_take_1 : decode cL_take 1 = .ok (.iconst 0, 1) := by decide +kernel
theorem dL_take_2 : decode cL_take 2 = .ok (.aload_n 0, 1) := by decide +kernel
theorem dL_take_3 : decode cL_take 3 = .ok (.iload_n 1, 1) := by decide +kernel
theorem dL_take_4 : decode cL_take 4 = .ok (.iload_n 2, 1) := by decide +kernel
theorem dL_take_5 : decode cL_take 5 = .ok (.invokevirtual 58, 3) := by decide +kernel
theorem dL_take_8 : decode cL_take 8 = .ok (.i2l, 1) := by decide +kernel
theorem dL_take_9 : decode cL_take 9 = .ok (.lastore, 1) := by decide +kernel
theorem dL_take_10 : decode cL_take 10 = .ok (.goto 11, 3) := by decide +kernel
theorem dL_take_13 : decode cL_take 13 = .ok (.astore 4, 2) := by decide +kernel
theorem dL_take_15 : decode cL_take 15 = .ok (.iconst 1, 1) := by decide +kernel
theorem dL_take_16 : decode cL_take 16 = .ok (.ireturn, 1) := by decide +kernel
theorem dL_take_17 : decode cL_take 17 = .ok (.astore 4, 2) := by decide +kernel
theorem dL_take_19 : decode cL_take 19 = .ok (.iconst 2, 1) := by decide +kernel
theorem dL_take_20 : decode cL_take 20 = .ok (.ireturn, 1) := by decide +kernel
theorem dL_take_21 : decode cL_take 21 = .ok (.iconst 0, 1) := by decide +kernel
theorem dL_take_22 : decode cL_take 22 = .ok (.ireturn, 1) := by decide +kernel
set_option maxRecDepth 20000 in
theorem ggL_plan_X4_plan : GoodIn wsL_plan wsX4_plan := goodIn_ca (goodIn_r _ [6, 7, 8, 9, 5, 10, 11, 12, 13, 14, 15, 16, 17, 18, 19, 20, 21, 22, 23, 24, 25, 26, 27, 28, 29, 30, 31, 32, 33, 34, 35, 36, 37, 38, 39, 40, 41, 42, 43, 44, 45, 46, 47, 48, 49, 50, 51, 52, 53, 54, 55, 56, 57, 58, 59, 60, 61, 62, 63, 64, 65, 66, 67, 68, 69, 70, 71, 72, 73, 74, 75, 76, 77, 78, 79, 80, 81, 82, 83, 84, 85, 86, 87, 88, 89, 90, 91, 92, 93, 94, 95, 96, 97, 98, 99, 100, 101, 102, 103, 104, 105, 106, 107, 108, 109, 110, 111, 112, 113, 114, 115, 116, 117, 118, 119, 120, 121, 122, 123, 124, 125, 126, 127, 128, 129, 130, 131, 132, 133, 134, 135, 136, 137, 138, 139, 140, 141, 142, 143, 144, 145, 146, 147, 148, 149, 150, 151, 152, 153, 154, 155, 156, 157, 158] (by decide +kernel) (by decide +kernel)) (goodIn_sub (fun _ h => List.mem_cons_of_mem _ (List.mem_append_right _ h)) (by decide +kernel))
set_option maxRecDepth 20000 in
theorem gL_plan_X4_plan : GoodIn wsL_plan (wsV RL 61 RX4 yX4_plan wsX4_plan) := goodIn_app (goodIn_of _ (by decide +kernel)) ggL_plan_X4_plan
theorem dL_plan_0 : decode cL_plan 0 = .ok (.aload_n 2, 1) := by decide +kernel
theorem dL_plan_1 : decode cL_plan 1 = .ok (.iconst 0, 1) := by decide +kernel
theorem dL_plan_2 : decode cL_plan 2 = .ok (.aload_n 0, 1) := by decide +kernel
theorem dL_plan_3 : decode cL_plan 3 = .ok (.iload_n 1, 1) := by decide +kernel
theorem dL_plan_4 : decode cL_plan 4 = .ok (.invokevirtual 61, 3) := by decide +kernel
theorem dL_plan_7 : decode cL_plan 7 = .ok (.i2l, 1) := by decide +kernel
theorem dL_plan_8 : decode cL_plan 8 = .ok (.lastore, 1) := by decide +kernel
theorem dL_plan_9 : decode cL_plan 9 = .ok (.goto 6, 3) := by decide +kernel
theorem dL_plan_12 : decode cL_plan 12 = .ok (.astore_n 3, 1) := by decide +kernel
theorem dL_plan_13 : decode cL_plan 13 = .ok (.iconst 1, 1) := by decide +kernel
theorem dL_plan_14 : decode cL_plan 14 = .ok (.ireturn, 1) := by decide +kernel
theorem dL_plan_15 : decode cL_plan 15 = .ok (.iconst 0, 1) := by decide +kernel
theorem dL_plan_16 : decode cL_plan 16 = .ok (.ireturn, 1) := by decide +kernel
set_option maxRecDepth 20000 in
theorem ggL_many_X4_many : GoodIn wsL_many wsX4_many := goodIn_ca (goodIn_r _ [6, 7, 8, 9, 10, 11, 12, 13, 14, 15, 16, 17, 18, 19, 20, 21, 22, 23, 24, 25, 26, 27, 28, 29, 30, 31, 32, 33, 34, 35, 36, 37, 38, 39, 40, 41, 42, 43, 44, 45, 46, 47, 48, 49, 50, 51, 52, 53, 54, 55, 56, 57, 58, 59, 60, 61, 62, 63, 64, 65, 66, 67, 68, 69, 70, 71, 72, 73, 74, 75, 76, 77, 78, 79, 80, 81] (by decide +kernel) (by decide +kernel)) (goodIn_sub (fun _ h => List.mem_cons_of_mem _ (List.mem_append_right _ h)) (by decide +kernel))
set_option maxRecDepth 20000 in
theorem gL_many_X4_many : GoodIn wsL_many (wsV RL 64 RX4 yX4_many wsX4_many) := goodIn_app (goodIn_of _ (by decide +kernel)) ggL_many_X4_many
theorem dL_many_0 : decode cL_many 0 = .ok (.aload_n 2, 1) := by decide +kernel
theorem dL_many_1 : decode cL_many 1 = .ok (.iconst 0, 1) := by decide +kernel
theorem dL_many_2 : decode cL_many 2 = .ok (.aload_n 0, 1) := by decide +kernel
theorem dL_many_3 : decode cL_many 3 = .ok (.iload_n 1, 1) := by decide +kernel
theorem dL_many_4 : decode cL_many 4 = .ok (.invokevirtual 64, 3) := by decide +kernel
theorem dL_many_7 : decode cL_many 7 = .ok (.i2l, 1) := by decide +kernel
theorem dL_many_8 : decode cL_many 8 = .ok (.lastore, 1) := by decide +kernel
theorem dL_many_9 : decode cL_many 9 = .ok (.goto 6, 3) := by decide +kernel
theorem dL_many_12 : decode cL_many 12 = .ok (.astore_n 3, 1) := by decide +kernel
theorem dL_many_13 : decode cL_many 13 = .ok (.iconst 1, 1) := by decide +kernel
theorem dL_many_14 : decode cL_many 14 = .ok (.ireturn, 1) := by decide +kernel
theorem dL_many_15 : decode cL_many 15 = .ok (.iconst 0, 1) := by decide +kernel
theorem dL_many_16 : decode cL_many 16 = .ok (.ireturn, 1) := by decide +kernel
set_option maxRecDepth 20000 in
theorem ggL_worth_X4_worth : GoodIn wsL_worth wsX4_worth := goodIn_ca (goodIn_r _ [6, 7, 8, 9, 10, 5, 11, 12, 13, 14, 15, 16, 17, 18, 19, 20, 21, 22, 23, 24, 25, 26, 27, 28, 29, 30, 31, 32, 33, 34, 35, 36, 37, 38, 39, 40, 41, 42, 43, 44, 45, 46, 47, 48, 49, 50, 51, 52, 53, 54, 55, 56, 57, 58, 59, 60, 61, 62, 63, 64, 65, 66, 67, 68, 69, 70, 71, 72, 73, 74, 75, 76, 77, 78, 79, 80, 81, 82, 83, 84, 85] (by decide +kernel) (by decide +kernel)) (goodIn_sub (fun _ h => List.mem_cons_of_mem _ (List.mem_append_right _ h)) (by decide +kernel))
set_option maxRecDepth 20000 in
theorem gL_worth_X4_worth : GoodIn wsL_worth (wsV RL 67 RX4 yX4_worth wsX4_worth) := goodIn_app (goodIn_of _ (by decide +kernel)) ggL_worth_X4_worth
theorem dL_worth_0 : decode cL_worth 0 = .ok (.aload 4, 2) := by decide +kernel
theorem dL_worth_2 : decode cL_worth 2 = .ok (.iconst 0, 1) := by decide +kernel
theorem dL_worth_3 : decode cL_worth 3 = .ok (.aload_n 0, 1) := by decide +kernel
theorem dL_worth_4 : decode cL_worth 4 = .ok (.iload_n 1, 1) := by decide +kernel
theorem dL_worth_5 : decode cL_worth 5 = .ok (.iload_n 2, 1) := by decide +kernel
theorem dL_worth_6 : decode cL_worth 6 = .ok (.iload_n 3, 1) := by decide +kernel
theorem dL_worth_7 : decode cL_worth 7 = .ok (.invokevirtual 67, 3) := by decide +kernel
theorem dL_worth_10 : decode cL_worth 10 = .ok (.i2l, 1) := by decide +kernel
theorem dL_worth_11 : decode cL_worth 11 = .ok (.lastore, 1) := by decide +kernel
theorem dL_worth_12 : decode cL_worth 12 = .ok (.goto 7, 3) := by decide +kernel
theorem dL_worth_15 : decode cL_worth 15 = .ok (.astore 5, 2) := by decide +kernel
theorem dL_worth_17 : decode cL_worth 17 = .ok (.iconst 1, 1) := by decide +kernel
theorem dL_worth_18 : decode cL_worth 18 = .ok (.ireturn, 1) := by decide +kernel
theorem dL_worth_19 : decode cL_worth 19 = .ok (.iconst 0, 1) := by decide +kernel
theorem dL_worth_20 : decode cL_worth 20 = .ok (.ireturn, 1) := by decide +kernel
set_option maxRecDepth 20000 in
theorem ggL_bestCut_X4_bestCut : GoodIn wsL_bestCut wsX4_bestCut := goodIn_ca (goodIn_r _ [6, 7, 8, 9, 10, 5, 11, 12, 13, 14, 15, 16, 17, 18, 19, 20, 21, 22, 23, 24, 25, 26, 27, 28, 29, 30, 31, 32, 33, 34, 35, 36, 37, 38, 39, 40, 41, 42, 43, 44, 45, 46, 47, 48, 49, 50, 51, 52, 53, 54, 55, 56, 57, 58, 59, 60, 61, 62, 63, 64, 65, 66, 67, 68, 69, 70, 71, 72, 73, 74, 75, 76, 77, 78, 79, 80, 81, 82, 83, 84, 85, 86, 87, 88] (by decide +kernel) (by decide +kernel)) (goodIn_sub (fun _ h => List.mem_cons_of_mem _ (List.mem_append_right _ h)) (by decide +kernel))
set_option maxRecDepth 20000 in
theorem gL_bestCut_X4_bestCut : GoodIn wsL_bestCut (wsV RL 70 RX4 yX4_bestCut wsX4_bestCut) := goodIn_app (goodIn_of _ (by decide +kernel)) ggL_bestCut_X4_bestCut
theorem dL_bestCut_0 : decode cL_bestCut 0 = .ok (.aload 4, 2) := by decide +kernel
theorem dL_bestCut_2 : decode cL_bestCut 2 = .ok (.iconst 0, 1) := by decide +kernel
theorem dL_bestCut_3 : decode cL_bestCut 3 = .ok (.aload_n 0, 1) := by decide +kernel
theorem dL_bestCut_4 : decode cL_bestCut 4 = .ok (.iload_n 1, 1) := by decide +kernel
theorem dL_bestCut_5 : decode cL_bestCut 5 = .ok (.iload_n 2, 1) := by decide +kernel
theorem dL_bestCut_6 : decode cL_bestCut 6 = .ok (.iload_n 3, 1) := by decide +kernel
theorem dL_bestCut_7 : decode cL_bestCut 7 = .ok (.invokevirtual 70, 3) := by decide +kernel
theorem dL_bestCut_10 : decode cL_bestCut 10 = .ok (.i2l, 1) := by decide +kernel
theorem dL_bestCut_11 : decode cL_bestCut 11 = .ok (.lastore, 1) := by decide +kernel
theorem dL_bestCut_12 : decode cL_bestCut 12 = .ok (.goto 7, 3) := by decide +kernel
theorem dL_bestCut_15 : decode cL_bestCut 15 = .ok (.astore 5, 2) := by decide +kernel
theorem dL_bestCut_17 : decode cL_bestCut 17 = .ok (.iconst 1, 1) := by decide +kernel
theorem dL_bestCut_18 : decode cL_bestCut 18 = .ok (.ireturn, 1) := by decide +kernel
theorem dL_bestCut_19 : decode cL_bestCut 19 = .ok (.iconst 0, 1) := by decide +kernel
theorem dL_bestCut_20 : decode cL_bestCut 20 = .ok (.ireturn, 1) := by decide +kernel
set_option maxRecDepth 20000 in
theorem ggL_column_X4_column : GoodIn wsL_column wsX4_column := goodIn_ca (goodIn_ca (goodIn_r _ [7, 8, 9, 10, 11, 12, 6, 13, 14, 15, 16, 17, 18, 19, 20, 21, 22, 23, 24, 25, 26, 27, 28, 29, 30, 31, 32, 33, 34, 35, 36, 37, 38, 39, 40, 41, 42, 43, 44, 45, 46, 47, 48, 49, 50, 51, 52, 53, 54, 55, 56, 57, 58, 59, 60, 61, 62, 63, 64, 65, 66, 67, 68, 69, 70, 71, 72, 73, 74, 75, 76, 77, 78, 79, 80, 81, 82, 83, 84, 85, 86, 87, 88, 89, 90, 91, 92, 93, 94, 95, 96, 97, 98, 99, 100, 101, 102, 103, 104, 105] (by decide +kernel) (by decide +kernel)) (goodIn_sub (fun _ h => List.mem_cons_of_mem _ (List.mem_append_left _ (List.mem_append_right _ h))) (by decide +kernel))) (goodIn_sub (fun _ h => List.mem_cons_of_mem _ (List.mem_append_right _ h)) (by decide +kernel))
set_option maxRecDepth 20000 in
theorem gL_column_X4_column : GoodIn wsL_column (wsV RL 73 RX4 yX4_column wsX4_column) := goodIn_app (goodIn_of _ (by decide +kernel)) ggL_column_X4_column
theorem dL_column_0 : decode cL_column 0 = .ok (.aload 5, 2) := by decide +kernel
theorem dL_column_2 : decode cL_column 2 = .ok (.iconst 0, 1) := by decide +kernel
theorem dL_column_3 : decode cL_column 3 = .ok (.aload_n 0, 1) := by decide +kernel
theorem dL_column_4 : decode cL_column 4 = .ok (.iload_n 1, 1) := by decide +kernel
theorem dL_column_5 : decode cL_column 5 = .ok (.iload_n 2, 1) := by decide +kernel
theorem dL_column_6 : decode cL_column 6 = .ok (.iload_n 3, 1) := by decide +kernel
theorem dL_column_7 : decode cL_column 7 = .ok (.iload 4, 2) := by decide +kernel
theorem dL_column_9 : decode cL_column 9 = .ok (.invokevirtual 73, 3) := by decide +kernel
theorem dL_column_12 : decode cL_column 12 = .ok (.i2l, 1) := by decide +kernel
theorem dL_column_13 : decode cL_column 13 = .ok (.lastore, 1) := by decide +kernel
theorem dL_column_14 : decode cL_column 14 = .ok (.goto 11, 3) := by decide +kernel
theorem dL_column_17 : decode cL_column 17 = .ok (.astore 6, 2) := by decide +kernel
theorem dL_column_19 : decode cL_column 19 = .ok (.iconst 1, 1) := by decide +kernel
theorem dL_column_20 : decode cL_column 20 = .ok (.ireturn, 1) := by decide +kernel
theorem dL_column_21 : decode cL_column 21 = .ok (.astore 6, 2) := by decide +kernel
theorem dL_column_23 : decode cL_column 23 = .ok (.iconst 2, 1) := by decide +kernel
theorem dL_column_24 : decode cL_column 24 = .ok (.ireturn, 1) := by decide +kernel
theorem dL_column_25 : decode cL_column 25 = .ok (.iconst 0, 1) := by decide +kernel
theorem dL_column_26 : decode cL_column 26 = .ok (.ireturn, 1) := by decide +kernel
set_option maxRecDepth 20000 in
theorem ggL_worthMore_X4_worthMore : GoodIn wsL_worthMore wsX4_worthMore := goodIn_ca (goodIn_ca (goodIn_r _ [7, 8, 9, 10, 11, 12, 13, 14, 6, 15, 16, 17, 18, 19, 20, 21, 22, 23, 24, 25, 26, 27, 28, 29, 30, 31, 32, 33, 34, 35, 36, 37, 38, 39, 40, 41, 42, 43, 44, 45, 46, 47, 48, 49, 50, 51, 52, 53, 54, 55, 56, 57, 58, 59, 60, 61, 62, 63, 64, 65, 66, 67, 68, 69, 70, 71, 72, 73, 74, 75, 76, 77, 78, 79, 80, 81, 82, 83, 84, 85, 86, 87, 88, 89, 90, 91, 92, 93, 94, 95, 96, 97, 98, 99, 100, 101, 102, 103, 104, 105, 106, 107, 108, 109, 110, 111, 112, 113, 114, 115, 116, 117, 118, 119, 120, 121, 122, 123, 124, 125, 126, 127, 128, 129, 130, 131, 132, 133, 134, 135, 136, 137, 138, 139, 140, 141, 142, 143, 144, 145, 146, 147, 148, 149, 150, 151, 152, 153, 154, 155, 156, 157, 158, 159, 160, 161, 162, 163, 164, 165, 166, 167] (by decide +kernel) (by decide +kernel)) (goodIn_sub (fun _ h => List.mem_cons_of_mem _ (List.mem_append_left _ (List.mem_append_right _ h))) (by decide +kernel))) (goodIn_sub (fun _ h => List.mem_cons_of_mem _ (List.mem_append_right _ h)) (by decide +kernel))
set_option maxRecDepth 20000 in
theorem gL_worthMore_X4_worthMore : GoodIn wsL_worthMore (wsV RL 77 RX4 yX4_worthMore wsX4_worthMore) := goodIn_app (goodIn_of _ (by decide +kernel)) ggL_worthMore_X4_worthMore
theorem dL_worthMore_0 : decode cL_worthMore 0 = .ok (.aload_n 3, 1) := by decide +kernel
theorem dL_worthMore_1 : decode cL_worthMore 1 = .ok (.iconst 0, 1) := by decide +kernel
theorem dL_worthMore_2 : decode cL_worthMore 2 = .ok (.aload_n 0, 1) := by decide +kernel
theorem dL_worthMore_3 : decode cL_worthMore 3 = .ok (.iload_n 1, 1) := by decide +kernel
theorem dL_worthMore_4 : decode cL_worthMore 4 = .ok (.iload_n 2, 1) := by decide +kernel
theorem dL_worthMore_5 : decode cL_worthMore 5 = .ok (.invokevirtual 77, 3) := by decide +kernel
theorem dL_worthMore_8 : decode cL_worthMore 8 = .ok (.i2l, 1) := by decide +kernel
theorem dL_worthMore_9 : decode cL_worthMore 9 = .ok (.lastore, 1) := by decide +kernel
theorem dL_worthMore_10 : decode cL_worthMore 10 = .ok (.goto 11, 3) := by decide +kernel
theorem dL_worthMore_13 : decode cL_worthMore 13 = .ok (.astore 4, 2) := by decide +kernel
theorem dL_worthMore_15 : decode cL_worthMore 15 = .ok (.iconst 1, 1) := by decide +kernel
theorem dL_worthMore_16 : decode cL_worthMore 16 = .ok (.ireturn, 1) := by decide +kernel
theorem dL_worthMore_17 : decode cL_worthMore 17 = .ok (.astore 4, 2) := by decide +kernel
theorem dL_worthMore_19 : decode cL_worthMore 19 = .ok (.iconst 2, 1) := by decide +kernel
theorem dL_worthMore_20 : decode cL_worthMore 20 = .ok (.ireturn, 1) := by decide +kernel
theorem dL_worthMore_21 : decode cL_worthMore 21 = .ok (.iconst 0, 1) := by decide +kernel
theorem dL_worthMore_22 : decode cL_worthMore 22 = .ok (.ireturn, 1) := by decide +kernel
set_option maxRecDepth 20000 in
theorem ggL_wasteBy_X4_wasteBy : GoodIn wsL_wasteBy wsX4_wasteBy := goodIn_ca (goodIn_r _ [6, 7, 8, 9, 10, 11, 5, 12, 13, 14, 15, 16, 17, 18, 19, 20, 21, 22, 23, 24, 25, 26, 27, 28, 29, 30, 31, 32, 33, 34, 35, 36, 37, 38, 39, 40, 41, 42, 43, 44, 45, 46, 47, 48, 49, 50, 51, 52, 53, 54, 55, 56, 57, 58, 59, 60, 61, 62, 63, 64, 65, 66, 67, 68, 69, 70, 71, 72, 73, 74, 75, 76, 77, 78, 79, 80, 81, 82, 83, 84, 85, 86, 87, 88, 89, 90, 91, 92, 93, 94, 95, 96, 97, 98, 99, 100, 101, 102, 103, 104, 105, 106, 107, 108, 109, 110, 111, 112, 113, 114, 115, 116, 117, 118, 119, 120, 121, 122, 123, 124, 125, 126, 127, 128, 129, 130, 131, 132, 133, 134, 135, 136, 137, 138, 139, 140, 141, 142, 143, 144, 145, 146, 147, 148, 149, 150, 151, 152, 153, 154, 155, 156, 157, 158, 159, 160, 161, 162, 163, 164, 165, 166, 167, 168, 169, 170, 171, 172, 173, 174, 175, 176, 177, 178, 179, 180, 181, 182] (by decide +kernel) (by decide +kernel)) (goodIn_sub (fun _ h => List.mem_cons_of_mem _ (List.mem_append_right _ h)) (by decide +kernel))
set_option maxRecDepth 20000 in
theorem gL_wasteBy_X4_wasteBy : GoodIn wsL_wasteBy (wsV RL 80 RX4 yX4_wasteBy wsX4_wasteBy) := goodIn_app (goodIn_of _ (by decide +kernel)) ggL_wasteBy_X4_wasteBy
theorem dL_wasteBy_0 : decode cL_wasteBy 0 = .ok (.aload_n 3, 1) := by decide +kernel
theorem dL_wasteBy_1 : decode cL_wasteBy 1 = .ok (.iconst 0, 1) := by decide +kernel
theorem dL_wasteBy_2 : decode cL_wasteBy 2 = .ok (.aload_n 0, 1) := by decide +kernel
theorem dL_wasteBy_3 : decode cL_wasteBy 3 = .ok (.iload_n 1, 1) := by decide +kernel
theorem dL_wasteBy_4 : decode cL_wasteBy 4 = .ok (.iload_n 2, 1) := by decide +kernel
theorem dL_wasteBy_5 : decode cL_wasteBy 5 = .ok (.invokevirtual 80, 3) := by decide +kernel
theorem dL_wasteBy_8 : decode cL_wasteBy 8 = .ok (.i2l, 1) := by decide +kernel
theorem dL_wasteBy_9 : decode cL_wasteBy 9 = .ok (.lastore, 1) := by decide +kernel
theorem dL_wasteBy_10 : decode cL_wasteBy 10 = .ok (.goto 7, 3) := by decide +kernel
theorem dL_wasteBy_13 : decode cL_wasteBy 13 = .ok (.astore 4, 2) := by decide +kernel
theorem dL_wasteBy_15 : decode cL_wasteBy 15 = .ok (.iconst 1, 1) := by decide +kernel
theorem dL_wasteBy_16 : decode cL_wasteBy 16 = .ok (.ireturn, 1) := by decide +kernel
theorem dL_wasteBy_17 : decode cL_wasteBy 17 = .ok (.iconst 0, 1) := by decide +kernel
theorem dL_wasteBy_18 : decode cL_wasteBy 18 = .ok (.ireturn, 1) := by decide +kernel
set_option maxRecDepth 20000 in
theorem ggL_planPays_X4_planPays : GoodIn wsL_planPays wsX4_planPays := goodIn_ca (goodIn_r _ [6, 7, 8, 9, 10, 5, 11, 12, 13, 14, 15, 16, 17, 18, 19, 20, 21, 22, 23, 24, 25, 26, 27, 28, 29, 30, 31, 32, 33, 34, 35, 36, 37, 38, 39, 40, 41, 42, 43, 44, 45, 46, 47, 48, 49, 50, 51, 52, 53, 54, 55, 56, 57, 58, 59, 60, 61, 62, 63, 64, 65, 66, 67, 68, 69, 70, 71, 72, 73, 74, 75, 76, 77, 78, 79, 80, 81, 82, 83, 84, 85, 86, 87, 88, 89, 90, 91, 92, 93, 94, 95, 96, 97, 98, 99, 100, 101, 102, 103, 104, 105, 106, 107, 108, 109, 110, 111, 112, 113, 114, 115, 116, 117, 118, 119, 120, 121, 122, 123, 124, 125, 126, 127, 128, 129, 130, 131, 132, 133, 134, 135, 136, 137, 138, 139, 140, 141, 142, 143, 144, 145, 146, 147, 148, 149, 150, 151, 152, 153, 154, 155, 156, 157, 158, 159, 160, 161, 162, 163, 164, 165, 166, 167, 168, 169, 170, 171, 172, 173, 174, 175, 176, 177, 178, 179, 180, 181, 182] (by decide +kernel) (by decide +kernel)) (goodIn_sub (fun _ h => List.mem_cons_of_mem _ (List.mem_append_right _ h)) (by decide +kernel))
set_option maxRecDepth 20000 in
theorem gL_planPays_X4_planPays : GoodIn wsL_planPays (wsV RL 83 RX4 yX4_planPays wsX4_planPays) := goodIn_app (goodIn_of _ (by decide +kernel)) ggL_planPays_X4_planPays
theorem dL_planPays_0 : decode cL_planPays 0 = .ok (.aload_n 2, 1) := by decide +kernel
theorem dL_planPays_1 : decode cL_planPays 1 = .ok (.iconst 0, 1) := by decide +kernel
theorem dL_planPays_2 : decode cL_planPays 2 = .ok (.aload_n 0, 1) := by decide +kernel
theorem dL_planPays_3 : decode cL_planPays 3 = .ok (.iload_n 1, 1) := by decide +kernel
theorem dL_planPays_4 : decode cL_planPays 4 = .ok (.invokevirtual 83, 3) := by decide +kernel
theorem dL_planPays_7 : decode cL_planPays 7 = .ok (.i2l, 1) := by decide +kernel
theorem dL_planPays_8 : decode cL_planPays 8 = .ok (.lastore, 1) := by decide +kernel
theorem dL_planPays_9 : decode cL_planPays 9 = .ok (.goto 6, 3) := by decide +kernel
theorem dL_planPays_12 : decode cL_planPays 12 = .ok (.astore_n 3, 1) := by decide +kernel
theorem dL_planPays_13 : decode cL_planPays 13 = .ok (.iconst 1, 1) := by decide +kernel
theorem dL_planPays_14 : decode cL_planPays 14 = .ok (.ireturn, 1) := by decide +kernel
theorem dL_planPays_15 : decode cL_planPays 15 = .ok (.iconst 0, 1) := by decide +kernel
theorem dL_planPays_16 : decode cL_planPays 16 = .ok (.ireturn, 1) := by decide +kernel
