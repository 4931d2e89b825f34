set_option maxRecDepth 20000 in
theorem ggX4_init_X3_init : GoodIn wsX4_init wsX3_init := goodIn_r _ [15, 16, 2, 3, 17, 18, 19, 20, 21, 22, 23, 24, 25, 26, 27, 28, 29, 30, 31, 32, 33, 41, 42, 43, 44, 45, 54, 55, 56, 57, 58, 59, 60, 61, 62, 63, 64, 65, 66, 67, 68] (by decide +kernel) (by decide +kernel)
set_option maxRecDepth 20000 in
theorem gX4_init_X3_init : GoodIn wsX4_init (wsX3_init) := ggX4_init_X3_init
set_option maxRecDepth 20000 in
theorem ggX4_init_X1_init : GoodIn wsX4_init wsX1_init := goodIn_r _ [35, 36, 2, 3, 29, 37, 38, 39, 40, 49, 50, 51, 52, 53] (by decide +kernel) (by decide +kernel)
set_option maxRecDepth 20000 in
theorem gX4_init_X1_init_n21 : GoodIn wsX4_init (wsX1_init) := ggX4_init_X1_init
theorem dX4_init_0 : decode cX4_init 0 = .ok (.aload_n 0, 1) := by decide +kernel
theorem dX4_init_1 : decode cX4_init 1 = .ok (.invokespecial 3, 3) := by decide +kernel
theorem dX4_init_4 : decode cX4_init 4 = .ok (.aload_n 0, 1) := by decide +kernel
theorem dX4_init_5 : decode cX4_init 5 = .ok (.new 9, 3) := by decide +kernel
theorem dX4_init_8 : decode cX4_init 8 = .ok (.dup, 1) := by decide +kernel
theorem dX4_init_9 : decode cX4_init 9 = .ok (.invokespecial 11, 3) := by decide +kernel
theorem dX4_init_12 : decode cX4_init 12 = .ok (.putfield 12, 3) := by decide +kernel
theorem dX4_init_15 : decode cX4_init 15 = .ok (.aload_n 0, 1) := by decide +kernel
theorem dX4_init_16 : decode cX4_init 16 = .ok (.new 9, 3) := by decide +kernel
theorem dX4_init_19 : decode cX4_init 19 = .ok (.dup, 1) := by decide +kernel
theorem dX4_init_20 : decode cX4_init 20 = .ok (.invokespecial 11, 3) := by decide +kernel
theorem dX4_init_23 : decode cX4_init 23 = .ok (.putfield 16, 3) := by decide +kernel
theorem dX4_init_26 : decode cX4_init 26 = .ok (.aload_n 0, 1) := by decide +kernel
theorem dX4_init_27 : decode cX4_init 27 = .ok (.new 19, 3) := by decide +kernel
theorem dX4_init_30 : decode cX4_init 30 = .ok (.dup, 1) := by decide +kernel
theorem dX4_init_31 : decode cX4_init 31 = .ok (.invokespecial 21, 3) := by decide +kernel
theorem dX4_init_34 : decode cX4_init 34 = .ok (.putfield 22, 3) := by decide +kernel
theorem dX4_init_37 : decode cX4_init 37 = .ok (.return_, 1) := by decide +kernel
set_option maxRecDepth 20000 in
theorem ggX4_slab_X4_requirePiece : GoodIn wsX4_slab wsX4_requirePiece := goodIn_ca (goodIn_r _ [7, 8, 9, 10, 11, 6, 12] (by decide +kernel) (by decide +kernel)) (goodIn_sub (fun _ h => List.mem_cons_of_mem _ (List.mem_append_right _ h)) (by decide +kernel))
set_option maxRecDepth 20000 in
theorem gX4_slab_X4_requirePiece : GoodIn wsX4_slab (va_wsS RX4 26 yX4_requirePiece wsX4_requirePiece) := goodIn_app (goodIn_of _ (by decide +kernel)) ggX4_slab_X4_requirePiece
set_option maxRecDepth 20000 in
theorem ggX4_slab_X3_addSlab : GoodIn wsX4_slab wsX3_addSlab := goodIn_r _ [17, 18, 19, 20, 21, 22, 16, 23, 24, 25, 26, 27, 28, 29, 30, 31, 32, 33, 34, 38, 39, 40, 41, 42, 43, 44, 45, 46, 47, 48, 49] (by decide +kernel) (by decide +kernel)
set_option maxRecDepth 20000 in
theorem gX4_slab_X3_addSlab : GoodIn wsX4_slab (wsV RX4 41 RX3 yX3_addSlab wsX3_addSlab) := goodIn_app (goodIn_of _ (by decide +kernel)) ggX4_slab_X3_addSlab
theorem dX4_slab_0 : decode cX4_slab 0 = .ok (.iload_n 1, 1) := by decide +kernel
theorem dX4_slab_1 : decode cX4_slab 1 = .ok (.iload_n 2, 1) := by decide +kernel
theorem dX4_slab_2 : decode cX4_slab 2 = .ok (.iload_n 3, 1) := by decide +kernel
theorem dX4_slab_3 : decode cX4_slab 3 = .ok (.invokestatic 26, 3) := by decide +kernel
theorem dX4_slab_6 : decode cX4_slab 6 = .ok (.aload_n 0, 1) := by decide +kernel
theorem dX4_slab_7 : decode cX4_slab 7 = .ok (.getfield 12, 3) := by decide +kernel
theorem dX4_slab_10 : decode cX4_slab 10 = .ok (.getfield 30, 3) := by decide +kernel
theorem dX4_slab_13 : decode cX4_slab 13 = .ok (.bipush 40, 2) := by decide +kernel
theorem dX4_slab_15 : decode cX4_slab 15 = .ok (.if_icmp .lt 13, 3) := by decide +kernel
theorem dX4_slab_18 : decode cX4_slab 18 = .ok (.new 34, 3) := by decide +kernel
theorem dX4_slab_21 : decode cX4_slab 21 = .ok (.dup, 1) := by decide +kernel
theorem dX4_slab_22 : decode cX4_slab 22 = .ok (.ldc 36, 2) := by decide +kernel
theorem dX4_slab_24 : decode cX4_slab 24 = .ok (.invokespecial 38, 3) := by decide +kernel
theorem dX4_slab_27 : decode cX4_slab 27 = .ok (.athrow, 1) := by decide +kernel
theorem dX4_slab_28 : decode cX4_slab 28 = .ok (.aload_n 0, 1) := by decide +kernel
theorem dX4_slab_29 : decode cX4_slab 29 = .ok (.getfield 12, 3) := by decide +kernel
theorem dX4_slab_32 : decode cX4_slab 32 = .ok (.getfield 30, 3) := by decide +kernel
theorem dX4_slab_35 : decode cX4_slab 35 = .ok (.istore 4, 2) := by decide +kernel
theorem dX4_slab_37 : decode cX4_slab 37 = .ok (.aload_n 0, 1) := by decide +kernel
theorem dX4_slab_38 : decode cX4_slab 38 = .ok (.getfield 12, 3) := by decide +kernel
theorem dX4_slab_41 : decode cX4_slab 41 = .ok (.iload_n 1, 1) := by decide +kernel
theorem dX4_slab_42 : decode cX4_slab 42 = .ok (.iload_n 2, 1) := by decide +kernel
theorem dX4_slab_43 : decode cX4_slab 43 = .ok (.iload_n 3, 1) := by decide +kernel
theorem dX4_slab_44 : decode cX4_slab 44 = .ok (.iconst (-1), 1) := by decide +kernel
theorem dX4_slab_45 : decode cX4_slab 45 = .ok (.invokevirtual 41, 3) := by decide +kernel
theorem dX4_slab_48 : decode cX4_slab 48 = .ok (.pop, 1) := by decide +kernel
theorem dX4_slab_49 : decode cX4_slab 49 = .ok (.iload 4, 2) := by decide +kernel
theorem dX4_slab_51 : decode cX4_slab 51 = .ok (.ireturn, 1) := by decide +kernel
set_option maxRecDepth 20000 in
theorem ggX4_flaw_X4_slabOf : GoodIn wsX4_flaw wsX4_slabOf := goodIn_ca (goodIn_r _ [7, 8, 9, 10, 11, 12, 13, 14, 15, 16, 17, 35, 36, 37, 38, 39, 40, 41, 42] (by decide +kernel) (by decide +kernel)) (goodIn_sub (fun _ h => List.mem_cons_of_mem _ (List.mem_append_right _ h)) (by decide +kernel))
set_option maxRecDepth 20000 in
theorem gX4_flaw_X4_slabOf : GoodIn wsX4_flaw (wsV RX4 45 RX4 yX4_slabOf wsX4_slabOf) := goodIn_app (goodIn_of _ (by decide +kernel)) ggX4_flaw_X4_slabOf
set_option maxRecDepth 20000 in
theorem ggX4_flaw_X4_requirePoint : GoodIn wsX4_flaw wsX4_requirePoint := goodIn_ca (goodIn_r _ [20, 8, 9, 28, 29, 30, 31, 32, 33, 34] (by decide +kernel) (by decide +kernel)) (goodIn_sub (fun _ h => List.mem_cons_of_mem _ (List.mem_append_right _ h)) (by decide +kernel))
set_option maxRecDepth 20000 in
theorem gX4_flaw_X4_requirePoint : GoodIn wsX4_flaw (va_wsS RX4 49 yX4_requirePoint wsX4_requirePoint) := goodIn_app (goodIn_of _ (by decide +kernel)) ggX4_flaw_X4_requirePoint
set_option maxRecDepth 20000 in
theorem ggX4_flaw_X2_addFlaw : GoodIn wsX4_flaw wsX2_addFlaw := goodIn_r _ [25, 26, 27, 28, 29, 30, 31, 32, 33, 34] (by decide +kernel) (by decide +kernel)
set_option maxRecDepth 20000 in
theorem gX4_flaw_X2_addFlaw : GoodIn wsX4_flaw (wsV RX4 63 RX2 yX2_addFlaw wsX2_addFlaw) := goodIn_app (goodIn_of _ (by decide +kernel)) ggX4_flaw_X2_addFlaw
theorem dX4_flaw_0 : decode cX4_flaw 0 = .ok (.aload_n 0, 1) := by decide +kernel
theorem dX4_flaw_1 : decode cX4_flaw 1 = .ok (.iload_n 1, 1) := by decide +kernel
theorem dX4_flaw_2 : decode cX4_flaw 2 = .ok (.invokevirtual 45, 3) := by decide +kernel
theorem dX4_flaw_5 : decode cX4_flaw 5 = .ok (.astore 4, 2) := by decide +kernel
theorem dX4_flaw_7 : decode cX4_flaw 7 = .ok (.aload 4, 2) := by decide +kernel
theorem dX4_flaw_9 : decode cX4_flaw 9 = .ok (.iload_n 2, 1) := by decide +kernel
theorem dX4_flaw_10 : decode cX4_flaw 10 = .ok (.iload_n 3, 1) := by decide +kernel
theorem dX4_flaw_11 : decode cX4_flaw 11 = .ok (.invokestatic 49, 3) := by decide +kernel
theorem dX4_flaw_14 : decode cX4_flaw 14 = .ok (.aload 4, 2) := by decide +kernel
theorem dX4_flaw_16 : decode cX4_flaw 16 = .ok (.getfield 53, 3) := by decide +kernel
theorem dX4_flaw_19 : decode cX4_flaw 19 = .ok (.ifCond .ne 13, 3) := by decide +kernel
theorem dX4_flaw_22 : decode cX4_flaw 22 = .ok (.aload 4, 2) := by decide +kernel
theorem dX4_flaw_24 : decode cX4_flaw 24 = .ok (.getfield 58, 3) := by decide +kernel
theorem dX4_flaw_27 : decode cX4_flaw 27 = .ok (.bipush 6, 2) := by decide +kernel
theorem dX4_flaw_29 : decode cX4_flaw 29 = .ok (.if_icmp .lt 13, 3) := by decide +kernel
theorem dX4_flaw_32 : decode cX4_flaw 32 = .ok (.new 34, 3) := by decide +kernel
theorem dX4_flaw_35 : decode cX4_flaw 35 = .ok (.dup, 1) := by decide +kernel
theorem dX4_flaw_36 : decode cX4_flaw 36 = .ok (.ldc 61, 2) := by decide +kernel
theorem dX4_flaw_38 : decode cX4_flaw 38 = .ok (.invokespecial 38, 3) := by decide +kernel
theorem dX4_flaw_41 : decode cX4_flaw 41 = .ok (.athrow, 1) := by decide +kernel
theorem dX4_flaw_42 : decode cX4_flaw 42 = .ok (.aload 4, 2) := by decide +kernel
theorem dX4_flaw_44 : decode cX4_flaw 44 = .ok (.iload_n 2, 1) := by decide +kernel
theorem dX4_flaw_45 : decode cX4_flaw 45 = .ok (.iload_n 3, 1) := by decide +kernel
theorem dX4_flaw_46 : decode cX4_flaw 46 = .ok (.invokevirtual 63, 3) := by decide +kernel
theorem dX4_flaw_49 : decode cX4_flaw 49 = .ok (.aload 4, 2) := by decide +kernel
theorem dX4_flaw_51 : decode cX4_flaw 51 = .ok (.getfield 58, 3) := by decide +kernel
theorem dX4_flaw_54 : decode cX4_flaw 54 = .ok (.ireturn, 1) := by decide +kernel
set_option maxRecDepth 20000 in
theorem ggX4_cut_X4_slabOf : GoodIn wsX4_cut wsX4_slabOf := goodIn_ca (goodIn_r _ [10, 11, 12, 5, 13, 14, 15, 16, 17, 18, 19, 59, 60, 61, 69, 70, 71, 72, 73] (by decide +kernel) (by decide +kernel)) (goodIn_sub (fun _ h => List.mem_cons_of_mem _ (List.mem_append_right _ h)) (by decide +kernel))
set_option maxRecDepth 20000 in
theorem gX4_cut_X4_slabOf : GoodIn wsX4_cut (wsV RX4 45 RX4 yX4_slabOf wsX4_slabOf) := goodIn_app (goodIn_of _ (by decide +kernel)) ggX4_cut_X4_slabOf
set_option maxRecDepth 20000 in
theorem ggX4_cut_X3_canCut : GoodIn wsX4_cut wsX3_canCut := goodIn_r _ [23, 24, 25, 26, 27, 28, 29, 30, 31, 69, 70, 71, 72, 73, 62, 63, 64, 65, 66, 67, 68] (by decide +kernel) (by decide +kernel)
set_option maxRecDepth 20000 in
theorem gX4_cut_X3_canCut : GoodIn wsX4_cut (wsV RX4 75 RX3 yX3_canCut wsX3_canCut) := goodIn_app (goodIn_of _ (by decide +kernel)) ggX4_cut_X3_canCut
set_option maxRecDepth 20000 in
theorem ggX4_cut_X3_cutSlab : GoodIn wsX4_cut wsX3_cutSlab := goodIn_r _ [35, 18, 24, 36, 14, 15, 16, 17, 19, 37, 21, 22, 23, 25, 26, 27, 28, 29, 30, 31, 38, 39, 40, 41, 42, 43, 44, 45, 46, 47, 48, 49, 50, 51, 52, 53, 54, 55, 56, 57, 58, 69, 70, 71, 72, 73, 62, 63, 64, 65, 66, 67, 68] (by decide +kernel) (by decide +kernel)
set_option maxRecDepth 20000 in
theorem gX4_cut_X3_cutSlab : GoodIn wsX4_cut (wsV RX4 83 RX3 yX3_cutSlab wsX3_cutSlab) := goodIn_app (goodIn_of _ (by decide +kernel)) ggX4_cut_X3_cutSlab
theorem dX4_cut_0 : decode cX4_cut 0 = .ok (.aload_n 0, 1) := by decide +kernel
theorem dX4_cut_1 : decode cX4_cut 1 = .ok (.iload_n 1, 1) := by decide +kernel
theorem dX4_cut_2 : decode cX4_cut 2 = .ok (.invokevirtual 45, 3) := by decide +kernel
theorem dX4_cut_5 : decode cX4_cut 5 = .ok (.astore 4, 2) := by decide +kernel
theorem dX4_cut_7 : decode cX4_cut 7 = .ok (.aload_n 0, 1) := by decide +kernel
theorem dX4_cut_8 : decode cX4_cut 8 = .ok (.getfield 12, 3) := by decide +kernel
theorem dX4_cut_11 : decode cX4_cut 11 = .ok (.aload 4, 2) := by decide +kernel
theorem dX4_cut_13 : decode cX4_cut 13 = .ok (.iload_n 2, 1) := by decide +kernel
theorem dX4_cut_14 : decode cX4_cut 14 = .ok (.iload_n 3, 1) := by decide +kernel
theorem dX4_cut_15 : decode cX4_cut 15 = .ok (.invokevirtual 75, 3) := by decide +kernel
theorem dX4_cut_18 : decode cX4_cut 18 = .ok (.ifCond .ne 13, 3) := by decide +kernel
theorem dX4_cut_21 : decode cX4_cut 21 = .ok (.new 67, 3) := by decide +kernel
theorem dX4_cut_24 : decode cX4_cut 24 = .ok (.dup, 1) := by decide +kernel
theorem dX4_cut_25 : decode cX4_cut 25 = .ok (.ldc 79, 2) := by decide +kernel
theorem dX4_cut_27 : decode cX4_cut 27 = .ok (.invokespecial 71, 3) := by decide +kernel
theorem dX4_cut_30 : decode cX4_cut 30 = .ok (.athrow, 1) := by decide +kernel
theorem dX4_cut_31 : decode cX4_cut 31 = .ok (.aload 4, 2) := by decide +kernel
theorem dX4_cut_33 : decode cX4_cut 33 = .ok (.getfield 53, 3) := by decide +kernel
theorem dX4_cut_36 : decode cX4_cut 36 = .ok (.ifCond .ne 15, 3) := by decide +kernel
theorem dX4_cut_39 : decode cX4_cut 39 = .ok (.aload_n 0, 1) := by decide +kernel
theorem dX4_cut_40 : decode cX4_cut 40 = .ok (.getfield 12, 3) := by decide +kernel
theorem dX4_cut_43 : decode cX4_cut 43 = .ok (.getfield 30, 3) := by decide +kernel
theorem dX4_cut_46 : decode cX4_cut 46 = .ok (.bipush 38, 2) := by decide +kernel
theorem dX4_cut_48 : decode cX4_cut 48 = .ok (.if_icmp .le 13, 3) := by decide +kernel
theorem dX4_cut_51 : decode cX4_cut 51 = .ok (.new 34, 3) := by decide +kernel
theorem dX4_cut_54 : decode cX4_cut 54 = .ok (.dup, 1) := by decide +kernel
theorem dX4_cut_55 : decode cX4_cut 55 = .ok (.ldc 81, 2) := by decide +kernel
theorem dX4_cut_57 : decode cX4_cut 57 = .ok (.invokespecial 38, 3) := by decide +kernel
theorem dX4_cut_60 : decode cX4_cut 60 = .ok (.athrow, 1) := by decide +kernel
theorem dX4_cut_61 : decode cX4_cut 61 = .ok (.aload_n 0, 1) := by decide +kernel
theorem dX4_cut_62 : decode cX4_cut 62 = .ok (.getfield 12, 3) := by decide +kernel
theorem dX4_cut_65 : decode cX4_cut 65 = .ok (.iload_n 1, 1) := by decide +kernel
theorem dX4_cut_66 : decode cX4_cut 66 = .ok (.iload_n 2, 1) := by decide +kernel
theorem dX4_cut_67 : decode cX4_cut 67 = .ok (.iload_n 3, 1) := by decide +kernel
theorem dX4_cut_68 : decode cX4_cut 68 = .ok (.invokevirtual 83, 3) := by decide +kernel
theorem dX4_cut_71 : decode cX4_cut 71 = .ok (.ireturn, 1) := by decide +kernel
set_option maxRecDepth 20000 in
theorem ggX4_ofSlab_X4_slabOf : GoodIn wsX4_ofSlab wsX4_slabOf := goodIn_ca (goodIn_r _ [7, 8, 9, 10, 11, 12, 13, 14, 15, 16, 17, 25, 26, 27, 28, 29, 30, 31, 32] (by decide +kernel) (by decide +kernel)) (goodIn_sub (fun _ h => List.mem_cons_of_mem _ (List.mem_append_right _ h)) (by decide +kernel))
set_option maxRecDepth 20000 in
theorem gX4_ofSlab_X4_slabOf : GoodIn wsX4_ofSlab (wsV RX4 45 RX4 yX4_slabOf wsX4_slabOf) := goodIn_app (goodIn_of _ (by decide +kernel)) ggX4_ofSlab_X4_slabOf
theorem dX4_ofSlab_0 : decode cX4_ofSlab 0 = .ok (.aload_n 0, 1) := by decide +kernel
theorem dX4_ofSlab_1 : decode cX4_ofSlab 1 = .ok (.iload_n 1, 1) := by decide +kernel
theorem dX4_ofSlab_2 : decode cX4_ofSlab 2 = .ok (.invokevirtual 45, 3) := by decide +kernel
theorem dX4_ofSlab_5 : decode cX4_ofSlab 5 = .ok (.astore_n 3, 1) := by decide +kernel
theorem dX4_ofSlab_6 : decode cX4_ofSlab 6 = .ok (.iload_n 2, 1) := by decide +kernel
theorem dX4_ofSlab_7 : decode cX4_ofSlab 7 = .ok (.tableswitch 67 0 5 #[37, 42, 47, 52, 57, 62], 37) := by decide +kernel
theorem dX4_ofSlab_44 : decode cX4_ofSlab 44 = .ok (.aload_n 3, 1) := by decide +kernel
theorem dX4_ofSlab_45 : decode cX4_ofSlab 45 = .ok (.getfield 93, 3) := by decide +kernel
theorem dX4_ofSlab_48 : decode cX4_ofSlab 48 = .ok (.ireturn, 1) := by decide +kernel
theorem dX4_ofSlab_49 : decode cX4_ofSlab 49 = .ok (.aload_n 3, 1) := by decide +kernel
theorem dX4_ofSlab_50 : decode cX4_ofSlab 50 = .ok (.getfield 96, 3) := by decide +kernel
theorem dX4_ofSlab_53 : decode cX4_ofSlab 53 = .ok (.ireturn, 1) := by decide +kernel
theorem dX4_ofSlab_54 : decode cX4_ofSlab 54 = .ok (.aload_n 3, 1) := by decide +kernel
theorem dX4_ofSlab_55 : decode cX4_ofSlab 55 = .ok (.getfield 99, 3) := by decide +kernel
theorem dX4_ofSlab_58 : decode cX4_ofSlab 58 = .ok (.ireturn, 1) := by decide +kernel
theorem dX4_ofSlab_59 : decode cX4_ofSlab 59 = .ok (.aload_n 3, 1) := by decide +kernel
theorem dX4_ofSlab_60 : decode cX4_ofSlab 60 = .ok (.getfield 58, 3) := by decide +kernel
theorem dX4_ofSlab_63 : decode cX4_ofSlab 63 = .ok (.ireturn, 1) := by decide +kernel
theorem dX4_ofSlab_64 : decode cX4_ofSlab 64 = .ok (.aload_n 3, 1) := by decide +kernel
theorem dX4_ofSlab_65 : decode cX4_ofSlab 65 = .ok (.getfield 102, 3) := by decide +kernel
theorem dX4_ofSlab_68 : decode cX4_ofSlab 68 = .ok (.ireturn, 1) := by decide +kernel
theorem dX4_ofSlab_69 : decode cX4_ofSlab 69 = .ok (.aload_n 3, 1) := by decide +kernel
theorem dX4_ofSlab_70 : decode cX4_ofSlab 70 = .ok (.getfield 53, 3) := by decide +kernel
theorem dX4_ofSlab_73 : decode cX4_ofSlab 73 = .ok (.ireturn, 1) := by decide +kernel
theorem dX4_ofSlab_74 : decode cX4_ofSlab 74 = .ok (.new 67, 3) := by decide +kernel
theorem dX4_ofSlab_77 : decode cX4_ofSlab 77 = .ok (.dup, 1) := by decide +kernel
theorem dX4_ofSlab_78 : decode cX4_ofSlab 78 = .ok (.ldc 105, 2) := by decide +kernel
theorem dX4_ofSlab_80 : decode cX4_ofSlab 80 = .ok (.invokespecial 71, 3) := by decide +kernel
theorem dX4_ofSlab_83 : decode cX4_ofSlab 83 = .ok (.athrow, 1) := by decide +kernel
set_option maxRecDepth 20000 in
theorem ggX4_root_X4_slabOf : GoodIn wsX4_root wsX4_slabOf := goodIn_ca (goodIn_r _ [5, 6, 7, 8, 9, 10, 11, 12, 13, 14, 15, 23, 24, 25, 26, 27, 28, 29, 30] (by decide +kernel) (by decide +kernel)) (goodIn_sub (fun _ h => List.mem_cons_of_mem _ (List.mem_append_right _ h)) (by decide +kernel))
set_option maxRecDepth 20000 in
theorem gX4_root_X4_slabOf : GoodIn wsX4_root (wsV RX4 45 RX4 yX4_slabOf wsX4_slabOf) := goodIn_app (goodIn_of _ (by decide +kernel)) ggX4_root_X4_slabOf
theorem dX4_root_0 : decode cX4_root 0 = .ok (.iload_n 1, 1) := by decide +kernel
theorem dX4_root_1 : decode cX4_root 1 = .ok (.istore_n 2, 1) := by decide +kernel
theorem dX4_root_2 : decode cX4_root 2 = .ok (.aload_n 0, 1) := by decide +kernel
theorem dX4_root_3 : decode cX4_root 3 = .ok (.iload_n 1, 1) := by decide +kernel
theorem dX4_root_4 : decode cX4_root 4 = .ok (.invokevirtual 45, 3) := by decide +kernel
theorem dX4_root_7 : decode cX4_root 7 = .ok (.astore_n 3, 1) := by decide +kernel
theorem dX4_root_8 : decode cX4_root 8 = .ok (.iconst 0, 1) := by decide +kernel
theorem dX4_root_9 : decode cX4_root 9 = .ok (.istore 4, 2) := by decide +kernel
theorem dX4_root_11 : decode cX4_root 11 = .ok (.iload 4, 2) := by decide +kernel
theorem dX4_root_13 : decode cX4_root 13 = .ok (.bipush 40, 2) := by decide +kernel
theorem dX4_root_15 : decode cX4_root 15 = .ok (.if_icmp .ge 28, 3) := by decide +kernel
theorem dX4_root_18 : decode cX4_root 18 = .ok (.aload_n 3, 1) := by decide +kernel
theorem dX4_root_19 : decode cX4_root 19 = .ok (.getfield 102, 3) := by decide +kernel
theorem dX4_root_22 : decode cX4_root 22 = .ok (.iconst (-1), 1) := by decide +kernel
theorem dX4_root_23 : decode cX4_root 23 = .ok (.if_icmp .eq 20, 3) := by decide +kernel
theorem dX4_root_26 : decode cX4_root 26 = .ok (.aload_n 3, 1) := by decide +kernel
theorem dX4_root_27 : decode cX4_root 27 = .ok (.getfield 102, 3) := by decide +kernel
theorem dX4_root_30 : decode cX4_root 30 = .ok (.istore_n 2, 1) := by decide +kernel
theorem dX4_root_31 : decode cX4_root 31 = .ok (.aload_n 0, 1) := by decide +kernel
theorem dX4_root_32 : decode cX4_root 32 = .ok (.iload_n 2, 1) := by decide +kernel
theorem dX4_root_33 : decode cX4_root 33 = .ok (.invokevirtual 45, 3) := by decide +kernel
theorem dX4_root_36 : decode cX4_root 36 = .ok (.astore_n 3, 1) := by decide +kernel
theorem dX4_root_37 : decode cX4_root 37 = .ok (.iinc 4 1, 3) := by decide +kernel
theorem dX4_root_40 : decode cX4_root 40 = .ok (.goto (-29), 3) := by decide +kernel
theorem dX4_root_43 : decode cX4_root 43 = .ok (.iload_n 2, 1) := by decide +kernel
theorem dX4_root_44 : decode cX4_root 44 = .ok (.ireturn, 1) := by decide +kernel
set_option maxRecDepth 20000 in
theorem ggX4_kind_X4_isSide : GoodIn wsX4_kind wsX4_isSide := goodIn_r _ [9] (by decide +kernel) (by decide +kernel)
set_option maxRecDepth 20000 in
theorem gX4_kind_X4_isSide : GoodIn wsX4_kind (va_wsS RX4 111 yX4_isSide wsX4_isSide) := goodIn_app (goodIn_of _ (by decide +kernel)) ggX4_kind_X4_isSide
set_option maxRecDepth 20000 in
theorem ggX4_kind_X4_isPrice : GoodIn wsX4_kind wsX4_isPrice := goodIn_r _ [12] (by decide +kernel) (by decide +kernel)
set_option maxRecDepth 20000 in
theorem gX4_kind_X4_isPrice : GoodIn wsX4_kind (va_wsS RX4 115 yX4_isPrice wsX4_isPrice) := goodIn_app (goodIn_of _ (by decide +kernel)) ggX4_kind_X4_isPrice
set_option maxRecDepth 20000 in
theorem ggX4_kind_X3_addKind : GoodIn wsX4_kind wsX3_addKind := goodIn_r _ [17, 18, 19, 20, 21, 22, 16, 23, 24, 25, 26, 27, 28, 29, 30, 31, 35, 36, 37, 38, 39, 40, 41, 42, 43, 44, 45, 46, 47] (by decide +kernel) (by decide +kernel)
set_option maxRecDepth 20000 in
theorem gX4_kind_X3_addKind : GoodIn wsX4_kind (wsV RX4 125 RX3 yX3_addKind wsX3_addKind) := goodIn_app (goodIn_of _ (by decide +kernel)) ggX4_kind_X3_addKind
theorem dX4_kind_0 : decode cX4_kind 0 = .ok (.iload_n 1, 1) := by decide +kernel
theorem dX4_kind_1 : decode cX4_kind 1 = .ok (.invokestatic 111, 3) := by decide +kernel
theorem dX4_kind_4 : decode cX4_kind 4 = .ok (.ifCond .eq 17, 3) := by decide +kernel
theorem dX4_kind_7 : decode cX4_kind 7 = .ok (.iload_n 2, 1) := by decide +kernel
theorem dX4_kind_8 : decode cX4_kind 8 = .ok (.invokestatic 111, 3) := by decide +kernel
theorem dX4_kind_11 : decode cX4_kind 11 = .ok (.ifCond .eq 10, 3) := by decide +kernel
theorem dX4_kind_14 : decode cX4_kind 14 = .ok (.iload_n 3, 1) := by decide +kernel
theorem dX4_kind_15 : decode cX4_kind 15 = .ok (.invokestatic 115, 3) := by decide +kernel
theorem dX4_kind_18 : decode cX4_kind 18 = .ok (.ifCond .ne 13, 3) := by decide +kernel
theorem dX4_kind_21 : decode cX4_kind 21 = .ok (.new 67, 3) := by decide +kernel
theorem dX4_kind_24 : decode cX4_kind 24 = .ok (.dup, 1) := by decide +kernel
theorem dX4_kind_25 : decode cX4_kind 25 = .ok (.ldc 118, 2) := by decide +kernel
theorem dX4_kind_27 : decode cX4_kind 27 = .ok (.invokespecial 71, 3) := by decide +kernel
theorem dX4_kind_30 : decode cX4_kind 30 = .ok (.athrow, 1) := by decide +kernel
theorem dX4_kind_31 : decode cX4_kind 31 = .ok (.aload_n 0, 1) := by decide +kernel
theorem dX4_kind_32 : decode cX4_kind 32 = .ok (.getfield 12, 3) := by decide +kernel
theorem dX4_kind_35 : decode cX4_kind 35 = .ok (.getfield 120, 3) := by decide +kernel
theorem dX4_kind_38 : decode cX4_kind 38 = .ok (.bipush 6, 2) := by decide +kernel
theorem dX4_kind_40 : decode cX4_kind 40 = .ok (.if_icmp .lt 13, 3) := by decide +kernel
theorem dX4_kind_43 : decode cX4_kind 43 = .ok (.new 34, 3) := by decide +kernel
theorem dX4_kind_46 : decode cX4_kind 46 = .ok (.dup, 1) := by decide +kernel
theorem dX4_kind_47 : decode cX4_kind 47 = .ok (.ldc 123, 2) := by decide +kernel
theorem dX4_kind_49 : decode cX4_kind 49 = .ok (.invokespecial 38, 3) := by decide +kernel
theorem dX4_kind_52 : decode cX4_kind 52 = .ok (.athrow, 1) := by decide +kernel
theorem dX4_kind_53 : decode cX4_kind 53 = .ok (.aload_n 0, 1) := by decide +kernel
theorem dX4_kind_54 : decode cX4_kind 54 = .ok (.getfield 12, 3) := by decide +kernel
theorem dX4_kind_57 : decode cX4_kind 57 = .ok (.getfield 120, 3) := by decide +kernel
theorem dX4_kind_60 : decode cX4_kind 60 = .ok (.istore 4, 2) := by decide +kernel
theorem dX4_kind_62 : decode cX4_kind 62 = .ok (.aload_n 0, 1) := by decide +kernel
theorem dX4_kind_63 : decode cX4_kind 63 = .ok (.getfield 12, 3) := by decide +kernel
theorem dX4_kind_66 : decode cX4_kind 66 = .ok (.iload_n 1, 1) := by decide +kernel
theorem dX4_kind_67 : decode cX4_kind 67 = .ok (.iload_n 2, 1) := by decide +kernel
theorem dX4_kind_68 : decode cX4_kind 68 = .ok (.iload_n 3, 1) := by decide +kernel
theorem dX4_kind_69 : decode cX4_kind 69 = .ok (.invokevirtual 125, 3) := by decide +kernel
theorem dX4_kind_72 : decode cX4_kind 72 = .ok (.iload 4, 2) := by decide +kernel
theorem dX4_kind_74 : decode cX4_kind 74 = .ok (.ireturn, 1) := by decide +kernel
set_option maxRecDepth 20000 in
theorem ggX4_let_X4_kindOf : GoodIn wsX4_let wsX4_kindOf := goodIn_ca (goodIn_r _ [7, 8, 9, 10, 11, 12, 13, 14, 15, 16, 17, 26, 27, 28, 29, 30, 31, 32, 33] (by decide +kernel) (by decide +kernel)) (goodIn_sub (fun _ h => List.mem_cons_of_mem _ (List.mem_append_right _ h)) (by decide +kernel))
set_option maxRecDepth 20000 in
theorem gX4_let_X4_kindOf : GoodIn wsX4_let (wsV RX4 128 RX4 yX4_kindOf wsX4_kindOf) := goodIn_app (goodIn_of _ (by decide +kernel)) ggX4_let_X4_kindOf
theorem dX4_let_0 : decode cX4_let 0 = .ok (.aload_n 0, 1) := by decide +kernel
theorem dX4_let_1 : decode cX4_let 1 = .ok (.iload_n 1, 1) := by decide +kernel
theorem dX4_let_2 : decode cX4_let 2 = .ok (.invokevirtual 128, 3) := by decide +kernel
theorem dX4_let_5 : decode cX4_let 5 = .ok (.astore 4, 2) := by decide +kernel
theorem dX4_let_7 : decode cX4_let 7 = .ok (.iload_n 2, 1) := by decide +kernel
theorem dX4_let_8 : decode cX4_let 8 = .ok (.ifCond .lt 17, 3) := by decide +kernel
theorem dX4_let_11 : decode cX4_let 11 = .ok (.iload_n 2, 1) := by decide +kernel
theorem dX4_let_12 : decode cX4_let 12 = .ok (.iconst 3, 1) := by decide +kernel
theorem dX4_let_13 : decode cX4_let 13 = .ok (.if_icmp .ge 12, 3) := by decide +kernel
theorem dX4_let_16 : decode cX4_let 16 = .ok (.iload_n 3, 1) := by decide +kernel
theorem dX4_let_17 : decode cX4_let 17 = .ok (.ifCond .lt 8, 3) := by decide +kernel
theorem dX4_let_20 : decode cX4_let 20 = .ok (.iload_n 3, 1) := by decide +kernel
theorem dX4_let_21 : decode cX4_let 21 = .ok (.iconst 3, 1) := by decide +kernel
theorem dX4_let_22 : decode cX4_let 22 = .ok (.if_icmp .le 13, 3) := by decide +kernel
theorem dX4_let_25 : decode cX4_let 25 = .ok (.new 67, 3) := by decide +kernel
theorem dX4_let_28 : decode cX4_let 28 = .ok (.dup, 1) := by decide +kernel
theorem dX4_let_29 : decode cX4_let 29 = .ok (.ldc 132, 2) := by decide +kernel
theorem dX4_let_31 : decode cX4_let 31 = .ok (.invokespecial 71, 3) := by decide +kernel
theorem dX4_let_34 : decode cX4_let 34 = .ok (.athrow, 1) := by decide +kernel
theorem dX4_let_35 : decode cX4_let 35 = .ok (.aload 4, 2) := by decide +kernel
theorem dX4_let_37 : decode cX4_let 37 = .ok (.getfield 134, 3) := by decide +kernel
theorem dX4_let_40 : decode cX4_let 40 = .ok (.istore 5, 2) := by decide +kernel
theorem dX4_let_42 : decode cX4_let 42 = .ok (.aload 4, 2) := by decide +kernel
theorem dX4_let_44 : decode cX4_let 44 = .ok (.iload_n 2, 1) := by decide +kernel
theorem dX4_let_45 : decode cX4_let 45 = .ok (.putfield 134, 3) := by decide +kernel
theorem dX4_let_48 : decode cX4_let 48 = .ok (.aload 4, 2) := by decide +kernel
theorem dX4_let_50 : decode cX4_let 50 = .ok (.iload_n 3, 1) := by decide +kernel
theorem dX4_let_51 : decode cX4_let 51 = .ok (.putfield 139, 3) := by decide +kernel
theorem dX4_let_54 : decode cX4_let 54 = .ok (.iload 5, 2) := by decide +kernel
theorem dX4_let_56 : decode cX4_let 56 = .ok (.ireturn, 1) := by decide +kernel
set_option maxRecDepth 20000 in
theorem ggX4_order_X4_kindOf : GoodIn wsX4_order wsX4_kindOf := goodIn_ca (goodIn_r _ [7, 8, 9, 10, 11, 12, 13, 14, 15, 16, 17, 26, 27, 28, 29, 30, 31, 32, 33] (by decide +kernel) (by decide +kernel)) (goodIn_sub (fun _ h => List.mem_cons_of_mem _ (List.mem_append_right _ h)) (by decide +kernel))
set_option maxRecDepth 20000 in
theorem gX4_order_X4_kindOf : GoodIn wsX4_order (wsV RX4 128 RX4 yX4_kindOf wsX4_kindOf) := goodIn_app (goodIn_of _ (by decide +kernel)) ggX4_order_X4_kindOf
theorem dX4_order_0 : decode cX4_order 0 = .ok (.aload_n 0, 1) := by decide +kernel
theorem dX4_order_1 : decode cX4_order 1 = .ok (.iload_n 1, 1) := by decide +kernel
theorem dX4_order_2 : decode cX4_order 2 = .ok (.invokevirtual 128, 3) := by decide +kernel
theorem dX4_order_5 : decode cX4_order 5 = .ok (.astore_n 3, 1) := by decide +kernel
theorem dX4_order_6 : decode cX4_order 6 = .ok (.iload_n 2, 1) := by decide +kernel
theorem dX4_order_7 : decode cX4_order 7 = .ok (.iconst 1, 1) := by decide +kernel
theorem dX4_order_8 : decode cX4_order 8 = .ok (.if_icmp .lt 14, 3) := by decide +kernel
theorem dX4_order_11 : decode cX4_order 11 = .ok (.iload_n 2, 1) := by decide +kernel
theorem dX4_order_12 : decode cX4_order 12 = .ok (.bipush 20, 2) := by decide +kernel
theorem dX4_order_14 : decode cX4_order 14 = .ok (.aload_n 3, 1) := by decide +kernel
theorem dX4_order_15 : decode cX4_order 15 = .ok (.getfield 142, 3) := by decide +kernel
theorem dX4_order_18 : decode cX4_order 18 = .ok (.isub, 1) := by decide +kernel
theorem dX4_order_19 : decode cX4_order 19 = .ok (.if_icmp .le 13, 3) := by decide +kernel
theorem dX4_order_22 : decode cX4_order 22 = .ok (.new 67, 3) := by decide +kernel
theorem dX4_order_25 : decode cX4_order 25 = .ok (.dup, 1) := by decide +kernel
theorem dX4_order_26 : decode cX4_order 26 = .ok (.ldc 145, 2) := by decide +kernel
theorem dX4_order_28 : decode cX4_order 28 = .ok (.invokespecial 71, 3) := by decide +kernel
theorem dX4_order_31 : decode cX4_order 31 = .ok (.athrow, 1) := by decide +kernel
theorem dX4_order_32 : decode cX4_order 32 = .ok (.aload_n 3, 1) := by decide +kernel
theorem dX4_order_33 : decode cX4_order 33 = .ok (.dup, 1) := by decide +kernel
theorem dX4_order_34 : decode cX4_order 34 = .ok (.getfield 142, 3) := by decide +kernel
theorem dX4_order_37 : decode cX4_order 37 = .ok (.iload_n 2, 1) := by decide +kernel
theorem dX4_order_38 : decode cX4_order 38 = .ok (.iadd, 1) := by decide +kernel
theorem dX4_order_39 : decode cX4_order 39 = .ok (.putfield 142, 3) := by decide +kernel
theorem dX4_order_42 : decode cX4_order 42 = .ok (.aload_n 3, 1) := by decide +kernel
theorem dX4_order_43 : decode cX4_order 43 = .ok (.getfield 142, 3) := by decide +kernel
theorem dX4_order_46 : decode cX4_order 46 = .ok (.ireturn, 1) := by decide +kernel
set_option maxRecDepth 20000 in
theorem ggX4_ofKind_X4_kindOf : GoodIn wsX4_ofKind wsX4_kindOf := goodIn_ca (goodIn_r _ [7, 8, 9, 10, 11, 12, 13, 14, 15, 16, 17, 26, 27, 28, 29, 30, 31, 32, 33] (by decide +kernel) (by decide +kernel)) (goodIn_sub (fun _ h => List.mem_cons_of_mem _ (List.mem_append_right _ h)) (by decide +kernel))
set_option maxRecDepth 20000 in
theorem gX4_ofKind_X4_kindOf : GoodIn wsX4_ofKind (wsV RX4 128 RX4 yX4_kindOf wsX4_kindOf) := goodIn_app (goodIn_of _ (by decide +kernel)) ggX4_ofKind_X4_kindOf
theorem dX4_ofKind_0 : decode cX4_ofKind 0 = .ok (.aload_n 0, 1) := by decide +kernel
theorem dX4_ofKind_1 : decode cX4_ofKind 1 = .ok (.iload_n 1, 1) := by decide +kernel
theorem dX4_ofKind_2 : decode cX4_ofKind 2 = .ok (.invokevirtual 128, 3) := by decide +kernel
theorem dX4_ofKind_5 : decode cX4_ofKind 5 = .ok (.astore_n 3, 1) := by decide +kernel
theorem dX4_ofKind_6 : decode cX4_ofKind 6 = .ok (.iload_n 2, 1) := by decide +kernel
theorem dX4_ofKind_7 : decode cX4_ofKind 7 = .ok (.tableswitch 85 0 7 #[45, 50, 55, 60, 65, 70, 75, 80], 45) := by decide +kernel
theorem dX4_ofKind_52 : decode cX4_ofKind 52 = .ok (.aload_n 3, 1) := by decide +kernel
theorem dX4_ofKind_53 : decode cX4_ofKind 53 = .ok (.getfield 147, 3) := by decide +kernel
theorem dX4_ofKind_56 : decode cX4_ofKind 56 = .ok (.ireturn, 1) := by decide +kernel
theorem dX4_ofKind_57 : decode cX4_ofKind 57 = .ok (.aload_n 3, 1) := by decide +kernel
theorem dX4_ofKind_58 : decode cX4_ofKind 58 = .ok (.getfield 150, 3) := by decide +kernel
theorem dX4_ofKind_61 : decode cX4_ofKind 61 = .ok (.ireturn, 1) := by decide +kernel
theorem dX4_ofKind_62 : decode cX4_ofKind 62 = .ok (.aload_n 3, 1) := by decide +kernel
theorem dX4_ofKind_63 : decode cX4_ofKind 63 = .ok (.getfield 134, 3) := by decide +kernel
theorem dX4_ofKind_66 : decode cX4_ofKind 66 = .ok (.ireturn, 1) := by decide +kernel
theorem dX4_ofKind_67 : decode cX4_ofKind 67 = .ok (.aload_n 3, 1) := by decide +kernel
theorem dX4_ofKind_68 : decode cX4_ofKind 68 = .ok (.getfield 139, 3) := by decide +kernel
theorem dX4_ofKind_71 : decode cX4_ofKind 71 = .ok (.ireturn, 1) := by decide +kernel
theorem dX4_ofKind_72 : decode cX4_ofKind 72 = .ok (.aload_n 3, 1) := by decide +kernel
theorem dX4_ofKind_73 : decode cX4_ofKind 73 = .ok (.getfield 153, 3) := by decide +kernel
theorem dX4_ofKind_76 : decode cX4_ofKind 76 = .ok (.ireturn, 1) := by decide +kernel
theorem dX4_ofKind_77 : decode cX4_ofKind 77 = .ok (.aload_n 3, 1) := by decide +kernel
theorem dX4_ofKind_78 : decode cX4_ofKind 78 = .ok (.getfield 142, 3) := by decide +kernel
theorem dX4_ofKind_81 : decode cX4_ofKind 81 = .ok (.ireturn, 1) := by decide +kernel
theorem dX4_ofKind_82 : decode cX4_ofKind 82 = .ok (.aload_n 3, 1) := by decide +kernel
theorem dX4_ofKind_83 : decode cX4_ofKind 83 = .ok (.getfield 156, 3) := by decide +kernel
theorem dX4_ofKind_86 : decode cX4_ofKind 86 = .ok (.ireturn, 1) := by decide +kernel
theorem dX4_ofKind_87 : decode cX4_ofKind 87 = .ok (.aload_n 3, 1) := by decide +kernel
theorem dX4_ofKind_88 : decode cX4_ofKind 88 = .ok (.getfield 159, 3) := by decide +kernel
theorem dX4_ofKind_91 : decode cX4_ofKind 91 = .ok (.ireturn, 1) := by decide +kernel
theorem dX4_ofKind_92 : decode cX4_ofKind 92 = .ok (.new 67, 3) := by decide +kernel
theorem dX4_ofKind_95 : decode cX4_ofKind 95 = .ok (.dup, 1) := by decide +kernel
theorem dX4_ofKind_96 : decode cX4_ofKind 96 = .ok (.ldc 162, 2) := by decide +kernel
theorem dX4_ofKind_98 : decode cX4_ofKind 98 = .ok (.invokespecial 71, 3) := by decide +kernel
theorem dX4_ofKind_101 : decode cX4_ofKind 101 = .ok (.athrow, 1) := by decide +kernel
set_option maxRecDepth 20000 in
theorem ggX4_fits_X4_slabOf : GoodIn wsX4_fits wsX4_slabOf := goodIn_ca (goodIn_r _ [5, 6, 7, 8, 9, 10, 11, 12, 13, 14, 15, 57, 58, 59, 60, 61, 62, 63, 64] (by decide +kernel) (by decide +kernel)) (goodIn_sub (fun _ h => List.mem_cons_of_mem _ (List.mem_append_right _ h)) (by decide +kernel))
set_option maxRecDepth 20000 in
theorem gX4_fits_X4_slabOf : GoodIn wsX4_fits (wsV RX4 45 RX4 yX4_slabOf wsX4_slabOf) := goodIn_app (goodIn_of _ (by decide +kernel)) ggX4_fits_X4_slabOf
set_option maxRecDepth 20000 in
theorem ggX4_fits_X4_kindOf : GoodIn wsX4_fits wsX4_kindOf := goodIn_ca (goodIn_r _ [19, 6, 7, 8, 20, 21, 22, 12, 23, 24, 25, 57, 58, 59, 60, 61, 62, 63, 64] (by decide +kernel) (by decide +kernel)) (goodIn_sub (fun _ h => List.mem_cons_of_mem _ (List.mem_append_right _ h)) (by decide +kernel))
set_option maxRecDepth 20000 in
theorem gX4_fits_X4_kindOf : GoodIn wsX4_fits (wsV RX4 128 RX4 yX4_kindOf wsX4_kindOf) := goodIn_app (goodIn_of _ (by decide +kernel)) ggX4_fits_X4_kindOf
set_option maxRecDepth 20000 in
theorem ggX4_fits_X2_firstManner : GoodIn wsX4_fits wsX2_firstManner := goodIn_r _ [30, 31, 32, 33, 34, 35, 36, 37, 38, 39, 40, 41, 42, 43, 44, 45, 46, 47, 48, 49, 50, 51, 52, 53, 29, 54, 55, 56, 65, 66, 67, 68, 69, 70, 71, 72, 73, 74, 75, 76, 77, 78, 79] (by decide +kernel) (by decide +kernel)
set_option maxRecDepth 20000 in
theorem gX4_fits_X2_firstManner : GoodIn wsX4_fits (wsV RX4 164 RX2 yX2_firstManner wsX2_firstManner) := goodIn_app (goodIn_of _ (by decide +kernel)) ggX4_fits_X2_firstManner
theorem dX4_fits_0 : decode cX4_fits 0 = .ok (.aload_n 0, 1) := by decide +kernel
theorem dX4_fits_1 : decode cX4_fits 1 = .ok (.iload_n 1, 1) := by decide +kernel
theorem dX4_fits_2 : decode cX4_fits 2 = .ok (.invokevirtual 45, 3) := by decide +kernel
theorem dX4_fits_5 : decode cX4_fits 5 = .ok (.aload_n 0, 1) := by decide +kernel
theorem dX4_fits_6 : decode cX4_fits 6 = .ok (.iload_n 2, 1) := by decide +kernel
theorem dX4_fits_7 : decode cX4_fits 7 = .ok (.invokevirtual 128, 3) := by decide +kernel
theorem dX4_fits_10 : decode cX4_fits 10 = .ok (.invokevirtual 164, 3) := by decide +kernel
theorem dX4_fits_13 : decode cX4_fits 13 = .ok (.ireturn, 1) := by decide +kernel
set_option maxRecDepth 20000 in
theorem ggX4_take_X4_slabOf : GoodIn wsX4_take wsX4_slabOf := goodIn_ca (goodIn_r _ [8, 9, 10, 3, 11, 12, 13, 14, 15, 16, 17, 125, 126, 127, 128, 129, 130, 131, 132] (by decide +kernel) (by decide +kernel)) (goodIn_sub (fun _ h => List.mem_cons_of_mem _ (List.mem_append_right _ h)) (by decide +kernel))
set_option maxRecDepth 20000 in
theorem gX4_take_X4_slabOf : GoodIn wsX4_take (wsV RX4 45 RX4 yX4_slabOf wsX4_slabOf) := goodIn_app (goodIn_of _ (by decide +kernel)) ggX4_take_X4_slabOf
set_option maxRecDepth 20000 in
theorem ggX4_take_X4_kindOf : GoodIn wsX4_take wsX4_kindOf := goodIn_ca (goodIn_r _ [21, 9, 10, 3, 22, 23, 24, 14, 25, 26, 27, 125, 126, 127, 128, 129, 130, 131, 132] (by decide +kernel) (by decide +kernel)) (goodIn_sub (fun _ h => List.mem_cons_of_mem _ (List.mem_append_right _ h)) (by decide +kernel))
set_option maxRecDepth 20000 in
theorem gX4_take_X4_kindOf : GoodIn wsX4_take (wsV RX4 128 RX4 yX4_kindOf wsX4_kindOf) := goodIn_app (goodIn_of _ (by decide +kernel)) ggX4_take_X4_kindOf
set_option maxRecDepth 20000 in
theorem ggX4_take_X2_firstManner : GoodIn wsX4_take wsX2_firstManner := goodIn_r _ [32, 33, 34, 35, 36, 37, 38, 39, 40, 41, 42, 43, 44, 45, 46, 47, 48, 49, 50, 51, 52, 53, 54, 55, 31, 56, 57, 58, 133, 134, 135, 136, 137, 138, 139, 140, 141, 142, 143, 144, 145, 146, 147] (by decide +kernel) (by decide +kernel)
set_option maxRecDepth 20000 in
theorem gX4_take_X2_firstManner : GoodIn wsX4_take (wsV RX4 164 RX2 yX2_firstManner wsX2_firstManner) := goodIn_app (goodIn_of _ (by decide +kernel)) ggX4_take_X2_firstManner
set_option maxRecDepth 20000 in
theorem ggX4_take_X3_hasRoomForStone : GoodIn wsX4_take wsX3_hasRoomForStone := goodIn_r _ [62, 16, 128, 129, 130, 131, 132] (by decide +kernel) (by decide +kernel)
set_option maxRecDepth 20000 in
theorem gX4_take_X3_hasRoomForStone : GoodIn wsX4_take (wsV RX4 168 RX3 yX3_hasRoomForStone wsX3_hasRoomForStone) := goodIn_app (goodIn_of _ (by decide +kernel)) ggX4_take_X3_hasRoomForStone
set_option maxRecDepth 20000 in
theorem ggX4_take_X3_takeStone : GoodIn wsX4_take wsX3_takeStone := goodIn_r _ [66, 67, 12, 13, 14, 15, 16, 17, 68, 23, 24, 25, 26, 27, 69, 29, 30, 31, 32, 33, 34, 35, 36, 37, 38, 39, 40, 41, 42, 43, 44, 45, 46, 47, 48, 49, 50, 51, 52, 53, 54, 55, 56, 57, 58, 70, 71, 72, 73, 74, 75, 76, 77, 78, 79, 80, 81, 82, 83, 84, 85, 86, 87, 88, 89, 90, 91, 92, 93, 94, 95, 96, 97, 98, 99, 100, 101, 102, 103, 104, 105, 106, 107, 108, 109, 110, 111, 112, 113, 114, 115, 116, 117, 118, 119, 120, 121, 122, 123, 124, 133, 134, 135, 136, 137, 138, 139, 128, 129, 130, 131, 132, 140, 141, 142, 143, 144, 145, 146, 147] (by decide +kernel) (by decide +kernel)
set_option maxRecDepth 20000 in
theorem gX4_take_X3_takeStone : GoodIn wsX4_take (wsV RX4 174 RX3 yX3_takeStone wsX3_takeStone) := goodIn_app (goodIn_of _ (by decide +kernel)) ggX4_take_X3_takeStone
theorem dX4_take_0 : decode cX4_take 0 = .ok (.aload_n 0, 1) := by decide +kernel
theorem dX4_take_1 : decode cX4_take 1 = .ok (.iload_n 1, 1) := by decide +kernel
theorem dX4_take_2 : decode cX4_take 2 = .ok (.invokevirtual 45, 3) := by decide +kernel
theorem dX4_take_5 : decode cX4_take 5 = .ok (.aload_n 0, 1) := by decide +kernel
theorem dX4_take_6 : decode cX4_take 6 = .ok (.iload_n 2, 1) := by decide +kernel
theorem dX4_take_7 : decode cX4_take 7 = .ok (.invokevirtual 128, 3) := by decide +kernel
theorem dX4_take_10 : decode cX4_take 10 = .ok (.invokevirtual 164, 3) := by decide +kernel
theorem dX4_take_13 : decode cX4_take 13 = .ok (.istore_n 3, 1) := by decide +kernel
theorem dX4_take_14 : decode cX4_take 14 = .ok (.iload_n 3, 1) := by decide +kernel
theorem dX4_take_15 : decode cX4_take 15 = .ok (.iconst (-1), 1) := by decide +kernel
theorem dX4_take_16 : decode cX4_take 16 = .ok (.if_icmp .eq 13, 3) := by decide +kernel
theorem dX4_take_19 : decode cX4_take 19 = .ok (.aload_n 0, 1) := by decide +kernel
theorem dX4_take_20 : decode cX4_take 20 = .ok (.getfield 12, 3) := by decide +kernel
theorem dX4_take_23 : decode cX4_take 23 = .ok (.invokevirtual 168, 3) := by decide +kernel
theorem dX4_take_26 : decode cX4_take 26 = .ok (.ifCond .ne 13, 3) := by decide +kernel
theorem dX4_take_29 : decode cX4_take 29 = .ok (.new 34, 3) := by decide +kernel
theorem dX4_take_32 : decode cX4_take 32 = .ok (.dup, 1) := by decide +kernel
theorem dX4_take_33 : decode cX4_take 33 = .ok (.ldc 172, 2) := by decide +kernel
theorem dX4_take_35 : decode cX4_take 35 = .ok (.invokespecial 38, 3) := by decide +kernel
theorem dX4_take_38 : decode cX4_take 38 = .ok (.athrow, 1) := by decide +kernel
theorem dX4_take_39 : decode cX4_take 39 = .ok (.aload_n 0, 1) := by decide +kernel
theorem dX4_take_40 : decode cX4_take 40 = .ok (.getfield 12, 3) := by decide +kernel
theorem dX4_take_43 : decode cX4_take 43 = .ok (.iload_n 1, 1) := by decide +kernel
theorem dX4_take_44 : decode cX4_take 44 = .ok (.iload_n 2, 1) := by decide +kernel
theorem dX4_take_45 : decode cX4_take 45 = .ok (.invokevirtual 174, 3) := by decide +kernel
theorem dX4_take_48 : decode cX4_take 48 = .ok (.ireturn, 1) := by decide +kernel
set_option maxRecDepth 20000 in
theorem ggX4_plan_X4_requireMost : GoodIn wsX4_plan wsX4_requireMost := goodIn_ca (goodIn_r _ [5, 6, 7] (by decide +kernel) (by decide +kernel)) (goodIn_sub (fun _ h => List.mem_cons_of_mem _ (List.mem_append_right _ h)) (by decide +kernel))
set_option maxRecDepth 20000 in
theorem gX4_plan_X4_requireMost : GoodIn wsX4_plan (va_wsS RX4 178 yX4_requireMost wsX4_requireMost) := goodIn_app (goodIn_of _ (by decide +kernel)) ggX4_plan_X4_requireMost
set_option maxRecDepth 20000 in
theorem ggX4_plan_X3_takeByPlan : GoodIn wsX4_plan wsX3_takeByPlan := goodIn_r _ [12, 13, 14, 15, 11, 16, 17, 18, 19, 20, 21, 22, 23, 24, 25, 26, 27, 28, 29, 30, 31, 32, 33, 34, 35, 36, 37, 38, 39, 40, 41, 42, 43, 44, 45, 46, 47, 48, 49, 50, 51, 52, 53, 54, 55, 56, 57, 58, 59, 60, 61, 62, 63, 64, 65, 66, 67, 68, 69, 70, 71, 72, 73, 74, 75, 76, 77, 78, 79, 80, 81, 82, 83, 84, 85, 86, 87, 88, 89, 90, 91, 92, 93, 94, 95, 96, 97, 98, 99, 100, 101, 102, 103, 104, 105, 106, 107, 108, 109, 110, 111, 112, 113, 114, 115, 116, 117, 118, 119, 120, 121, 122, 123, 124, 125, 126, 127, 128, 129, 130, 134, 135, 136, 137, 138, 139, 140, 141, 142, 143, 144, 145, 146, 147, 148, 149, 150, 151, 152, 153] (by decide +kernel) (by decide +kernel)
set_option maxRecDepth 20000 in
theorem gX4_plan_X3_takeByPlan : GoodIn wsX4_plan (wsV RX4 182 RX3 yX3_takeByPlan wsX3_takeByPlan) := goodIn_app (goodIn_of _ (by decide +kernel)) ggX4_plan_X3_takeByPlan
theorem dX4_plan_0 : decode cX4_plan 0 = .ok (.iload_n 1, 1) := by decide +kernel
theorem dX4_plan_1 : decode cX4_plan 1 = .ok (.invokestatic 178, 3) := by decide +kernel
theorem dX4_plan_4 : decode cX4_plan 4 = .ok (.aload_n 0, 1) := by decide +kernel
theorem dX4_plan_5 : decode cX4_plan 5 = .ok (.getfield 12, 3) := by decide +kernel
theorem dX4_plan_8 : decode cX4_plan 8 = .ok (.iload_n 1, 1) := by decide +kernel
theorem dX4_plan_9 : decode cX4_plan 9 = .ok (.invokevirtual 182, 3) := by decide +kernel
theorem dX4_plan_12 : decode cX4_plan 12 = .ok (.ireturn, 1) := by decide +kernel
set_option maxRecDepth 20000 in
theorem ggX4_many_X3_countThere : GoodIn wsX4_many wsX3_countThere := goodIn_r _ [8, 9, 10, 11, 12, 7, 13, 14, 56, 57, 58, 59, 60, 61, 62, 63, 64, 65, 66, 67] (by decide +kernel) (by decide +kernel)
set_option maxRecDepth 20000 in
theorem gX4_many_X3_countThere : GoodIn wsX4_many (wsV RX4 186 RX3 yX3_countThere wsX3_countThere) := goodIn_app (goodIn_of _ (by decide +kernel)) ggX4_many_X3_countThere
set_option maxRecDepth 20000 in
theorem ggX4_many_X3_countTaken : GoodIn wsX4_many wsX3_countTaken := goodIn_r _ [18, 19, 20, 21, 22, 7, 23, 24, 56, 57, 58, 59, 60, 68, 69, 70, 71, 72, 73, 74, 75] (by decide +kernel) (by decide +kernel)
set_option maxRecDepth 20000 in
theorem gX4_many_X3_countTaken : GoodIn wsX4_many (wsV RX4 189 RX3 yX3_countTaken wsX3_countTaken) := goodIn_app (goodIn_of _ (by decide +kernel)) ggX4_many_X3_countTaken
set_option maxRecDepth 20000 in
theorem ggX4_many_X3_sumPaid : GoodIn wsX4_many wsX3_sumPaid := goodIn_r _ [28, 19, 20, 21, 22, 7, 23, 24, 56, 57, 58, 59, 60, 68, 69, 70, 71, 72, 73, 74, 75] (by decide +kernel) (by decide +kernel)
set_option maxRecDepth 20000 in
theorem gX4_many_X3_sumPaid : GoodIn wsX4_many (wsV RX4 192 RX3 yX3_sumPaid wsX3_sumPaid) := goodIn_app (goodIn_of _ (by decide +kernel)) ggX4_many_X3_sumPaid
set_option maxRecDepth 20000 in
theorem ggX4_many_X3_waste : GoodIn wsX4_many wsX3_waste := goodIn_r _ [32, 19, 33, 34, 35, 7, 36, 9, 10, 11, 12, 13, 14, 37, 38, 39, 40, 41, 42, 43, 44, 45, 46, 47, 20, 21, 22, 23, 24, 56, 57, 58, 59, 60, 68, 69, 70, 71, 72, 73, 74, 75, 61, 62, 63, 64, 65, 66, 67] (by decide +kernel) (by decide +kernel)
set_option maxRecDepth 20000 in
theorem gX4_many_X3_waste : GoodIn wsX4_many (wsV RX4 195 RX3 yX3_waste wsX3_waste) := goodIn_app (goodIn_of _ (by decide +kernel)) ggX4_many_X3_waste
set_option maxRecDepth 20000 in
theorem ggX4_many_X3_countWanted : GoodIn wsX4_many wsX3_countWanted := goodIn_r _ [51, 19, 20, 21, 22, 7, 23, 24, 56, 57, 58, 59, 60, 68, 69, 70, 71, 72, 73, 74, 75] (by decide +kernel) (by decide +kernel)
set_option maxRecDepth 20000 in
theorem gX4_many_X3_countWanted : GoodIn wsX4_many (wsV RX4 198 RX3 yX3_countWanted wsX3_countWanted) := goodIn_app (goodIn_of _ (by decide +kernel)) ggX4_many_X3_countWanted
set_option maxRecDepth 20000 in
theorem ggX4_many_X3_areaThere : GoodIn wsX4_many wsX3_areaThere := goodIn_r _ [47, 9, 10, 11, 12, 7, 13, 14, 37, 38, 39, 40, 41, 42, 43, 56, 57, 58, 59, 60, 61, 62, 63, 64, 65, 66, 67] (by decide +kernel) (by decide +kernel)
set_option maxRecDepth 20000 in
theorem gX4_many_X3_areaThere : GoodIn wsX4_many (wsV RX4 201 RX3 yX3_areaThere wsX3_areaThere) := goodIn_app (goodIn_of _ (by decide +kernel)) ggX4_many_X3_areaThere
theorem dX4_many_0 : decode cX4_many 0 = .ok (.iload_n 1, 1) := by decide +kernel
theorem dX4_many_1 : decode cX4_many 1 = .ok (.tableswitch 111 0 7 #[47, 55, 63, 71, 79, 87, 95, 103], 47) := by decide +kernel
theorem dX4_many_48 : decode cX4_many 48 = .ok (.aload_n 0, 1) := by decide +kernel
theorem dX4_many_49 : decode cX4_many 49 = .ok (.getfield 12, 3) := by decide +kernel
theorem dX4_many_52 : decode cX4_many 52 = .ok (.getfield 30, 3) := by decide +kernel
theorem dX4_many_55 : decode cX4_many 55 = .ok (.ireturn, 1) := by decide +kernel
theorem dX4_many_56 : decode cX4_many 56 = .ok (.aload_n 0, 1) := by decide +kernel
theorem dX4_many_57 : decode cX4_many 57 = .ok (.getfield 12, 3) := by decide +kernel
theorem dX4_many_60 : decode cX4_many 60 = .ok (.invokevirtual 186, 3) := by decide +kernel
theorem dX4_many_63 : decode cX4_many 63 = .ok (.ireturn, 1) := by decide +kernel
theorem dX4_many_64 : decode cX4_many 64 = .ok (.aload_n 0, 1) := by decide +kernel
theorem dX4_many_65 : decode cX4_many 65 = .ok (.getfield 12, 3) := by decide +kernel
theorem dX4_many_68 : decode cX4_many 68 = .ok (.getfield 120, 3) := by decide +kernel
theorem dX4_many_71 : decode cX4_many 71 = .ok (.ireturn, 1) := by decide +kernel
theorem dX4_many_72 : decode cX4_many 72 = .ok (.aload_n 0, 1) := by decide +kernel
theorem dX4_many_73 : decode cX4_many 73 = .ok (.getfield 12, 3) := by decide +kernel
theorem dX4_many_76 : decode cX4_many 76 = .ok (.invokevirtual 189, 3) := by decide +kernel
theorem dX4_many_79 : decode cX4_many 79 = .ok (.ireturn, 1) := by decide +kernel
theorem dX4_many_80 : decode cX4_many 80 = .ok (.aload_n 0, 1) := by decide +kernel
theorem dX4_many_81 : decode cX4_many 81 = .ok (.getfield 12, 3) := by decide +kernel
theorem dX4_many_84 : decode cX4_many 84 = .ok (.invokevirtual 192, 3) := by decide +kernel
theorem dX4_many_87 : decode cX4_many 87 = .ok (.ireturn, 1) := by decide +kernel
theorem dX4_many_88 : decode cX4_many 88 = .ok (.aload_n 0, 1) := by decide +kernel
theorem dX4_many_89 : decode cX4_many 89 = .ok (.getfield 12, 3) := by decide +kernel
theorem dX4_many_92 : decode cX4_many 92 = .ok (.invokevirtual 195, 3) := by decide +kernel
theorem dX4_many_95 : decode cX4_many 95 = .ok (.ireturn, 1) := by decide +kernel
theorem dX4_many_96 : decode cX4_many 96 = .ok (.aload_n 0, 1) := by decide +kernel
theorem dX4_many_97 : decode cX4_many 97 = .ok (.getfield 12, 3) := by decide +kernel
theorem dX4_many_100 : decode cX4_many 100 = .ok (.invokevirtual 198, 3) := by decide +kernel
theorem dX4_many_103 : decode cX4_many 103 = .ok (.ireturn, 1) := by decide +kernel
theorem dX4_many_104 : decode cX4_many 104 = .ok (.aload_n 0, 1) := by decide +kernel
theorem dX4_many_105 : decode cX4_many 105 = .ok (.getfield 12, 3) := by decide +kernel
theorem dX4_many_108 : decode cX4_many 108 = .ok (.invokevirtual 201, 3) := by decide +kernel
theorem dX4_many_111 : decode cX4_many 111 = .ok (.ireturn, 1) := by decide +kernel
theorem dX4_many_112 : decode cX4_many 112 = .ok (.new 67, 3) := by decide +kernel
theorem dX4_many_115 : decode cX4_many 115 = .ok (.dup, 1) := by decide +kernel
theorem dX4_many_116 : decode cX4_many 116 = .ok (.ldc 162, 2) := by decide +kernel
theorem dX4_many_118 : decode cX4_many 118 = .ok (.invokespecial 71, 3) := by decide +kernel
theorem dX4_many_121 : decode cX4_many 121 = .ok (.athrow, 1) := by decide +kernel
set_option maxRecDepth 20000 in
theorem ggX4_worth_X4_requirePiece : GoodIn wsX4_worth wsX4_requirePiece := goodIn_ca (goodIn_r _ [6, 7, 8, 9, 10, 5, 11] (by decide +kernel) (by decide +kernel)) (goodIn_sub (fun _ h => List.mem_cons_of_mem _ (List.mem_append_right _ h)) (by decide +kernel))
set_option maxRecDepth 20000 in
theorem gX4_worth_X4_requirePiece : GoodIn wsX4_worth (va_wsS RX4 26 yX4_requirePiece wsX4_requirePiece) := goodIn_app (goodIn_of _ (by decide +kernel)) ggX4_worth_X4_requirePiece
set_option maxRecDepth 20000 in
theorem ggX4_worth_X1_measure : GoodIn wsX4_worth wsX1_measure := goodIn_r _ [16, 17, 18, 19, 20, 21, 22, 23, 24, 25, 26, 27, 28, 29, 30, 31, 32, 33, 34, 35, 36, 37, 38, 39, 40, 41, 42, 43, 44, 15, 45, 46, 47, 48, 49, 50, 51, 52, 53, 54, 55, 56, 57, 58, 63, 64, 65, 66, 67, 68, 69, 70, 71, 72, 73, 74, 75, 76, 77, 78, 79, 80] (by decide +kernel) (by decide +kernel)
set_option maxRecDepth 20000 in
theorem gX4_worth_X1_measure : GoodIn wsX4_worth (wsV RX4 204 RX1 yX1_measure wsX1_measure) := goodIn_app (goodIn_of _ (by decide +kernel)) ggX4_worth_X1_measure
set_option maxRecDepth 20000 in
theorem ggX4_worth_X1_worthOf : GoodIn wsX4_worth wsX1_worthOf := goodIn_r _ [52, 46, 53, 54, 15, 55, 68, 69, 70, 71, 72] (by decide +kernel) (by decide +kernel)
set_option maxRecDepth 20000 in
theorem gX4_worth_X1_worthOf : GoodIn wsX4_worth (wsV RX4 208 RX1 yX1_worthOf wsX1_worthOf) := goodIn_app (goodIn_of _ (by decide +kernel)) ggX4_worth_X1_worthOf
theorem dX4_worth_0 : decode cX4_worth 0 = .ok (.iload_n 1, 1) := by decide +kernel
theorem dX4_worth_1 : decode cX4_worth 1 = .ok (.iload_n 2, 1) := by decide +kernel
theorem dX4_worth_2 : decode cX4_worth 2 = .ok (.iload_n 3, 1) := by decide +kernel
theorem dX4_worth_3 : decode cX4_worth 3 = .ok (.invokestatic 26, 3) := by decide +kernel
theorem dX4_worth_6 : decode cX4_worth 6 = .ok (.aload_n 0, 1) := by decide +kernel
theorem dX4_worth_7 : decode cX4_worth 7 = .ok (.getfield 22, 3) := by decide +kernel
theorem dX4_worth_10 : decode cX4_worth 10 = .ok (.aload_n 0, 1) := by decide +kernel
theorem dX4_worth_11 : decode cX4_worth 11 = .ok (.getfield 12, 3) := by decide +kernel
theorem dX4_worth_14 : decode cX4_worth 14 = .ok (.iload_n 1, 1) := by decide +kernel
theorem dX4_worth_15 : decode cX4_worth 15 = .ok (.iload_n 2, 1) := by decide +kernel
theorem dX4_worth_16 : decode cX4_worth 16 = .ok (.iload_n 3, 1) := by decide +kernel
theorem dX4_worth_17 : decode cX4_worth 17 = .ok (.invokevirtual 204, 3) := by decide +kernel
theorem dX4_worth_20 : decode cX4_worth 20 = .ok (.aload_n 0, 1) := by decide +kernel
theorem dX4_worth_21 : decode cX4_worth 21 = .ok (.getfield 22, 3) := by decide +kernel
theorem dX4_worth_24 : decode cX4_worth 24 = .ok (.iload_n 1, 1) := by decide +kernel
theorem dX4_worth_25 : decode cX4_worth 25 = .ok (.iload_n 2, 1) := by decide +kernel
theorem dX4_worth_26 : decode cX4_worth 26 = .ok (.invokevirtual 208, 3) := by decide +kernel
theorem dX4_worth_29 : decode cX4_worth 29 = .ok (.ireturn, 1) := by decide +kernel
set_option maxRecDepth 20000 in
theorem ggX4_bestCut_X4_requirePiece : GoodIn wsX4_bestCut wsX4_requirePiece := goodIn_ca (goodIn_r _ [6, 7, 8, 9, 10, 5, 11] (by decide +kernel) (by decide +kernel)) (goodIn_sub (fun _ h => List.mem_cons_of_mem _ (List.mem_append_right _ h)) (by decide +kernel))
set_option maxRecDepth 20000 in
theorem gX4_bestCut_X4_requirePiece : GoodIn wsX4_bestCut (va_wsS RX4 26 yX4_requirePiece wsX4_requirePiece) := goodIn_app (goodIn_of _ (by decide +kernel)) ggX4_bestCut_X4_requirePiece
set_option maxRecDepth 20000 in
theorem ggX4_bestCut_X1_measure : GoodIn wsX4_bestCut wsX1_measure := goodIn_r _ [16, 17, 18, 19, 20, 21, 22, 23, 24, 25, 26, 27, 28, 29, 30, 31, 32, 33, 34, 35, 36, 37, 38, 39, 40, 41, 42, 43, 44, 15, 45, 46, 47, 48, 49, 50, 51, 52, 53, 54, 55, 56, 57, 58, 66, 67, 68, 69, 70, 71, 72, 73, 74, 75, 76, 77, 78, 79, 80, 81, 82, 83] (by decide +kernel) (by decide +kernel)
set_option maxRecDepth 20000 in
theorem gX4_bestCut_X1_measure : GoodIn wsX4_bestCut (wsV RX4 204 RX1 yX1_measure wsX1_measure) := goodIn_app (goodIn_of _ (by decide +kernel)) ggX4_bestCut_X1_measure
set_option maxRecDepth 20000 in
theorem ggX4_bestCut_X1_cutOf : GoodIn wsX4_bestCut wsX1_cutOf := goodIn_r _ [62, 47, 53, 54, 15, 55, 71, 72, 73, 74, 75] (by decide +kernel) (by decide +kernel)
set_option maxRecDepth 20000 in
theorem gX4_bestCut_X1_cutOf : GoodIn wsX4_bestCut (wsV RX4 211 RX1 yX1_cutOf wsX1_cutOf) := goodIn_app (goodIn_of _ (by decide +kernel)) ggX4_bestCut_X1_cutOf
theorem dX4_bestCut_0 : decode cX4_bestCut 0 = .ok (.iload_n 1, 1) := by decide +kernel
theorem dX4_bestCut_1 : decode cX4_bestCut 1 = .ok (.iload_n 2, 1) := by decide +kernel
theorem dX4_bestCut_2 : decode cX4_bestCut 2 = .ok (.iload_n 3, 1) := by decide +kernel
theorem dX4_bestCut_3 : decode cX4_bestCut 3 = .ok (.invokestatic 26, 3) := by decide +kernel
theorem dX4_bestCut_6 : decode cX4_bestCut 6 = .ok (.aload_n 0, 1) := by decide +kernel
theorem dX4_bestCut_7 : decode cX4_bestCut 7 = .ok (.getfield 22, 3) := by decide +kernel
theorem dX4_bestCut_10 : decode cX4_bestCut 10 = .ok (.aload_n 0, 1) := by decide +kernel
theorem dX4_bestCut_11 : decode cX4_bestCut 11 = .ok (.getfield 12, 3) := by decide +kernel
theorem dX4_bestCut_14 : decode cX4_bestCut 14 = .ok (.iload_n 1, 1) := by decide +kernel
theorem dX4_bestCut_15 : decode cX4_bestCut 15 = .ok (.iload_n 2, 1) := by decide +kernel
theorem dX4_bestCut_16 : decode cX4_bestCut 16 = .ok (.iload_n 3, 1) := by decide +kernel
theorem dX4_bestCut_17 : decode cX4_bestCut 17 = .ok (.invokevirtual 204, 3) := by decide +kernel
theorem dX4_bestCut_20 : decode cX4_bestCut 20 = .ok (.aload_n 0, 1) := by decide +kernel
theorem dX4_bestCut_21 : decode cX4_bestCut 21 = .ok (.getfield 22, 3) := by decide +kernel
theorem dX4_bestCut_24 : decode cX4_bestCut 24 = .ok (.iload_n 1, 1) := by decide +kernel
theorem dX4_bestCut_25 : decode cX4_bestCut 25 = .ok (.iload_n 2, 1) := by decide +kernel
theorem dX4_bestCut_26 : decode cX4_bestCut 26 = .ok (.invokevirtual 211, 3) := by decide +kernel
theorem dX4_bestCut_29 : decode cX4_bestCut 29 = .ok (.ireturn, 1) := by decide +kernel
set_option maxRecDepth 20000 in
theorem ggX4_column_X4_kindOf : GoodIn wsX4_column wsX4_kindOf := goodIn_ca (goodIn_r _ [7, 8, 9, 2, 10, 11, 12, 13, 14, 15, 16, 79, 80, 81, 82, 83, 84, 85, 86] (by decide +kernel) (by decide +kernel)) (goodIn_sub (fun _ h => List.mem_cons_of_mem _ (List.mem_append_left _ (List.mem_append_right _ h))) (by decide +kernel))
set_option maxRecDepth 20000 in
theorem gX4_column_X4_kindOf : GoodIn wsX4_column (wsV RX4 128 RX4 yX4_kindOf wsX4_kindOf) := goodIn_app (goodIn_of _ (by decide +kernel)) ggX4_column_X4_kindOf
set_option maxRecDepth 20000 in
theorem ggX4_column_X4_requirePiece : GoodIn wsX4_column wsX4_requirePiece := goodIn_ca (goodIn_r _ [19, 20, 21, 22, 23, 6, 24] (by decide +kernel) (by decide +kernel)) (goodIn_sub (fun _ h => List.mem_cons_of_mem _ (List.mem_append_right _ h)) (by decide +kernel))
set_option maxRecDepth 20000 in
theorem gX4_column_X4_requirePiece : GoodIn wsX4_column (va_wsS RX4 26 yX4_requirePiece wsX4_requirePiece) := goodIn_app (goodIn_of _ (by decide +kernel)) ggX4_column_X4_requirePiece
set_option maxRecDepth 20000 in
theorem ggX4_column_X1_measure : GoodIn wsX4_column wsX1_measure := goodIn_r _ [29, 30, 31, 32, 33, 13, 34, 15, 35, 11, 12, 14, 16, 36, 37, 38, 39, 40, 41, 42, 43, 44, 45, 46, 47, 48, 49, 50, 51, 28, 52, 53, 54, 55, 56, 57, 58, 59, 60, 61, 62, 63, 64, 65, 82, 83, 84, 85, 86, 87, 88, 89, 90, 91, 92, 93, 94, 95, 96, 97, 98, 99] (by decide +kernel) (by decide +kernel)
set_option maxRecDepth 20000 in
theorem gX4_column_X1_measure : GoodIn wsX4_column (wsV RX4 204 RX1 yX1_measure wsX1_measure) := goodIn_app (goodIn_of _ (by decide +kernel)) ggX4_column_X1_measure
set_option maxRecDepth 20000 in
theorem ggX4_column_X1_countStones : GoodIn wsX4_column wsX1_countStones := goodIn_r _ [69, 70, 71, 72, 73, 28, 74, 55, 30, 75, 76, 77, 78, 54, 60, 61, 62, 63, 64, 65, 87, 88, 89, 90, 91] (by decide +kernel) (by decide +kernel)
set_option maxRecDepth 20000 in
theorem gX4_column_X1_countStones : GoodIn wsX4_column (wsV RX4 214 RX1 yX1_countStones wsX1_countStones) := goodIn_app (goodIn_of _ (by decide +kernel)) ggX4_column_X1_countStones
theorem dX4_column_0 : decode cX4_column 0 = .ok (.aload_n 0, 1) := by decide +kernel
theorem dX4_column_1 : decode cX4_column 1 = .ok (.iload 4, 2) := by decide +kernel
theorem dX4_column_3 : decode cX4_column 3 = .ok (.invokevirtual 128, 3) := by decide +kernel
theorem dX4_column_6 : decode cX4_column 6 = .ok (.pop, 1) := by decide +kernel
theorem dX4_column_7 : decode cX4_column 7 = .ok (.iload_n 1, 1) := by decide +kernel
theorem dX4_column_8 : decode cX4_column 8 = .ok (.iload_n 2, 1) := by decide +kernel
theorem dX4_column_9 : decode cX4_column 9 = .ok (.iload_n 3, 1) := by decide +kernel
theorem dX4_column_10 : decode cX4_column 10 = .ok (.invokestatic 26, 3) := by decide +kernel
theorem dX4_column_13 : decode cX4_column 13 = .ok (.aload_n 0, 1) := by decide +kernel
theorem dX4_column_14 : decode cX4_column 14 = .ok (.getfield 22, 3) := by decide +kernel
theorem dX4_column_17 : decode cX4_column 17 = .ok (.aload_n 0, 1) := by decide +kernel
theorem dX4_column_18 : decode cX4_column 18 = .ok (.getfield 12, 3) := by decide +kernel
theorem dX4_column_21 : decode cX4_column 21 = .ok (.iload_n 1, 1) := by decide +kernel
theorem dX4_column_22 : decode cX4_column 22 = .ok (.iload_n 2, 1) := by decide +kernel
theorem dX4_column_23 : decode cX4_column 23 = .ok (.iload_n 3, 1) := by decide +kernel
theorem dX4_column_24 : decode cX4_column 24 = .ok (.invokevirtual 204, 3) := by decide +kernel
theorem dX4_column_27 : decode cX4_column 27 = .ok (.aload_n 0, 1) := by decide +kernel
theorem dX4_column_28 : decode cX4_column 28 = .ok (.getfield 22, 3) := by decide +kernel
theorem dX4_column_31 : decode cX4_column 31 = .ok (.iload_n 1, 1) := by decide +kernel
theorem dX4_column_32 : decode cX4_column 32 = .ok (.iload_n 2, 1) := by decide +kernel
theorem dX4_column_33 : decode cX4_column 33 = .ok (.iload 4, 2) := by decide +kernel
theorem dX4_column_35 : decode cX4_column 35 = .ok (.invokevirtual 214, 3) := by decide +kernel
theorem dX4_column_38 : decode cX4_column 38 = .ok (.ireturn, 1) := by decide +kernel
set_option maxRecDepth 20000 in
theorem ggX4_worthMore_X4_kindOf : GoodIn wsX4_worthMore wsX4_kindOf := goodIn_ca (goodIn_r _ [9, 10, 11, 4, 12, 13, 14, 15, 16, 17, 18, 134, 135, 136, 137, 138, 139, 140, 141] (by decide +kernel) (by decide +kernel)) (goodIn_sub (fun _ h => List.mem_cons_of_mem _ (List.mem_append_right _ h)) (by decide +kernel))
set_option maxRecDepth 20000 in
theorem gX4_worthMore_X4_kindOf : GoodIn wsX4_worthMore (wsV RX4 128 RX4 yX4_kindOf wsX4_kindOf) := goodIn_app (goodIn_of _ (by decide +kernel)) ggX4_worthMore_X4_kindOf
set_option maxRecDepth 20000 in
theorem ggX4_worthMore_X4_isPrice : GoodIn wsX4_worthMore wsX4_isPrice := goodIn_r _ [21] (by decide +kernel) (by decide +kernel)
set_option maxRecDepth 20000 in
theorem gX4_worthMore_X4_isPrice : GoodIn wsX4_worthMore (va_wsS RX4 115 yX4_isPrice wsX4_isPrice) := goodIn_app (goodIn_of _ (by decide +kernel)) ggX4_worthMore_X4_isPrice
set_option maxRecDepth 20000 in
theorem ggX4_worthMore_X3_copyFrom : GoodIn wsX4_worthMore wsX3_copyFrom := goodIn_r _ [25, 26, 27, 17, 28, 29, 30, 15, 31, 32, 33, 34, 35, 36, 37, 38, 39, 40, 41, 42, 43, 44, 45, 46, 47, 48, 49, 50, 51, 52, 53, 54, 55, 56, 57, 13, 14, 16, 18, 58, 59, 60, 61, 62, 63, 64, 65, 66, 67, 68, 69, 70, 71, 72, 73, 74, 137, 138, 139, 140, 141, 142, 143, 144, 145, 146, 147, 148, 149, 150, 151, 152, 153, 154, 155, 156] (by decide +kernel) (by decide +kernel)
set_option maxRecDepth 20000 in
theorem gX4_worthMore_X3_copyFrom : GoodIn wsX4_worthMore (wsV RX4 220 RX3 yX3_copyFrom wsX3_copyFrom) := goodIn_app (goodIn_of _ (by decide +kernel)) ggX4_worthMore_X3_copyFrom
set_option maxRecDepth 20000 in
theorem ggX4_worthMore_X3_setPrice : GoodIn wsX4_worthMore wsX3_setPrice := goodIn_r _ [78, 57, 13, 14, 15, 16, 17, 18, 149, 150, 151, 152, 153, 154, 155, 156, 137, 138, 139, 140, 141] (by decide +kernel) (by decide +kernel)
set_option maxRecDepth 20000 in
theorem gX4_worthMore_X3_setPrice : GoodIn wsX4_worthMore (wsV RX4 224 RX3 yX3_setPrice wsX3_setPrice) := goodIn_app (goodIn_of _ (by decide +kernel)) ggX4_worthMore_X3_setPrice
set_option maxRecDepth 20000 in
theorem ggX4_worthMore_X4_worthOfAll : GoodIn wsX4_worthMore wsX4_worthOfAll := goodIn_r _ [82, 83, 84, 85, 86, 15, 87, 27, 88, 89, 90, 91, 28, 29, 30, 31, 32, 92, 93, 94, 36, 95, 38, 39, 96, 97, 98, 99, 100, 101, 102, 103, 104, 105, 17, 57, 13, 14, 16, 18, 106, 107, 108, 61, 109, 110, 111, 112, 113, 66, 63, 64, 114, 115, 116, 117, 118, 119, 120, 121, 122, 123, 124, 125, 126, 127, 128, 129, 130, 131, 132, 133, 134, 135, 136, 137, 138, 139, 140, 141, 142, 143, 144, 145, 146, 147, 148, 157, 158, 159, 160, 161, 149, 150, 151, 152, 153, 154, 155, 156] (by decide +kernel) (by decide +kernel)
set_option maxRecDepth 20000 in
theorem gX4_worthMore_X4_worthOfAll : GoodIn wsX4_worthMore (wsV RX4 227 RX4 yX4_worthOfAll wsX4_worthOfAll) := goodIn_app (goodIn_of _ (by decide +kernel)) ggX4_worthMore_X4_worthOfAll
theorem dX4_worthMore_0 : decode cX4_worthMore 0 = .ok (.aload_n 0, 1) := by decide +kernel
theorem dX4_worthMore_1 : decode cX4_worthMore 1 = .ok (.iload_n 1, 1) := by decide +kernel
theorem dX4_worthMore_2 : decode cX4_worthMore 2 = .ok (.invokevirtual 128, 3) := by decide +kernel
theorem dX4_worthMore_5 : decode cX4_worthMore 5 = .ok (.pop, 1) := by decide +kernel
theorem dX4_worthMore_6 : decode cX4_worthMore 6 = .ok (.iload_n 2, 1) := by decide +kernel
theorem dX4_worthMore_7 : decode cX4_worthMore 7 = .ok (.invokestatic 115, 3) := by decide +kernel
theorem dX4_worthMore_10 : decode cX4_worthMore 10 = .ok (.ifCond .ne 13, 3) := by decide +kernel
theorem dX4_worthMore_13 : decode cX4_worthMore 13 = .ok (.new 67, 3) := by decide +kernel
theorem dX4_worthMore_16 : decode cX4_worthMore 16 = .ok (.dup, 1) := by decide +kernel
theorem dX4_worthMore_17 : decode cX4_worthMore 17 = .ok (.ldc 218, 2) := by decide +kernel
theorem dX4_worthMore_19 : decode cX4_worthMore 19 = .ok (.invokespecial 71, 3) := by decide +kernel
theorem dX4_worthMore_22 : decode cX4_worthMore 22 = .ok (.athrow, 1) := by decide +kernel
theorem dX4_worthMore_23 : decode cX4_worthMore 23 = .ok (.aload_n 0, 1) := by decide +kernel
theorem dX4_worthMore_24 : decode cX4_worthMore 24 = .ok (.getfield 16, 3) := by decide +kernel
theorem dX4_worthMore_27 : decode cX4_worthMore 27 = .ok (.aload_n 0, 1) := by decide +kernel
theorem dX4_worthMore_28 : decode cX4_worthMore 28 = .ok (.getfield 12, 3) := by decide +kernel
theorem dX4_worthMore_31 : decode cX4_worthMore 31 = .ok (.invokevirtual 220, 3) := by decide +kernel
theorem dX4_worthMore_34 : decode cX4_worthMore 34 = .ok (.aload_n 0, 1) := by decide +kernel
theorem dX4_worthMore_35 : decode cX4_worthMore 35 = .ok (.getfield 16, 3) := by decide +kernel
theorem dX4_worthMore_38 : decode cX4_worthMore 38 = .ok (.iload_n 1, 1) := by decide +kernel
theorem dX4_worthMore_39 : decode cX4_worthMore 39 = .ok (.iload_n 2, 1) := by decide +kernel
theorem dX4_worthMore_40 : decode cX4_worthMore 40 = .ok (.invokevirtual 224, 3) := by decide +kernel
theorem dX4_worthMore_43 : decode cX4_worthMore 43 = .ok (.aload_n 0, 1) := by decide +kernel
theorem dX4_worthMore_44 : decode cX4_worthMore 44 = .ok (.aload_n 0, 1) := by decide +kernel
theorem dX4_worthMore_45 : decode cX4_worthMore 45 = .ok (.getfield 16, 3) := by decide +kernel
theorem dX4_worthMore_48 : decode cX4_worthMore 48 = .ok (.invokevirtual 227, 3) := by decide +kernel
theorem dX4_worthMore_51 : decode cX4_worthMore 51 = .ok (.aload_n 0, 1) := by decide +kernel
theorem dX4_worthMore_52 : decode cX4_worthMore 52 = .ok (.aload_n 0, 1) := by decide +kernel
theorem dX4_worthMore_53 : decode cX4_worthMore 53 = .ok (.getfield 12, 3) := by decide +kernel
theorem dX4_worthMore_56 : decode cX4_worthMore 56 = .ok (.invokevirtual 227, 3) := by decide +kernel
theorem dX4_worthMore_59 : decode cX4_worthMore 59 = .ok (.isub, 1) := by decide +kernel
theorem dX4_worthMore_60 : decode cX4_worthMore 60 = .ok (.ireturn, 1) := by decide +kernel
set_option maxRecDepth 20000 in
theorem ggX4_wasteBy_X4_slabOf : GoodIn wsX4_wasteBy wsX4_slabOf := goodIn_ca (goodIn_r _ [7, 8, 9, 2, 10, 11, 12, 13, 14, 15, 16, 155, 156, 157, 158, 159, 160, 161, 162] (by decide +kernel) (by decide +kernel)) (goodIn_sub (fun _ h => List.mem_cons_of_mem _ (List.mem_append_right _ h)) (by decide +kernel))
set_option maxRecDepth 20000 in
theorem gX4_wasteBy_X4_slabOf : GoodIn wsX4_wasteBy (wsV RX4 45 RX4 yX4_slabOf wsX4_slabOf) := goodIn_app (goodIn_of _ (by decide +kernel)) ggX4_wasteBy_X4_slabOf
set_option maxRecDepth 20000 in
theorem ggX4_wasteBy_X4_kindOf : GoodIn wsX4_wasteBy wsX4_kindOf := goodIn_ca (goodIn_r _ [20, 8, 9, 2, 21, 22, 23, 13, 24, 25, 26, 155, 156, 157, 158, 159, 160, 161, 162] (by decide +kernel) (by decide +kernel)) (goodIn_sub (fun _ h => List.mem_cons_of_mem _ (List.mem_append_right _ h)) (by decide +kernel))
set_option maxRecDepth 20000 in
theorem gX4_wasteBy_X4_kindOf : GoodIn wsX4_wasteBy (wsV RX4 128 RX4 yX4_kindOf wsX4_kindOf) := goodIn_app (goodIn_of _ (by decide +kernel)) ggX4_wasteBy_X4_kindOf
set_option maxRecDepth 20000 in
theorem ggX4_wasteBy_X2_firstManner : GoodIn wsX4_wasteBy wsX2_firstManner := goodIn_r _ [31, 32, 33, 34, 35, 36, 37, 38, 39, 40, 41, 42, 43, 44, 45, 46, 47, 48, 49, 50, 51, 52, 53, 54, 30, 55, 56, 57, 163, 164, 165, 166, 167, 168, 169, 170, 171, 172, 173, 174, 175, 176, 177] (by decide +kernel) (by decide +kernel)
set_option maxRecDepth 20000 in
theorem gX4_wasteBy_X2_firstManner : GoodIn wsX4_wasteBy (wsV RX4 164 RX2 yX2_firstManner wsX2_firstManner) := goodIn_app (goodIn_of _ (by decide +kernel)) ggX4_wasteBy_X2_firstManner
set_option maxRecDepth 20000 in
theorem ggX4_wasteBy_X3_copyFrom : GoodIn wsX4_wasteBy wsX3_copyFrom := goodIn_r _ [61, 62, 15, 25, 63, 11, 12, 13, 14, 16, 64, 65, 66, 30, 67, 33, 34, 35, 68, 32, 69, 70, 71, 72, 56, 73, 74, 75, 76, 57, 77, 78, 79, 80, 81, 22, 23, 24, 26, 82, 83, 84, 39, 85, 42, 43, 86, 41, 87, 88, 89, 90, 91, 92, 93, 94, 158, 159, 160, 161, 162, 163, 164, 165, 166, 167, 168, 169, 170, 171, 172, 173, 174, 175, 176, 177] (by decide +kernel) (by decide +kernel)
set_option maxRecDepth 20000 in
theorem gX4_wasteBy_X3_copyFrom : GoodIn wsX4_wasteBy (wsV RX4 220 RX3 yX3_copyFrom wsX3_copyFrom) := goodIn_app (goodIn_of _ (by decide +kernel)) ggX4_wasteBy_X3_copyFrom
set_option maxRecDepth 20000 in
theorem ggX4_wasteBy_X3_takeStone : GoodIn wsX4_wasteBy wsX3_takeStone := goodIn_r _ [98, 63, 11, 12, 13, 14, 15, 16, 81, 22, 23, 24, 25, 26, 99, 28, 29, 30, 31, 32, 33, 34, 35, 36, 37, 38, 39, 40, 41, 42, 43, 44, 45, 46, 47, 48, 49, 50, 51, 52, 53, 54, 55, 56, 57, 100, 101, 102, 103, 104, 62, 105, 106, 107, 108, 109, 110, 111, 112, 113, 114, 115, 116, 117, 70, 71, 72, 68, 118, 74, 75, 76, 77, 78, 79, 80, 119, 120, 121, 122, 123, 88, 86, 124, 125, 126, 127, 89, 90, 128, 129, 130, 131, 132, 133, 134, 135, 136, 137, 138, 163, 164, 165, 166, 167, 168, 169, 158, 159, 160, 161, 162, 170, 171, 172, 173, 174, 175, 176, 177] (by decide +kernel) (by decide +kernel)
set_option maxRecDepth 20000 in
theorem gX4_wasteBy_X3_takeStone : GoodIn wsX4_wasteBy (wsV RX4 174 RX3 yX3_takeStone wsX3_takeStone) := goodIn_app (goodIn_of _ (by decide +kernel)) ggX4_wasteBy_X3_takeStone
set_option maxRecDepth 20000 in
theorem ggX4_wasteBy_X3_waste : GoodIn wsX4_wasteBy wsX3_waste := goodIn_r _ [142, 25, 143, 144, 145, 13, 146, 15, 63, 11, 12, 14, 16, 147, 148, 149, 30, 150, 33, 34, 151, 152, 153, 154, 81, 22, 23, 24, 26, 158, 159, 160, 161, 162, 170, 171, 172, 173, 174, 175, 176, 177, 163, 164, 165, 166, 167, 168, 169] (by decide +kernel) (by decide +kernel)
set_option maxRecDepth 20000 in
theorem gX4_wasteBy_X3_waste : GoodIn wsX4_wasteBy (wsV RX4 195 RX3 yX3_waste wsX3_waste) := goodIn_app (goodIn_of _ (by decide +kernel)) ggX4_wasteBy_X3_waste
theorem dX4_wasteBy_0 : decode cX4_wasteBy 0 = .ok (.aload_n 0, 1) := by decide +kernel
theorem dX4_wasteBy_1 : decode cX4_wasteBy 1 = .ok (.iload_n 1, 1) := by decide +kernel
theorem dX4_wasteBy_2 : decode cX4_wasteBy 2 = .ok (.invokevirtual 45, 3) := by decide +kernel
theorem dX4_wasteBy_5 : decode cX4_wasteBy 5 = .ok (.aload_n 0, 1) := by decide +kernel
theorem dX4_wasteBy_6 : decode cX4_wasteBy 6 = .ok (.iload_n 2, 1) := by decide +kernel
theorem dX4_wasteBy_7 : decode cX4_wasteBy 7 = .ok (.invokevirtual 128, 3) := by decide +kernel
theorem dX4_wasteBy_10 : decode cX4_wasteBy 10 = .ok (.invokevirtual 164, 3) := by decide +kernel
theorem dX4_wasteBy_13 : decode cX4_wasteBy 13 = .ok (.iconst (-1), 1) := by decide +kernel
theorem dX4_wasteBy_14 : decode cX4_wasteBy 14 = .ok (.if_icmp .ne 5, 3) := by decide +kernel
theorem dX4_wasteBy_17 : decode cX4_wasteBy 17 = .ok (.iconst (-1), 1) := by decide +kernel
theorem dX4_wasteBy_18 : decode cX4_wasteBy 18 = .ok (.ireturn, 1) := by decide +kernel
theorem dX4_wasteBy_19 : decode cX4_wasteBy 19 = .ok (.aload_n 0, 1) := by decide +kernel
theorem dX4_wasteBy_20 : decode cX4_wasteBy 20 = .ok (.getfield 16, 3) := by decide +kernel
theorem dX4_wasteBy_23 : decode cX4_wasteBy 23 = .ok (.aload_n 0, 1) := by decide +kernel
theorem dX4_wasteBy_24 : decode cX4_wasteBy 24 = .ok (.getfield 12, 3) := by decide +kernel
theorem dX4_wasteBy_27 : decode cX4_wasteBy 27 = .ok (.invokevirtual 220, 3) := by decide +kernel
theorem dX4_wasteBy_30 : decode cX4_wasteBy 30 = .ok (.aload_n 0, 1) := by decide +kernel
theorem dX4_wasteBy_31 : decode cX4_wasteBy 31 = .ok (.getfield 16, 3) := by decide +kernel
theorem dX4_wasteBy_34 : decode cX4_wasteBy 34 = .ok (.iload_n 1, 1) := by decide +kernel
theorem dX4_wasteBy_35 : decode cX4_wasteBy 35 = .ok (.iload_n 2, 1) := by decide +kernel
theorem dX4_wasteBy_36 : decode cX4_wasteBy 36 = .ok (.invokevirtual 174, 3) := by decide +kernel
theorem dX4_wasteBy_39 : decode cX4_wasteBy 39 = .ok (.pop, 1) := by decide +kernel
theorem dX4_wasteBy_40 : decode cX4_wasteBy 40 = .ok (.aload_n 0, 1) := by decide +kernel
theorem dX4_wasteBy_41 : decode cX4_wasteBy 41 = .ok (.getfield 16, 3) := by decide +kernel
theorem dX4_wasteBy_44 : decode cX4_wasteBy 44 = .ok (.invokevirtual 195, 3) := by decide +kernel
theorem dX4_wasteBy_47 : decode cX4_wasteBy 47 = .ok (.ireturn, 1) := by decide +kernel
set_option maxRecDepth 20000 in
theorem ggX4_planPays_X4_requireMost : GoodIn wsX4_planPays wsX4_requireMost := goodIn_ca (goodIn_r _ [6, 7, 8] (by decide +kernel) (by decide +kernel)) (goodIn_sub (fun _ h => List.mem_cons_of_mem _ (List.mem_append_right _ h)) (by decide +kernel))
set_option maxRecDepth 20000 in
theorem gX4_planPays_X4_requireMost : GoodIn wsX4_planPays (va_wsS RX4 178 yX4_requireMost wsX4_requireMost) := goodIn_app (goodIn_of _ (by decide +kernel)) ggX4_planPays_X4_requireMost
set_option maxRecDepth 20000 in
theorem ggX4_planPays_X3_copyFrom : GoodIn wsX4_planPays wsX3_copyFrom := goodIn_r _ [13, 14, 15, 16, 17, 18, 19, 12, 20, 21, 22, 23, 24, 25, 26, 27, 28, 29, 30, 31, 32, 33, 34, 35, 36, 37, 38, 39, 40, 41, 42, 43, 44, 45, 46, 47, 48, 49, 50, 51, 52, 53, 54, 55, 56, 57, 58, 59, 60, 61, 62, 63, 64, 65, 66, 67, 158, 159, 160, 161, 162, 163, 164, 165, 166, 167, 168, 169, 170, 171, 172, 173, 174, 175, 176, 177] (by decide +kernel) (by decide +kernel)
set_option maxRecDepth 20000 in
theorem gX4_planPays_X3_copyFrom : GoodIn wsX4_planPays (wsV RX4 220 RX3 yX3_copyFrom wsX3_copyFrom) := goodIn_app (goodIn_of _ (by decide +kernel)) ggX4_planPays_X3_copyFrom
set_option maxRecDepth 20000 in
theorem ggX4_planPays_X3_takeByPlan : GoodIn wsX4_planPays wsX3_takeByPlan := goodIn_r _ [71, 72, 73, 74, 12, 75, 15, 76, 77, 78, 79, 17, 18, 19, 20, 21, 80, 81, 82, 83, 16, 46, 47, 48, 49, 50, 84, 85, 86, 25, 87, 31, 27, 28, 29, 88, 89, 90, 54, 91, 59, 56, 57, 92, 93, 94, 95, 96, 97, 98, 99, 100, 101, 102, 103, 36, 41, 104, 105, 106, 107, 108, 109, 110, 111, 112, 113, 114, 115, 116, 14, 117, 118, 119, 120, 121, 122, 123, 124, 125, 126, 127, 128, 129, 33, 34, 35, 30, 130, 38, 39, 40, 42, 43, 44, 45, 131, 132, 133, 134, 135, 61, 58, 136, 137, 138, 139, 62, 63, 140, 141, 142, 143, 144, 145, 146, 147, 148, 149, 150, 158, 159, 160, 161, 162, 170, 171, 172, 173, 174, 175, 176, 177, 163, 164, 165, 166, 167, 168, 169] (by decide +kernel) (by decide +kernel)
set_option maxRecDepth 20000 in
theorem gX4_planPays_X3_takeByPlan : GoodIn wsX4_planPays (wsV RX4 182 RX3 yX3_takeByPlan wsX3_takeByPlan) := goodIn_app (goodIn_of _ (by decide +kernel)) ggX4_planPays_X3_takeByPlan
set_option maxRecDepth 20000 in
theorem ggX4_planPays_X3_sumPaid : GoodIn wsX4_planPays wsX3_sumPaid := goodIn_r _ [154, 16, 46, 47, 48, 12, 49, 50, 158, 159, 160, 161, 162, 170, 171, 172, 173, 174, 175, 176, 177] (by decide +kernel) (by decide +kernel)
set_option maxRecDepth 20000 in
theorem gX4_planPays_X3_sumPaid : GoodIn wsX4_planPays (wsV RX4 192 RX3 yX3_sumPaid wsX3_sumPaid) := goodIn_app (goodIn_of _ (by decide +kernel)) ggX4_planPays_X3_sumPaid
theorem dX4_planPays_0 : decode cX4_planPays 0 = .ok (.iload_n 1, 1) := by decide +kernel
theorem dX4_planPays_1 : decode cX4_planPays 1 = .ok (.invokestatic 178, 3) := by decide +kernel
theorem dX4_planPays_4 : decode cX4_planPays 4 = .ok (.aload_n 0, 1) := by decide +kernel
theorem dX4_planPays_5 : decode cX4_planPays 5 = .ok (.getfield 16, 3) := by decide +kernel
theorem dX4_planPays_8 : decode cX4_planPays 8 = .ok (.aload_n 0, 1) := by decide +kernel
theorem dX4_planPays_9 : decode cX4_planPays 9 = .ok (.getfield 12, 3) := by decide +kernel
theorem dX4_planPays_12 : decode cX4_planPays 12 = .ok (.invokevirtual 220, 3) := by decide +kernel
theorem dX4_planPays_15 : decode cX4_planPays 15 = .ok (.aload_n 0, 1) := by decide +kernel
theorem dX4_planPays_16 : decode cX4_planPays 16 = .ok (.getfield 16, 3) := by decide +kernel
theorem dX4_planPays_19 : decode cX4_planPays 19 = .ok (.iload_n 1, 1) := by decide +kernel
theorem dX4_planPays_20 : decode cX4_planPays 20 = .ok (.invokevirtual 182, 3) := by decide +kernel
theorem dX4_planPays_23 : decode cX4_planPays 23 = .ok (.pop, 1) := by decide +kernel
theorem dX4_planPays_24 : decode cX4_planPays 24 = .ok (.aload_n 0, 1) := by decide +kernel
theorem dX4_planPays_25 : decode cX4_planPays 25 = .ok (.getfield 16, 3) := by decide +kernel
theorem dX4_planPays_28 : decode cX4_planPays 28 = .ok (.invokevirtual 192, 3) := by decide +kernel
theorem dX4_planPays_31 : decode cX4_planPays 31 = .ok (.aload_n 0, 1) := by decide +kernel
theorem dX4_planPays_32 : decode cX4_planPays 32 = .ok (.getfield 12, 3) := by decide +kernel
theorem dX4_planPays_35 : decode cX4_planPays 35 = .ok (.invokevirtual 192, 3) := by decide +kernel
theorem dX4_planPays_38 : decode cX4_planPays 38 = .ok (.isub, 1) := by decide +kernel
theorem dX4_planPays_39 : decode cX4_planPays 39 = .ok (.ireturn, 1) := by decide +kernel
set_option maxRecDepth 20000 in
theorem ggX4_digest_X4_many : GoodIn wsX4_digest wsX4_many := goodIn_ca (goodIn_r _ [8, 9, 10, 3, 11, 12, 13, 14, 15, 16, 17, 18, 19, 20, 21, 22, 23, 24, 25, 26, 27, 28, 29, 30, 31, 32, 33, 34, 35, 36, 37, 38, 39, 40, 41, 42, 43, 44, 45, 46, 47, 48, 49, 50, 51, 52, 53, 54, 55, 56, 57, 58, 59, 268, 269, 270, 271, 272, 273, 274, 275, 276, 277, 278, 279, 280, 281, 282, 283, 284, 285, 286, 287, 288, 289, 290] (by decide +kernel) (by decide +kernel)) (goodIn_sub (fun _ h => List.mem_cons_of_mem _ (List.mem_append_left _ (List.mem_append_right _ h))) (by decide +kernel))
set_option maxRecDepth 20000 in
theorem gX4_digest_X4_many : GoodIn wsX4_digest (wsV RX4 235 RX4 yX4_many wsX4_many) := goodIn_app (goodIn_of _ (by decide +kernel)) ggX4_digest_X4_many
set_option maxRecDepth 20000 in
theorem ggX4_digest_X4_ofSlab : GoodIn wsX4_digest wsX4_ofSlab := goodIn_ca (goodIn_ca (goodIn_r _ [63, 9, 10, 64, 65, 66, 7, 67, 68, 69, 3, 70, 18, 19, 14, 20, 16, 21, 276, 277, 278, 279, 280, 281, 282, 268, 269, 270, 271, 272, 273, 274, 275] (by decide +kernel) (by decide +kernel)) (goodIn_sub (fun _ h => List.mem_cons_of_mem _ (List.mem_append_left _ (List.mem_append_right _ h))) (by decide +kernel))) (goodIn_sub (fun _ h => List.mem_cons_of_mem _ (List.mem_append_right _ h)) (by decide +kernel))
set_option maxRecDepth 20000 in
theorem gX4_digest_X4_ofSlab : GoodIn wsX4_digest (wsV RX4 238 RX4 yX4_ofSlab wsX4_ofSlab) := goodIn_app (goodIn_of _ (by decide +kernel)) ggX4_digest_X4_ofSlab
set_option maxRecDepth 20000 in
theorem ggX4_digest_X4_fits : GoodIn wsX4_digest wsX4_fits := goodIn_ca (goodIn_r _ [74, 64, 65, 66, 7, 67, 68, 69, 3, 70, 18, 19, 14, 20, 16, 21, 75, 76, 77, 78, 79, 28, 29, 30, 26, 31, 80, 81, 82, 47, 83, 84, 49, 50, 85, 86, 87, 88, 89, 90, 91, 92, 93, 94, 95, 96, 97, 98, 99, 100, 101, 102, 103, 104, 105, 106, 107, 268, 269, 270, 271, 272, 273, 274, 275, 276, 277, 278, 279, 280, 281, 282, 283, 284, 285, 286, 287, 288, 289, 290] (by decide +kernel) (by decide +kernel)) (goodIn_sub (fun _ h => List.mem_cons_of_mem _ (List.mem_append_right _ h)) (by decide +kernel))
set_option maxRecDepth 20000 in
theorem gX4_digest_X4_fits : GoodIn wsX4_digest (wsV RX4 241 RX4 yX4_fits wsX4_fits) := goodIn_app (goodIn_of _ (by decide +kernel)) ggX4_digest_X4_fits
set_option maxRecDepth 20000 in
theorem ggX4_digest_X4_ofKind : GoodIn wsX4_digest wsX4_ofKind := goodIn_ca (goodIn_ca (goodIn_r _ [111, 9, 10, 75, 76, 77, 7, 78, 68, 69, 3, 79, 28, 29, 14, 30, 26, 31, 283, 284, 285, 286, 287, 288, 289, 290, 268, 269, 270, 271, 272, 273, 274, 275] (by decide +kernel) (by decide +kernel)) (goodIn_sub (fun _ h => List.mem_cons_of_mem _ (List.mem_append_left _ (List.mem_append_right _ h))) (by decide +kernel))) (goodIn_sub (fun _ h => List.mem_cons_of_mem _ (List.mem_append_right _ h)) (by decide +kernel))
set_option maxRecDepth 20000 in
theorem gX4_digest_X4_ofKind : GoodIn wsX4_digest (wsV RX4 244 RX4 yX4_ofKind wsX4_ofKind) := goodIn_app (goodIn_of _ (by decide +kernel)) ggX4_digest_X4_ofKind
set_option maxRecDepth 20000 in
theorem ggX4_digest_X4_worth : GoodIn wsX4_digest wsX4_worth := goodIn_ca (goodIn_r _ [115, 116, 3, 117, 118, 7, 119, 9, 10, 120, 121, 122, 123, 124, 125, 126, 127, 128, 129, 130, 131, 14, 132, 26, 27, 28, 29, 30, 31, 133, 134, 135, 89, 136, 137, 87, 88, 90, 91, 92, 93, 138, 139, 140, 141, 142, 143, 144, 145, 146, 147, 148, 149, 150, 151, 152, 153, 154, 155, 156, 268, 269, 270, 271, 272, 273, 274, 275, 291, 292, 293, 294, 295, 283, 284, 285, 286, 287, 288, 289, 290] (by decide +kernel) (by decide +kernel)) (goodIn_sub (fun _ h => List.mem_cons_of_mem _ (List.mem_append_left _ (List.mem_append_right _ h))) (by decide +kernel))
set_option maxRecDepth 20000 in
theorem gX4_digest_X4_worth : GoodIn wsX4_digest (wsV RX4 247 RX4 yX4_worth wsX4_worth) := goodIn_app (goodIn_of _ (by decide +kernel)) ggX4_digest_X4_worth
set_option maxRecDepth 20000 in
theorem ggX4_digest_X4_bestCut : GoodIn wsX4_digest wsX4_bestCut := goodIn_ca (goodIn_r _ [160, 116, 3, 117, 118, 7, 119, 9, 10, 120, 121, 122, 123, 124, 125, 126, 127, 128, 129, 130, 131, 14, 132, 26, 27, 28, 29, 30, 31, 133, 134, 135, 89, 136, 137, 87, 88, 90, 91, 92, 93, 138, 139, 140, 141, 142, 143, 144, 145, 146, 147, 148, 149, 150, 151, 152, 153, 154, 155, 161, 162, 163, 164, 268, 269, 270, 271, 272, 273, 274, 275, 291, 292, 293, 294, 295, 283, 284, 285, 286, 287, 288, 289, 290] (by decide +kernel) (by decide +kernel)) (goodIn_sub (fun _ h => List.mem_cons_of_mem _ (List.mem_append_left _ (List.mem_append_right _ h))) (by decide +kernel))
set_option maxRecDepth 20000 in
theorem gX4_digest_X4_bestCut : GoodIn wsX4_digest (wsV RX4 250 RX4 yX4_bestCut wsX4_bestCut) := goodIn_app (goodIn_of _ (by decide +kernel)) ggX4_digest_X4_bestCut
set_option maxRecDepth 20000 in
theorem ggX4_digest_X4_planPays : GoodIn wsX4_digest wsX4_planPays := goodIn_ca (goodIn_r _ [168, 169, 3, 170, 171, 7, 172, 9, 10, 173, 174, 175, 14, 176, 177, 16, 26, 17, 18, 19, 20, 21, 178, 179, 180, 47, 181, 49, 50, 85, 182, 84, 183, 184, 185, 186, 106, 187, 188, 189, 190, 107, 191, 192, 193, 194, 27, 28, 29, 30, 31, 195, 196, 197, 89, 198, 92, 93, 199, 91, 200, 201, 202, 203, 204, 205, 206, 207, 208, 209, 210, 211, 212, 213, 214, 215, 216, 217, 218, 219, 220, 221, 222, 223, 224, 81, 82, 83, 86, 87, 88, 90, 94, 95, 96, 97, 98, 99, 100, 101, 102, 103, 104, 105, 44, 45, 46, 48, 225, 226, 227, 228, 229, 230, 231, 232, 233, 234, 235, 236, 237, 238, 239, 240, 241, 242, 243, 244, 245, 246, 247, 248, 249, 250, 251, 252, 253, 254, 255, 256, 257, 258, 259, 260, 261, 262, 263, 264, 265, 266, 267, 32, 33, 34, 35, 268, 269, 270, 271, 272, 273, 274, 275, 276, 277, 278, 279, 280, 281, 282, 283, 284, 285, 286, 287, 288, 289, 290] (by decide +kernel) (by decide +kernel)) (goodIn_sub (fun _ h => List.mem_cons_of_mem _ (List.mem_append_left _ (List.mem_append_right _ h))) (by decide +kernel))
set_option maxRecDepth 20000 in
theorem gX4_digest_X4_planPays : GoodIn wsX4_digest (wsV RX4 253 RX4 yX4_planPays wsX4_planPays) := goodIn_app (goodIn_of _ (by decide +kernel)) ggX4_digest_X4_planPays
theorem dX4_digest_0 : decode cX4_digest 0 = .ok (.ldc2_w 231, 3) := by decide +kernel
theorem dX4_digest_3 : decode cX4_digest 3 = .ok (.lstore_n 1, 1) := by decide +kernel
theorem dX4_digest_4 : decode cX4_digest 4 = .ok (.iconst 0, 1) := by decide +kernel
theorem dX4_digest_5 : decode cX4_digest 5 = .ok (.istore_n 3, 1) := by decide +kernel
theorem dX4_digest_6 : decode cX4_digest 6 = .ok (.iload_n 3, 1) := by decide +kernel
theorem dX4_digest_7 : decode cX4_digest 7 = .ok (.bipush 7, 2) := by decide +kernel
theorem dX4_digest_9 : decode cX4_digest 9 = .ok (.if_icmp .gt 22, 3) := by decide +kernel
theorem dX4_digest_12 : decode cX4_digest 12 = .ok (.lload_n 1, 1) := by decide +kernel
theorem dX4_digest_13 : decode cX4_digest 13 = .ok (.ldc2_w 233, 3) := by decide +kernel
theorem dX4_digest_16 : decode cX4_digest 16 = .ok (.lmul, 1) := by decide +kernel
theorem dX4_digest_17 : decode cX4_digest 17 = .ok (.aload_n 0, 1) := by decide +kernel
theorem dX4_digest_18 : decode cX4_digest 18 = .ok (.iload_n 3, 1) := by decide +kernel
theorem dX4_digest_19 : decode cX4_digest 19 = .ok (.invokevirtual 235, 3) := by decide +kernel
theorem dX4_digest_22 : decode cX4_digest 22 = .ok (.i2l, 1) := by decide +kernel
theorem dX4_digest_23 : decode cX4_digest 23 = .ok (.ladd, 1) := by decide +kernel
theorem dX4_digest_24 : decode cX4_digest 24 = .ok (.lstore_n 1, 1) := by decide +kernel
theorem dX4_digest_25 : decode cX4_digest 25 = .ok (.iinc 3 1, 3) := by decide +kernel
theorem dX4_digest_28 : decode cX4_digest 28 = .ok (.goto (-22), 3) := by decide +kernel
theorem dX4_digest_31 : decode cX4_digest 31 = .ok (.iconst 0, 1) := by decide +kernel
theorem dX4_digest_32 : decode cX4_digest 32 = .ok (.istore_n 3, 1) := by decide +kernel
theorem dX4_digest_33 : decode cX4_digest 33 = .ok (.iload_n 3, 1) := by decide +kernel
theorem dX4_digest_34 : decode cX4_digest 34 = .ok (.aload_n 0, 1) := by decide +kernel
theorem dX4_digest_35 : decode cX4_digest 35 = .ok (.getfield 12, 3) := by decide +kernel
theorem dX4_digest_38 : decode cX4_digest 38 = .ok (.getfield 30, 3) := by decide +kernel
theorem dX4_digest_41 : decode cX4_digest 41 = .ok (.if_icmp .ge 75, 3) := by decide +kernel
theorem dX4_digest_44 : decode cX4_digest 44 = .ok (.iconst 0, 1) := by decide +kernel
theorem dX4_digest_45 : decode cX4_digest 45 = .ok (.istore 4, 2) := by decide +kernel
theorem dX4_digest_47 : decode cX4_digest 47 = .ok (.iload 4, 2) := by decide +kernel
theorem dX4_digest_49 : decode cX4_digest 49 = .ok (.iconst 5, 1) := by decide +kernel
theorem dX4_digest_50 : decode cX4_digest 50 = .ok (.if_icmp .gt 24, 3) := by decide +kernel
theorem dX4_digest_53 : decode cX4_digest 53 = .ok (.lload_n 1, 1) := by decide +kernel
theorem dX4_digest_54 : decode cX4_digest 54 = .ok (.ldc2_w 233, 3) := by decide +kernel
theorem dX4_digest_57 : decode cX4_digest 57 = .ok (.lmul, 1) := by decide +kernel
theorem dX4_digest_58 : decode cX4_digest 58 = .ok (.aload_n 0, 1) := by decide +kernel
theorem dX4_digest_59 : decode cX4_digest 59 = .ok (.iload_n 3, 1) := by decide +kernel
theorem dX4_digest_60 : decode cX4_digest 60 = .ok (.iload 4, 2) := by decide +kernel
theorem dX4_digest_62 : decode cX4_digest 62 = .ok (.invokevirtual 238, 3) := by decide +kernel
theorem dX4_digest_65 : decode cX4_digest 65 = .ok (.i2l, 1) := by decide +kernel
theorem dX4_digest_66 : decode cX4_digest 66 = .ok (.ladd, 1) := by decide +kernel
theorem dX4_digest_67 : decode cX4_digest 67 = .ok (.lstore_n 1, 1) := by decide +kernel
theorem dX4_digest_68 : decode cX4_digest 68 = .ok (.iinc 4 1, 3) := by decide +kernel
theorem dX4_digest_71 : decode cX4_digest 71 = .ok (.goto (-24), 3) := by decide +kernel
theorem dX4_digest_74 : decode cX4_digest 74 = .ok (.iconst 0, 1) := by decide +kernel
theorem dX4_digest_75 : decode cX4_digest 75 = .ok (.istore 4, 2) := by decide +kernel
theorem dX4_digest_77 : decode cX4_digest 77 = .ok (.iload 4, 2) := by decide +kernel
theorem dX4_digest_79 : decode cX4_digest 79 = .ok (.aload_n 0, 1) := by decide +kernel
theorem dX4_digest_80 : decode cX4_digest 80 = .ok (.getfield 12, 3) := by decide +kernel
theorem dX4_digest_83 : decode cX4_digest 83 = .ok (.getfield 120, 3) := by decide +kernel
theorem dX4_digest_86 : decode cX4_digest 86 = .ok (.if_icmp .ge 24, 3) := by decide +kernel
theorem dX4_digest_89 : decode cX4_digest 89 = .ok (.lload_n 1, 1) := by decide +kernel
theorem dX4_digest_90 : decode cX4_digest 90 = .ok (.ldc2_w 233, 3) := by decide +kernel
theorem dX4_digest_93 : decode cX4_digest 93 = .ok (.lmul, 1) := by decide +kernel
theorem dX4_digest_94 : decode cX4_digest 94 = .ok (.aload_n 0, 1) := by decide +kernel
theorem dX4_digest_95 : decode cX4_digest 95 = .ok (.iload_n 3, 1) := by decide +kernel
theorem dX4_digest_96 : decode cX4_digest 96 = .ok (.iload 4, 2) := by decide +kernel
theorem dX4_digest_98 : decode cX4_digest 98 = .ok (.invokevirtual 241, 3) := by decide +kernel
theorem dX4_digest_101 : decode cX4_digest 101 = .ok (.i2l, 1) := by decide +kernel
theorem dX4_digest_102 : decode cX4_digest 102 = .ok (.ladd, 1) := by decide +kernel
theorem dX4_digest_103 : decode cX4_digest 103 = .ok (.lstore_n 1, 1) := by decide +kernel
theorem dX4_digest_104 : decode cX4_digest 104 = .ok (.iinc 4 1, 3) := by decide +kernel
theorem dX4_digest_107 : decode cX4_digest 107 = .ok (.goto (-30), 3) := by decide +kernel
theorem dX4_digest_110 : decode cX4_digest 110 = .ok (.iinc 3 1, 3) := by decide +kernel
theorem dX4_digest_113 : decode cX4_digest 113 = .ok (.goto (-80), 3) := by decide +kernel
theorem dX4_digest_116 : decode cX4_digest 116 = .ok (.iconst 0, 1) := by decide +kernel
theorem dX4_digest_117 : decode cX4_digest 117 = .ok (.istore_n 3, 1) := by decide +kernel
theorem dX4_digest_118 : decode cX4_digest 118 = .ok (.iload_n 3, 1) := by decide +kernel
theorem dX4_digest_119 : decode cX4_digest 119 = .ok (.aload_n 0, 1) := by decide +kernel
theorem dX4_digest_120 : decode cX4_digest 120 = .ok (.getfield 12, 3) := by decide +kernel
theorem dX4_digest_123 : decode cX4_digest 123 = .ok (.getfield 120, 3) := by decide +kernel
theorem dX4_digest_126 : decode cX4_digest 126 = .ok (.if_icmp .ge 40, 3) := by decide +kernel
theorem dX4_digest_129 : decode cX4_digest 129 = .ok (.iconst 0, 1) := by decide +kernel
theorem dX4_digest_130 : decode cX4_digest 130 = .ok (.istore 4, 2) := by decide +kernel
theorem dX4_digest_132 : decode cX4_digest 132 = .ok (.iload 4, 2) := by decide +kernel
theorem dX4_digest_134 : decode cX4_digest 134 = .ok (.bipush 7, 2) := by decide +kernel
theorem dX4_digest_136 : decode cX4_digest 136 = .ok (.if_icmp .gt 24, 3) := by decide +kernel
theorem dX4_digest_139 : decode cX4_digest 139 = .ok (.lload_n 1, 1) := by decide +kernel
theorem dX4_digest_140 : decode cX4_digest 140 = .ok (.ldc2_w 233, 3) := by decide +kernel
theorem dX4_digest_143 : decode cX4_digest 143 = .ok (.lmul, 1) := by decide +kernel
theorem dX4_digest_144 : decode cX4_digest 144 = .ok (.aload_n 0, 1) := by decide +kernel
theorem dX4_digest_145 : decode cX4_digest 145 = .ok (.iload_n 3, 1) := by decide +kernel
theorem dX4_digest_146 : decode cX4_digest 146 = .ok (.iload 4, 2) := by decide +kernel
theorem dX4_digest_148 : decode cX4_digest 148 = .ok (.invokevirtual 244, 3) := by decide +kernel
theorem dX4_digest_151 : decode cX4_digest 151 = .ok (.i2l, 1) := by decide +kernel
theorem dX4_digest_152 : decode cX4_digest 152 = .ok (.ladd, 1) := by decide +kernel
theorem dX4_digest_153 : decode cX4_digest 153 = .ok (.lstore_n 1, 1) := by decide +kernel
theorem dX4_digest_154 : decode cX4_digest 154 = .ok (.iinc 4 1, 3) := by decide +kernel
theorem dX4_digest_157 : decode cX4_digest 157 = .ok (.goto (-25), 3) := by decide +kernel
theorem dX4_digest_160 : decode cX4_digest 160 = .ok (.iinc 3 1, 3) := by decide +kernel
theorem dX4_digest_163 : decode cX4_digest 163 = .ok (.goto (-45), 3) := by decide +kernel
theorem dX4_digest_166 : decode cX4_digest 166 = .ok (.lload_n 1, 1) := by decide +kernel
theorem dX4_digest_167 : decode cX4_digest 167 = .ok (.ldc2_w 233, 3) := by decide +kernel
theorem dX4_digest_170 : decode cX4_digest 170 = .ok (.lmul, 1) := by decide +kernel
theorem dX4_digest_171 : decode cX4_digest 171 = .ok (.aload_n 0, 1) := by decide +kernel
theorem dX4_digest_172 : decode cX4_digest 172 = .ok (.bipush 12, 2) := by decide +kernel
theorem dX4_digest_174 : decode cX4_digest 174 = .ok (.bipush 9, 2) := by decide +kernel
theorem dX4_digest_176 : decode cX4_digest 176 = .ok (.iconst 0, 1) := by decide +kernel
theorem dX4_digest_177 : decode cX4_digest 177 = .ok (.invokevirtual 247, 3) := by decide +kernel
theorem dX4_digest_180 : decode cX4_digest 180 = .ok (.i2l, 1) := by decide +kernel
theorem dX4_digest_181 : decode cX4_digest 181 = .ok (.ladd, 1) := by decide +kernel
theorem dX4_digest_182 : decode cX4_digest 182 = .ok (.lstore_n 1, 1) := by decide +kernel
theorem dX4_digest_183 : decode cX4_digest 183 = .ok (.lload_n 1, 1) := by decide +kernel
theorem dX4_digest_184 : decode cX4_digest 184 = .ok (.ldc2_w 233, 3) := by decide +kernel
theorem dX4_digest_187 : decode cX4_digest 187 = .ok (.lmul, 1) := by decide +kernel
theorem dX4_digest_188 : decode cX4_digest 188 = .ok (.aload_n 0, 1) := by decide +kernel
theorem dX4_digest_189 : decode cX4_digest 189 = .ok (.bipush 12, 2) := by decide +kernel
theorem dX4_digest_191 : decode cX4_digest 191 = .ok (.bipush 9, 2) := by decide +kernel
theorem dX4_digest_193 : decode cX4_digest 193 = .ok (.iconst 0, 1) := by decide +kernel
theorem dX4_digest_194 : decode cX4_digest 194 = .ok (.invokevirtual 250, 3) := by decide +kernel
theorem dX4_digest_197 : decode cX4_digest 197 = .ok (.i2l, 1) := by decide +kernel
theorem dX4_digest_198 : decode cX4_digest 198 = .ok (.ladd, 1) := by decide +kernel
theorem dX4_digest_199 : decode cX4_digest 199 = .ok (.lstore_n 1, 1) := by decide +kernel
theorem dX4_digest_200 : decode cX4_digest 200 = .ok (.lload_n 1, 1) := by decide +kernel
theorem dX4_digest_201 : decode cX4_digest 201 = .ok (.ldc2_w 233, 3) := by decide +kernel
theorem dX4_digest_204 : decode cX4_digest 204 = .ok (.lmul, 1) := by decide +kernel
theorem dX4_digest_205 : decode cX4_digest 205 = .ok (.aload_n 0, 1) := by decide +kernel
theorem dX4_digest_206 : decode cX4_digest 206 = .ok (.iconst 3, 1) := by decide +kernel
theorem dX4_digest_207 : decode cX4_digest 207 = .ok (.invokevirtual 253, 3) := by decide +kernel
theorem dX4_digest_210 : decode cX4_digest 210 = .ok (.i2l, 1) := by decide +kernel
theorem dX4_digest_211 : decode cX4_digest 211 = .ok (.ladd, 1) := by decide +kernel
theorem dX4_digest_212 : decode cX4_digest 212 = .ok (.lreturn, 1) := by decide +kernel
set_option maxRecDepth 20000 in
theorem ggX4_worthOfAll_X3_longestThere : GoodIn wsX4_worthOfAll wsX3_longestThere := goodIn_r _ [6, 7, 8, 9, 10, 11, 12, 13, 14, 5, 15, 16, 17, 18, 19, 20, 21, 22, 23, 75, 76, 77, 78, 79, 80, 81, 82, 83, 84, 85, 86] (by decide +kernel) (by decide +kernel)
set_option maxRecDepth 20000 in
theorem gX4_worthOfAll_X3_longestThere : GoodIn wsX4_worthOfAll (wsV RX4 256 RX3 yX3_longestThere wsX3_longestThere) := goodIn_app (goodIn_of _ (by decide +kernel)) ggX4_worthOfAll_X3_longestThere
set_option maxRecDepth 20000 in
theorem ggX4_worthOfAll_X1_measure : GoodIn wsX4_worthOfAll wsX1_measure := goodIn_r _ [28, 29, 30, 31, 32, 5, 33, 34, 35, 36, 37, 38, 39, 40, 41, 42, 43, 44, 45, 46, 47, 48, 49, 50, 51, 52, 53, 54, 55, 27, 56, 57, 58, 59, 60, 61, 62, 63, 64, 65, 66, 67, 68, 69, 75, 76, 77, 78, 79, 87, 88, 89, 90, 91, 92, 93, 94, 95, 96, 97, 98, 99] (by decide +kernel) (by decide +kernel)
set_option maxRecDepth 20000 in
theorem gX4_worthOfAll_X1_measure : GoodIn wsX4_worthOfAll (wsV RX4 204 RX1 yX1_measure wsX1_measure) := goodIn_app (goodIn_of _ (by decide +kernel)) ggX4_worthOfAll_X1_measure
set_option maxRecDepth 20000 in
theorem ggX4_worthOfAll_X3_slabOrNull : GoodIn wsX4_worthOfAll wsX3_slabOrNull := goodIn_r _ [15, 7, 16, 75, 76, 77, 78, 79] (by decide +kernel) (by decide +kernel)
set_option maxRecDepth 20000 in
theorem gX4_worthOfAll_X3_slabOrNull : GoodIn wsX4_worthOfAll (wsV RX4 260 RX3 yX3_slabOrNull wsX3_slabOrNull) := goodIn_app (goodIn_of _ (by decide +kernel)) ggX4_worthOfAll_X3_slabOrNull
set_option maxRecDepth 20000 in
theorem ggX4_worthOfAll_X1_worthOf : GoodIn wsX4_worthOfAll wsX1_worthOf := goodIn_r _ [63, 57, 64, 65, 27, 66, 87, 88, 89, 90, 91] (by decide +kernel) (by decide +kernel)
set_option maxRecDepth 20000 in
theorem gX4_worthOfAll_X1_worthOf : GoodIn wsX4_worthOfAll (wsV RX4 208 RX1 yX1_worthOf wsX1_worthOf) := goodIn_app (goodIn_of _ (by decide +kernel)) ggX4_worthOfAll_X1_worthOf
theorem dX4_worthOfAll_0 : decode cX4_worthOfAll 0 = .ok (.iconst 0, 1) := by decide +kernel
theorem dX4_worthOfAll_1 : decode cX4_worthOfAll 1 = .ok (.istore_n 2, 1) := by decide +kernel
theorem dX4_worthOfAll_2 : decode cX4_worthOfAll 2 = .ok (.iconst 0, 1) := by decide +kernel
theorem dX4_worthOfAll_3 : decode cX4_worthOfAll 3 = .ok (.istore_n 3, 1) := by decide +kernel
theorem dX4_worthOfAll_4 : decode cX4_worthOfAll 4 = .ok (.iload_n 3, 1) := by decide +kernel
theorem dX4_worthOfAll_5 : decode cX4_worthOfAll 5 = .ok (.iconst 2, 1) := by decide +kernel
theorem dX4_worthOfAll_6 : decode cX4_worthOfAll 6 = .ok (.if_icmp .ge 98, 3) := by decide +kernel
theorem dX4_worthOfAll_9 : decode cX4_worthOfAll 9 = .ok (.aload_n 0, 1) := by decide +kernel
theorem dX4_worthOfAll_10 : decode cX4_worthOfAll 10 = .ok (.getfield 22, 3) := by decide +kernel
theorem dX4_worthOfAll_13 : decode cX4_worthOfAll 13 = .ok (.aload_n 1, 1) := by decide +kernel
theorem dX4_worthOfAll_14 : decode cX4_worthOfAll 14 = .ok (.aload_n 1, 1) := by decide +kernel
theorem dX4_worthOfAll_15 : decode cX4_worthOfAll 15 = .ok (.iload_n 3, 1) := by decide +kernel
theorem dX4_worthOfAll_16 : decode cX4_worthOfAll 16 = .ok (.iconst 1, 1) := by decide +kernel
theorem dX4_worthOfAll_17 : decode cX4_worthOfAll 17 = .ok (.invokevirtual 256, 3) := by decide +kernel
theorem dX4_worthOfAll_20 : decode cX4_worthOfAll 20 = .ok (.aload_n 1, 1) := by decide +kernel
theorem dX4_worthOfAll_21 : decode cX4_worthOfAll 21 = .ok (.iload_n 3, 1) := by decide +kernel
theorem dX4_worthOfAll_22 : decode cX4_worthOfAll 22 = .ok (.iconst 0, 1) := by decide +kernel
theorem dX4_worthOfAll_23 : decode cX4_worthOfAll 23 = .ok (.invokevirtual 256, 3) := by decide +kernel
theorem dX4_worthOfAll_26 : decode cX4_worthOfAll 26 = .ok (.iload_n 3, 1) := by decide +kernel
theorem dX4_worthOfAll_27 : decode cX4_worthOfAll 27 = .ok (.invokevirtual 204, 3) := by decide +kernel
theorem dX4_worthOfAll_30 : decode cX4_worthOfAll 30 = .ok (.iconst 0, 1) := by decide +kernel
theorem dX4_worthOfAll_31 : decode cX4_worthOfAll 31 = .ok (.istore 4, 2) := by decide +kernel
theorem dX4_worthOfAll_33 : decode cX4_worthOfAll 33 = .ok (.iload 4, 2) := by decide +kernel
theorem dX4_worthOfAll_35 : decode cX4_worthOfAll 35 = .ok (.aload_n 1, 1) := by decide +kernel
theorem dX4_worthOfAll_36 : decode cX4_worthOfAll 36 = .ok (.getfield 30, 3) := by decide +kernel
theorem dX4_worthOfAll_39 : decode cX4_worthOfAll 39 = .ok (.if_icmp .ge 59, 3) := by decide +kernel
theorem dX4_worthOfAll_42 : decode cX4_worthOfAll 42 = .ok (.aload_n 1, 1) := by decide +kernel
theorem dX4_worthOfAll_43 : decode cX4_worthOfAll 43 = .ok (.iload 4, 2) := by decide +kernel
theorem dX4_worthOfAll_45 : decode cX4_worthOfAll 45 = .ok (.invokevirtual 260, 3) := by decide +kernel
theorem dX4_worthOfAll_48 : decode cX4_worthOfAll 48 = .ok (.astore 5, 2) := by decide +kernel
theorem dX4_worthOfAll_50 : decode cX4_worthOfAll 50 = .ok (.aload 5, 2) := by decide +kernel
theorem dX4_worthOfAll_52 : decode cX4_worthOfAll 52 = .ok (.ifnull 40, 3) := by decide +kernel
theorem dX4_worthOfAll_55 : decode cX4_worthOfAll 55 = .ok (.aload 5, 2) := by decide +kernel
theorem dX4_worthOfAll_57 : decode cX4_worthOfAll 57 = .ok (.getfield 53, 3) := by decide +kernel
theorem dX4_worthOfAll_60 : decode cX4_worthOfAll 60 = .ok (.ifCond .ne 32, 3) := by decide +kernel
theorem dX4_worthOfAll_63 : decode cX4_worthOfAll 63 = .ok (.aload 5, 2) := by decide +kernel
theorem dX4_worthOfAll_65 : decode cX4_worthOfAll 65 = .ok (.getfield 99, 3) := by decide +kernel
theorem dX4_worthOfAll_68 : decode cX4_worthOfAll 68 = .ok (.iload_n 3, 1) := by decide +kernel
theorem dX4_worthOfAll_69 : decode cX4_worthOfAll 69 = .ok (.if_icmp .ne 23, 3) := by decide +kernel
theorem dX4_worthOfAll_72 : decode cX4_worthOfAll 72 = .ok (.iload_n 2, 1) := by decide +kernel
theorem dX4_worthOfAll_73 : decode cX4_worthOfAll 73 = .ok (.aload_n 0, 1) := by decide +kernel
theorem dX4_worthOfAll_74 : decode cX4_worthOfAll 74 = .ok (.getfield 22, 3) := by decide +kernel
theorem dX4_worthOfAll_77 : decode cX4_worthOfAll 77 = .ok (.aload 5, 2) := by decide +kernel
theorem dX4_worthOfAll_79 : decode cX4_worthOfAll 79 = .ok (.getfield 93, 3) := by decide +kernel
theorem dX4_worthOfAll_82 : decode cX4_worthOfAll 82 = .ok (.aload 5, 2) := by decide +kernel
theorem dX4_worthOfAll_84 : decode cX4_worthOfAll 84 = .ok (.getfield 96, 3) := by decide +kernel
theorem dX4_worthOfAll_87 : decode cX4_worthOfAll 87 = .ok (.invokevirtual 208, 3) := by decide +kernel
theorem dX4_worthOfAll_90 : decode cX4_worthOfAll 90 = .ok (.iadd, 1) := by decide +kernel
theorem dX4_worthOfAll_91 : decode cX4_worthOfAll 91 = .ok (.istore_n 2, 1) := by decide +kernel
theorem dX4_worthOfAll_92 : decode cX4_worthOfAll 92 = .ok (.iinc 4 1, 3) := by decide +kernel
theorem dX4_worthOfAll_95 : decode cX4_worthOfAll 95 = .ok (.goto (-62), 3) := by decide +kernel
theorem dX4_worthOfAll_98 : decode cX4_worthOfAll 98 = .ok (.iinc 3 1, 3) := by decide +kernel
theorem dX4_worthOfAll_101 : decode cX4_worthOfAll 101 = .ok (.goto (-97), 3) := by decide +kernel
theorem dX4_worthOfAll_104 : decode cX4_worthOfAll 104 = .ok (.iload_n 2, 1) := by decide +kernel
theorem dX4_worthOfAll_105 : decode cX4_worthOfAll 105 = .ok (.ireturn, 1) := by decide +kernel
set_option maxRecDepth 20000 in
theorem ggX4_slabOf_X3_slabOrNull : GoodIn wsX4_slabOf wsX3_slabOrNull := goodIn_r _ [8, 9, 10, 14, 15, 16, 17, 18] (by decide +kernel) (by decide +kernel)
set_option maxRecDepth 20000 in
theorem gX4_slabOf_X3_slabOrNull : GoodIn wsX4_slabOf (wsV RX4 260 RX3 yX3_slabOrNull wsX3_slabOrNull) := goodIn_app (goodIn_of _ (by decide +kernel)) ggX4_slabOf_X3_slabOrNull
theorem dX4_slabOf_0 : decode cX4_slabOf 0 = .ok (.aload_n 0, 1) := by decide +kernel
theorem dX4_slabOf_1 : decode cX4_slabOf 1 = .ok (.getfield 12, 3) := by decide +kernel
theorem dX4_slabOf_4 : decode cX4_slabOf 4 = .ok (.iload_n 1, 1) := by decide +kernel
theorem dX4_slabOf_5 : decode cX4_slabOf 5 = .ok (.invokevirtual 260, 3) := by decide +kernel
theorem dX4_slabOf_8 : decode cX4_slabOf 8 = .ok (.astore_n 2, 1) := by decide +kernel
theorem dX4_slabOf_9 : decode cX4_slabOf 9 = .ok (.aload_n 2, 1) := by decide +kernel
theorem dX4_slabOf_10 : decode cX4_slabOf 10 = .ok (.ifnonnull 14, 3) := by decide +kernel
theorem dX4_slabOf_13 : decode cX4_slabOf 13 = .ok (.new 263, 3) := by decide +kernel
theorem dX4_slabOf_16 : decode cX4_slabOf 16 = .ok (.dup, 1) := by decide +kernel
theorem dX4_slabOf_17 : decode cX4_slabOf 17 = .ok (.ldc_w 265, 3) := by decide +kernel
theorem dX4_slabOf_20 : decode cX4_slabOf 20 = .ok (.invokespecial 267, 3) := by decide +kernel
theorem dX4_slabOf_23 : decode cX4_slabOf 23 = .ok (.athrow, 1) := by decide +kernel
theorem dX4_slabOf_24 : decode cX4_slabOf 24 = .ok (.aload_n 2, 1) := by decide +kernel
theorem dX4_slabOf_25 : decode cX4_slabOf 25 = .ok (.areturn, 1) := by decide +kernel
set_option maxRecDepth 20000 in
theorem ggX4_kindOf_X3_kindOrNull : GoodIn wsX4_kindOf wsX3_kindOrNull := goodIn_r _ [8, 9, 10, 14, 15, 16, 17, 18] (by decide +kernel) (by decide +kernel)
set_option maxRecDepth 20000 in
theorem gX4_kindOf_X3_kindOrNull : GoodIn wsX4_kindOf (wsV RX4 268 RX3 yX3_kindOrNull wsX3_kindOrNull) := goodIn_app (goodIn_of _ (by decide +kernel)) ggX4_kindOf_X3_kindOrNull
theorem dX4_kindOf_0 : decode cX4_kindOf 0 = .ok (.aload_n 0, 1) := by decide +kernel
theorem dX4_kindOf_1 : decode cX4_kindOf 1 = .ok (.getfield 12, 3) := by decide +kernel
theorem dX4_kindOf_4 : decode cX4_kindOf 4 = .ok (.iload_n 1, 1) := by decide +kernel
theorem dX4_kindOf_5 : decode cX4_kindOf 5 = .ok (.invokevirtual 268, 3) := by decide +kernel
theorem dX4_kindOf_8 : decode cX4_kindOf 8 = .ok (.astore_n 2, 1) := by decide +kernel
theorem dX4_kindOf_9 : decode cX4_kindOf 9 = .ok (.aload_n 2, 1) := by decide +kernel
theorem dX4_kindOf_10 : decode cX4_kindOf 10 = .ok (.ifnonnull 14, 3) := by decide +kernel
theorem dX4_kindOf_13 : decode cX4_kindOf 13 = .ok (.new 263, 3) := by decide +kernel
theorem dX4_kindOf_16 : decode cX4_kindOf 16 = .ok (.dup, 1) := by decide +kernel
theorem dX4_kindOf_17 : decode cX4_kindOf 17 = .ok (.ldc_w 271, 3) := by decide +kernel
theorem dX4_kindOf_20 : decode cX4_kindOf 20 = .ok (.invokespecial 267, 3) := by decide +kernel
theorem dX4_kindOf_23 : decode cX4_kindOf 23 = .ok (.athrow, 1) := by decide +kernel
theorem dX4_kindOf_24 : decode cX4_kindOf 24 = .ok (.aload_n 2, 1) := by decide +kernel
theorem dX4_kindOf_25 : decode cX4_kindOf 25 = .ok (.areturn, 1) := by decide +kernel
theorem dX4_requirePoint_0 : decode cX4_requirePoint 0 = .ok (.iload_n 1, 1) := by decide +kernel
theorem dX4_requirePoint_1 : decode cX4_requirePoint 1 = .ok (.ifCond .lt 23, 3) := by decide +kernel
theorem dX4_requirePoint_4 : decode cX4_requirePoint 4 = .ok (.iload_n 1, 1) := by decide +kernel
theorem dX4_requirePoint_5 : decode cX4_requirePoint 5 = .ok (.aload_n 0, 1) := by decide +kernel
theorem dX4_requirePoint_6 : decode cX4_requirePoint 6 = .ok (.getfield 93, 3) := by decide +kernel
theorem dX4_requirePoint_9 : decode cX4_requirePoint 9 = .ok (.if_icmp .ge 15, 3) := by decide +kernel
theorem dX4_requirePoint_12 : decode cX4_requirePoint 12 = .ok (.iload_n 2, 1) := by decide +kernel
theorem dX4_requirePoint_13 : decode cX4_requirePoint 13 = .ok (.ifCond .lt 11, 3) := by decide +kernel
theorem dX4_requirePoint_16 : decode cX4_requirePoint 16 = .ok (.iload_n 2, 1) := by decide +kernel
theorem dX4_requirePoint_17 : decode cX4_requirePoint 17 = .ok (.aload_n 0, 1) := by decide +kernel
theorem dX4_requirePoint_18 : decode cX4_requirePoint 18 = .ok (.getfield 96, 3) := by decide +kernel
theorem dX4_requirePoint_21 : decode cX4_requirePoint 21 = .ok (.if_icmp .lt 14, 3) := by decide +kernel
theorem dX4_requirePoint_24 : decode cX4_requirePoint 24 = .ok (.new 263, 3) := by decide +kernel
theorem dX4_requirePoint_27 : decode cX4_requirePoint 27 = .ok (.dup, 1) := by decide +kernel
theorem dX4_requirePoint_28 : decode cX4_requirePoint 28 = .ok (.ldc_w 273, 3) := by decide +kernel
theorem dX4_requirePoint_31 : decode cX4_requirePoint 31 = .ok (.invokespecial 267, 3) := by decide +kernel
theorem dX4_requirePoint_34 : decode cX4_requirePoint 34 = .ok (.athrow, 1) := by decide +kernel
theorem dX4_requirePoint_35 : decode cX4_requirePoint 35 = .ok (.return_, 1) := by decide +kernel
set_option maxRecDepth 20000 in
theorem ggX4_requirePiece_X4_isSide : GoodIn wsX4_requirePiece wsX4_isSide := goodIn_r _ [6] (by decide +kernel) (by decide +kernel)
set_option maxRecDepth 20000 in
theorem gX4_requirePiece_X4_isSide : GoodIn wsX4_requirePiece (va_wsS RX4 111 yX4_isSide wsX4_isSide) := goodIn_app (goodIn_of _ (by decide +kernel)) ggX4_requirePiece_X4_isSide
theorem dX4_requirePiece_0 : decode cX4_requirePiece 0 = .ok (.iload_n 0, 1) := by decide +kernel
theorem dX4_requirePiece_1 : decode cX4_requirePiece 1 = .ok (.invokestatic 111, 3) := by decide +kernel
theorem dX4_requirePiece_4 : decode cX4_requirePiece 4 = .ok (.ifCond .eq 19, 3) := by decide +kernel
theorem dX4_requirePiece_7 : decode cX4_requirePiece 7 = .ok (.iload_n 1, 1) := by decide +kernel
theorem dX4_requirePiece_8 : decode cX4_requirePiece 8 = .ok (.invokestatic 111, 3) := by decide +kernel
theorem dX4_requirePiece_11 : decode cX4_requirePiece 11 = .ok (.ifCond .eq 12, 3) := by decide +kernel
theorem dX4_requirePiece_14 : decode cX4_requirePiece 14 = .ok (.iload_n 2, 1) := by decide +kernel
theorem dX4_requirePiece_15 : decode cX4_requirePiece 15 = .ok (.ifCond .lt 8, 3) := by decide +kernel
theorem dX4_requirePiece_18 : decode cX4_requirePiece 18 = .ok (.iload_n 2, 1) := by decide +kernel
theorem dX4_requirePiece_19 : decode cX4_requirePiece 19 = .ok (.iconst 2, 1) := by decide +kernel
theorem dX4_requirePiece_20 : decode cX4_requirePiece 20 = .ok (.if_icmp .lt 14, 3) := by decide +kernel
theorem dX4_requirePiece_23 : decode cX4_requirePiece 23 = .ok (.new 67, 3) := by decide +kernel
theorem dX4_requirePiece_26 : decode cX4_requirePiece 26 = .ok (.dup, 1) := by decide +kernel
theorem dX4_requirePiece_27 : decode cX4_requirePiece 27 = .ok (.ldc_w 275, 3) := by decide +kernel
theorem dX4_requirePiece_30 : decode cX4_requirePiece 30 = .ok (.invokespecial 71, 3) := by decide +kernel
theorem dX4_requirePiece_33 : decode cX4_requirePiece 33 = .ok (.athrow, 1) := by decide +kernel
theorem dX4_requirePiece_34 : decode cX4_requirePiece 34 = .ok (.return_, 1) := by decide +kernel
theorem dX4_requireMost_0 : decode cX4_requireMost 0 = .ok (.iload_n 0, 1) := by decide +kernel
theorem dX4_requireMost_1 : decode cX4_requireMost 1 = .ok (.iconst 1, 1) := by decide +kernel
theorem dX4_requireMost_2 : decode cX4_requireMost 2 = .ok (.if_icmp .lt 9, 3) := by decide +kernel
theorem dX4_requireMost_5 : decode cX4_requireMost 5 = .ok (.iload_n 0, 1) := by decide +kernel
theorem dX4_requireMost_6 : decode cX4_requireMost 6 = .ok (.bipush 20, 2) := by decide +kernel
theorem dX4_requireMost_8 : decode cX4_requireMost 8 = .ok (.if_icmp .le 14, 3) := by decide +kernel
theorem dX4_requireMost_11 : decode cX4_requireMost 11 = .ok (.new 67, 3) := by decide +kernel
theorem dX4_requireMost_14 : decode cX4_requireMost 14 = .ok (.dup, 1) := by decide +kernel
theorem dX4_requireMost_15 : decode cX4_requireMost 15 = .ok (.ldc_w 277, 3) := by decide +kernel
theorem dX4_requireMost_18 : decode cX4_requireMost 18 = .ok (.invokespecial 71, 3) := by decide +kernel
theorem dX4_requireMost_21 : decode cX4_requireMost 21 = .ok (.athrow, 1) := by decide +kernel
theorem dX4_requireMost_22 : decode cX4_requireMost 22 = .ok (.return_, 1) := by decide +kernel
theorem dX4_isSide_0 : decode cX4_isSide 0 = .ok (.iload_n 0, 1) := by decide +kernel
theorem dX4_isSide_1 : decode cX4_isSide 1 = .ok (.iconst 1, 1) := by decide +kernel
theorem dX4_isSide_2 : decode cX4_isSide 2 = .ok (.if_icmp .lt 13, 3) := by decide +kernel
theorem dX4_isSide_5 : decode cX4_isSide 5 = .ok (.iload_n 0, 1) := by decide +kernel
theorem dX4_isSide_6 : decode cX4_isSide 6 = .ok (.bipush 24, 2) := by decide +kernel
theorem dX4_isSide_8 : decode cX4_isSide 8 = .ok (.if_icmp .gt 7, 3) := by decide +kernel
theorem dX4_isSide_11 : decode cX4_isSide 11 = .ok (.iconst 1, 1) := by decide +kernel
theorem dX4_isSide_12 : decode cX4_isSide 12 = .ok (.goto 4, 3) := by decide +kernel
theorem dX4_isSide_15 : decode cX4_isSide 15 = .ok (.iconst 0, 1) := by decide +kernel
theorem dX4_isSide_16 : decode cX4_isSide 16 = .ok (.ireturn, 1) := by decide +kernel
theorem dX4_isPrice_0 : decode cX4_isPrice 0 = .ok (.iload_n 0, 1) := by decide +kernel
theorem dX4_isPrice_1 : decode cX4_isPrice 1 = .ok (.iconst 1, 1) := by decide +kernel
theorem dX4_isPrice_2 : decode cX4_isPrice 2 = .ok (.if_icmp .lt 14, 3) := by decide +kernel
theorem dX4_isPrice_5 : decode cX4_isPrice 5 = .ok (.iload_n 0, 1) := by decide +kernel
theorem dX4_isPrice_6 : decode cX4_isPrice 6 = .ok (.sipush 999, 3) := by decide +kernel
theorem dX4_isPrice_9 : decode cX4_isPrice 9 = .ok (.if_icmp .gt 7, 3) := by decide +kernel
theorem dX4_isPrice_12 : decode cX4_isPrice 12 = .ok (.iconst 1, 1) := by decide +kernel
theorem dX4_isPrice_13 : decode cX4_isPrice 13 = .ok (.goto 4, 3) := by decide +kernel
theorem dX4_isPrice_16 : decode cX4_isPrice 16 = .ok (.iconst 0, 1) := by decide +kernel
theorem dX4_isPrice_17 : decode cX4_isPrice 17 = .ok (.ireturn, 1) := by decide +kernel
